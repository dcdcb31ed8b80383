set_option maxHeartbeats 4000000 in
set_option maxRecDepth 100000 in
theorem c_X10_canBeTried (l : Launch) (D : va_G) (g : xG) (T : Nat × Nat × Nat) (h0 : Nat) (s0 : xS) (hσ : xRR s0) (x : Int) (rx : xR x) (p0 : s0 137 = fun _ => (-1)) (p1 : s0 142 = fun _ => (-1)) : Met l yX10_canBeTried (xws yX10_canBeTried cX10_canBeTried 2 (some .boolean)) { frames := 1, cells := 0, slots := 0, locals := 22 } (xP [.ref (h0 + 0), .int (xJ x)] D g T h0 s0) (xQi D g h0 (fun r τ => s0 = τ ∧ ((r = 1 ∧ 0 ≤ x ∧ x ≤ 5) ∨ (r = 0 ∧ (x < 0 ∨ 5 < x))))) 0 0 (xA h0) := by
  refine x_met hσ (by decide) (Nat.le_of_ble_eq_true rfl) ?_
  intro p e s m args below meth c hx hb hr hml hown hT hlk hnm hE hW ls hl
  have hl : lv_has ls 2 [(0, .ref (h0 + 0)), (1, .int (xJ x))] := hl
  obtain ⟨Q, eQ⟩ : ∃ Q, Q = MQ below (xQi D g h0 (fun r τ => s0 = τ ∧ ((r = 1 ∧ 0 ≤ x ∧ x ≤ 5) ∨ (r = 0 ∧ (x < 0 ∨ 5 < x))))) args s 0 0 (xA h0) := ⟨_, rfl⟩
  rw [← eQ]
  generalize hHe : ([] : List Loc) = locs at hW ⊢
  obtain ⟨H, eH⟩ : ∃ H, H = s.heap := ⟨_, rfl⟩
  rw [← eH] at hW ⊢
  refine x_iload_n hx hb hl 1 rfl dX10_canBeTried_0 rfl ?_
  refine x_bipush hx hb dX10_canBeTried_1 (by decide) ?_
  refine x_bipush hx hb dX10_canBeTried_3 (by decide) ?_
  refine x_goi (x_runS (As := [.int (xJ x), .int (xJ 10), .int (xJ 29)]) hx hb hml hown hT hE hW hl.1 cf_X10_isIn wq562 wq561 (c_X10_isIn l D g T h0 s0 hW.2.1 x rx 10 (by decide) 29 (by decide)) ⟨rfl, rfl, ⟨by decide, by decide⟩, ⟨by decide, by decide⟩⟩ rfl rfl (Nat.le_of_ble_eq_true rfl) dX10_canBeTried_5) hW (fun x1 s2 H locs rx1 hp3 hW => ?_)
  obtain ⟨es2, hp3⟩ := hp3
  subst es2
  have ghp3 := hp3
  refine x_if_eq (tgt := 23) hx hb rx1 dX10_canBeTried_8 (by decide) (fun c4 => ?_) (fun c4 => ?_)
  · skip
    refine x_iload_n hx hb hl 1 rfl dX10_canBeTried_23 rfl ?_
    refine x_iconst hx hb dX10_canBeTried_24 ?_
    refine x_iconst hx hb dX10_canBeTried_25 ?_
    refine x_goi (x_runS (As := [.int (xJ x), .int (xJ 0), .int (xJ 5)]) hx hb hml hown hT hE hW hl.1 cf_X10_isIn wq562 wq561 (c_X10_isIn l D g T h0 s0 hW.2.1 x rx 0 (by decide) 5 (by decide)) ⟨rfl, rfl, ⟨by decide, by decide⟩, ⟨by decide, by decide⟩⟩ rfl rfl (Nat.le_of_ble_eq_true rfl) dX10_canBeTried_26) hW (fun x5 s6 H locs rx5 hp7 hW => ?_)
    obtain ⟨es6, hp7⟩ := hp7
    subst es6
    have ghp7 := hp7
    refine x_if_ne (tgt := 57) hx hb rx5 dX10_canBeTried_29 (by decide) (fun c8 => ?_) (fun c8 => ?_)
    · skip
      refine x_iconst hx hb dX10_canBeTried_57 ?_
      refine lv_goto (tgt := 62) hx hb dX10_canBeTried_58 (by decide) ?_
      rw [eQ]
      exact x_zret hx hb hr hlk hW (by omega) ⟨rfl, by omega⟩ dX10_canBeTried_62
    refine x_iload_n hx hb hl 1 rfl dX10_canBeTried_32 rfl ?_
    refine x_bipush hx hb dX10_canBeTried_33 (by decide) ?_
    refine x_bipush hx hb dX10_canBeTried_35 (by decide) ?_
    refine x_goi (x_runS (As := [.int (xJ x), .int (xJ 30), .int (xJ 31)]) hx hb hml hown hT hE hW hl.1 cf_X10_isIn wq562 wq561 (c_X10_isIn l D g T h0 s0 hW.2.1 x rx 30 (by decide) 31 (by decide)) ⟨rfl, rfl, ⟨by decide, by decide⟩, ⟨by decide, by decide⟩⟩ rfl rfl (Nat.le_of_ble_eq_true rfl) dX10_canBeTried_37) hW (fun x9 s10 H locs rx9 hp11 hW => ?_)
    obtain ⟨es10, hp11⟩ := hp11
    subst es10
    have ghp11 := hp11
    refine x_if_eq (tgt := 61) hx hb rx9 dX10_canBeTried_40 (by decide) (fun c12 => ?_) (fun c12 => ?_)
    · skip
      refine x_iconst hx hb dX10_canBeTried_61 ?_
      rw [eQ]
      exact x_zret hx hb hr hlk hW (by omega) ⟨rfl, by omega⟩ dX10_canBeTried_62
    refine x_aload_n hx hb hl 0 rfl dX10_canBeTried_43 rfl ?_
    refine x_get (j := 8) (v := .ref (h0 + 136)) hx hb hown hT hE hW cls_X10 (Or.inl (by decide)) (so_0 h0 g _) (by decide) rfl wq520 dX10_canBeTried_44 ?_
    refine x_iload_n hx hb hl 1 rfl dX10_canBeTried_47 rfl ?_
    refine x_bipush hx hb dX10_canBeTried_48 (by decide) ?_
    refine x_isub hx hb dX10_canBeTried_50 ?_
    refine x_goi (x_runVN (As := [.int (xJ (x - 30))]) hx hb hml hown hT hE hW hl.1 (Or.inl (by decide)) (so_136 h0 g _) rfl cf_X2_hasJudge wq773 wq37 wn911 (c_X2_hasJudge l D g T h0 s0 hW.2.1 136 xd_136 (x - 30) (by omega) p0) ⟨rfl, rfl, ⟨by decide, by decide⟩, ⟨by decide, by decide⟩⟩ rfl rfl (Nat.le_of_ble_eq_true rfl) dX10_canBeTried_51) hW (fun x13 s14 H locs rx13 hp15 hW => ?_)
    obtain ⟨es14, hp15⟩ := hp15
    subst es14
    have ghp15 := hp15
    refine x_if_eq (tgt := 61) hx hb rx13 dX10_canBeTried_54 (by decide) (fun c16 => ?_) (fun c16 => False.elim (by omega))
    refine x_iconst hx hb dX10_canBeTried_61 ?_
    rw [eQ]
    exact x_zret hx hb hr hlk hW (by omega) ⟨rfl, by omega⟩ dX10_canBeTried_62
  refine x_aload_n hx hb hl 0 rfl dX10_canBeTried_11 rfl ?_
  refine x_get (j := 8) (v := .ref (h0 + 136)) hx hb hown hT hE hW cls_X10 (Or.inl (by decide)) (so_0 h0 g _) (by decide) rfl wq520 dX10_canBeTried_12 ?_
  refine x_iload_n hx hb hl 1 rfl dX10_canBeTried_15 rfl ?_
  refine x_bipush hx hb dX10_canBeTried_16 (by decide) ?_
  refine x_irem hx hb rx (by decide) (by omega) (by decide) dX10_canBeTried_18 ?_
  refine x_goi (x_runVN (As := [.int (xJ (x % 10))]) hx hb hml hown hT hE hW hl.1 (Or.inl (by decide)) (so_136 h0 g _) rfl cf_X2_hasFelon wq862 wq53 wn910 (c_X2_hasFelon l D g T h0 s0 hW.2.1 136 xd_136 (x % 10) (by omega) p1) ⟨rfl, rfl, ⟨by decide, by decide⟩, ⟨by decide, by decide⟩⟩ rfl rfl (Nat.le_of_ble_eq_true rfl) dX10_canBeTried_19) hW (fun x17 s18 H locs rx17 hp19 hW => ?_)
  obtain ⟨es18, hp19⟩ := hp19
  subst es18
  have ghp19 := hp19
  rw [eQ]
  exact x_zret hx hb hr hlk hW (by omega) ⟨rfl, by omega⟩ dX10_canBeTried_22
set_option maxHeartbeats 4000000 in
set_option maxRecDepth 100000 in
theorem c_X10_isFreeForLamp (l : Launch) (D : va_G) (g : xG) (T : Nat × Nat × Nat) (h0 : Nat) (s0 : xS) (hσ : xRR s0) (x : Int) (rx : xR x) (hx0 : 0 ≤ x ∧ x < 100) (p0 : s0 137 = fun _ => (-1)) (p1 : s0 142 = fun _ => (-1)) (p2 : s0 4 = fun _ => 0) (p3 : s0 129 = fun _ => (-1)) : Met l yX10_isFreeForLamp (xws yX10_isFreeForLamp cX10_isFreeForLamp 2 (some .boolean)) { frames := 1, cells := 0, slots := 0, locals := 22 } (xP [.ref (h0 + 0), .int (xJ x)] D g T h0 s0) (xQi D g h0 (fun r τ => s0 = τ ∧ (r = 1))) 0 0 (xA h0) := by
  refine x_met hσ (by decide) (Nat.le_of_ble_eq_true rfl) ?_
  intro p e s m args below meth c hx hb hr hml hown hT hlk hnm hE hW ls hl
  have hl : lv_has ls 2 [(0, .ref (h0 + 0)), (1, .int (xJ x))] := hl
  obtain ⟨Q, eQ⟩ : ∃ Q, Q = MQ below (xQi D g h0 (fun r τ => s0 = τ ∧ (r = 1))) args s 0 0 (xA h0) := ⟨_, rfl⟩
  rw [← eQ]
  generalize hHe : ([] : List Loc) = locs at hW ⊢
  obtain ⟨H, eH⟩ : ∃ H, H = s.heap := ⟨_, rfl⟩
  rw [← eH] at hW ⊢
  refine x_aload_n hx hb hl 0 rfl dX10_isFreeForLamp_0 rfl ?_
  refine x_get (j := 1) (v := .ref (h0 + 3)) hx hb hown hT hE hW cls_X10 (Or.inl (by decide)) (so_0 h0 g _) (by decide) rfl wq513 dX10_isFreeForLamp_1 ?_
  refine x_iload_n hx hb hl 1 rfl dX10_isFreeForLamp_4 rfl ?_
  refine x_goi (x_runVN (As := [.int (xJ x)]) hx hb hml hown hT hE hW hl.1 (Or.inl (by decide)) (so_3 h0 g _) rfl cf_X6_kindAt wq619 wq10 wn1067 (c_X6_kindAt l D g T h0 s0 hW.2.1 x rx p2) ⟨rfl, rfl, ⟨by decide, by decide⟩, ⟨by decide, by decide⟩⟩ rfl rfl (Nat.le_of_ble_eq_true rfl) dX10_isFreeForLamp_5) hW (fun x1 s2 H locs rx1 hp3 hW => ?_)
  obtain ⟨es2, hp3⟩ := hp3
  subst es2
  have ghp3 := hp3
  refine x_if_ne (tgt := 57) hx hb rx1 dX10_isFreeForLamp_8 (by decide) (fun c4 => False.elim (by omega)) (fun c4 => ?_)
  refine x_aload_n hx hb hl 0 rfl dX10_isFreeForLamp_11 rfl ?_
  refine x_get (j := 8) (v := .ref (h0 + 136)) hx hb hown hT hE hW cls_X10 (Or.inl (by decide)) (so_0 h0 g _) (by decide) rfl wq520 dX10_isFreeForLamp_12 ?_
  refine x_getN (j := 0) (v := .ref (h0 + 137)) hx hb hown hT hE hW cls_X2 (Or.inl (by decide)) (so_136 h0 g _) (by decide) rfl wn385 dX10_isFreeForLamp_15 ?_
  refine x_iload_n hx hb hl 1 rfl dX10_isFreeForLamp_18 rfl ?_
  refine x_goi (x_runS (As := [.ref (h0 + 137), .int (xJ x)]) hx hb hml hown hT hE hW hl.1 cf_X10_holds wq850 wq1068 (c_X10_holds2 l D g T h0 s0 hW.2.1 137 (by decide) (fun σ => sa_137 h0 g σ) x rx (by omega) p0) ⟨rfl, rfl, ⟨by decide, by decide⟩, ⟨by decide, by decide⟩⟩ rfl rfl (Nat.le_of_ble_eq_true rfl) dX10_isFreeForLamp_19) hW (fun x5 s6 H locs rx5 hp7 hW => ?_)
  obtain ⟨es6, hp7⟩ := hp7
  subst es6
  have ghp7 := hp7
  refine x_if_ne (tgt := 57) hx hb rx5 dX10_isFreeForLamp_22 (by decide) (fun c8 => False.elim (by omega)) (fun c8 => ?_)
  refine x_aload_n hx hb hl 0 rfl dX10_isFreeForLamp_25 rfl ?_
  refine x_get (j := 8) (v := .ref (h0 + 136)) hx hb hown hT hE hW cls_X10 (Or.inl (by decide)) (so_0 h0 g _) (by decide) rfl wq520 dX10_isFreeForLamp_26 ?_
  refine x_getN (j := 3) (v := .ref (h0 + 142)) hx hb hown hT hE hW cls_X2 (Or.inl (by decide)) (so_136 h0 g _) (by decide) rfl wn391 dX10_isFreeForLamp_29 ?_
  refine x_iload_n hx hb hl 1 rfl dX10_isFreeForLamp_32 rfl ?_
  refine x_goi (x_runS (As := [.ref (h0 + 142), .int (xJ x)]) hx hb hml hown hT hE hW hl.1 cf_X10_holds wq850 wq1068 (c_X10_holds10 l D g T h0 s0 hW.2.1 142 (by decide) (fun σ => sa_142 h0 g σ) x rx (by omega) p1) ⟨rfl, rfl, ⟨by decide, by decide⟩, ⟨by decide, by decide⟩⟩ rfl rfl (Nat.le_of_ble_eq_true rfl) dX10_isFreeForLamp_33) hW (fun x9 s10 H locs rx9 hp11 hW => ?_)
  obtain ⟨es10, hp11⟩ := hp11
  subst es10
  have ghp11 := hp11
  refine x_if_ne (tgt := 57) hx hb rx9 dX10_isFreeForLamp_36 (by decide) (fun c12 => False.elim (by omega)) (fun c12 => ?_)
  refine x_aload_n hx hb hl 0 rfl dX10_isFreeForLamp_39 rfl ?_
  refine x_get (j := 5) (v := .ref (h0 + 128)) hx hb hown hT hE hW cls_X10 (Or.inl (by decide)) (so_0 h0 g _) (by decide) rfl wq517 dX10_isFreeForLamp_40 ?_
  refine x_getN (j := 2) (v := .ref (h0 + 129)) hx hb hown hT hE hW cls_X0 (Or.inl (by decide)) (so_128 h0 g _) (by decide) rfl wn356 dX10_isFreeForLamp_43 ?_
  refine x_iload_n hx hb hl 1 rfl dX10_isFreeForLamp_46 rfl ?_
  refine x_goi (x_runS (As := [.ref (h0 + 129), .int (xJ x)]) hx hb hml hown hT hE hW hl.1 cf_X10_holds wq850 wq1068 (c_X10_holds4 l D g T h0 s0 hW.2.1 129 (by decide) (fun σ => sa_129 h0 g σ) x rx (by omega) p3) ⟨rfl, rfl, ⟨by decide, by decide⟩, ⟨by decide, by decide⟩⟩ rfl rfl (Nat.le_of_ble_eq_true rfl) dX10_isFreeForLamp_47) hW (fun x13 s14 H locs rx13 hp15 hW => ?_)
  obtain ⟨es14, hp15⟩ := hp15
  subst es14
  have ghp15 := hp15
  refine x_if_ne (tgt := 57) hx hb rx13 dX10_isFreeForLamp_50 (by decide) (fun c16 => False.elim (by omega)) (fun c16 => ?_)
  refine x_iconst hx hb dX10_isFreeForLamp_53 ?_
  refine lv_goto (tgt := 58) hx hb dX10_isFreeForLamp_54 (by decide) ?_
  rw [eQ]
  exact x_zret hx hb hr hlk hW (by omega) ⟨rfl, by omega⟩ dX10_isFreeForLamp_58
set_option maxHeartbeats 4000000 in
set_option maxRecDepth 100000 in
theorem c_X10_judge (l : Launch) (D : va_G) (g : xG) (T : Nat × Nat × Nat) (h0 : Nat) (s0 : xS) (hσ : xRR s0) (j : Int) (rj : xR j) (x : Int) (rx : xR x) (y : Int) (ry : xR y) (p0 : s0 137 = fun _ => (-1)) (p1 : s0 4 = fun _ => 0) : Met l yX10_judge (xws yX10_judge cX10_judge 5 (some .boolean)) { frames := 3, cells := 0, slots := 0, locals := 66 } (xP [.ref (h0 + 0), .int (xJ j), .int (xJ x), .int (xJ y)] D g T h0 s0) (xQi D g h0 (fun r τ => xFr (fun k => k = 137) s0 τ ∧ ((r = 1 ∧ 0 ≤ j ∧ j < 2 ∧ 0 ≤ x ∧ x < 10 ∧ 0 ≤ y ∧ y < 10) ∨ (r = 0 ∧ ¬ (0 ≤ j ∧ j < 2 ∧ 0 ≤ x ∧ x < 10 ∧ 0 ≤ y ∧ y < 10))))) 0 0 (xA h0) := by
  refine x_met hσ (by decide) (Nat.le_of_ble_eq_true rfl) ?_
  intro p e s m args below meth c hx hb hr hml hown hT hlk hnm hE hW ls hl
  have hl : lv_has ls 5 [(0, .ref (h0 + 0)), (1, .int (xJ j)), (2, .int (xJ x)), (3, .int (xJ y))] := hl
  obtain ⟨Q, eQ⟩ : ∃ Q, Q = MQ below (xQi D g h0 (fun r τ => xFr (fun k => k = 137) s0 τ ∧ ((r = 1 ∧ 0 ≤ j ∧ j < 2 ∧ 0 ≤ x ∧ x < 10 ∧ 0 ≤ y ∧ y < 10) ∨ (r = 0 ∧ ¬ (0 ≤ j ∧ j < 2 ∧ 0 ≤ x ∧ x < 10 ∧ 0 ≤ y ∧ y < 10))))) args s 0 0 (xA h0) := ⟨_, rfl⟩
  rw [← eQ]
  generalize hHe : ([] : List Loc) = locs at hW ⊢
  obtain ⟨H, eH⟩ : ∃ H, H = s.heap := ⟨_, rfl⟩
  rw [← eH] at hW ⊢
  have hF : xFr (fun k => k = 137) s0 s0 := xFr.rf
  refine x_aload_n hx hb hl 0 rfl dX10_judge_0 rfl ?_
  refine x_get (j := 1) (v := .ref (h0 + 3)) hx hb hown hT hE hW cls_X10 (Or.inl (by decide)) (so_0 h0 g _) (by decide) rfl wq513 dX10_judge_1 ?_
  refine x_iload_n hx hb hl 2 rfl dX10_judge_4 rfl ?_
  refine x_iload_n hx hb hl 3 rfl dX10_judge_5 rfl ?_
  refine x_goi (x_runVN (As := [.int (xJ x), .int (xJ y)]) hx hb hml hown hT hE hW hl.1 (Or.inl (by decide)) (so_3 h0 g _) rfl cf_X6_openSpot wq705 wq27 wn703 (c_X6_openSpot l D g T h0 s0 hW.2.1 x rx y ry p1) ⟨rfl, rfl, ⟨by decide, by decide⟩, ⟨by decide, by decide⟩⟩ rfl rfl (Nat.le_of_ble_eq_true rfl) dX10_judge_6) hW (fun x1 s2 H locs rx1 hp3 hW => ?_)
  obtain ⟨es2, hp3⟩ := hp3
  subst es2
  have ghp3 := hp3
  refine lv_istore (lv' := [(4, .int (xJ x1)), (0, .ref (h0 + 0)), (1, .int (xJ j)), (2, .int (xJ x)), (3, .int (xJ y))]) hx hb dX10_judge_9 hl (by decide) rfl (fun ls hl => ?_)
  refine x_iload_n hx hb hl 2 rfl dX10_judge_11 rfl ?_
  refine x_iconst hx hb dX10_judge_12 ?_
  refine x_iconst hx hb dX10_judge_13 ?_
  refine x_goi (x_runS (As := [.int (xJ j), .int (xJ 0), .int (xJ 1)]) hx hb hml hown hT hE hW hl.1 cf_X10_isIn wq562 wq561 (c_X10_isIn l D g T h0 s0 hW.2.1 j rj 0 (by decide) 1 (by decide)) ⟨rfl, rfl, ⟨by decide, by decide⟩, ⟨by decide, by decide⟩⟩ rfl rfl (Nat.le_of_ble_eq_true rfl) dX10_judge_14) hW (fun x4 s5 H locs rx4 hp6 hW => ?_)
  obtain ⟨es5, hp6⟩ := hp6
  subst es5
  have ghp6 := hp6
  refine x_if_eq (tgt := 42) hx hb rx4 dX10_judge_17 (by decide) (fun c7 => ?_) (fun c7 => ?_)
  · skip
    refine x_iconst hx hb dX10_judge_42 ?_
    rw [eQ]
    exact x_zret hx hb hr hlk hW (by omega) ⟨hF, by omega⟩ dX10_judge_43
  refine x_iload hx hb hl 0 rfl dX10_judge_20 ?_
  refine x_iconst hx hb dX10_judge_22 ?_
  refine x_icmp_eq (tgt := 42) hx hb rx1 (by decide) dX10_judge_23 (by decide) (fun c8 => ?_) (fun c8 => ?_)
  · skip
    refine x_iconst hx hb dX10_judge_42 ?_
    rw [eQ]
    exact x_zret hx hb hr hlk hW (by omega) ⟨hF, by omega⟩ dX10_judge_43
  refine x_aload_n hx hb hl 1 rfl dX10_judge_26 rfl ?_
  refine x_get (j := 8) (v := .ref (h0 + 136)) hx hb hown hT hE hW cls_X10 (Or.inl (by decide)) (so_0 h0 g _) (by decide) rfl wq520 dX10_judge_27 ?_
  refine x_getN (j := 0) (v := .ref (h0 + 137)) hx hb hown hT hE hW cls_X2 (Or.inl (by decide)) (so_136 h0 g _) (by decide) rfl wn385 dX10_judge_30 ?_
  refine x_iconst hx hb dX10_judge_33 ?_
  refine x_iload_n hx hb hl 2 rfl dX10_judge_34 rfl ?_
  refine x_isub hx hb dX10_judge_35 ?_
  refine x_iald hx hb hE hW (Or.inl (by decide)) (sa_137 h0 g _) (by omega) (by decide) dX10_judge_36 ?_
  refine x_rd hW (fun x9 ex9 rx9 => ?_)
  have fx9 : x9 = (-1) := by rw [ex9, p0]
  refine x_iload hx hb hl 0 rfl dX10_judge_37 ?_
  refine x_icmp_ne (tgt := 44) hx hb rx9 rx1 dX10_judge_39 (by decide) (fun c10 => ?_) (fun c10 => False.elim (by omega))
  refine x_aload_n hx hb hl 1 rfl dX10_judge_44 rfl ?_
  refine x_get (j := 8) (v := .ref (h0 + 136)) hx hb hown hT hE hW cls_X10 (Or.inl (by decide)) (so_0 h0 g _) (by decide) rfl wq520 dX10_judge_45 ?_
  refine x_getN (j := 0) (v := .ref (h0 + 137)) hx hb hown hT hE hW cls_X2 (Or.inl (by decide)) (so_136 h0 g _) (by decide) rfl wn385 dX10_judge_48 ?_
  refine x_iload_n hx hb hl 2 rfl dX10_judge_51 rfl ?_
  refine x_iload hx hb hl 0 rfl dX10_judge_52 ?_
  refine x_iast hx hb hE hW (by decide) (fun σ => sa_137 h0 g σ) (by omega) (by decide) rx1 dX10_judge_54 (fun H locs s11 es11 hW => ?_)
  have q12 : s11 4 = fun _ => 0 := by rw [es11, xU_k _ _ _ (by omega)]; exact p1
  have hF13 := hF.put es11 (by omega)
  refine x_iconst hx hb dX10_judge_55 ?_
  rw [eQ]
  exact x_zret hx hb hr hlk hW (by omega) ⟨hF13, by omega⟩ dX10_judge_56
set_option maxHeartbeats 4000000 in
set_option maxRecDepth 100000 in
theorem c_X10_felon (l : Launch) (D : va_G) (g : xG) (T : Nat × Nat × Nat) (h0 : Nat) (s0 : xS) (hσ : xRR s0) (f : Int) (rf : xR f) (x : Int) (rx : xR x) (y : Int) (ry : xR y) (w : Int) (rw : xR w) (p0 : s0 4 = fun _ => 0) : Met l yX10_felon (xws yX10_felon cX10_felon 6 (some .boolean)) { frames := 3, cells := 0, slots := 0, locals := 66 } (xP [.ref (h0 + 0), .int (xJ f), .int (xJ x), .int (xJ y), .int (xJ w)] D g T h0 s0) (xQi D g h0 (fun r τ => xFr (fun k => k = 142 ∨ k = 143 ∨ k = 144 ∨ k = 145) s0 τ ∧ ((r = 1 ∧ 0 ≤ f ∧ f < 10 ∧ 0 ≤ x ∧ x < 10 ∧ 0 ≤ y ∧ y < 10 ∧ 0 ≤ w ∧ w ≤ 999) ∨ (r = 0 ∧ ¬ (0 ≤ f ∧ f < 10 ∧ 0 ≤ x ∧ x < 10 ∧ 0 ≤ y ∧ y < 10 ∧ 0 ≤ w ∧ w ≤ 999))))) 0 0 (xA h0) := by
  refine x_met hσ (by decide) (Nat.le_of_ble_eq_true rfl) ?_
  intro p e s m args below meth c hx hb hr hml hown hT hlk hnm hE hW ls hl
  have hl : lv_has ls 6 [(0, .ref (h0 + 0)), (1, .int (xJ f)), (2, .int (xJ x)), (3, .int (xJ y)), (4, .int (xJ w))] := hl
  obtain ⟨Q, eQ⟩ : ∃ Q, Q = MQ below (xQi D g h0 (fun r τ => xFr (fun k => k = 142 ∨ k = 143 ∨ k = 144 ∨ k = 145) s0 τ ∧ ((r = 1 ∧ 0 ≤ f ∧ f < 10 ∧ 0 ≤ x ∧ x < 10 ∧ 0 ≤ y ∧ y < 10 ∧ 0 ≤ w ∧ w ≤ 999) ∨ (r = 0 ∧ ¬ (0 ≤ f ∧ f < 10 ∧ 0 ≤ x ∧ x < 10 ∧ 0 ≤ y ∧ y < 10 ∧ 0 ≤ w ∧ w ≤ 999))))) args s 0 0 (xA h0) := ⟨_, rfl⟩
  rw [← eQ]
  generalize hHe : ([] : List Loc) = locs at hW ⊢
  obtain ⟨H, eH⟩ : ∃ H, H = s.heap := ⟨_, rfl⟩
  rw [← eH] at hW ⊢
  have hF : xFr (fun k => k = 142 ∨ k = 143 ∨ k = 144 ∨ k = 145) s0 s0 := xFr.rf
  refine x_aload_n hx hb hl 0 rfl dX10_felon_0 rfl ?_
  refine x_get (j := 1) (v := .ref (h0 + 3)) hx hb hown hT hE hW cls_X10 (Or.inl (by decide)) (so_0 h0 g _) (by decide) rfl wq513 dX10_felon_1 ?_
  refine x_iload_n hx hb hl 2 rfl dX10_felon_4 rfl ?_
  refine x_iload_n hx hb hl 3 rfl dX10_felon_5 rfl ?_
  refine x_goi (x_runVN (As := [.int (xJ x), .int (xJ y)]) hx hb hml hown hT hE hW hl.1 (Or.inl (by decide)) (so_3 h0 g _) rfl cf_X6_openSpot wq705 wq27 wn703 (c_X6_openSpot l D g T h0 s0 hW.2.1 x rx y ry p0) ⟨rfl, rfl, ⟨by decide, by decide⟩, ⟨by decide, by decide⟩⟩ rfl rfl (Nat.le_of_ble_eq_true rfl) dX10_felon_6) hW (fun x1 s2 H locs rx1 hp3 hW => ?_)
  obtain ⟨es2, hp3⟩ := hp3
  subst es2
  have ghp3 := hp3
  refine lv_istore (lv' := [(5, .int (xJ x1)), (0, .ref (h0 + 0)), (1, .int (xJ f)), (2, .int (xJ x)), (3, .int (xJ y)), (4, .int (xJ w))]) hx hb dX10_felon_9 hl (by decide) rfl (fun ls hl => ?_)
  refine x_iload_n hx hb hl 2 rfl dX10_felon_11 rfl ?_
  refine x_iconst hx hb dX10_felon_12 ?_
  refine x_bipush hx hb dX10_felon_13 (by decide) ?_
  refine x_goi (x_runS (As := [.int (xJ f), .int (xJ 0), .int (xJ 9)]) hx hb hml hown hT hE hW hl.1 cf_X10_isIn wq562 wq561 (c_X10_isIn l D g T h0 s0 hW.2.1 f rf 0 (by decide) 9 (by decide)) ⟨rfl, rfl, ⟨by decide, by decide⟩, ⟨by decide, by decide⟩⟩ rfl rfl (Nat.le_of_ble_eq_true rfl) dX10_felon_15) hW (fun x4 s5 H locs rx4 hp6 hW => ?_)
  obtain ⟨es5, hp6⟩ := hp6
  subst es5
  have ghp6 := hp6
  refine x_if_eq (tgt := 39) hx hb rx4 dX10_felon_18 (by decide) (fun c7 => ?_) (fun c7 => ?_)
  · skip
    refine x_iconst hx hb dX10_felon_39 ?_
    rw [eQ]
    exact x_zret hx hb hr hlk hW (by omega) ⟨hF, by omega⟩ dX10_felon_40
  refine x_iload hx hb hl 0 rfl dX10_felon_21 ?_
  refine x_iconst hx hb dX10_felon_23 ?_
  refine x_icmp_eq (tgt := 39) hx hb rx1 (by decide) dX10_felon_24 (by decide) (fun c8 => ?_) (fun c8 => ?_)
  · skip
    refine x_iconst hx hb dX10_felon_39 ?_
    rw [eQ]
    exact x_zret hx hb hr hlk hW (by omega) ⟨hF, by omega⟩ dX10_felon_40
  refine x_iload hx hb hl 5 rfl dX10_felon_27 ?_
  refine x_iconst hx hb dX10_felon_29 ?_
  refine x_sipush hx hb dX10_felon_30 (by decide) ?_
  refine x_goi (x_runS (As := [.int (xJ w), .int (xJ 0), .int (xJ 999)]) hx hb hml hown hT hE hW hl.1 cf_X10_isIn wq562 wq561 (c_X10_isIn l D g T h0 s0 hW.2.1 w rw 0 (by decide) 999 (by decide)) ⟨rfl, rfl, ⟨by decide, by decide⟩, ⟨by decide, by decide⟩⟩ rfl rfl (Nat.le_of_ble_eq_true rfl) dX10_felon_33) hW (fun x9 s10 H locs rx9 hp11 hW => ?_)
  obtain ⟨es10, hp11⟩ := hp11
  subst es10
  have ghp11 := hp11
  refine x_if_ne (tgt := 41) hx hb rx9 dX10_felon_36 (by decide) (fun c12 => ?_) (fun c12 => ?_)
  · skip
    refine x_aload_n hx hb hl 1 rfl dX10_felon_41 rfl ?_
    refine x_get (j := 8) (v := .ref (h0 + 136)) hx hb hown hT hE hW cls_X10 (Or.inl (by decide)) (so_0 h0 g _) (by decide) rfl wq520 dX10_felon_42 ?_
    refine x_iload_n hx hb hl 2 rfl dX10_felon_45 rfl ?_
    refine x_iload hx hb hl 0 rfl dX10_felon_46 ?_
    refine x_iload hx hb hl 5 rfl dX10_felon_48 ?_
    refine x_gov (x_runVN (As := [.int (xJ f), .int (xJ x1), .int (xJ w)]) hx hb hml hown hT hE hW hl.1 (Or.inl (by decide)) (so_136 h0 g _) rfl cf_X2_setFelon wq623 wq11 wn621 (c_X2_setFelon l D g T h0 s0 hW.2.1 136 xd_136 f rf x1 rx1 w rw) ⟨rfl, rfl, ⟨by decide, by decide⟩, ⟨by decide, by decide⟩⟩ rfl rfl (Nat.le_of_ble_eq_true rfl) dX10_felon_50) hW (fun s14 H locs hp15 hW => ?_)
    obtain ⟨fs14, hp15⟩ := hp15
    have hF16 := hF.call fs14 (fun k h => by omega)
    have q17 : s14 4 = fun _ => 0 := (fs14 _ (by omega)).trans p0
    have ghp15 := hp15
    refine x_iconst hx hb dX10_felon_53 ?_
    rw [eQ]
    exact x_zret hx hb hr hlk hW (by omega) ⟨hF16, by omega⟩ dX10_felon_54
  refine x_iconst hx hb dX10_felon_39 ?_
  rw [eQ]
  exact x_zret hx hb hr hlk hW (by omega) ⟨hF, by omega⟩ dX10_felon_40
set_option maxHeartbeats 4000000 in
set_option maxRecDepth 100000 in
theorem c_X10_lamp (l : Launch) (D : va_G) (g : xG) (T : Nat × Nat × Nat) (h0 : Nat) (s0 : xS) (hσ : xRR s0) (i : Int) (ri : xR i) (x : Int) (rx : xR x) (y : Int) (ry : xR y) (p0 : s0 4 = fun _ => 0) : Met l yX10_lamp (xws yX10_lamp cX10_lamp 5 (some .boolean)) { frames := 3, cells := 0, slots := 0, locals := 66 } (xP [.ref (h0 + 0), .int (xJ i), .int (xJ x), .int (xJ y)] D g T h0 s0) (xQi D g h0 (fun r τ => xFr (fun k => k = 129) s0 τ ∧ ((r = 1 ∧ 0 ≤ i ∧ i < 4 ∧ (x = -1 ∨ (0 ≤ x ∧ x < 10 ∧ 0 ≤ y ∧ y < 10))) ∨ (r = 0 ∧ ¬ (0 ≤ i ∧ i < 4 ∧ (x = -1 ∨ (0 ≤ x ∧ x < 10 ∧ 0 ≤ y ∧ y < 10))))))) 0 0 (xA h0) := by
  refine x_met hσ (by decide) (Nat.le_of_ble_eq_true rfl) ?_
  intro p e s m args below meth c hx hb hr hml hown hT hlk hnm hE hW ls hl
  have hl : lv_has ls 5 [(0, .ref (h0 + 0)), (1, .int (xJ i)), (2, .int (xJ x)), (3, .int (xJ y))] := hl
  obtain ⟨Q, eQ⟩ : ∃ Q, Q = MQ below (xQi D g h0 (fun r τ => xFr (fun k => k = 129) s0 τ ∧ ((r = 1 ∧ 0 ≤ i ∧ i < 4 ∧ (x = -1 ∨ (0 ≤ x ∧ x < 10 ∧ 0 ≤ y ∧ y < 10))) ∨ (r = 0 ∧ ¬ (0 ≤ i ∧ i < 4 ∧ (x = -1 ∨ (0 ≤ x ∧ x < 10 ∧ 0 ≤ y ∧ y < 10))))))) args s 0 0 (xA h0) := ⟨_, rfl⟩
  rw [← eQ]
  generalize hHe : ([] : List Loc) = locs at hW ⊢
  obtain ⟨H, eH⟩ : ∃ H, H = s.heap := ⟨_, rfl⟩
  rw [← eH] at hW ⊢
  have hF : xFr (fun k => k = 129) s0 s0 := xFr.rf
  refine x_iload_n hx hb hl 1 rfl dX10_lamp_0 rfl ?_
  refine x_iconst hx hb dX10_lamp_1 ?_
  refine x_iconst hx hb dX10_lamp_2 ?_
  refine x_goi (x_runS (As := [.int (xJ i), .int (xJ 0), .int (xJ 3)]) hx hb hml hown hT hE hW hl.1 cf_X10_isIn wq562 wq561 (c_X10_isIn l D g T h0 s0 hW.2.1 i ri 0 (by decide) 3 (by decide)) ⟨rfl, rfl, ⟨by decide, by decide⟩, ⟨by decide, by decide⟩⟩ rfl rfl (Nat.le_of_ble_eq_true rfl) dX10_lamp_3) hW (fun x1 s2 H locs rx1 hp3 hW => ?_)
  obtain ⟨es2, hp3⟩ := hp3
  subst es2
  have ghp3 := hp3
  refine x_if_ne (tgt := 11) hx hb rx1 dX10_lamp_6 (by decide) (fun c4 => ?_) (fun c4 => ?_)
  · skip
    refine x_aload_n hx hb hl 0 rfl dX10_lamp_11 rfl ?_
    refine x_get (j := 1) (v := .ref (h0 + 3)) hx hb hown hT hE hW cls_X10 (Or.inl (by decide)) (so_0 h0 g _) (by decide) rfl wq513 dX10_lamp_12 ?_
    refine x_iload_n hx hb hl 2 rfl dX10_lamp_15 rfl ?_
    refine x_iload_n hx hb hl 3 rfl dX10_lamp_16 rfl ?_
    refine x_goi (x_runVN (As := [.int (xJ x), .int (xJ y)]) hx hb hml hown hT hE hW hl.1 (Or.inl (by decide)) (so_3 h0 g _) rfl cf_X6_openSpot wq705 wq27 wn703 (c_X6_openSpot l D g T h0 s0 hW.2.1 x rx y ry p0) ⟨rfl, rfl, ⟨by decide, by decide⟩, ⟨by decide, by decide⟩⟩ rfl rfl (Nat.le_of_ble_eq_true rfl) dX10_lamp_17) hW (fun x5 s6 H locs rx5 hp7 hW => ?_)
    obtain ⟨es6, hp7⟩ := hp7
    subst es6
    have ghp7 := hp7
    refine lv_istore (lv' := [(4, .int (xJ x5)), (0, .ref (h0 + 0)), (1, .int (xJ i)), (2, .int (xJ x)), (3, .int (xJ y))]) hx hb dX10_lamp_20 hl (by decide) rfl (fun ls hl => ?_)
    refine x_iload_n hx hb hl 3 rfl dX10_lamp_22 rfl ?_
    refine x_iconst hx hb dX10_lamp_23 ?_
    refine x_icmp_eq (tgt := 35) hx hb rx (by decide) dX10_lamp_24 (by decide) (fun c8 => ?_) (fun c8 => ?_)
    · skip
      refine x_aload_n hx hb hl 1 rfl dX10_lamp_35 rfl ?_
      refine x_get (j := 5) (v := .ref (h0 + 128)) hx hb hown hT hE hW cls_X10 (Or.inl (by decide)) (so_0 h0 g _) (by decide) rfl wq517 dX10_lamp_36 ?_
      refine x_getN (j := 2) (v := .ref (h0 + 129)) hx hb hown hT hE hW cls_X0 (Or.inl (by decide)) (so_128 h0 g _) (by decide) rfl wn356 dX10_lamp_39 ?_
      refine x_iload_n hx hb hl 2 rfl dX10_lamp_42 rfl ?_
      refine x_iload hx hb hl 0 rfl dX10_lamp_43 ?_
      refine x_iast hx hb hE hW (by decide) (fun σ => sa_129 h0 g σ) (by omega) (by decide) rx5 dX10_lamp_45 (fun H locs s9 es9 hW => ?_)
      have q10 : s9 4 = fun _ => 0 := by rw [es9, xU_k _ _ _ (by omega)]; exact p0
      have hF11 := hF.put es9 (by omega)
      refine x_iconst hx hb dX10_lamp_46 ?_
      rw [eQ]
      exact x_zret hx hb hr hlk hW (by omega) ⟨hF11, by omega⟩ dX10_lamp_47
    refine x_iload hx hb hl 0 rfl dX10_lamp_27 ?_
    refine x_iconst hx hb dX10_lamp_29 ?_
    refine x_icmp_ne (tgt := 35) hx hb rx5 (by decide) dX10_lamp_30 (by decide) (fun c12 => ?_) (fun c12 => ?_)
    · skip
      refine x_aload_n hx hb hl 1 rfl dX10_lamp_35 rfl ?_
      refine x_get (j := 5) (v := .ref (h0 + 128)) hx hb hown hT hE hW cls_X10 (Or.inl (by decide)) (so_0 h0 g _) (by decide) rfl wq517 dX10_lamp_36 ?_
      refine x_getN (j := 2) (v := .ref (h0 + 129)) hx hb hown hT hE hW cls_X0 (Or.inl (by decide)) (so_128 h0 g _) (by decide) rfl wn356 dX10_lamp_39 ?_
      refine x_iload_n hx hb hl 2 rfl dX10_lamp_42 rfl ?_
      refine x_iload hx hb hl 0 rfl dX10_lamp_43 ?_
      refine x_iast hx hb hE hW (by decide) (fun σ => sa_129 h0 g σ) (by omega) (by decide) rx5 dX10_lamp_45 (fun H locs s13 es13 hW => ?_)
      have q14 : s13 4 = fun _ => 0 := by rw [es13, xU_k _ _ _ (by omega)]; exact p0
      have hF15 := hF.put es13 (by omega)
      refine x_iconst hx hb dX10_lamp_46 ?_
      rw [eQ]
      exact x_zret hx hb hr hlk hW (by omega) ⟨hF15, by omega⟩ dX10_lamp_47
    refine x_iconst hx hb dX10_lamp_33 ?_
    rw [eQ]
    exact x_zret hx hb hr hlk hW (by omega) ⟨hF, by omega⟩ dX10_lamp_34
  refine x_iconst hx hb dX10_lamp_9 ?_
  rw [eQ]
  exact x_zret hx hb hr hlk hW (by omega) ⟨hF, by omega⟩ dX10_lamp_10
set_option maxHeartbeats 4000000 in
set_option maxRecDepth 100000 in
theorem c_X10_minutes (l : Launch) (D : va_G) (g : xG) (T : Nat × Nat × Nat) (h0 : Nat) (s0 : xS) (hσ : xRR s0) (n : Int) (rn : xR n) (p0 : s0 137 = fun _ => (-1)) (p1 : s0 142 = fun _ => (-1)) (p2 : s0 143 = fun _ => 0) (p3 : 0 ≤ s0 136 7 ∧ s0 136 7 ≤ 9999) (p4 : 0 ≤ s0 136 8 ∧ s0 136 8 ≤ 65535) (p5 : s0 4 = fun _ => 0) (p6 : s0 129 = fun _ => (-1)) (p7 : s0 130 3 = 0) (p8 : s0 109 6 = 0) (p9 : s0 136 9 = 0) (p10 : s0 136 10 = 0) (p11 : s0 136 11 = 0) : Met l yX10_minutes (xws yX10_minutes cX10_minutes 2 (some .int)) { frames := 4, cells := 0, slots := 0, locals := 100 } (xP [.ref (h0 + 0), .int (xJ n)] D g T h0 s0) (xQi D g h0 (fun r τ => xFr (fun k => k = 115 ∨ k = 130 ∨ k = 136) s0 τ ∧ ((r = 0 ∧ 1 ≤ n ∧ n ≤ 120) ∨ (r = -1 ∧ (n < 1 ∨ 120 < n))))) 0 0 (xA h0) := by
  refine x_met hσ (by decide) (Nat.le_of_ble_eq_true rfl) ?_
  intro p e s m args below meth c hx hb hr hml hown hT hlk hnm hE hW ls hl
  have hl : lv_has ls 2 [(0, .ref (h0 + 0)), (1, .int (xJ n))] := hl
  obtain ⟨Q, eQ⟩ : ∃ Q, Q = MQ below (xQi D g h0 (fun r τ => xFr (fun k => k = 115 ∨ k = 130 ∨ k = 136) s0 τ ∧ ((r = 0 ∧ 1 ≤ n ∧ n ≤ 120) ∨ (r = -1 ∧ (n < 1 ∨ 120 < n))))) args s 0 0 (xA h0) := ⟨_, rfl⟩
  rw [← eQ]
  generalize hHe : ([] : List Loc) = locs at hW ⊢
  obtain ⟨H, eH⟩ : ∃ H, H = s.heap := ⟨_, rfl⟩
  rw [← eH] at hW ⊢
  have hF : xFr (fun k => k = 115 ∨ k = 130 ∨ k = 136) s0 s0 := xFr.rf
  refine x_iload_n hx hb hl 1 rfl dX10_minutes_0 rfl ?_
  refine x_iconst hx hb dX10_minutes_1 ?_
  refine x_bipush hx hb dX10_minutes_2 (by decide) ?_
  refine x_goi (x_runS (As := [.int (xJ n), .int (xJ 1), .int (xJ 120)]) hx hb hml hown hT hE hW hl.1 cf_X10_isIn wq562 wq561 (c_X10_isIn l D g T h0 s0 hW.2.1 n rn 1 (by decide) 120 (by decide)) ⟨rfl, rfl, ⟨by decide, by decide⟩, ⟨by decide, by decide⟩⟩ rfl rfl (Nat.le_of_ble_eq_true rfl) dX10_minutes_4) hW (fun x1 s2 H locs rx1 hp3 hW => ?_)
  obtain ⟨es2, hp3⟩ := hp3
  subst es2
  have ghp3 := hp3
  refine x_if_eq (tgt := 26) hx hb rx1 dX10_minutes_7 (by decide) (fun c4 => ?_) (fun c4 => ?_)
  · skip
    refine x_iconst hx hb dX10_minutes_26 ?_
    rw [eQ]
    exact x_iret hx hb hr hlk hW (by decide) ⟨hF, by omega⟩ dX10_minutes_27
  refine x_aload_n hx hb hl 0 rfl dX10_minutes_10 rfl ?_
  refine x_get (j := 5) (v := .ref (h0 + 128)) hx hb hown hT hE hW cls_X10 (Or.inl (by decide)) (so_0 h0 g _) (by decide) rfl wq517 dX10_minutes_11 ?_
  refine x_aload_n hx hb hl 0 rfl dX10_minutes_14 rfl ?_
  refine x_get (j := 8) (v := .ref (h0 + 136)) hx hb hown hT hE hW cls_X10 (Or.inl (by decide)) (so_0 h0 g _) (by decide) rfl wq520 dX10_minutes_15 ?_
  refine x_iload_n hx hb hl 1 rfl dX10_minutes_18 rfl ?_
  refine x_iconst hx hb dX10_minutes_19 ?_
  refine x_goi (x_runVN (As := [.ref (h0 + 136), .int (xJ n), .int (xJ (-1))]) hx hb hml hown hT hE hW hl.1 (Or.inl (by decide)) (so_128 h0 g _) rfl cf_X0_goOn wq761 wq34 wn759 (c_X0_goOn l D g T h0 s0 hW.2.1 136 xd_136 n rn (-1) (by decide) 0 0 0 p0 p1 p2 p3 p4 p5 p6 p7 p8 p9 p10 p11) ⟨rfl, rfl, ⟨by decide, by decide⟩, ⟨by decide, by decide⟩⟩ rfl rfl (Nat.le_of_ble_eq_true rfl) dX10_minutes_20) hW (fun x5 s6 H locs rx5 hp7 hW => ?_)
  obtain ⟨fs6, hp7⟩ := hp7
  have hF8 := hF.call fs6 (fun k h => by omega)
  have q9 : s6 137 = fun _ => (-1) := (fs6 _ (by omega)).trans p0
  have q10 : s6 142 = fun _ => (-1) := (fs6 _ (by omega)).trans p1
  have q11 : s6 143 = fun _ => 0 := (fs6 _ (by omega)).trans p2
  have q12 : s6 4 = fun _ => 0 := (fs6 _ (by omega)).trans p5
  have q13 : s6 129 = fun _ => (-1) := (fs6 _ (by omega)).trans p6
  have q14 : s6 109 6 = 0 := (congrFun (fs6 _ (by omega)) _).trans p8
  have ghp7 := hp7.2
  refine lv_goto (tgt := 27) hx hb dX10_minutes_23 (by decide) ?_
  rw [eQ]
  exact x_iret hx hb hr hlk hW rx5 ⟨hF8, by omega⟩ dX10_minutes_27
set_option maxHeartbeats 4000000 in
set_option maxRecDepth 100000 in
theorem c_X10_tried (l : Launch) (D : va_G) (g : xG) (T : Nat × Nat × Nat) (h0 : Nat) (s0 : xS) (hσ : xRR s0) (n : Int) (rn : xR n) (x : Int) (rx : xR x) (p0 : s0 137 = fun _ => (-1)) (p1 : s0 142 = fun _ => (-1)) (p2 : s0 143 = fun _ => 0) (p3 : 0 ≤ s0 136 7 ∧ s0 136 7 ≤ 9999) (p4 : 0 ≤ s0 136 8 ∧ s0 136 8 ≤ 65535) (p5 : s0 145 = fun _ => 0) (p6 : ∀ j : Int, 0 ≤ j → j < 2 → xAr s0 (s0 138 j).toNat) (p7 : s0 159 = fun _ => (-1)) (p8 : s0 164 = fun _ => (-1)) (p9 : s0 165 = fun _ => 0) (p10 : 0 ≤ s0 158 7 ∧ s0 158 7 ≤ 9999) (p11 : 0 ≤ s0 158 8 ∧ s0 158 8 ≤ 65535) (p12 : s0 167 = fun _ => 0) (p13 : s0 4 = fun _ => 0) (p14 : s0 129 = fun _ => (-1)) (p15 : s0 130 3 = 0) (p16 : s0 109 6 = 0) : Met l yX10_tried (xws yX10_tried cX10_tried 5 (some .int)) { frames := 4, cells := 0, slots := 0, locals := 100 } (xP [.ref (h0 + 0), .int (xJ n), .int (xJ x)] D g T h0 s0) (xQi D g h0 (fun r τ => xFr (fun k => k = 115 ∨ k = 130 ∨ k = 158 ∨ k = 159 ∨ k = 160 ∨ k = 163 ∨ k = 164 ∨ k = 165 ∨ k = 166 ∨ k = 167) s0 τ ∧ ((r = 0 ∧ 1 ≤ n ∧ n ≤ 120 ∧ 0 ≤ x ∧ x ≤ 5) ∨ (r = -1 ∧ ¬ (1 ≤ n ∧ n ≤ 120 ∧ 0 ≤ x ∧ x ≤ 5))))) 0 0 (xA h0) := by
  refine x_met hσ (by decide) (Nat.le_of_ble_eq_true rfl) ?_
  intro p e s m args below meth c hx hb hr hml hown hT hlk hnm hE hW ls hl
  have hl : lv_has ls 5 [(0, .ref (h0 + 0)), (1, .int (xJ n)), (2, .int (xJ x))] := hl
  obtain ⟨Q, eQ⟩ : ∃ Q, Q = MQ below (xQi D g h0 (fun r τ => xFr (fun k => k = 115 ∨ k = 130 ∨ k = 158 ∨ k = 159 ∨ k = 160 ∨ k = 163 ∨ k = 164 ∨ k = 165 ∨ k = 166 ∨ k = 167) s0 τ ∧ ((r = 0 ∧ 1 ≤ n ∧ n ≤ 120 ∧ 0 ≤ x ∧ x ≤ 5) ∨ (r = -1 ∧ ¬ (1 ≤ n ∧ n ≤ 120 ∧ 0 ≤ x ∧ x ≤ 5))))) args s 0 0 (xA h0) := ⟨_, rfl⟩
  rw [← eQ]
  generalize hHe : ([] : List Loc) = locs at hW ⊢
  obtain ⟨H, eH⟩ : ∃ H, H = s.heap := ⟨_, rfl⟩
  rw [← eH] at hW ⊢
  have hF : xFr (fun k => k = 115 ∨ k = 130 ∨ k = 158 ∨ k = 159 ∨ k = 160 ∨ k = 163 ∨ k = 164 ∨ k = 165 ∨ k = 166 ∨ k = 167) s0 s0 := xFr.rf
  refine x_iload_n hx hb hl 1 rfl dX10_tried_0 rfl ?_
  refine x_iconst hx hb dX10_tried_1 ?_
  refine x_bipush hx hb dX10_tried_2 (by decide) ?_
  refine x_goi (x_runS (As := [.int (xJ n), .int (xJ 1), .int (xJ 120)]) hx hb hml hown hT hE hW hl.1 cf_X10_isIn wq562 wq561 (c_X10_isIn l D g T h0 s0 hW.2.1 n rn 1 (by decide) 120 (by decide)) ⟨rfl, rfl, ⟨by decide, by decide⟩, ⟨by decide, by decide⟩⟩ rfl rfl (Nat.le_of_ble_eq_true rfl) dX10_tried_4) hW (fun x1 s2 H locs rx1 hp3 hW => ?_)
  obtain ⟨es2, hp3⟩ := hp3
  subst es2
  have ghp3 := hp3
  refine x_if_eq (tgt := 18) hx hb rx1 dX10_tried_7 (by decide) (fun c4 => ?_) (fun c4 => ?_)
  · skip
    refine x_iconst hx hb dX10_tried_18 ?_
    rw [eQ]
    exact x_iret hx hb hr hlk hW (by decide) ⟨hF, by omega⟩ dX10_tried_19
  refine x_aload_n hx hb hl 0 rfl dX10_tried_10 rfl ?_
  refine x_iload_n hx hb hl 2 rfl dX10_tried_11 rfl ?_
  refine x_goi (x_runV (As := [.int (xJ x)]) hx hb hml hown hT hE hW hl.1 (Or.inl (by decide)) (so_0 h0 g _) rfl cf_X10_canBeTried wq908 wq62 wq906 (c_X10_canBeTried l D g T h0 s0 hW.2.1 x rx p0 p1) ⟨rfl, rfl, ⟨by decide, by decide⟩, ⟨by decide, by decide⟩⟩ rfl rfl (Nat.le_of_ble_eq_true rfl) dX10_tried_12) hW (fun x5 s6 H locs rx5 hp7 hW => ?_)
  obtain ⟨es6, hp7⟩ := hp7
  subst es6
  have ghp7 := hp7
  refine x_if_ne (tgt := 20) hx hb rx5 dX10_tried_15 (by decide) (fun c8 => ?_) (fun c8 => ?_)
  · skip
    refine x_aload_n hx hb hl 0 rfl dX10_tried_20 rfl ?_
    refine x_get (j := 6) (v := .ref (h0 + 156)) hx hb hown hT hE hW cls_X10 (Or.inl (by decide)) (so_0 h0 g _) (by decide) rfl wq518 dX10_tried_21 ?_
    refine x_gor (x_runVN (As := []) hx hb hml hown hT hE hW hl.1 (Or.inl (by decide)) (so_156 h0 g _) rfl cf_X3_copyOfNow wq914 wq63 wn912 (c_X3_copyOfNow l D g T h0 s0 hW.2.1 p0 p1 p2 p3 p4 p5 p6 p7 p8 p9 p10 p11 p12) ⟨rfl, rfl, ⟨by decide, by decide⟩, ⟨by decide, by decide⟩⟩ rfl rfl (Nat.le_of_ble_eq_true rfl) dX10_tried_24) hW (fun x9 s10 H locs hp11 hW => ?_)
    obtain ⟨ex9, hp11⟩ := hp11
    subst ex9
    obtain ⟨fs10, hp11⟩ := hp11
    have hF12 := hF.call fs10 (fun k h => by omega)
    have q13 : s10 137 = fun _ => (-1) := (fs10 _ (by omega)).trans p0
    have q14 : s10 142 = fun _ => (-1) := (fs10 _ (by omega)).trans p1
    have q15 : s10 143 = fun _ => 0 := (fs10 _ (by omega)).trans p2
    have q16 : 0 ≤ s10 136 7 ∧ s10 136 7 ≤ 9999 := by rw [fs10 136 (by omega)]; exact p3
    have q17 : 0 ≤ s10 136 8 ∧ s10 136 8 ≤ 65535 := by rw [fs10 136 (by omega)]; exact p4
    have q18 : s10 145 = fun _ => 0 := (fs10 _ (by omega)).trans p5
    have q19 : ∀ j : Int, 0 ≤ j → j < 2 → xAr s10 (s10 138 j).toNat := by intro j h1 h2; rw [fs10 138 (by omega)]; exact (p6 j h1 h2).f (fs10 999997 (by omega))
    have q20 : s10 4 = fun _ => 0 := (fs10 _ (by omega)).trans p13
    have q21 : s10 129 = fun _ => (-1) := (fs10 _ (by omega)).trans p14
    have q22 : s10 130 3 = 0 := (congrFun (fs10 _ (by omega)) _).trans p15
    have q23 : s10 109 6 = 0 := (congrFun (fs10 _ (by omega)) _).trans p16
    have ghp11 := hp11.2
    refine lv_astore_n (lv' := [(3, .ref (h0 + 158)), (0, .ref (h0 + 0)), (1, .int (xJ n)), (2, .int (xJ x))]) hx hb dX10_tried_27 rfl hl (by decide) rfl (fun ls hl => ?_)
    refine x_aload_n hx hb hl 1 rfl dX10_tried_28 rfl ?_
    refine x_get (j := 5) (v := .ref (h0 + 128)) hx hb hown hT hE hW cls_X10 (Or.inl (by decide)) (so_0 h0 g _) (by decide) rfl wq517 dX10_tried_29 ?_
    refine x_aload_n hx hb hl 0 rfl dX10_tried_32 rfl ?_
    refine x_iload_n hx hb hl 2 rfl dX10_tried_33 rfl ?_
    refine x_iconst hx hb dX10_tried_34 ?_
    refine x_goi (x_runVN (As := [.ref (h0 + 158), .int (xJ n), .int (xJ (-1))]) hx hb hml hown hT hE hW hl.1 (Or.inl (by decide)) (so_128 h0 g _) rfl cf_X0_goOn wq761 wq34 wn759 (c_X0_goOn l D g T h0 s10 hW.2.1 158 xd_158 n rn (-1) (by decide) 0 0 0 hp11.1.1 hp11.1.2.1 hp11.1.2.2.1 hp11.1.2.2.2.1 hp11.1.2.2.2.2.1 q20 q21 q22 q23 hp11.1.2.2.2.2.2.2.1 hp11.1.2.2.2.2.2.2.2.1 hp11.1.2.2.2.2.2.2.2.2.1) ⟨rfl, rfl, ⟨by decide, by decide⟩, ⟨by decide, by decide⟩⟩ rfl rfl (Nat.le_of_ble_eq_true rfl) dX10_tried_35) hW (fun x24 s25 H locs rx24 hp26 hW => ?_)
    obtain ⟨fs25, hp26⟩ := hp26
    have hF27 := hF12.call fs25 (fun k h => by omega)
    have q28 : s25 137 = fun _ => (-1) := (fs25 _ (by omega)).trans q13
    have q29 : s25 142 = fun _ => (-1) := (fs25 _ (by omega)).trans q14
    have q30 : s25 143 = fun _ => 0 := (fs25 _ (by omega)).trans q15
    have q31 : 0 ≤ s25 136 7 ∧ s25 136 7 ≤ 9999 := by rw [fs25 136 (by omega)]; exact q16
    have q32 : 0 ≤ s25 136 8 ∧ s25 136 8 ≤ 65535 := by rw [fs25 136 (by omega)]; exact q17
    have q33 : s25 145 = fun _ => 0 := (fs25 _ (by omega)).trans q18
    have q34 : ∀ j : Int, 0 ≤ j → j < 2 → xAr s25 (s25 138 j).toNat := by intro j h1 h2; rw [fs25 138 (by omega)]; exact (q19 j h1 h2).f (fs25 999997 (by omega))
    have q35 : s25 4 = fun _ => 0 := (fs25 _ (by omega)).trans q20
    have q36 : s25 129 = fun _ => (-1) := (fs25 _ (by omega)).trans q21
    have q37 : s25 109 6 = 0 := (congrFun (fs25 _ (by omega)) _).trans q23
    have q38 : s25 159 = fun _ => (-1) := (fs25 _ (by omega)).trans hp11.1.1
    have q39 : s25 164 = fun _ => (-1) := (fs25 _ (by omega)).trans hp11.1.2.1
    have q40 : s25 165 = fun _ => 0 := (fs25 _ (by omega)).trans hp11.1.2.2.1
    have q41 : s25 167 = fun _ => 0 := (fs25 _ (by omega)).trans hp11.1.2.2.2.2.2.1
    have ghp26 := hp26.2
    refine lv_istore (lv' := [(4, .int (xJ x24)), (3, .ref (h0 + 158)), (0, .ref (h0 + 0)), (1, .int (xJ n)), (2, .int (xJ x))]) hx hb dX10_tried_38 hl (by decide) rfl (fun ls hl => ?_)
    refine x_iload_n hx hb hl 4 rfl dX10_tried_40 rfl ?_
    rcases (show (x < 0 ∨ 5 < x) ∨ x = 0 ∨ x = 1 ∨ x = 2 ∨ x = 3 ∨ x = 4 ∨ x = 5 from by omega) with c42 | c42 | c42 | c42 | c42 | c42 | c42
    · exact False.elim (by omega)
    · refine x_tabIn (v := 0) (tgt := 80) hx hb rx c42 dX10_tried_41 (by decide) rfl (by decide) ?_
      refine x_iload hx hb hl 0 rfl dX10_tried_80 ?_
      rw [eQ]
      exact x_iret hx hb hr hlk hW rx24 ⟨hF27, by omega⟩ dX10_tried_82
    · refine x_tabIn (v := 1) (tgt := 83) hx hb rx c42 dX10_tried_41 (by decide) rfl (by decide) ?_
      refine x_aload_n hx hb hl 1 rfl dX10_tried_83 rfl ?_
      refine x_getN (j := 9) (v := .int (xJ (s25 158 9))) hx hb hown hT hE hW cls_X2 (Or.inl (by decide)) (so_158 h0 g _) (by decide) rfl wn407 dX10_tried_84 ?_
      refine x_rd hW (fun x43 ex43 rx43 => ?_)
      have fx43 : x43 = 0 := by rw [ex43, hp26.1.2.2.2.1]
      rw [eQ]
      exact x_iret hx hb hr hlk hW rx43 ⟨hF27, by omega⟩ dX10_tried_87
    · refine x_tabIn (v := 2) (tgt := 88) hx hb rx c42 dX10_tried_41 (by decide) rfl (by decide) ?_
      refine x_aload_n hx hb hl 1 rfl dX10_tried_88 rfl ?_
      refine x_goi (x_runVN (As := []) hx hb hml hown hT hE hW hl.1 (Or.inl (by decide)) (so_158 h0 g _) rfl cf_X2_howManyDrowned wq926 wq66 wn924 (c_X2_howManyDrowned l D g T h0 s25 hW.2.1 158 xd_158 q39) ⟨rfl, rfl, ⟨by decide, by decide⟩, ⟨by decide, by decide⟩⟩ rfl rfl (Nat.le_of_ble_eq_true rfl) dX10_tried_89) hW (fun x44 s45 H locs rx44 hp46 hW => ?_)
      obtain ⟨es45, hp46⟩ := hp46
      subst es45
      have ghp46 := hp46
      rw [eQ]
      exact x_iret hx hb hr hlk hW rx44 ⟨hF27, by omega⟩ dX10_tried_92
    · refine x_tabIn (v := 3) (tgt := 93) hx hb rx c42 dX10_tried_41 (by decide) rfl (by decide) ?_
      refine x_aload_n hx hb hl 1 rfl dX10_tried_93 rfl ?_
      refine x_getN (j := 10) (v := .int (xJ (s25 158 10))) hx hb hown hT hE hW cls_X2 (Or.inl (by decide)) (so_158 h0 g _) (by decide) rfl wn411 dX10_tried_94 ?_
      refine x_rd hW (fun x47 ex47 rx47 => ?_)
      have fx47 : x47 = 0 := by rw [ex47, hp26.1.2.2.2.2.1]
      rw [eQ]
      exact x_iret hx hb hr hlk hW rx47 ⟨hF27, by omega⟩ dX10_tried_97
    · refine x_tabIn (v := 4) (tgt := 98) hx hb rx c42 dX10_tried_41 (by decide) rfl (by decide) ?_
      refine x_aload_n hx hb hl 1 rfl dX10_tried_98 rfl ?_
      refine x_getN (j := 11) (v := .int (xJ (s25 158 11))) hx hb hown hT hE hW cls_X2 (Or.inl (by decide)) (so_158 h0 g _) (by decide) rfl wn413 dX10_tried_99 ?_
      refine x_rd hW (fun x48 ex48 rx48 => ?_)
      have fx48 : x48 = 0 := by rw [ex48, hp26.1.2.2.2.2.2.1]
      rw [eQ]
      exact x_iret hx hb hr hlk hW rx48 ⟨hF27, by omega⟩ dX10_tried_102
    · refine x_tabIn (v := 5) (tgt := 103) hx hb rx c42 dX10_tried_41 (by decide) rfl (by decide) ?_
      refine x_aload_n hx hb hl 1 rfl dX10_tried_103 rfl ?_
      refine x_goi (x_runVN (As := []) hx hb hml hown hT hE hW hl.1 (Or.inl (by decide)) (so_158 h0 g _) rfl cf_X2_howManyOweNothing wq930 wq67 wn928 (c_X2_howManyOweNothing l D g T h0 s25 hW.2.1 158 xd_158 q39) ⟨rfl, rfl, ⟨by decide, by decide⟩, ⟨by decide, by decide⟩⟩ rfl rfl (Nat.le_of_ble_eq_true rfl) dX10_tried_104) hW (fun x49 s50 H locs rx49 hp51 hW => ?_)
      obtain ⟨es50, hp51⟩ := hp51
      subst es50
      have ghp51 := hp51
      rw [eQ]
      exact x_iret hx hb hr hlk hW rx49 ⟨hF27, by omega⟩ dX10_tried_107
  refine x_iconst hx hb dX10_tried_18 ?_
  rw [eQ]
  exact x_iret hx hb hr hlk hW (by decide) ⟨hF, by omega⟩ dX10_tried_19
set_option maxHeartbeats 4000000 in
set_option maxRecDepth 100000 in
theorem c_X10_felonIs (l : Launch) (D : va_G) (g : xG) (T : Nat × Nat × Nat) (h0 : Nat) (s0 : xS) (hσ : xRR s0) (f : Int) (rf : xR f) (x : Int) (rx : xR x) (p0 : s0 142 = fun _ => (-1)) : Met l yX10_felonIs (xws yX10_felonIs cX10_felonIs 3 (some .int)) { frames := 1, cells := 0, slots := 0, locals := 21 } (xP [.ref (h0 + 0), .int (xJ f), .int (xJ x)] D g T h0 s0) (xQi D g h0 (fun r τ => s0 = τ ∧ (r = -1))) 0 0 (xA h0) := by
  refine x_met hσ (by decide) (Nat.le_of_ble_eq_true rfl) ?_
  intro p e s m args below meth c hx hb hr hml hown hT hlk hnm hE hW ls hl
  have hl : lv_has ls 3 [(0, .ref (h0 + 0)), (1, .int (xJ f)), (2, .int (xJ x))] := hl
  obtain ⟨Q, eQ⟩ : ∃ Q, Q = MQ below (xQi D g h0 (fun r τ => s0 = τ ∧ (r = -1))) args s 0 0 (xA h0) := ⟨_, rfl⟩
  rw [← eQ]
  generalize hHe : ([] : List Loc) = locs at hW ⊢
  obtain ⟨H, eH⟩ : ∃ H, H = s.heap := ⟨_, rfl⟩
  rw [← eH] at hW ⊢
  refine x_aload_n hx hb hl 0 rfl dX10_felonIs_0 rfl ?_
  refine x_get (j := 8) (v := .ref (h0 + 136)) hx hb hown hT hE hW cls_X10 (Or.inl (by decide)) (so_0 h0 g _) (by decide) rfl wq520 dX10_felonIs_1 ?_
  refine x_iload_n hx hb hl 1 rfl dX10_felonIs_4 rfl ?_
  refine x_goi (x_runVN (As := [.int (xJ f)]) hx hb hml hown hT hE hW hl.1 (Or.inl (by decide)) (so_136 h0 g _) rfl cf_X2_hasFelon wq862 wq53 wn910 (c_X2_hasFelon l D g T h0 s0 hW.2.1 136 xd_136 f rf p0) ⟨rfl, rfl, ⟨by decide, by decide⟩, ⟨by decide, by decide⟩⟩ rfl rfl (Nat.le_of_ble_eq_true rfl) dX10_felonIs_5) hW (fun x1 s2 H locs rx1 hp3 hW => ?_)
  obtain ⟨es2, hp3⟩ := hp3
  subst es2
  have ghp3 := hp3
  refine x_if_ne (tgt := 13) hx hb rx1 dX10_felonIs_8 (by decide) (fun c4 => False.elim (by omega)) (fun c4 => ?_)
  refine x_iconst hx hb dX10_felonIs_11 ?_
  rw [eQ]
  exact x_iret hx hb hr hlk hW (by decide) ⟨rfl, by omega⟩ dX10_felonIs_12
set_option maxHeartbeats 4000000 in
set_option maxRecDepth 100000 in
theorem c_X10_shade (l : Launch) (D : va_G) (g : xG) (T : Nat × Nat × Nat) (h0 : Nat) (s0 : xS) (hσ : xRR s0) (x : Int) (rx : xR x) (y : Int) (ry : xR y) (p0 : s0 137 = fun _ => (-1)) (p1 : s0 4 = fun _ => 0) (p2 : s0 129 = fun _ => (-1)) (p3 : s0 130 3 = 0) (p4 : s0 109 6 = 0) (p5 : s0 131 = fun _ => 0) : Met l yX10_shade (xws yX10_shade cX10_shade 4 (some .int)) { frames := 5, cells := 0, slots := 0, locals := 116 } (xP [.ref (h0 + 0), .int (xJ x), .int (xJ y)] D g T h0 s0) (xQi D g h0 (fun r τ => xFr (fun k => k = 115 ∨ k = 130) s0 τ ∧ ((r = 0 ∧ 0 ≤ x ∧ x < 10 ∧ 0 ≤ y ∧ y < 10) ∨ (r = -1 ∧ (x < 0 ∨ 10 ≤ x ∨ y < 0 ∨ 10 ≤ y))))) 0 0 (xA h0) := by
  refine x_met hσ (by decide) (Nat.le_of_ble_eq_true rfl) ?_
  intro p e s m args below meth c hx hb hr hml hown hT hlk hnm hE hW ls hl
  have hl : lv_has ls 4 [(0, .ref (h0 + 0)), (1, .int (xJ x)), (2, .int (xJ y))] := hl
  obtain ⟨Q, eQ⟩ : ∃ Q, Q = MQ below (xQi D g h0 (fun r τ => xFr (fun k => k = 115 ∨ k = 130) s0 τ ∧ ((r = 0 ∧ 0 ≤ x ∧ x < 10 ∧ 0 ≤ y ∧ y < 10) ∨ (r = -1 ∧ (x < 0 ∨ 10 ≤ x ∨ y < 0 ∨ 10 ≤ y))))) args s 0 0 (xA h0) := ⟨_, rfl⟩
  rw [← eQ]
  generalize hHe : ([] : List Loc) = locs at hW ⊢
  obtain ⟨H, eH⟩ : ∃ H, H = s.heap := ⟨_, rfl⟩
  rw [← eH] at hW ⊢
  have hF : xFr (fun k => k = 115 ∨ k = 130) s0 s0 := xFr.rf
  refine x_iload_n hx hb hl 1 rfl dX10_shade_0 rfl ?_
  refine x_iload_n hx hb hl 2 rfl dX10_shade_1 rfl ?_
  refine x_goi (x_runSN (As := [.int (xJ x), .int (xJ y)]) hx hb hml hown hT hE hW hl.1 cf_X6_spotAt wq708 wn949 (c_X6_spotAt l D g T h0 s0 hW.2.1 x rx y ry) ⟨rfl, rfl, ⟨by decide, by decide⟩, ⟨by decide, by decide⟩⟩ rfl rfl (Nat.le_of_ble_eq_true rfl) dX10_shade_2) hW (fun x1 s2 H locs rx1 hp3 hW => ?_)
  obtain ⟨es2, hp3⟩ := hp3
  subst es2
  have ghp3 := hp3
  refine lv_istore_n (lv' := [(3, .int (xJ x1)), (0, .ref (h0 + 0)), (1, .int (xJ x)), (2, .int (xJ y))]) hx hb dX10_shade_5 rfl hl (by decide) rfl (fun ls hl => ?_)
  refine x_iload_n hx hb hl 0 rfl dX10_shade_6 rfl ?_
  refine x_iconst hx hb dX10_shade_7 ?_
  refine x_icmp_ne (tgt := 15) hx hb rx1 (by decide) dX10_shade_8 (by decide) (fun c4 => ?_) (fun c4 => ?_)
  · skip
    refine x_aload_n hx hb hl 1 rfl dX10_shade_15 rfl ?_
    refine x_get (j := 5) (v := .ref (h0 + 128)) hx hb hown hT hE hW cls_X10 (Or.inl (by decide)) (so_0 h0 g _) (by decide) rfl wq517 dX10_shade_16 ?_
    refine x_aload_n hx hb hl 1 rfl dX10_shade_19 rfl ?_
    refine x_get (j := 8) (v := .ref (h0 + 136)) hx hb hown hT hE hW cls_X10 (Or.inl (by decide)) (so_0 h0 g _) (by decide) rfl wq520 dX10_shade_20 ?_
    refine x_iload_n hx hb hl 0 rfl dX10_shade_23 rfl ?_
    refine x_goi (x_runVN (As := [.ref (h0 + 136), .int (xJ x1)]) hx hb hml hown hT hE hW hl.1 (Or.inl (by decide)) (so_128 h0 g _) rfl cf_X0_shadowsAt wq939 wq68 wn937 (c_X0_shadowsAt l D g T h0 s0 hW.2.1 136 xd_136 x1 rx1 p0 p1 p2 p3 p4 p5) ⟨rfl, rfl, ⟨by decide, by decide⟩, ⟨by decide, by decide⟩⟩ rfl rfl (Nat.le_of_ble_eq_true rfl) dX10_shade_24) hW (fun x5 s6 H locs rx5 hp7 hW => ?_)
    obtain ⟨fs6, hp7⟩ := hp7
    have hF8 := hF.call fs6 (fun k h => by omega)
    have q9 : s6 137 = fun _ => (-1) := (fs6 _ (by omega)).trans p0
    have q10 : s6 4 = fun _ => 0 := (fs6 _ (by omega)).trans p1
    have q11 : s6 129 = fun _ => (-1) := (fs6 _ (by omega)).trans p2
    have q12 : s6 109 6 = 0 := (congrFun (fs6 _ (by omega)) _).trans p4
    have q13 : s6 131 = fun _ => 0 := (fs6 _ (by omega)).trans p5
    have ghp7 := hp7.2
    rw [eQ]
    exact x_iret hx hb hr hlk hW rx5 ⟨hF8, by omega⟩ dX10_shade_27
  refine x_iconst hx hb dX10_shade_11 ?_
  refine lv_goto (tgt := 27) hx hb dX10_shade_12 (by decide) ?_
  rw [eQ]
  exact x_iret hx hb hr hlk hW (by decide) ⟨hF, by omega⟩ dX10_shade_27
set_option maxHeartbeats 4000000 in
set_option maxRecDepth 100000 in
theorem c_X10_atOnce (l : Launch) (D : va_G) (g : xG) (T : Nat × Nat × Nat) (h0 : Nat) (s0 : xS) (hσ : xRR s0) (x : Int) (rx : xR x) (p0 : s0 137 = fun _ => (-1)) (p1 : s0 142 = fun _ => (-1)) (p2 : s0 4 = fun _ => 0) (p3 : s0 129 = fun _ => (-1)) (p4 : s0 130 3 = 0) (p5 : s0 109 6 = 0) : Met l yX10_atOnce (xws yX10_atOnce cX10_atOnce 2 (some .int)) { frames := 4, cells := 0, slots := 0, locals := 94 } (xP [.ref (h0 + 0), .int (xJ x)] D g T h0 s0) (xQi D g h0 (fun r τ => xFr (fun k => k = 115 ∨ k = 130 ∨ k = 262 ∨ k = 263 ∨ k = 264) s0 τ ∧ ((r = 0 ∧ 0 ≤ x ∧ x ≤ 2) ∨ (r = -1 ∧ (x < 0 ∨ 2 < x))))) 0 0 (xA h0) := by
  refine x_met hσ (by decide) (Nat.le_of_ble_eq_true rfl) ?_
  intro p e s m args below meth c hx hb hr hml hown hT hlk hnm hE hW ls hl
  have hl : lv_has ls 2 [(0, .ref (h0 + 0)), (1, .int (xJ x))] := hl
  obtain ⟨Q, eQ⟩ : ∃ Q, Q = MQ below (xQi D g h0 (fun r τ => xFr (fun k => k = 115 ∨ k = 130 ∨ k = 262 ∨ k = 263 ∨ k = 264) s0 τ ∧ ((r = 0 ∧ 0 ≤ x ∧ x ≤ 2) ∨ (r = -1 ∧ (x < 0 ∨ 2 < x))))) args s 0 0 (xA h0) := ⟨_, rfl⟩
  rw [← eQ]
  generalize hHe : ([] : List Loc) = locs at hW ⊢
  obtain ⟨H, eH⟩ : ∃ H, H = s.heap := ⟨_, rfl⟩
  rw [← eH] at hW ⊢
  have hF : xFr (fun k => k = 115 ∨ k = 130 ∨ k = 262 ∨ k = 263 ∨ k = 264) s0 s0 := xFr.rf
  refine x_iload_n hx hb hl 1 rfl dX10_atOnce_0 rfl ?_
  refine x_iconst hx hb dX10_atOnce_1 ?_
  refine x_iconst hx hb dX10_atOnce_2 ?_
  refine x_goi (x_runS (As := [.int (xJ x), .int (xJ 0), .int (xJ 2)]) hx hb hml hown hT hE hW hl.1 cf_X10_isIn wq562 wq561 (c_X10_isIn l D g T h0 s0 hW.2.1 x rx 0 (by decide) 2 (by decide)) ⟨rfl, rfl, ⟨by decide, by decide⟩, ⟨by decide, by decide⟩⟩ rfl rfl (Nat.le_of_ble_eq_true rfl) dX10_atOnce_3) hW (fun x1 s2 H locs rx1 hp3 hW => ?_)
  obtain ⟨es2, hp3⟩ := hp3
  subst es2
  have ghp3 := hp3
  refine x_if_ne (tgt := 11) hx hb rx1 dX10_atOnce_6 (by decide) (fun c4 => ?_) (fun c4 => ?_)
  · skip
    refine x_aload_n hx hb hl 0 rfl dX10_atOnce_11 rfl ?_
    refine x_get (j := 5) (v := .ref (h0 + 128)) hx hb hown hT hE hW cls_X10 (Or.inl (by decide)) (so_0 h0 g _) (by decide) rfl wq517 dX10_atOnce_12 ?_
    refine x_aload_n hx hb hl 0 rfl dX10_atOnce_15 rfl ?_
    refine x_get (j := 8) (v := .ref (h0 + 136)) hx hb hown hT hE hW cls_X10 (Or.inl (by decide)) (so_0 h0 g _) (by decide) rfl wq520 dX10_atOnce_16 ?_
    refine x_gov (x_runVN (As := [.ref (h0 + 136)]) hx hb hml hown hT hE hW hl.1 (Or.inl (by decide)) (so_128 h0 g _) rfl cf_X0_castCloudless wq943 wq69 wn954 (c_X0_castCloudless l D g T h0 s0 hW.2.1 136 xd_136 p0 p2 p3 p4 p5) ⟨rfl, rfl, ⟨by decide, by decide⟩, ⟨by decide, by decide⟩⟩ rfl rfl (Nat.le_of_ble_eq_true rfl) dX10_atOnce_19) hW (fun s6 H locs hp7 hW => ?_)
    obtain ⟨fs6, hp7⟩ := hp7
    have hF8 := hF.call fs6 (fun k h => by omega)
    have q9 : s6 137 = fun _ => (-1) := (fs6 _ (by omega)).trans p0
    have q10 : s6 142 = fun _ => (-1) := (fs6 _ (by omega)).trans p1
    have q11 : s6 4 = fun _ => 0 := (fs6 _ (by omega)).trans p2
    have q12 : s6 129 = fun _ => (-1) := (fs6 _ (by omega)).trans p3
    have q13 : s6 109 6 = 0 := (congrFun (fs6 _ (by omega)) _).trans p5
    have ghp7 := hp7.2
    refine x_iload_n hx hb hl 1 rfl dX10_atOnce_22 rfl ?_
    refine x_if_ne (tgt := 38) hx hb rx dX10_atOnce_23 (by decide) (fun c14 => ?_) (fun c14 => ?_)
    · skip
      refine x_iload_n hx hb hl 1 rfl dX10_atOnce_38 rfl ?_
      refine x_iconst hx hb dX10_atOnce_39 ?_
      refine x_icmp_ne (tgt := 56) hx hb rx (by decide) dX10_atOnce_40 (by decide) (fun c15 => ?_) (fun c15 => ?_)
      · skip
        refine x_aload_n hx hb hl 0 rfl dX10_atOnce_56 rfl ?_
        refine x_get (j := 5) (v := .ref (h0 + 128)) hx hb hown hT hE hW cls_X10 (Or.inl (by decide)) (so_0 h0 g _) (by decide) rfl wq517 dX10_atOnce_57 ?_
        refine x_getN (j := 3) (v := .ref (h0 + 130)) hx hb hown hT hE hW cls_X0 (Or.inl (by decide)) (so_128 h0 g _) (by decide) rfl wn360 dX10_atOnce_60 ?_
        refine x_goi (x_runVN (As := []) hx hb hml hown hT hE hW hl.1 (Or.inl (by decide)) (so_130 h0 g _) rfl cf_X7_howManyInMore wq978 wq74 wn976 (c_X7_howManyInMore l D g T h0 s6 hW.2.1 hp7.1.1) ⟨rfl, rfl, ⟨by decide, by decide⟩, ⟨by decide, by decide⟩⟩ rfl rfl (Nat.le_of_ble_eq_true rfl) dX10_atOnce_63) hW (fun x16 s17 H locs rx16 hp18 hW => ?_)
        obtain ⟨es17, hp18⟩ := hp18
        subst es17
        have ghp18 := hp18
        rw [eQ]
        exact x_iret hx hb hr hlk hW rx16 ⟨hF8, by omega⟩ dX10_atOnce_66
      refine x_aload_n hx hb hl 0 rfl dX10_atOnce_43 rfl ?_
      refine x_get (j := 5) (v := .ref (h0 + 128)) hx hb hown hT hE hW cls_X10 (Or.inl (by decide)) (so_0 h0 g _) (by decide) rfl wq517 dX10_atOnce_44 ?_
      refine x_getN (j := 3) (v := .ref (h0 + 130)) hx hb hown hT hE hW cls_X0 (Or.inl (by decide)) (so_128 h0 g _) (by decide) rfl wn360 dX10_atOnce_47 ?_
      refine x_getN (j := 3) (v := .int (xJ (s6 130 3))) hx hb hown hT hE hW cls_X7 (Or.inl (by decide)) (so_130 h0 g _) (by decide) rfl wn341 dX10_atOnce_50 ?_
      refine x_rd hW (fun x19 ex19 rx19 => ?_)
      have fx19 : x19 = 0 := by rw [ex19, hp7.1.1]
      refine lv_goto (tgt := 66) hx hb dX10_atOnce_53 (by decide) ?_
      rw [eQ]
      exact x_iret hx hb hr hlk hW rx19 ⟨hF8, by omega⟩ dX10_atOnce_66
    refine x_aload_n hx hb hl 0 rfl dX10_atOnce_26 rfl ?_
    refine x_get (j := 7) (v := .ref (h0 + 261)) hx hb hown hT hE hW cls_X10 (Or.inl (by decide)) (so_0 h0 g _) (by decide) rfl wq519 dX10_atOnce_27 ?_
    refine x_aload_n hx hb hl 0 rfl dX10_atOnce_30 rfl ?_
    refine x_get (j := 8) (v := .ref (h0 + 136)) hx hb hown hT hE hW cls_X10 (Or.inl (by decide)) (so_0 h0 g _) (by decide) rfl wq520 dX10_atOnce_31 ?_
    refine x_goi (x_runVN (As := [.ref (h0 + 136)]) hx hb hml hown hT hE hW hl.1 (Or.inl (by decide)) (so_261 h0 g _) rfl cf_X1_most wq957 wq70 wn955 (c_X1_most l D g T h0 s6 hW.2.1 136 xd_136 q10) ⟨rfl, rfl, ⟨by decide, by decide⟩, ⟨by decide, by decide⟩⟩ rfl rfl (Nat.le_of_ble_eq_true rfl) dX10_atOnce_34) hW (fun x20 s21 H locs rx20 hp22 hW => ?_)
    obtain ⟨fs21, hp22⟩ := hp22
    have hF23 := hF8.call fs21 (fun k h => by omega)
    have q24 : s21 137 = fun _ => (-1) := (fs21 _ (by omega)).trans q9
    have q25 : s21 142 = fun _ => (-1) := (fs21 _ (by omega)).trans q10
    have q26 : s21 4 = fun _ => 0 := (fs21 _ (by omega)).trans q11
    have q27 : s21 129 = fun _ => (-1) := (fs21 _ (by omega)).trans q12
    have q28 : s21 109 6 = 0 := (congrFun (fs21 _ (by omega)) _).trans q13
    have q29 : s21 130 3 = 0 := (congrFun (fs21 _ (by omega)) _).trans hp7.1.1
    have ghp22 := hp22
    rw [eQ]
    exact x_iret hx hb hr hlk hW rx20 ⟨hF23, by omega⟩ dX10_atOnce_37
  refine x_iconst hx hb dX10_atOnce_9 ?_
  rw [eQ]
  exact x_iret hx hb hr hlk hW (by decide) ⟨hF, by omega⟩ dX10_atOnce_10
set_option maxHeartbeats 4000000 in
set_option maxRecDepth 100000 in
theorem c_X10_home (l : Launch) (D : va_G) (g : xG) (T : Nat × Nat × Nat) (h0 : Nat) (s0 : xS) (hσ : xRR s0) (j : Int) (rj : xR j) (n : Int) (rn : xR n) (x : Int) (rx : xR x) (p0 : s0 137 = fun _ => (-1)) : Met l yX10_home (xws yX10_home cX10_home 5 (some .int)) { frames := 1, cells := 0, slots := 0, locals := 21 } (xP [.ref (h0 + 0), .int (xJ j), .int (xJ n), .int (xJ x)] D g T h0 s0) (xQi D g h0 (fun r τ => s0 = τ ∧ (r = -1))) 0 0 (xA h0) := by
  refine x_met hσ (by decide) (Nat.le_of_ble_eq_true rfl) ?_
  intro p e s m args below meth c hx hb hr hml hown hT hlk hnm hE hW ls hl
  have hl : lv_has ls 5 [(0, .ref (h0 + 0)), (1, .int (xJ j)), (2, .int (xJ n)), (3, .int (xJ x))] := hl
  obtain ⟨Q, eQ⟩ : ∃ Q, Q = MQ below (xQi D g h0 (fun r τ => s0 = τ ∧ (r = -1))) args s 0 0 (xA h0) := ⟨_, rfl⟩
  rw [← eQ]
  generalize hHe : ([] : List Loc) = locs at hW ⊢
  obtain ⟨H, eH⟩ : ∃ H, H = s.heap := ⟨_, rfl⟩
  rw [← eH] at hW ⊢
  refine x_aload_n hx hb hl 0 rfl dX10_home_0 rfl ?_
  refine x_get (j := 8) (v := .ref (h0 + 136)) hx hb hown hT hE hW cls_X10 (Or.inl (by decide)) (so_0 h0 g _) (by decide) rfl wq520 dX10_home_1 ?_
  refine x_iload_n hx hb hl 1 rfl dX10_home_4 rfl ?_
  refine x_goi (x_runVN (As := [.int (xJ j)]) hx hb hml hown hT hE hW hl.1 (Or.inl (by decide)) (so_136 h0 g _) rfl cf_X2_hasJudge wq773 wq37 wn911 (c_X2_hasJudge l D g T h0 s0 hW.2.1 136 xd_136 j rj p0) ⟨rfl, rfl, ⟨by decide, by decide⟩, ⟨by decide, by decide⟩⟩ rfl rfl (Nat.le_of_ble_eq_true rfl) dX10_home_5) hW (fun x1 s2 H locs rx1 hp3 hW => ?_)
  obtain ⟨es2, hp3⟩ := hp3
  subst es2
  have ghp3 := hp3
  refine x_if_eq (tgt := 20) hx hb rx1 dX10_home_8 (by decide) (fun c4 => ?_) (fun c4 => False.elim (by omega))
  refine x_iconst hx hb dX10_home_20 ?_
  rw [eQ]
  exact x_iret hx hb hr hlk hW (by decide) ⟨rfl, by omega⟩ dX10_home_21
set_option maxHeartbeats 4000000 in
set_option maxRecDepth 100000 in
theorem c_X10_first (l : Launch) (D : va_G) (g : xG) (T : Nat × Nat × Nat) (h0 : Nat) (s0 : xS) (hσ : xRR s0) (n : Int) (rn : xR n) (x : Int) (rx : xR x) (p0 : s0 137 = fun _ => (-1)) (p1 : s0 142 = fun _ => (-1)) (p2 : s0 143 = fun _ => 0) (p3 : 0 ≤ s0 136 7 ∧ s0 136 7 ≤ 9999) (p4 : 0 ≤ s0 136 8 ∧ s0 136 8 ≤ 65535) (p5 : s0 145 = fun _ => 0) (p6 : ∀ j : Int, 0 ≤ j → j < 2 → xAr s0 (s0 138 j).toNat) (p7 : s0 159 = fun _ => (-1)) (p8 : s0 164 = fun _ => (-1)) (p9 : s0 165 = fun _ => 0) (p10 : 0 ≤ s0 158 7 ∧ s0 158 7 ≤ 9999) (p11 : 0 ≤ s0 158 8 ∧ s0 158 8 ≤ 65535) (p12 : s0 167 = fun _ => 0) (p13 : s0 4 = fun _ => 0) (p14 : s0 129 = fun _ => (-1)) (p15 : s0 130 3 = 0) (p16 : s0 109 6 = 0) : Met l yX10_first (xws yX10_first cX10_first 4 (some .int)) { frames := 5, cells := 0, slots := 0, locals := 124 } (xP [.ref (h0 + 0), .int (xJ n), .int (xJ x)] D g T h0 s0) (xQi D g h0 (fun r τ => xFr (fun k => k = 115 ∨ k = 130 ∨ k = 156 ∨ k = 158 ∨ k = 159 ∨ k = 160 ∨ k = 163 ∨ k = 164 ∨ k = 165 ∨ k = 166 ∨ k = 167) s0 τ ∧ ((1 ≤ n ∧ n ≤ 60 ∧ ((x = 0 ∧ r = -2) ∨ (x = 1 ∧ r = 0))) ∨ (r = -1 ∧ ¬ (1 ≤ n ∧ n ≤ 60 ∧ 0 ≤ x ∧ x ≤ 1))))) 0 0 (xA h0) := by
  refine x_met hσ (by decide) (Nat.le_of_ble_eq_true rfl) ?_
  intro p e s m args below meth c hx hb hr hml hown hT hlk hnm hE hW ls hl
  have hl : lv_has ls 4 [(0, .ref (h0 + 0)), (1, .int (xJ n)), (2, .int (xJ x))] := hl
  obtain ⟨Q, eQ⟩ : ∃ Q, Q = MQ below (xQi D g h0 (fun r τ => xFr (fun k => k = 115 ∨ k = 130 ∨ k = 156 ∨ k = 158 ∨ k = 159 ∨ k = 160 ∨ k = 163 ∨ k = 164 ∨ k = 165 ∨ k = 166 ∨ k = 167) s0 τ ∧ ((1 ≤ n ∧ n ≤ 60 ∧ ((x = 0 ∧ r = -2) ∨ (x = 1 ∧ r = 0))) ∨ (r = -1 ∧ ¬ (1 ≤ n ∧ n ≤ 60 ∧ 0 ≤ x ∧ x ≤ 1))))) args s 0 0 (xA h0) := ⟨_, rfl⟩
  rw [← eQ]
  generalize hHe : ([] : List Loc) = locs at hW ⊢
  obtain ⟨H, eH⟩ : ∃ H, H = s.heap := ⟨_, rfl⟩
  rw [← eH] at hW ⊢
  have hF : xFr (fun k => k = 115 ∨ k = 130 ∨ k = 156 ∨ k = 158 ∨ k = 159 ∨ k = 160 ∨ k = 163 ∨ k = 164 ∨ k = 165 ∨ k = 166 ∨ k = 167) s0 s0 := xFr.rf
  refine x_iload_n hx hb hl 1 rfl dX10_first_0 rfl ?_
  refine x_iconst hx hb dX10_first_1 ?_
  refine x_bipush hx hb dX10_first_2 (by decide) ?_
  refine x_goi (x_runS (As := [.int (xJ n), .int (xJ 1), .int (xJ 60)]) hx hb hml hown hT hE hW hl.1 cf_X10_isIn wq562 wq561 (c_X10_isIn l D g T h0 s0 hW.2.1 n rn 1 (by decide) 60 (by decide)) ⟨rfl, rfl, ⟨by decide, by decide⟩, ⟨by decide, by decide⟩⟩ rfl rfl (Nat.le_of_ble_eq_true rfl) dX10_first_4) hW (fun x1 s2 H locs rx1 hp3 hW => ?_)
  obtain ⟨es2, hp3⟩ := hp3
  subst es2
  have ghp3 := hp3
  refine x_if_eq (tgt := 19) hx hb rx1 dX10_first_7 (by decide) (fun c4 => ?_) (fun c4 => ?_)
  · skip
    refine x_iconst hx hb dX10_first_19 ?_
    rw [eQ]
    exact x_iret hx hb hr hlk hW (by decide) ⟨hF, by omega⟩ dX10_first_20
  refine x_iload_n hx hb hl 2 rfl dX10_first_10 rfl ?_
  refine x_iconst hx hb dX10_first_11 ?_
  refine x_iconst hx hb dX10_first_12 ?_
  refine x_goi (x_runS (As := [.int (xJ x), .int (xJ 0), .int (xJ 1)]) hx hb hml hown hT hE hW hl.1 cf_X10_isIn wq562 wq561 (c_X10_isIn l D g T h0 s0 hW.2.1 x rx 0 (by decide) 1 (by decide)) ⟨rfl, rfl, ⟨by decide, by decide⟩, ⟨by decide, by decide⟩⟩ rfl rfl (Nat.le_of_ble_eq_true rfl) dX10_first_13) hW (fun x5 s6 H locs rx5 hp7 hW => ?_)
  obtain ⟨es6, hp7⟩ := hp7
  subst es6
  have ghp7 := hp7
  refine x_if_ne (tgt := 21) hx hb rx5 dX10_first_16 (by decide) (fun c8 => ?_) (fun c8 => ?_)
  · skip
    refine x_aload_n hx hb hl 0 rfl dX10_first_21 rfl ?_
    refine x_get (j := 6) (v := .ref (h0 + 156)) hx hb hown hT hE hW cls_X10 (Or.inl (by decide)) (so_0 h0 g _) (by decide) rfl wq518 dX10_first_22 ?_
    refine x_iload_n hx hb hl 1 rfl dX10_first_25 rfl ?_
    refine x_goi (x_runVN (As := [.int (xJ n)]) hx hb hml hown hT hE hW hl.1 (Or.inl (by decide)) (so_156 h0 g _) rfl cf_X3_bestAhead wq1039 wq83 wn1037 (c_X3_bestAhead l D g T h0 s0 hW.2.1 n rn p0 p1 p2 p3 p4 p5 p6 p7 p8 p9 p10 p11 p12 p13 p14 p15 p16) ⟨rfl, rfl, ⟨by decide, by decide⟩, ⟨by decide, by decide⟩⟩ rfl rfl (Nat.le_of_ble_eq_true rfl) dX10_first_26) hW (fun x9 s10 H locs rx9 hp11 hW => ?_)
    obtain ⟨fs10, hp11⟩ := hp11
    have hF12 := hF.call fs10 (fun k h => by omega)
    have q13 : s10 137 = fun _ => (-1) := (fs10 _ (by omega)).trans p0
    have q14 : s10 142 = fun _ => (-1) := (fs10 _ (by omega)).trans p1
    have q15 : s10 143 = fun _ => 0 := (fs10 _ (by omega)).trans p2
    have q16 : 0 ≤ s10 136 7 ∧ s10 136 7 ≤ 9999 := by rw [fs10 136 (by omega)]; exact p3
    have q17 : 0 ≤ s10 136 8 ∧ s10 136 8 ≤ 65535 := by rw [fs10 136 (by omega)]; exact p4
    have q18 : s10 145 = fun _ => 0 := (fs10 _ (by omega)).trans p5
    have q19 : ∀ j : Int, 0 ≤ j → j < 2 → xAr s10 (s10 138 j).toNat := by intro j h1 h2; rw [fs10 138 (by omega)]; exact (p6 j h1 h2).f (fs10 999997 (by omega))
    have q20 : s10 4 = fun _ => 0 := (fs10 _ (by omega)).trans p13
    have q21 : s10 129 = fun _ => (-1) := (fs10 _ (by omega)).trans p14
    have q22 : s10 109 6 = 0 := (congrFun (fs10 _ (by omega)) _).trans p16
    have ghp11 := hp11.2
    refine lv_istore_n (lv' := [(3, .int (xJ x9)), (0, .ref (h0 + 0)), (1, .int (xJ n)), (2, .int (xJ x))]) hx hb dX10_first_29 rfl hl (by decide) rfl (fun ls hl => ?_)
    refine x_iload_n hx hb hl 3 rfl dX10_first_30 rfl ?_
    refine x_if_ne (tgt := 44) hx hb rx dX10_first_31 (by decide) (fun c23 => ?_) (fun c23 => ?_)
    · skip
      refine x_iload_n hx hb hl 0 rfl dX10_first_44 rfl ?_
      rw [eQ]
      exact x_iret hx hb hr hlk hW rx9 ⟨hF12, by omega⟩ dX10_first_45
    refine x_aload_n hx hb hl 1 rfl dX10_first_34 rfl ?_
    refine x_get (j := 6) (v := .ref (h0 + 156)) hx hb hown hT hE hW cls_X10 (Or.inl (by decide)) (so_0 h0 g _) (by decide) rfl wq518 dX10_first_35 ?_
    refine x_getN (j := 6) (v := .int (xJ (s10 156 6))) hx hb hown hT hE hW cls_X3 (Or.inl (by decide)) (so_156 h0 g _) (by decide) rfl wn458 dX10_first_38 ?_
    refine x_rd hW (fun x24 ex24 rx24 => ?_)
    have fx24 : x24 = (-2) := by rw [ex24, hp11.1.1]
    refine lv_goto (tgt := 45) hx hb dX10_first_41 (by decide) ?_
    rw [eQ]
    exact x_iret hx hb hr hlk hW rx24 ⟨hF12, by omega⟩ dX10_first_45
  refine x_iconst hx hb dX10_first_19 ?_
  rw [eQ]
  exact x_iret hx hb hr hlk hW (by decide) ⟨hF, by omega⟩ dX10_first_20
set_option maxHeartbeats 4000000 in
set_option maxRecDepth 100000 in
theorem c_X10_dark (l : Launch) (D : va_G) (g : xG) (T : Nat × Nat × Nat) (h0 : Nat) (s0 : xS) (hσ : xRR s0) (n : Int) (rn : xR n) (x : Int) (rx : xR x) (p0 : s0 137 = fun _ => (-1)) (p1 : s0 142 = fun _ => (-1)) (p2 : s0 143 = fun _ => 0) (p3 : 0 ≤ s0 136 7 ∧ s0 136 7 ≤ 9999) (p4 : 0 ≤ s0 136 8 ∧ s0 136 8 ≤ 65535) (p5 : s0 145 = fun _ => 0) (p6 : ∀ j : Int, 0 ≤ j → j < 2 → xAr s0 (s0 138 j).toNat) (p7 : s0 159 = fun _ => (-1)) (p8 : s0 164 = fun _ => (-1)) (p9 : s0 165 = fun _ => 0) (p10 : 0 ≤ s0 158 7 ∧ s0 158 7 ≤ 9999) (p11 : 0 ≤ s0 158 8 ∧ s0 158 8 ≤ 65535) (p12 : s0 167 = fun _ => 0) (p13 : s0 4 = fun _ => 0) (p14 : s0 129 = fun _ => (-1)) (p15 : s0 130 3 = 0) (p16 : s0 109 6 = 0) (p17 : s0 226 = fun _ => 0) : Met l yX10_dark (xws yX10_dark cX10_dark 4 (some .int)) { frames := 5, cells := 0, slots := 0, locals := 119 } (xP [.ref (h0 + 0), .int (xJ n), .int (xJ x)] D g T h0 s0) (xQi D g h0 (fun r τ => xFr (fun k => k = 130 ∨ k = 158 ∨ k = 159 ∨ k = 160 ∨ k = 163 ∨ k = 164 ∨ k = 165 ∨ k = 166 ∨ k = 167 ∨ k = 226) s0 τ ∧ ((1 ≤ n ∧ n ≤ 60 ∧ ((x = 0 ∧ r = 100) ∨ (x = 1 ∧ r = 0) ∨ (x = 2 ∧ r = 0))) ∨ (r = -1 ∧ ¬ (1 ≤ n ∧ n ≤ 60 ∧ 0 ≤ x ∧ x ≤ 2))))) 0 0 (xA h0) := by
  refine x_met hσ (by decide) (Nat.le_of_ble_eq_true rfl) ?_
  intro p e s m args below meth c hx hb hr hml hown hT hlk hnm hE hW ls hl
  have hl : lv_has ls 4 [(0, .ref (h0 + 0)), (1, .int (xJ n)), (2, .int (xJ x))] := hl
  obtain ⟨Q, eQ⟩ : ∃ Q, Q = MQ below (xQi D g h0 (fun r τ => xFr (fun k => k = 130 ∨ k = 158 ∨ k = 159 ∨ k = 160 ∨ k = 163 ∨ k = 164 ∨ k = 165 ∨ k = 166 ∨ k = 167 ∨ k = 226) s0 τ ∧ ((1 ≤ n ∧ n ≤ 60 ∧ ((x = 0 ∧ r = 100) ∨ (x = 1 ∧ r = 0) ∨ (x = 2 ∧ r = 0))) ∨ (r = -1 ∧ ¬ (1 ≤ n ∧ n ≤ 60 ∧ 0 ≤ x ∧ x ≤ 2))))) args s 0 0 (xA h0) := ⟨_, rfl⟩
  rw [← eQ]
  generalize hHe : ([] : List Loc) = locs at hW ⊢
  obtain ⟨H, eH⟩ : ∃ H, H = s.heap := ⟨_, rfl⟩
  rw [← eH] at hW ⊢
  have hF : xFr (fun k => k = 130 ∨ k = 158 ∨ k = 159 ∨ k = 160 ∨ k = 163 ∨ k = 164 ∨ k = 165 ∨ k = 166 ∨ k = 167 ∨ k = 226) s0 s0 := xFr.rf
  refine x_iload_n hx hb hl 1 rfl dX10_dark_0 rfl ?_
  refine x_iconst hx hb dX10_dark_1 ?_
  refine x_bipush hx hb dX10_dark_2 (by decide) ?_
  refine x_goi (x_runS (As := [.int (xJ n), .int (xJ 1), .int (xJ 60)]) hx hb hml hown hT hE hW hl.1 cf_X10_isIn wq562 wq561 (c_X10_isIn l D g T h0 s0 hW.2.1 n rn 1 (by decide) 60 (by decide)) ⟨rfl, rfl, ⟨by decide, by decide⟩, ⟨by decide, by decide⟩⟩ rfl rfl (Nat.le_of_ble_eq_true rfl) dX10_dark_4) hW (fun x1 s2 H locs rx1 hp3 hW => ?_)
  obtain ⟨es2, hp3⟩ := hp3
  subst es2
  have ghp3 := hp3
  refine x_if_eq (tgt := 19) hx hb rx1 dX10_dark_7 (by decide) (fun c4 => ?_) (fun c4 => ?_)
  · skip
    refine x_iconst hx hb dX10_dark_19 ?_
    rw [eQ]
    exact x_iret hx hb hr hlk hW (by decide) ⟨hF, by omega⟩ dX10_dark_20
  refine x_iload_n hx hb hl 2 rfl dX10_dark_10 rfl ?_
  refine x_iconst hx hb dX10_dark_11 ?_
  refine x_iconst hx hb dX10_dark_12 ?_
  refine x_goi (x_runS (As := [.int (xJ x), .int (xJ 0), .int (xJ 2)]) hx hb hml hown hT hE hW hl.1 cf_X10_isIn wq562 wq561 (c_X10_isIn l D g T h0 s0 hW.2.1 x rx 0 (by decide) 2 (by decide)) ⟨rfl, rfl, ⟨by decide, by decide⟩, ⟨by decide, by decide⟩⟩ rfl rfl (Nat.le_of_ble_eq_true rfl) dX10_dark_13) hW (fun x5 s6 H locs rx5 hp7 hW => ?_)
  obtain ⟨es6, hp7⟩ := hp7
  subst es6
  have ghp7 := hp7
  refine x_if_ne (tgt := 21) hx hb rx5 dX10_dark_16 (by decide) (fun c8 => ?_) (fun c8 => ?_)
  · skip
    refine x_aload_n hx hb hl 0 rfl dX10_dark_21 rfl ?_
    refine x_get (j := 6) (v := .ref (h0 + 156)) hx hb hown hT hE hW cls_X10 (Or.inl (by decide)) (so_0 h0 g _) (by decide) rfl wq518 dX10_dark_22 ?_
    refine x_iload_n hx hb hl 1 rfl dX10_dark_25 rfl ?_
    refine x_gov (x_runVN (As := [.int (xJ n)]) hx hb hml hown hT hE hW hl.1 (Or.inl (by decide)) (so_156 h0 g _) rfl cf_X3_countShadedMinutes wq1048 wq84 wn1046 (c_X3_countShadedMinutes l D g T h0 s0 hW.2.1 n rn p0 p1 p2 p3 p4 p5 p6 p7 p8 p9 p10 p11 p12 p13 p14 p15 p16 p17) ⟨rfl, rfl, ⟨by decide, by decide⟩, ⟨by decide, by decide⟩⟩ rfl rfl (Nat.le_of_ble_eq_true rfl) dX10_dark_26) hW (fun s10 H locs hp11 hW => ?_)
    obtain ⟨fs10, hp11⟩ := hp11
    have hF12 := hF.call fs10 (fun k h => by omega)
    have q13 : s10 137 = fun _ => (-1) := (fs10 _ (by omega)).trans p0
    have q14 : s10 142 = fun _ => (-1) := (fs10 _ (by omega)).trans p1
    have q15 : s10 143 = fun _ => 0 := (fs10 _ (by omega)).trans p2
    have q16 : 0 ≤ s10 136 7 ∧ s10 136 7 ≤ 9999 := by rw [fs10 136 (by omega)]; exact p3
    have q17 : 0 ≤ s10 136 8 ∧ s10 136 8 ≤ 65535 := by rw [fs10 136 (by omega)]; exact p4
    have q18 : s10 145 = fun _ => 0 := (fs10 _ (by omega)).trans p5
    have q19 : ∀ j : Int, 0 ≤ j → j < 2 → xAr s10 (s10 138 j).toNat := by intro j h1 h2; rw [fs10 138 (by omega)]; exact (p6 j h1 h2).f (fs10 999997 (by omega))
    have q20 : s10 4 = fun _ => 0 := (fs10 _ (by omega)).trans p13
    have q21 : s10 129 = fun _ => (-1) := (fs10 _ (by omega)).trans p14
    have q22 : s10 109 6 = 0 := (congrFun (fs10 _ (by omega)) _).trans p16
    have ghp11 := hp11.2
    refine x_iload_n hx hb hl 2 rfl dX10_dark_29 rfl ?_
    refine x_if_ne (tgt := 41) hx hb rx dX10_dark_30 (by decide) (fun c23 => ?_) (fun c23 => ?_)
    · skip
      refine x_aload_n hx hb hl 0 rfl dX10_dark_41 rfl ?_
      refine x_get (j := 6) (v := .ref (h0 + 156)) hx hb hown hT hE hW cls_X10 (Or.inl (by decide)) (so_0 h0 g _) (by decide) rfl wq518 dX10_dark_42 ?_
      refine x_goi (x_runVN (As := []) hx hb hml hown hT hE hW hl.1 (Or.inl (by decide)) (so_156 h0 g _) rfl cf_X3_mostShaded wq1057 wq86 wn1055 (c_X3_mostShaded l D g T h0 s10 hW.2.1 hp11.1.1 q20) ⟨rfl, rfl, ⟨by decide, by decide⟩, ⟨by decide, by decide⟩⟩ rfl rfl (Nat.le_of_ble_eq_true rfl) dX10_dark_45) hW (fun x24 s25 H locs rx24 hp26 hW => ?_)
      obtain ⟨es25, hp26⟩ := hp26
      subst es25
      have ghp26 := hp26
      refine lv_istore_n (lv' := [(3, .int (xJ x24)), (0, .ref (h0 + 0)), (1, .int (xJ n)), (2, .int (xJ x))]) hx hb dX10_dark_48 rfl hl (by decide) rfl (fun ls hl => ?_)
      refine x_iload_n hx hb hl 3 rfl dX10_dark_49 rfl ?_
      refine x_iconst hx hb dX10_dark_50 ?_
      refine x_icmp_ne (tgt := 66) hx hb rx (by decide) dX10_dark_51 (by decide) (fun c27 => ?_) (fun c27 => ?_)
      · skip
        refine x_iload_n hx hb hl 0 rfl dX10_dark_66 rfl ?_
        refine x_iconst hx hb dX10_dark_67 ?_
        refine x_icmp_ne (tgt := 75) hx hb rx24 (by decide) dX10_dark_68 (by decide) (fun c28 => ?_) (fun c28 => ?_)
        · skip
          refine x_aload_n hx hb hl 1 rfl dX10_dark_75 rfl ?_
          refine x_get (j := 6) (v := .ref (h0 + 156)) hx hb hown hT hE hW cls_X10 (Or.inl (by decide)) (so_0 h0 g _) (by decide) rfl wq518 dX10_dark_76 ?_
          refine x_getN (j := 7) (v := .ref (h0 + 226)) hx hb hown hT hE hW cls_X3 (Or.inl (by decide)) (so_156 h0 g _) (by decide) rfl wn460 dX10_dark_79 ?_
          refine x_iload_n hx hb hl 0 rfl dX10_dark_82 rfl ?_
          refine x_iald hx hb hE hW (Or.inl (by decide)) (sa_226 h0 g _) (by omega) (by decide) dX10_dark_83 ?_
          refine x_rd hW (fun x29 ex29 rx29 => ?_)
          have fx29 : x29 = 0 := by rw [ex29, hp11.1.1]
          rw [eQ]
          exact x_iret hx hb hr hlk hW rx29 ⟨hF12, by omega⟩ dX10_dark_84
        refine x_iconst hx hb dX10_dark_71 ?_
        refine lv_goto (tgt := 84) hx hb dX10_dark_72 (by decide) ?_
        rw [eQ]
        exact x_iret hx hb hr hlk hW (by decide) ⟨hF12, by omega⟩ dX10_dark_84
      refine x_iload_n hx hb hl 0 rfl dX10_dark_54 rfl ?_
      refine x_iconst hx hb dX10_dark_55 ?_
      refine x_icmp_ne (tgt := 64) hx hb rx24 (by decide) dX10_dark_56 (by decide) (fun c30 => ?_) (fun c30 => ?_)
      · skip
        refine x_iload_n hx hb hl 0 rfl dX10_dark_64 rfl ?_
        rw [eQ]
        exact x_iret hx hb hr hlk hW rx24 ⟨hF12, by omega⟩ dX10_dark_65
      refine x_bipush hx hb dX10_dark_59 (by decide) ?_
      refine lv_goto (tgt := 65) hx hb dX10_dark_61 (by decide) ?_
      rw [eQ]
      exact x_iret hx hb hr hlk hW (by decide) ⟨hF12, by omega⟩ dX10_dark_65
    refine x_aload_n hx hb hl 0 rfl dX10_dark_33 rfl ?_
    refine x_get (j := 6) (v := .ref (h0 + 156)) hx hb hown hT hE hW cls_X10 (Or.inl (by decide)) (so_0 h0 g _) (by decide) rfl wq518 dX10_dark_34 ?_
    refine x_goi (x_runVN (As := []) hx hb hml hown hT hE hW hl.1 (Or.inl (by decide)) (so_156 h0 g _) rfl cf_X3_howManyNeverShaded wq1052 wq85 wn1050 (c_X3_howManyNeverShaded l D g T h0 s10 hW.2.1 hp11.1.1 q20) ⟨rfl, rfl, ⟨by decide, by decide⟩, ⟨by decide, by decide⟩⟩ rfl rfl (Nat.le_of_ble_eq_true rfl) dX10_dark_37) hW (fun x31 s32 H locs rx31 hp33 hW => ?_)
    obtain ⟨es32, hp33⟩ := hp33
    subst es32
    have ghp33 := hp33
    rw [eQ]
    exact x_iret hx hb hr hlk hW rx31 ⟨hF12, by omega⟩ dX10_dark_40
  refine x_iconst hx hb dX10_dark_19 ?_
  rw [eQ]
  exact x_iret hx hb hr hlk hW (by decide) ⟨hF, by omega⟩ dX10_dark_20
set_option maxHeartbeats 4000000 in
set_option maxRecDepth 100000 in
theorem c_X10_hung (l : Launch) (D : va_G) (g : xG) (T : Nat × Nat × Nat) (h0 : Nat) (s0 : xS) (hσ : xRR s0) (x : Int) (rx : xR x) (p0 : s0 137 = fun _ => (-1)) (p1 : s0 142 = fun _ => (-1)) (p2 : s0 4 = fun _ => 0) (p3 : s0 129 = fun _ => (-1)) (p4 : s0 130 3 = 0) : Met l yX10_hung (xws yX10_hung cX10_hung 6 (some .int)) { frames := 4, cells := 0, slots := 0, locals := 95 } (xP [.ref (h0 + 0), .int (xJ x)] D g T h0 s0) (xQi D g h0 (fun r τ => xFr (fun k => k = 130) s0 τ ∧ ((r = 0 ∧ 0 ≤ x ∧ x ≤ 1) ∨ (r = -1 ∧ (x < 0 ∨ 1 < x))))) 0 0 (xA h0) := by
  refine x_met hσ (by decide) (Nat.le_of_ble_eq_true rfl) ?_
  intro p e s m args below meth c hx hb hr hml hown hT hlk hnm hE hW ls hl
  have hl : lv_has ls 6 [(0, .ref (h0 + 0)), (1, .int (xJ x))] := hl
  obtain ⟨Q, eQ⟩ : ∃ Q, Q = MQ below (xQi D g h0 (fun r τ => xFr (fun k => k = 130) s0 τ ∧ ((r = 0 ∧ 0 ≤ x ∧ x ≤ 1) ∨ (r = -1 ∧ (x < 0 ∨ 1 < x))))) args s 0 0 (xA h0) := ⟨_, rfl⟩
  rw [← eQ]
  generalize hHe : ([] : List Loc) = locs at hW ⊢
  obtain ⟨H, eH⟩ : ∃ H, H = s.heap := ⟨_, rfl⟩
  rw [← eH] at hW ⊢
  have hF : xFr (fun k => k = 130) s0 s0 := xFr.rf
  refine x_iload_n hx hb hl 1 rfl dX10_hung_0 rfl ?_
  refine x_iconst hx hb dX10_hung_1 ?_
  refine x_iconst hx hb dX10_hung_2 ?_
  refine x_goi (x_runS (As := [.int (xJ x), .int (xJ 0), .int (xJ 1)]) hx hb hml hown hT hE hW hl.1 cf_X10_isIn wq562 wq561 (c_X10_isIn l D g T h0 s0 hW.2.1 x rx 0 (by decide) 1 (by decide)) ⟨rfl, rfl, ⟨by decide, by decide⟩, ⟨by decide, by decide⟩⟩ rfl rfl (Nat.le_of_ble_eq_true rfl) dX10_hung_3) hW (fun x1 s2 H locs rx1 hp3 hW => ?_)
  obtain ⟨es2, hp3⟩ := hp3
  subst es2
  have ghp3 := hp3
  refine x_if_ne (tgt := 11) hx hb rx1 dX10_hung_6 (by decide) (fun c4 => ?_) (fun c4 => ?_)
  · skip
    refine x_bipush hx hb dX10_hung_11 (by decide) ?_
    refine lv_istore_n (lv' := [(2, .int (xJ (-2))), (0, .ref (h0 + 0)), (1, .int (xJ x))]) hx hb dX10_hung_13 rfl hl (by decide) rfl (fun ls hl => ?_)
    refine x_iconst hx hb dX10_hung_14 ?_
    refine lv_istore_n (lv' := [(3, .int (xJ (-1))), (2, .int (xJ (-2))), (0, .ref (h0 + 0)), (1, .int (xJ x))]) hx hb dX10_hung_15 rfl hl (by decide) rfl (fun ls hl => ?_)
    refine x_iconst hx hb dX10_hung_16 ?_
    refine lv_istore (lv' := [(4, .int (xJ 0)), (3, .int (xJ (-1))), (2, .int (xJ (-2))), (0, .ref (h0 + 0)), (1, .int (xJ x))]) hx hb dX10_hung_17 hl (by decide) rfl (fun ls hl => ?_)
    have L19 : ∀ (fu : Nat) (i2_19 : Int) (i3_19 : Int) (i4_19 : Int) (s_19 : xS) (H : Heap) (locs : List Loc) (ls : Array Slot), (xR i2_19) → (xR i3_19) → (xR i4_19) → (xFr (fun k => k = 130) s0 s_19) → (s_19 137 = fun _ => (-1)) → (s_19 142 = fun _ => (-1)) → (s_19 4 = fun _ => 0) → (s_19 129 = fun _ => (-1)) → (s_19 130 3 = 0) → ((i4_19 = 0 ∧ i3_19 = -1 ∧ i2_19 = -2) ∨ (0 < i4_19 ∧ i3_19 = 0 ∧ i2_19 = 0)) → (i4_19 ≤ 100) → (100 - i4_19).toNat < fu → xW D g h0 s H locs s_19 → lv_has ls 6 [(0, .ref (h0 + 0)), (1, .int (xJ x)), (2, .int (xJ i2_19)), (3, .int (xJ i3_19)), (4, .int (xJ i4_19))] → W p l e { frames := 4, cells := 0, slots := 0, locals := 95 } s m args below meth c H locs 0 0 Q (F0 m 19 ls []) := by
      intro fu
      induction fu with
      | zero => intro i2_19 i3_19 i4_19 s_19 H locs ls ri2_19 ri3_19 ri4_19 hF_19 q19_0 q19_1 q19_2 q19_3 q19_4 v19_0 v19_1 hm; exact absurd hm (Nat.not_lt_zero _)
      | succ fu ih19 =>
        intro i2_19 i3_19 i4_19 s_19 H locs ls ri2_19 ri3_19 ri4_19 hF_19 q19_0 q19_1 q19_2 q19_3 q19_4 v19_0 v19_1 hm hW hl
        refine x_iload hx hb hl 4 rfl dX10_hung_19 ?_
        refine x_bipush hx hb dX10_hung_21 (by decide) ?_
        refine x_icmp_ge (tgt := 71) hx hb ri4_19 (by decide) dX10_hung_23 (by decide) (fun c5 => ?_) (fun c5 => ?_)
        · skip
          refine x_iload_n hx hb hl 1 rfl dX10_hung_71 rfl ?_
          refine x_if_ne (tgt := 79) hx hb rx dX10_hung_72 (by decide) (fun c6 => ?_) (fun c6 => ?_)
          · skip
            refine x_iload_n hx hb hl 3 rfl dX10_hung_79 rfl ?_
            refine x_iconst hx hb dX10_hung_80 ?_
            refine x_mmax hx hb hml hl.1 hown hT wq1073 wq594 wq180 wq595 ⟨by decide, Nat.le_of_ble_eq_true rfl, by decide, by decide⟩ ri3_19 (by decide) dX10_hung_81 ?_
            refine x_nm (fun x7 ex7 => ?_)
            have fx7 : (x7 = i3_19 ∧ 0 ≤ i3_19) ∨ (x7 = 0 ∧ i3_19 ≤ 0) := by rw [ex7]; split <;> omega
            rw [eQ]
            exact x_iret hx hb hr hlk hW (by omega) ⟨hF_19, by omega⟩ dX10_hung_84
          refine x_iload_n hx hb hl 2 rfl dX10_hung_75 rfl ?_
          refine lv_goto (tgt := 84) hx hb dX10_hung_76 (by decide) ?_
          rw [eQ]
          exact x_iret hx hb hr hlk hW ri2_19 ⟨hF_19, by omega⟩ dX10_hung_84
        refine x_aload_n hx hb hl 0 rfl dX10_hung_26 rfl ?_
        refine x_iload hx hb hl 4 rfl dX10_hung_27 ?_
        refine x_goi (x_runV (As := [.int (xJ i4_19)]) hx hb hml hown hT hE hW hl.1 (Or.inl (by decide)) (so_0 h0 g _) rfl cf_X10_isFreeForLamp wq1065 wq87 wq1063 (c_X10_isFreeForLamp l D g T h0 s_19 hW.2.1 i4_19 ri4_19 (by omega) q19_0 q19_1 q19_2 q19_3) ⟨rfl, rfl, ⟨by decide, by decide⟩, ⟨by decide, by decide⟩⟩ rfl rfl (Nat.le_of_ble_eq_true rfl) dX10_hung_29) hW (fun x8 s9 H locs rx8 hp10 hW => ?_)
        obtain ⟨es9, hp10⟩ := hp10
        subst es9
        have ghp10 := hp10
        refine x_if_ne (tgt := 38) hx hb rx8 dX10_hung_32 (by decide) (fun c11 => ?_) (fun c11 => False.elim (by omega))
        refine x_aload_n hx hb hl 0 rfl dX10_hung_38 rfl ?_
        refine x_get (j := 5) (v := .ref (h0 + 128)) hx hb hown hT hE hW cls_X10 (Or.inl (by decide)) (so_0 h0 g _) (by decide) rfl wq517 dX10_hung_39 ?_
        refine x_aload_n hx hb hl 0 rfl dX10_hung_42 rfl ?_
        refine x_get (j := 8) (v := .ref (h0 + 136)) hx hb hown hT hE hW cls_X10 (Or.inl (by decide)) (so_0 h0 g _) (by decide) rfl wq520 dX10_hung_43 ?_
        refine x_iload hx hb hl 4 rfl dX10_hung_46 ?_
        refine x_goi (x_runVN (As := [.ref (h0 + 136), .int (xJ i4_19)]) hx hb hml hown hT hE hW hl.1 (Or.inl (by decide)) (so_128 h0 g _) rfl cf_X0_spotsInLampShadows wq1071 wq88 wn1069 (c_X0_spotsInLampShadows l D g T h0 s_19 hW.2.1 136 xd_136 i4_19 ri4_19 q19_0 q19_2 q19_3 q19_4) ⟨rfl, rfl, ⟨by decide, by decide⟩, ⟨by decide, by decide⟩⟩ rfl rfl (Nat.le_of_ble_eq_true rfl) dX10_hung_48) hW (fun x12 s13 H locs rx12 hp14 hW => ?_)
        obtain ⟨fs13, hp14⟩ := hp14
        have hF15 := hF_19.call fs13 (fun k h => by omega)
        have q16 : s13 137 = fun _ => (-1) := (fs13 _ (by omega)).trans q19_0
        have q17 : s13 142 = fun _ => (-1) := (fs13 _ (by omega)).trans q19_1
        have q18 : s13 4 = fun _ => 0 := (fs13 _ (by omega)).trans q19_2
        have q19 : s13 129 = fun _ => (-1) := (fs13 _ (by omega)).trans q19_3
        have ghp14 := hp14.2
        refine lv_istore (lv' := [(5, .int (xJ x12)), (0, .ref (h0 + 0)), (1, .int (xJ x)), (2, .int (xJ i2_19)), (3, .int (xJ i3_19)), (4, .int (xJ i4_19))]) hx hb dX10_hung_51 hl (by decide) rfl (fun ls hl => ?_)
        refine x_iload hx hb hl 0 rfl dX10_hung_53 ?_
        refine x_iload_n hx hb hl 4 rfl dX10_hung_55 rfl ?_
        refine x_icmp_le (tgt := 65) hx hb rx12 ri3_19 dX10_hung_56 (by decide) (fun c20 => ?_) (fun c20 => ?_)
        · skip
          refine x_iinc (lv' := [(4, .int (xJ (i4_19 + 1))), (5, .int (xJ x12)), (0, .ref (h0 + 0)), (1, .int (xJ x)), (2, .int (xJ i2_19)), (3, .int (xJ i3_19))]) hx hb hl 5 rfl dX10_hung_65 (by decide) rfl (fun ls hl => ?_)
          refine lv_goto (tgt := 19) hx hb dX10_hung_68 (by decide) ?_
          exact ih19 i2_19 i3_19 (i4_19 + 1) s13 H locs ls ri2_19 ri3_19 (by omega) hF15 q16 q17 q18 q19 hp14.1.1 (by omega) (by omega) (by omega) hW (lv_sub hl [2, 3, 4, 5, 0] rfl)
        refine x_iload hx hb hl 0 rfl dX10_hung_59 ?_
        refine lv_istore_n (lv' := [(3, .int (xJ x12)), (5, .int (xJ x12)), (0, .ref (h0 + 0)), (1, .int (xJ x)), (2, .int (xJ i2_19)), (4, .int (xJ i4_19))]) hx hb dX10_hung_61 rfl hl (by decide) rfl (fun ls hl => ?_)
        refine x_iload hx hb hl 5 rfl dX10_hung_62 ?_
        refine lv_istore_n (lv' := [(2, .int (xJ i4_19)), (3, .int (xJ x12)), (5, .int (xJ x12)), (0, .ref (h0 + 0)), (1, .int (xJ x)), (4, .int (xJ i4_19))]) hx hb dX10_hung_64 rfl hl (by decide) rfl (fun ls hl => ?_)
        refine x_iinc (lv' := [(4, .int (xJ (i4_19 + 1))), (2, .int (xJ i4_19)), (3, .int (xJ x12)), (5, .int (xJ x12)), (0, .ref (h0 + 0)), (1, .int (xJ x))]) hx hb hl 5 rfl dX10_hung_65 (by decide) rfl (fun ls hl => ?_)
        refine lv_goto (tgt := 19) hx hb dX10_hung_68 (by decide) ?_
        exact ih19 i4_19 x12 (i4_19 + 1) s13 H locs ls ri4_19 rx12 (by omega) hF15 q16 q17 q18 q19 hp14.1.1 (by omega) (by omega) (by omega) hW (lv_sub hl [4, 5, 1, 2, 0] rfl)
    exact L19 ((100 - 0 : Int).toNat + 1) (-2) (-1) 0 s0 H locs ls (by decide) (by decide) (by decide) hF p0 p1 p2 p3 p4 (by omega) (by omega) (Nat.lt_succ_self _) hW (lv_sub hl [3, 4, 2, 1, 0] rfl)
  refine x_iconst hx hb dX10_hung_9 ?_
  rw [eQ]
  exact x_iret hx hb hr hlk hW (by decide) ⟨hF, by omega⟩ dX10_hung_10
set_option maxHeartbeats 4000000 in
set_option maxRecDepth 100000 in
theorem c_X10_feed (l : Launch) (D : va_G) (g : xG) (T : Nat × Nat × Nat) (h0 : Nat) (s0 : xS) (hσ : xRR s0) (v1 : Int) (rv1 : xR v1) (v2 : Int) (rv2 : xR v2) (v3 : Int) (rv3 : xR v3) (v4 : Int) (rv4 : xR v4) (v5 : Int) (rv5 : xR v5) (p0 : s0 1 1 = 0) : Met l yX10_feed (xws yX10_feed cX10_feed 6 (some .int)) { frames := 1, cells := 0, slots := 0, locals := 22 } (xP [.ref (h0 + 0), .int (xJ v1), .int (xJ v2), .int (xJ v3), .int (xJ v4), .int (xJ v5)] D g T h0 s0) (xQi D g h0 (fun r τ => xFr (fun k => k = 1 ∨ k = 2) s0 τ ∧ (r = 20))) 0 0 (xA h0) := by
  refine x_met hσ (by decide) (Nat.le_of_ble_eq_true rfl) ?_
  intro p e s m args below meth c hx hb hr hml hown hT hlk hnm hE hW ls hl
  have hl : lv_has ls 6 [(0, .ref (h0 + 0)), (1, .int (xJ v1)), (2, .int (xJ v2)), (3, .int (xJ v3)), (4, .int (xJ v4)), (5, .int (xJ v5))] := hl
  obtain ⟨Q, eQ⟩ : ∃ Q, Q = MQ below (xQi D g h0 (fun r τ => xFr (fun k => k = 1 ∨ k = 2) s0 τ ∧ (r = 20))) args s 0 0 (xA h0) := ⟨_, rfl⟩
  rw [← eQ]
  generalize hHe : ([] : List Loc) = locs at hW ⊢
  obtain ⟨H, eH⟩ : ∃ H, H = s.heap := ⟨_, rfl⟩
  rw [← eH] at hW ⊢
  have hF : xFr (fun k => k = 1 ∨ k = 2) s0 s0 := xFr.rf
  refine x_aload_n hx hb hl 0 rfl dX10_feed_0 rfl ?_
  refine x_get (j := 0) (v := .ref (h0 + 1)) hx hb hown hT hE hW cls_X10 (Or.inl (by decide)) (so_0 h0 g _) (by decide) rfl wq512 dX10_feed_1 ?_
  refine x_getN (j := 1) (v := .int (xJ (s0 1 1))) hx hb hown hT hE hW cls_X8 (Or.inl (by decide)) (so_1 h0 g _) (by decide) rfl wn198 dX10_feed_4 ?_
  refine x_rd hW (fun x1 ex1 rx1 => ?_)
  have fx1 : x1 = 0 := by rw [ex1, p0]
  refine x_sipush hx hb dX10_feed_7 (by decide) ?_
  refine x_icmp_le (tgt := 15) hx hb rx1 (by decide) dX10_feed_10 (by decide) (fun c2 => ?_) (fun c2 => False.elim (by omega))
  refine x_aload_n hx hb hl 0 rfl dX10_feed_15 rfl ?_
  refine x_get (j := 0) (v := .ref (h0 + 1)) hx hb hown hT hE hW cls_X10 (Or.inl (by decide)) (so_0 h0 g _) (by decide) rfl wq512 dX10_feed_16 ?_
  refine x_iload_n hx hb hl 1 rfl dX10_feed_19 rfl ?_
  refine x_gov (x_runVN (As := [.int (xJ v1)]) hx hb hml hown hT hE hW hl.1 (Or.inl (by decide)) (so_1 h0 g _) rfl cf_X8_putNumber wq555 wq0 wn553 (c_X8_putNumber l D g T h0 s0 hW.2.1 v1 rv1 0 (by omega) p0) ⟨rfl, rfl, ⟨by decide, by decide⟩, ⟨by decide, by decide⟩⟩ rfl rfl (Nat.le_of_ble_eq_true rfl) dX10_feed_20) hW (fun s4 H locs hp5 hW => ?_)
  obtain ⟨fs4, hp5⟩ := hp5
  have hF6 := hF.call fs4 (fun k h => by omega)
  have ghp5 := hp5.2
  refine x_aload_n hx hb hl 0 rfl dX10_feed_23 rfl ?_
  refine x_get (j := 0) (v := .ref (h0 + 1)) hx hb hown hT hE hW cls_X10 (Or.inl (by decide)) (so_0 h0 g _) (by decide) rfl wq512 dX10_feed_24 ?_
  refine x_iload_n hx hb hl 2 rfl dX10_feed_27 rfl ?_
  refine x_gov (x_runVN (As := [.int (xJ v2)]) hx hb hml hown hT hE hW hl.1 (Or.inl (by decide)) (so_1 h0 g _) rfl cf_X8_putNumber wq555 wq0 wn553 (c_X8_putNumber l D g T h0 s4 hW.2.1 v2 rv2 (0 + 4) (by omega) hp5.1.1) ⟨rfl, rfl, ⟨by decide, by decide⟩, ⟨by decide, by decide⟩⟩ rfl rfl (Nat.le_of_ble_eq_true rfl) dX10_feed_28) hW (fun s8 H locs hp9 hW => ?_)
  obtain ⟨fs8, hp9⟩ := hp9
  have hF10 := hF6.call fs8 (fun k h => by omega)
  have ghp9 := hp9.2
  refine x_aload_n hx hb hl 0 rfl dX10_feed_31 rfl ?_
  refine x_get (j := 0) (v := .ref (h0 + 1)) hx hb hown hT hE hW cls_X10 (Or.inl (by decide)) (so_0 h0 g _) (by decide) rfl wq512 dX10_feed_32 ?_
  refine x_iload_n hx hb hl 3 rfl dX10_feed_35 rfl ?_
  refine x_gov (x_runVN (As := [.int (xJ v3)]) hx hb hml hown hT hE hW hl.1 (Or.inl (by decide)) (so_1 h0 g _) rfl cf_X8_putNumber wq555 wq0 wn553 (c_X8_putNumber l D g T h0 s8 hW.2.1 v3 rv3 ((0 + 4) + 4) (by omega) hp9.1.1) ⟨rfl, rfl, ⟨by decide, by decide⟩, ⟨by decide, by decide⟩⟩ rfl rfl (Nat.le_of_ble_eq_true rfl) dX10_feed_36) hW (fun s12 H locs hp13 hW => ?_)
  obtain ⟨fs12, hp13⟩ := hp13
  have hF14 := hF10.call fs12 (fun k h => by omega)
  have ghp13 := hp13.2
  refine x_aload_n hx hb hl 0 rfl dX10_feed_39 rfl ?_
  refine x_get (j := 0) (v := .ref (h0 + 1)) hx hb hown hT hE hW cls_X10 (Or.inl (by decide)) (so_0 h0 g _) (by decide) rfl wq512 dX10_feed_40 ?_
  refine x_iload hx hb hl 4 rfl dX10_feed_43 ?_
  refine x_gov (x_runVN (As := [.int (xJ v4)]) hx hb hml hown hT hE hW hl.1 (Or.inl (by decide)) (so_1 h0 g _) rfl cf_X8_putNumber wq555 wq0 wn553 (c_X8_putNumber l D g T h0 s12 hW.2.1 v4 rv4 (((0 + 4) + 4) + 4) (by omega) hp13.1.1) ⟨rfl, rfl, ⟨by decide, by decide⟩, ⟨by decide, by decide⟩⟩ rfl rfl (Nat.le_of_ble_eq_true rfl) dX10_feed_45) hW (fun s16 H locs hp17 hW => ?_)
  obtain ⟨fs16, hp17⟩ := hp17
  have hF18 := hF14.call fs16 (fun k h => by omega)
  have ghp17 := hp17.2
  refine x_aload_n hx hb hl 0 rfl dX10_feed_48 rfl ?_
  refine x_get (j := 0) (v := .ref (h0 + 1)) hx hb hown hT hE hW cls_X10 (Or.inl (by decide)) (so_0 h0 g _) (by decide) rfl wq512 dX10_feed_49 ?_
  refine x_iload hx hb hl 5 rfl dX10_feed_52 ?_
  refine x_gov (x_runVN (As := [.int (xJ v5)]) hx hb hml hown hT hE hW hl.1 (Or.inl (by decide)) (so_1 h0 g _) rfl cf_X8_putNumber wq555 wq0 wn553 (c_X8_putNumber l D g T h0 s16 hW.2.1 v5 rv5 ((((0 + 4) + 4) + 4) + 4) (by omega) hp17.1.1) ⟨rfl, rfl, ⟨by decide, by decide⟩, ⟨by decide, by decide⟩⟩ rfl rfl (Nat.le_of_ble_eq_true rfl) dX10_feed_54) hW (fun s20 H locs hp21 hW => ?_)
  obtain ⟨fs20, hp21⟩ := hp21
  have hF22 := hF18.call fs20 (fun k h => by omega)
  have ghp21 := hp21.2
  refine x_aload_n hx hb hl 0 rfl dX10_feed_57 rfl ?_
  refine x_get (j := 0) (v := .ref (h0 + 1)) hx hb hown hT hE hW cls_X10 (Or.inl (by decide)) (so_0 h0 g _) (by decide) rfl wq512 dX10_feed_58 ?_
  refine x_getN (j := 1) (v := .int (xJ (s20 1 1))) hx hb hown hT hE hW cls_X8 (Or.inl (by decide)) (so_1 h0 g _) (by decide) rfl wn198 dX10_feed_61 ?_
  refine x_rd hW (fun x23 ex23 rx23 => ?_)
  have fx23 : x23 = (((((0 + 4) + 4) + 4) + 4) + 4) := by rw [ex23, hp21.1.1]
  rw [eQ]
  exact x_iret hx hb hr hlk hW rx23 ⟨hF22, by omega⟩ dX10_feed_64
set_option maxHeartbeats 4000000 in
set_option maxRecDepth 100000 in
theorem c_X10_market (l : Launch) (D : va_G) (g : xG) (T : Nat × Nat × Nat) (h0 : Nat) (s0 : xS) (hσ : xRR s0) (n : Int) (rn : xR n) (p0 : s0 1 1 = 0) : Met l yX10_market (xws yX10_market cX10_market 3 (some .int)) { frames := 1, cells := 0, slots := 0, locals := 22 } (xP [.ref (h0 + 0), .int (xJ n)] D g T h0 s0) (xQi D g h0 (fun r τ => s0 = τ ∧ (r = -1))) 0 0 (xA h0) := by
  refine x_met hσ (by decide) (Nat.le_of_ble_eq_true rfl) ?_
  intro p e s m args below meth c hx hb hr hml hown hT hlk hnm hE hW ls hl
  have hl : lv_has ls 3 [(0, .ref (h0 + 0)), (1, .int (xJ n))] := hl
  obtain ⟨Q, eQ⟩ : ∃ Q, Q = MQ below (xQi D g h0 (fun r τ => s0 = τ ∧ (r = -1))) args s 0 0 (xA h0) := ⟨_, rfl⟩
  rw [← eQ]
  generalize hHe : ([] : List Loc) = locs at hW ⊢
  obtain ⟨H, eH⟩ : ∃ H, H = s.heap := ⟨_, rfl⟩
  rw [← eH] at hW ⊢
  refine x_iload_n hx hb hl 1 rfl dX10_market_0 rfl ?_
  refine x_iconst hx hb dX10_market_1 ?_
  refine x_sipush hx hb dX10_market_2 (by decide) ?_
  refine x_goi (x_runS (As := [.int (xJ n), .int (xJ 1), .int (xJ 140)]) hx hb hml hown hT hE hW hl.1 cf_X10_isIn wq562 wq561 (c_X10_isIn l D g T h0 s0 hW.2.1 n rn 1 (by decide) 140 (by decide)) ⟨rfl, rfl, ⟨by decide, by decide⟩, ⟨by decide, by decide⟩⟩ rfl rfl (Nat.le_of_ble_eq_true rfl) dX10_market_5) hW (fun x1 s2 H locs rx1 hp3 hW => ?_)
  obtain ⟨es2, hp3⟩ := hp3
  subst es2
  have ghp3 := hp3
  refine x_if_eq (tgt := 22) hx hb rx1 dX10_market_8 (by decide) (fun c4 => ?_) (fun c4 => ?_)
  · skip
    refine x_iconst hx hb dX10_market_22 ?_
    rw [eQ]
    exact x_iret hx hb hr hlk hW (by decide) ⟨rfl, by omega⟩ dX10_market_23
  refine x_iload_n hx hb hl 1 rfl dX10_market_11 rfl ?_
  refine x_aload_n hx hb hl 0 rfl dX10_market_12 rfl ?_
  refine x_get (j := 0) (v := .ref (h0 + 1)) hx hb hown hT hE hW cls_X10 (Or.inl (by decide)) (so_0 h0 g _) (by decide) rfl wq512 dX10_market_13 ?_
  refine x_getN (j := 1) (v := .int (xJ (s0 1 1))) hx hb hown hT hE hW cls_X8 (Or.inl (by decide)) (so_1 h0 g _) (by decide) rfl wn198 dX10_market_16 ?_
  refine x_rd hW (fun x5 ex5 rx5 => ?_)
  have fx5 : x5 = 0 := by rw [ex5, p0]
  refine x_icmp_le (tgt := 24) hx hb rn rx5 dX10_market_19 (by decide) (fun c6 => False.elim (by omega)) (fun c6 => ?_)
  refine x_iconst hx hb dX10_market_22 ?_
  rw [eQ]
  exact x_iret hx hb hr hlk hW (by decide) ⟨rfl, by omega⟩ dX10_market_23
set_option maxHeartbeats 4000000 in
set_option maxRecDepth 100000 in
theorem c_X10_law (l : Launch) (D : va_G) (g : xG) (T : Nat × Nat × Nat) (h0 : Nat) (s0 : xS) (hσ : xRR s0) (n : Int) (rn : xR n) (p0 : s0 1 1 = 0) : Met l yX10_law (xws yX10_law cX10_law 3 (some .int)) { frames := 1, cells := 0, slots := 0, locals := 22 } (xP [.ref (h0 + 0), .int (xJ n)] D g T h0 s0) (xQi D g h0 (fun r τ => s0 = τ ∧ (r = -1))) 0 0 (xA h0) := by
  refine x_met hσ (by decide) (Nat.le_of_ble_eq_true rfl) ?_
  intro p e s m args below meth c hx hb hr hml hown hT hlk hnm hE hW ls hl
  have hl : lv_has ls 3 [(0, .ref (h0 + 0)), (1, .int (xJ n))] := hl
  obtain ⟨Q, eQ⟩ : ∃ Q, Q = MQ below (xQi D g h0 (fun r τ => s0 = τ ∧ (r = -1))) args s 0 0 (xA h0) := ⟨_, rfl⟩
  rw [← eQ]
  generalize hHe : ([] : List Loc) = locs at hW ⊢
  obtain ⟨H, eH⟩ : ∃ H, H = s.heap := ⟨_, rfl⟩
  rw [← eH] at hW ⊢
  refine x_iload_n hx hb hl 1 rfl dX10_law_0 rfl ?_
  refine x_iconst hx hb dX10_law_1 ?_
  refine x_sipush hx hb dX10_law_2 (by decide) ?_
  refine x_goi (x_runS (As := [.int (xJ n), .int (xJ 1), .int (xJ 240)]) hx hb hml hown hT hE hW hl.1 cf_X10_isIn wq562 wq561 (c_X10_isIn l D g T h0 s0 hW.2.1 n rn 1 (by decide) 240 (by decide)) ⟨rfl, rfl, ⟨by decide, by decide⟩, ⟨by decide, by decide⟩⟩ rfl rfl (Nat.le_of_ble_eq_true rfl) dX10_law_5) hW (fun x1 s2 H locs rx1 hp3 hW => ?_)
  obtain ⟨es2, hp3⟩ := hp3
  subst es2
  have ghp3 := hp3
  refine x_if_eq (tgt := 22) hx hb rx1 dX10_law_8 (by decide) (fun c4 => ?_) (fun c4 => ?_)
  · skip
    refine x_iconst hx hb dX10_law_22 ?_
    rw [eQ]
    exact x_iret hx hb hr hlk hW (by decide) ⟨rfl, by omega⟩ dX10_law_23
  refine x_iload_n hx hb hl 1 rfl dX10_law_11 rfl ?_
  refine x_aload_n hx hb hl 0 rfl dX10_law_12 rfl ?_
  refine x_get (j := 0) (v := .ref (h0 + 1)) hx hb hown hT hE hW cls_X10 (Or.inl (by decide)) (so_0 h0 g _) (by decide) rfl wq512 dX10_law_13 ?_
  refine x_getN (j := 1) (v := .int (xJ (s0 1 1))) hx hb hown hT hE hW cls_X8 (Or.inl (by decide)) (so_1 h0 g _) (by decide) rfl wn198 dX10_law_16 ?_
  refine x_rd hW (fun x5 ex5 rx5 => ?_)
  have fx5 : x5 = 0 := by rw [ex5, p0]
  refine x_icmp_le (tgt := 24) hx hb rn rx5 dX10_law_19 (by decide) (fun c6 => False.elim (by omega)) (fun c6 => ?_)
  refine x_iconst hx hb dX10_law_22 ?_
  rw [eQ]
  exact x_iret hx hb hr hlk hW (by decide) ⟨rfl, by omega⟩ dX10_law_23
set_option maxHeartbeats 4000000 in
set_option maxRecDepth 100000 in
theorem c_X10_walk (l : Launch) (D : va_G) (g : xG) (T : Nat × Nat × Nat) (h0 : Nat) (s0 : xS) (hσ : xRR s0) (j : Int) (rj : xR j) (n : Int) (rn : xR n) (p0 : s0 1 1 = 0) : Met l yX10_walk (xws yX10_walk cX10_walk 4 (some .int)) { frames := 1, cells := 0, slots := 0, locals := 22 } (xP [.ref (h0 + 0), .int (xJ j), .int (xJ n)] D g T h0 s0) (xQi D g h0 (fun r τ => s0 = τ ∧ (r = -1))) 0 0 (xA h0) := by
  refine x_met hσ (by decide) (Nat.le_of_ble_eq_true rfl) ?_
  intro p e s m args below meth c hx hb hr hml hown hT hlk hnm hE hW ls hl
  have hl : lv_has ls 4 [(0, .ref (h0 + 0)), (1, .int (xJ j)), (2, .int (xJ n))] := hl
  obtain ⟨Q, eQ⟩ : ∃ Q, Q = MQ below (xQi D g h0 (fun r τ => s0 = τ ∧ (r = -1))) args s 0 0 (xA h0) := ⟨_, rfl⟩
  rw [← eQ]
  generalize hHe : ([] : List Loc) = locs at hW ⊢
  obtain ⟨H, eH⟩ : ∃ H, H = s.heap := ⟨_, rfl⟩
  rw [← eH] at hW ⊢
  refine x_iload_n hx hb hl 1 rfl dX10_walk_0 rfl ?_
  refine x_iconst hx hb dX10_walk_1 ?_
  refine x_iconst hx hb dX10_walk_2 ?_
  refine x_goi (x_runS (As := [.int (xJ j), .int (xJ 0), .int (xJ 1)]) hx hb hml hown hT hE hW hl.1 cf_X10_isIn wq562 wq561 (c_X10_isIn l D g T h0 s0 hW.2.1 j rj 0 (by decide) 1 (by decide)) ⟨rfl, rfl, ⟨by decide, by decide⟩, ⟨by decide, by decide⟩⟩ rfl rfl (Nat.le_of_ble_eq_true rfl) dX10_walk_3) hW (fun x1 s2 H locs rx1 hp3 hW => ?_)
  obtain ⟨es2, hp3⟩ := hp3
  subst es2
  have ghp3 := hp3
  refine x_if_eq (tgt := 30) hx hb rx1 dX10_walk_6 (by decide) (fun c4 => ?_) (fun c4 => ?_)
  · skip
    refine x_iconst hx hb dX10_walk_30 ?_
    rw [eQ]
    exact x_iret hx hb hr hlk hW (by decide) ⟨rfl, by omega⟩ dX10_walk_31
  refine x_iload_n hx hb hl 2 rfl dX10_walk_9 rfl ?_
  refine x_iconst hx hb dX10_walk_10 ?_
  refine x_bipush hx hb dX10_walk_11 (by decide) ?_
  refine x_goi (x_runS (As := [.int (xJ n), .int (xJ 1), .int (xJ 80)]) hx hb hml hown hT hE hW hl.1 cf_X10_isIn wq562 wq561 (c_X10_isIn l D g T h0 s0 hW.2.1 n rn 1 (by decide) 80 (by decide)) ⟨rfl, rfl, ⟨by decide, by decide⟩, ⟨by decide, by decide⟩⟩ rfl rfl (Nat.le_of_ble_eq_true rfl) dX10_walk_13) hW (fun x5 s6 H locs rx5 hp7 hW => ?_)
  obtain ⟨es6, hp7⟩ := hp7
  subst es6
  have ghp7 := hp7
  refine x_if_eq (tgt := 30) hx hb rx5 dX10_walk_16 (by decide) (fun c8 => ?_) (fun c8 => ?_)
  · skip
    refine x_iconst hx hb dX10_walk_30 ?_
    rw [eQ]
    exact x_iret hx hb hr hlk hW (by decide) ⟨rfl, by omega⟩ dX10_walk_31
  refine x_iload_n hx hb hl 2 rfl dX10_walk_19 rfl ?_
  refine x_aload_n hx hb hl 0 rfl dX10_walk_20 rfl ?_
  refine x_get (j := 0) (v := .ref (h0 + 1)) hx hb hown hT hE hW cls_X10 (Or.inl (by decide)) (so_0 h0 g _) (by decide) rfl wq512 dX10_walk_21 ?_
  refine x_getN (j := 1) (v := .int (xJ (s0 1 1))) hx hb hown hT hE hW cls_X8 (Or.inl (by decide)) (so_1 h0 g _) (by decide) rfl wn198 dX10_walk_24 ?_
  refine x_rd hW (fun x9 ex9 rx9 => ?_)
  have fx9 : x9 = 0 := by rw [ex9, p0]
  refine x_icmp_le (tgt := 32) hx hb rn rx9 dX10_walk_27 (by decide) (fun c10 => False.elim (by omega)) (fun c10 => ?_)
  refine x_iconst hx hb dX10_walk_30 ?_
  rw [eQ]
  exact x_iret hx hb hr hlk hW (by decide) ⟨rfl, by omega⟩ dX10_walk_31
set_option maxHeartbeats 4000000 in
set_option maxRecDepth 100000 in
theorem c_X10_prints (l : Launch) (D : va_G) (g : xG) (T : Nat × Nat × Nat) (h0 : Nat) (s0 : xS) (hσ : xRR s0) (n : Int) (rn : xR n) (x : Int) (rx : xR x) (p0 : s0 1 1 = 0) : Met l yX10_prints (xws yX10_prints cX10_prints 4 (some .int)) { frames := 1, cells := 0, slots := 0, locals := 22 } (xP [.ref (h0 + 0), .int (xJ n), .int (xJ x)] D g T h0 s0) (xQi D g h0 (fun r τ => s0 = τ ∧ (r = -1))) 0 0 (xA h0) := by
  refine x_met hσ (by decide) (Nat.le_of_ble_eq_true rfl) ?_
  intro p e s m args below meth c hx hb hr hml hown hT hlk hnm hE hW ls hl
  have hl : lv_has ls 4 [(0, .ref (h0 + 0)), (1, .int (xJ n)), (2, .int (xJ x))] := hl
  obtain ⟨Q, eQ⟩ : ∃ Q, Q = MQ below (xQi D g h0 (fun r τ => s0 = τ ∧ (r = -1))) args s 0 0 (xA h0) := ⟨_, rfl⟩
  rw [← eQ]
  generalize hHe : ([] : List Loc) = locs at hW ⊢
  obtain ⟨H, eH⟩ : ∃ H, H = s.heap := ⟨_, rfl⟩
  rw [← eH] at hW ⊢
  refine x_iload_n hx hb hl 1 rfl dX10_prints_0 rfl ?_
  refine x_iconst hx hb dX10_prints_1 ?_
  refine x_bipush hx hb dX10_prints_2 (by decide) ?_
  refine x_goi (x_runS (As := [.int (xJ n), .int (xJ 2), .int (xJ 20)]) hx hb hml hown hT hE hW hl.1 cf_X10_isIn wq562 wq561 (c_X10_isIn l D g T h0 s0 hW.2.1 n rn 2 (by decide) 20 (by decide)) ⟨rfl, rfl, ⟨by decide, by decide⟩, ⟨by decide, by decide⟩⟩ rfl rfl (Nat.le_of_ble_eq_true rfl) dX10_prints_4) hW (fun x1 s2 H locs rx1 hp3 hW => ?_)
  obtain ⟨es2, hp3⟩ := hp3
  subst es2
  have ghp3 := hp3
  refine x_if_eq (tgt := 30) hx hb rx1 dX10_prints_7 (by decide) (fun c4 => ?_) (fun c4 => ?_)
  · skip
    refine x_iconst hx hb dX10_prints_30 ?_
    rw [eQ]
    exact x_iret hx hb hr hlk hW (by decide) ⟨rfl, by omega⟩ dX10_prints_31
  refine x_iload_n hx hb hl 2 rfl dX10_prints_10 rfl ?_
  refine x_iconst hx hb dX10_prints_11 ?_
  refine x_iconst hx hb dX10_prints_12 ?_
  refine x_goi (x_runS (As := [.int (xJ x), .int (xJ 0), .int (xJ 1)]) hx hb hml hown hT hE hW hl.1 cf_X10_isIn wq562 wq561 (c_X10_isIn l D g T h0 s0 hW.2.1 x rx 0 (by decide) 1 (by decide)) ⟨rfl, rfl, ⟨by decide, by decide⟩, ⟨by decide, by decide⟩⟩ rfl rfl (Nat.le_of_ble_eq_true rfl) dX10_prints_13) hW (fun x5 s6 H locs rx5 hp7 hW => ?_)
  obtain ⟨es6, hp7⟩ := hp7
  subst es6
  have ghp7 := hp7
  refine x_if_eq (tgt := 30) hx hb rx5 dX10_prints_16 (by decide) (fun c8 => ?_) (fun c8 => ?_)
  · skip
    refine x_iconst hx hb dX10_prints_30 ?_
    rw [eQ]
    exact x_iret hx hb hr hlk hW (by decide) ⟨rfl, by omega⟩ dX10_prints_31
  refine x_iload_n hx hb hl 1 rfl dX10_prints_19 rfl ?_
  refine x_aload_n hx hb hl 0 rfl dX10_prints_20 rfl ?_
  refine x_get (j := 0) (v := .ref (h0 + 1)) hx hb hown hT hE hW cls_X10 (Or.inl (by decide)) (so_0 h0 g _) (by decide) rfl wq512 dX10_prints_21 ?_
  refine x_getN (j := 1) (v := .int (xJ (s0 1 1))) hx hb hown hT hE hW cls_X8 (Or.inl (by decide)) (so_1 h0 g _) (by decide) rfl wn198 dX10_prints_24 ?_
  refine x_rd hW (fun x9 ex9 rx9 => ?_)
  have fx9 : x9 = 0 := by rw [ex9, p0]
  refine x_icmp_le (tgt := 32) hx hb rn rx9 dX10_prints_27 (by decide) (fun c10 => False.elim (by omega)) (fun c10 => ?_)
  refine x_iconst hx hb dX10_prints_30 ?_
  rw [eQ]
  exact x_iret hx hb hr hlk hW (by decide) ⟨rfl, by omega⟩ dX10_prints_31
set_option maxHeartbeats 4000000 in
set_option maxRecDepth 100000 in
theorem c_X10_cloudy (l : Launch) (D : va_G) (g : xG) (T : Nat × Nat × Nat) (h0 : Nat) (s0 : xS) (hσ : xRR s0) (n : Int) (rn : xR n) (w : Int) (rw : xR w) (x : Int) (rx : xR x) (p0 : s0 1 1 = 0) : Met l yX10_cloudy (xws yX10_cloudy cX10_cloudy 5 (some .int)) { frames := 1, cells := 0, slots := 0, locals := 22 } (xP [.ref (h0 + 0), .int (xJ n), .int (xJ w), .int (xJ x)] D g T h0 s0) (xQi D g h0 (fun r τ => s0 = τ ∧ (r = -1))) 0 0 (xA h0) := by
  refine x_met hσ (by decide) (Nat.le_of_ble_eq_true rfl) ?_
  intro p e s m args below meth c hx hb hr hml hown hT hlk hnm hE hW ls hl
  have hl : lv_has ls 5 [(0, .ref (h0 + 0)), (1, .int (xJ n)), (2, .int (xJ w)), (3, .int (xJ x))] := hl
  obtain ⟨Q, eQ⟩ : ∃ Q, Q = MQ below (xQi D g h0 (fun r τ => s0 = τ ∧ (r = -1))) args s 0 0 (xA h0) := ⟨_, rfl⟩
  rw [← eQ]
  generalize hHe : ([] : List Loc) = locs at hW ⊢
  obtain ⟨H, eH⟩ : ∃ H, H = s.heap := ⟨_, rfl⟩
  rw [← eH] at hW ⊢
  refine x_iload_n hx hb hl 1 rfl dX10_cloudy_0 rfl ?_
  refine x_iconst hx hb dX10_cloudy_1 ?_
  refine x_bipush hx hb dX10_cloudy_2 (by decide) ?_
  refine x_goi (x_runS (As := [.int (xJ n), .int (xJ 1), .int (xJ 10)]) hx hb hml hown hT hE hW hl.1 cf_X10_isIn wq562 wq561 (c_X10_isIn l D g T h0 s0 hW.2.1 n rn 1 (by decide) 10 (by decide)) ⟨rfl, rfl, ⟨by decide, by decide⟩, ⟨by decide, by decide⟩⟩ rfl rfl (Nat.le_of_ble_eq_true rfl) dX10_cloudy_4) hW (fun x1 s2 H locs rx1 hp3 hW => ?_)
  obtain ⟨es2, hp3⟩ := hp3
  subst es2
  have ghp3 := hp3
  refine x_if_eq (tgt := 40) hx hb rx1 dX10_cloudy_7 (by decide) (fun c4 => ?_) (fun c4 => ?_)
  · skip
    refine x_iconst hx hb dX10_cloudy_40 ?_
    rw [eQ]
    exact x_iret hx hb hr hlk hW (by decide) ⟨rfl, by omega⟩ dX10_cloudy_41
  refine x_iload_n hx hb hl 2 rfl dX10_cloudy_10 rfl ?_
  refine x_iconst hx hb dX10_cloudy_11 ?_
  refine x_bipush hx hb dX10_cloudy_12 (by decide) ?_
  refine x_goi (x_runS (As := [.int (xJ w), .int (xJ 0), .int (xJ 90)]) hx hb hml hown hT hE hW hl.1 cf_X10_isIn wq562 wq561 (c_X10_isIn l D g T h0 s0 hW.2.1 w rw 0 (by decide) 90 (by decide)) ⟨rfl, rfl, ⟨by decide, by decide⟩, ⟨by decide, by decide⟩⟩ rfl rfl (Nat.le_of_ble_eq_true rfl) dX10_cloudy_14) hW (fun x5 s6 H locs rx5 hp7 hW => ?_)
  obtain ⟨es6, hp7⟩ := hp7
  subst es6
  have ghp7 := hp7
  refine x_if_eq (tgt := 40) hx hb rx5 dX10_cloudy_17 (by decide) (fun c8 => ?_) (fun c8 => ?_)
  · skip
    refine x_iconst hx hb dX10_cloudy_40 ?_
    rw [eQ]
    exact x_iret hx hb hr hlk hW (by decide) ⟨rfl, by omega⟩ dX10_cloudy_41
  refine x_iload_n hx hb hl 3 rfl dX10_cloudy_20 rfl ?_
  refine x_iconst hx hb dX10_cloudy_21 ?_
  refine x_iconst hx hb dX10_cloudy_22 ?_
  refine x_goi (x_runS (As := [.int (xJ x), .int (xJ 0), .int (xJ 2)]) hx hb hml hown hT hE hW hl.1 cf_X10_isIn wq562 wq561 (c_X10_isIn l D g T h0 s0 hW.2.1 x rx 0 (by decide) 2 (by decide)) ⟨rfl, rfl, ⟨by decide, by decide⟩, ⟨by decide, by decide⟩⟩ rfl rfl (Nat.le_of_ble_eq_true rfl) dX10_cloudy_23) hW (fun x9 s10 H locs rx9 hp11 hW => ?_)
  obtain ⟨es10, hp11⟩ := hp11
  subst es10
  have ghp11 := hp11
  refine x_if_eq (tgt := 40) hx hb rx9 dX10_cloudy_26 (by decide) (fun c12 => ?_) (fun c12 => ?_)
  · skip
    refine x_iconst hx hb dX10_cloudy_40 ?_
    rw [eQ]
    exact x_iret hx hb hr hlk hW (by decide) ⟨rfl, by omega⟩ dX10_cloudy_41
  refine x_iload_n hx hb hl 1 rfl dX10_cloudy_29 rfl ?_
  refine x_aload_n hx hb hl 0 rfl dX10_cloudy_30 rfl ?_
  refine x_get (j := 0) (v := .ref (h0 + 1)) hx hb hown hT hE hW cls_X10 (Or.inl (by decide)) (so_0 h0 g _) (by decide) rfl wq512 dX10_cloudy_31 ?_
  refine x_getN (j := 1) (v := .int (xJ (s0 1 1))) hx hb hown hT hE hW cls_X8 (Or.inl (by decide)) (so_1 h0 g _) (by decide) rfl wn198 dX10_cloudy_34 ?_
  refine x_rd hW (fun x13 ex13 rx13 => ?_)
  have fx13 : x13 = 0 := by rw [ex13, p0]
  refine x_icmp_le (tgt := 42) hx hb rn rx13 dX10_cloudy_37 (by decide) (fun c14 => False.elim (by omega)) (fun c14 => ?_)
  refine x_iconst hx hb dX10_cloudy_40 ?_
  rw [eQ]
  exact x_iret hx hb hr hlk hW (by decide) ⟨rfl, by omega⟩ dX10_cloudy_41
set_option maxHeartbeats 4000000 in
set_option maxRecDepth 100000 in
theorem c_X10_together (l : Launch) (D : va_G) (g : xG) (T : Nat × Nat × Nat) (h0 : Nat) (s0 : xS) (hσ : xRR s0) (n : Int) (rn : xR n) (x : Int) (rx : xR x) (p0 : s0 1 1 = 0) : Met l yX10_together (xws yX10_together cX10_together 5 (some .int)) { frames := 1, cells := 0, slots := 0, locals := 22 } (xP [.ref (h0 + 0), .int (xJ n), .int (xJ x)] D g T h0 s0) (xQi D g h0 (fun r τ => s0 = τ ∧ (r = -1))) 0 0 (xA h0) := by
  refine x_met hσ (by decide) (Nat.le_of_ble_eq_true rfl) ?_
  intro p e s m args below meth c hx hb hr hml hown hT hlk hnm hE hW ls hl
  have hl : lv_has ls 5 [(0, .ref (h0 + 0)), (1, .int (xJ n)), (2, .int (xJ x))] := hl
  obtain ⟨Q, eQ⟩ : ∃ Q, Q = MQ below (xQi D g h0 (fun r τ => s0 = τ ∧ (r = -1))) args s 0 0 (xA h0) := ⟨_, rfl⟩
  rw [← eQ]
  generalize hHe : ([] : List Loc) = locs at hW ⊢
  obtain ⟨H, eH⟩ : ∃ H, H = s.heap := ⟨_, rfl⟩
  rw [← eH] at hW ⊢
  refine x_iload_n hx hb hl 1 rfl dX10_together_0 rfl ?_
  refine x_iconst hx hb dX10_together_1 ?_
  refine x_bipush hx hb dX10_together_2 (by decide) ?_
  refine x_goi (x_runS (As := [.int (xJ n), .int (xJ 1), .int (xJ 8)]) hx hb hml hown hT hE hW hl.1 cf_X10_isIn wq562 wq561 (c_X10_isIn l D g T h0 s0 hW.2.1 n rn 1 (by decide) 8 (by decide)) ⟨rfl, rfl, ⟨by decide, by decide⟩, ⟨by decide, by decide⟩⟩ rfl rfl (Nat.le_of_ble_eq_true rfl) dX10_together_4) hW (fun x1 s2 H locs rx1 hp3 hW => ?_)
  obtain ⟨es2, hp3⟩ := hp3
  subst es2
  have ghp3 := hp3
  refine x_if_eq (tgt := 34) hx hb rx1 dX10_together_7 (by decide) (fun c4 => ?_) (fun c4 => ?_)
  · skip
    refine x_iconst hx hb dX10_together_34 ?_
    rw [eQ]
    exact x_iret hx hb hr hlk hW (by decide) ⟨rfl, by omega⟩ dX10_together_35
  refine x_iload_n hx hb hl 2 rfl dX10_together_10 rfl ?_
  refine x_iconst hx hb dX10_together_11 ?_
  refine x_iconst hx hb dX10_together_12 ?_
  refine x_goi (x_runS (As := [.int (xJ x), .int (xJ 0), .int (xJ 2)]) hx hb hml hown hT hE hW hl.1 cf_X10_isIn wq562 wq561 (c_X10_isIn l D g T h0 s0 hW.2.1 x rx 0 (by decide) 2 (by decide)) ⟨rfl, rfl, ⟨by decide, by decide⟩, ⟨by decide, by decide⟩⟩ rfl rfl (Nat.le_of_ble_eq_true rfl) dX10_together_13) hW (fun x5 s6 H locs rx5 hp7 hW => ?_)
  obtain ⟨es6, hp7⟩ := hp7
  subst es6
  have ghp7 := hp7
  refine x_if_eq (tgt := 34) hx hb rx5 dX10_together_16 (by decide) (fun c8 => ?_) (fun c8 => ?_)
  · skip
    refine x_iconst hx hb dX10_together_34 ?_
    rw [eQ]
    exact x_iret hx hb hr hlk hW (by decide) ⟨rfl, by omega⟩ dX10_together_35
  refine x_aload_n hx hb hl 0 rfl dX10_together_19 rfl ?_
  refine x_get (j := 0) (v := .ref (h0 + 1)) hx hb hown hT hE hW cls_X10 (Or.inl (by decide)) (so_0 h0 g _) (by decide) rfl wq512 dX10_together_20 ?_
  refine x_getN (j := 1) (v := .int (xJ (s0 1 1))) hx hb hown hT hE hW cls_X8 (Or.inl (by decide)) (so_1 h0 g _) (by decide) rfl wn198 dX10_together_23 ?_
  refine x_rd hW (fun x9 ex9 rx9 => ?_)
  have fx9 : x9 = 0 := by rw [ex9, p0]
  refine x_iconst hx hb dX10_together_26 ?_
  refine x_iload_n hx hb hl 1 rfl dX10_together_27 rfl ?_
  refine x_imul hx hb dX10_together_28 ?_
  refine x_iconst hx hb dX10_together_29 ?_
  refine x_iadd hx hb dX10_together_30 ?_
  refine x_icmp_ge (tgt := 36) hx hb rx9 (by omega) dX10_together_31 (by decide) (fun c10 => False.elim (by omega)) (fun c10 => ?_)
  refine x_iconst hx hb dX10_together_34 ?_
  rw [eQ]
  exact x_iret hx hb hr hlk hW (by decide) ⟨rfl, by omega⟩ dX10_together_35
set_option maxHeartbeats 4000000 in
set_option maxRecDepth 100000 in
theorem c_X10_servedBy (l : Launch) (D : va_G) (g : xG) (T : Nat × Nat × Nat) (h0 : Nat) (s0 : xS) (hσ : xRR s0) (n : Int) (rn : xR n) (x : Int) (rx : xR x) (p0 : s0 137 = fun _ => (-1)) : Met l yX10_servedBy (xws yX10_servedBy cX10_servedBy 4 (some .int)) { frames := 1, cells := 0, slots := 0, locals := 22 } (xP [.ref (h0 + 0), .int (xJ n), .int (xJ x)] D g T h0 s0) (xQi D g h0 (fun r τ => s0 = τ ∧ (r = -1))) 0 0 (xA h0) := by
  refine x_met hσ (by decide) (Nat.le_of_ble_eq_true rfl) ?_
  intro p e s m args below meth c hx hb hr hml hown hT hlk hnm hE hW ls hl
  have hl : lv_has ls 4 [(0, .ref (h0 + 0)), (1, .int (xJ n)), (2, .int (xJ x))] := hl
  obtain ⟨Q, eQ⟩ : ∃ Q, Q = MQ below (xQi D g h0 (fun r τ => s0 = τ ∧ (r = -1))) args s 0 0 (xA h0) := ⟨_, rfl⟩
  rw [← eQ]
  generalize hHe : ([] : List Loc) = locs at hW ⊢
  obtain ⟨H, eH⟩ : ∃ H, H = s.heap := ⟨_, rfl⟩
  rw [← eH] at hW ⊢
  refine x_iload_n hx hb hl 1 rfl dX10_servedBy_0 rfl ?_
  refine x_iconst hx hb dX10_servedBy_1 ?_
  refine x_bipush hx hb dX10_servedBy_2 (by decide) ?_
  refine x_goi (x_runS (As := [.int (xJ n), .int (xJ 1), .int (xJ 60)]) hx hb hml hown hT hE hW hl.1 cf_X10_isIn wq562 wq561 (c_X10_isIn l D g T h0 s0 hW.2.1 n rn 1 (by decide) 60 (by decide)) ⟨rfl, rfl, ⟨by decide, by decide⟩, ⟨by decide, by decide⟩⟩ rfl rfl (Nat.le_of_ble_eq_true rfl) dX10_servedBy_4) hW (fun x1 s2 H locs rx1 hp3 hW => ?_)
  obtain ⟨es2, hp3⟩ := hp3
  subst es2
  have ghp3 := hp3
  refine x_if_eq (tgt := 19) hx hb rx1 dX10_servedBy_7 (by decide) (fun c4 => ?_) (fun c4 => ?_)
  · skip
    refine x_iconst hx hb dX10_servedBy_19 ?_
    rw [eQ]
    exact x_iret hx hb hr hlk hW (by decide) ⟨rfl, by omega⟩ dX10_servedBy_20
  refine x_iload_n hx hb hl 2 rfl dX10_servedBy_10 rfl ?_
  refine x_iconst hx hb dX10_servedBy_11 ?_
  refine x_iconst hx hb dX10_servedBy_12 ?_
  refine x_goi (x_runS (As := [.int (xJ x), .int (xJ 0), .int (xJ 2)]) hx hb hml hown hT hE hW hl.1 cf_X10_isIn wq562 wq561 (c_X10_isIn l D g T h0 s0 hW.2.1 x rx 0 (by decide) 2 (by decide)) ⟨rfl, rfl, ⟨by decide, by decide⟩, ⟨by decide, by decide⟩⟩ rfl rfl (Nat.le_of_ble_eq_true rfl) dX10_servedBy_13) hW (fun x5 s6 H locs rx5 hp7 hW => ?_)
  obtain ⟨es6, hp7⟩ := hp7
  subst es6
  have ghp7 := hp7
  refine x_if_ne (tgt := 21) hx hb rx5 dX10_servedBy_16 (by decide) (fun c8 => ?_) (fun c8 => ?_)
  · skip
    refine x_iload_n hx hb hl 2 rfl dX10_servedBy_21 rfl ?_
    refine x_iconst hx hb dX10_servedBy_22 ?_
    refine x_icmp_eq (tgt := 37) hx hb rx (by decide) dX10_servedBy_23 (by decide) (fun c9 => ?_) (fun c9 => ?_)
    · skip
      refine x_iload_n hx hb hl 2 rfl dX10_servedBy_37 rfl ?_
      refine x_if_eq (tgt := 54) hx hb rx dX10_servedBy_38 (by decide) (fun c10 => False.elim (by omega)) (fun c10 => ?_)
      refine x_aload_n hx hb hl 0 rfl dX10_servedBy_41 rfl ?_
      refine x_get (j := 8) (v := .ref (h0 + 136)) hx hb hown hT hE hW cls_X10 (Or.inl (by decide)) (so_0 h0 g _) (by decide) rfl wq520 dX10_servedBy_42 ?_
      refine x_iconst hx hb dX10_servedBy_45 ?_
      refine x_goi (x_runVN (As := [.int (xJ 1)]) hx hb hml hown hT hE hW hl.1 (Or.inl (by decide)) (so_136 h0 g _) rfl cf_X2_hasJudge wq773 wq37 wn911 (c_X2_hasJudge l D g T h0 s0 hW.2.1 136 xd_136 1 (by decide) p0) ⟨rfl, rfl, ⟨by decide, by decide⟩, ⟨by decide, by decide⟩⟩ rfl rfl (Nat.le_of_ble_eq_true rfl) dX10_servedBy_46) hW (fun x11 s12 H locs rx11 hp13 hW => ?_)
      obtain ⟨es12, hp13⟩ := hp13
      subst es12
      have ghp13 := hp13
      refine x_if_ne (tgt := 54) hx hb rx11 dX10_servedBy_49 (by decide) (fun c14 => False.elim (by omega)) (fun c14 => ?_)
      refine x_iconst hx hb dX10_servedBy_52 ?_
      rw [eQ]
      exact x_iret hx hb hr hlk hW (by decide) ⟨rfl, by omega⟩ dX10_servedBy_53
    refine x_aload_n hx hb hl 0 rfl dX10_servedBy_26 rfl ?_
    refine x_get (j := 8) (v := .ref (h0 + 136)) hx hb hown hT hE hW cls_X10 (Or.inl (by decide)) (so_0 h0 g _) (by decide) rfl wq520 dX10_servedBy_27 ?_
    refine x_iconst hx hb dX10_servedBy_30 ?_
    refine x_goi (x_runVN (As := [.int (xJ 0)]) hx hb hml hown hT hE hW hl.1 (Or.inl (by decide)) (so_136 h0 g _) rfl cf_X2_hasJudge wq773 wq37 wn911 (c_X2_hasJudge l D g T h0 s0 hW.2.1 136 xd_136 0 (by decide) p0) ⟨rfl, rfl, ⟨by decide, by decide⟩, ⟨by decide, by decide⟩⟩ rfl rfl (Nat.le_of_ble_eq_true rfl) dX10_servedBy_31) hW (fun x15 s16 H locs rx15 hp17 hW => ?_)
    obtain ⟨es16, hp17⟩ := hp17
    subst es16
    have ghp17 := hp17
    refine x_if_eq (tgt := 52) hx hb rx15 dX10_servedBy_34 (by decide) (fun c18 => ?_) (fun c18 => False.elim (by omega))
    refine x_iconst hx hb dX10_servedBy_52 ?_
    rw [eQ]
    exact x_iret hx hb hr hlk hW (by decide) ⟨rfl, by omega⟩ dX10_servedBy_53
  refine x_iconst hx hb dX10_servedBy_19 ?_
  rw [eQ]
  exact x_iret hx hb hr hlk hW (by decide) ⟨rfl, by omega⟩ dX10_servedBy_20
set_option maxHeartbeats 4000000 in
set_option maxRecDepth 100000 in
theorem c_X10_seed (l : Launch) (D : va_G) (g : xG) (T : Nat × Nat × Nat) (h0 : Nat) (s0 : xS) (hσ : xRR s0) (x : Int) (rx : xR x) : Met l yX10_seed (xws yX10_seed cX10_seed 2 (some .boolean)) { frames := 1, cells := 0, slots := 0, locals := 22 } (xP [.ref (h0 + 0), .int (xJ x)] D g T h0 s0) (xQi D g h0 (fun r τ => xFr (fun k => k = 136) s0 τ ∧ ((r = 1 ∧ 0 ≤ x ∧ x ≤ 65535) ∨ (r = 0 ∧ (x < 0 ∨ 65535 < x))))) 0 0 (xA h0) := by
  refine x_met hσ (by decide) (Nat.le_of_ble_eq_true rfl) ?_
  intro p e s m args below meth c hx hb hr hml hown hT hlk hnm hE hW ls hl
  have hl : lv_has ls 2 [(0, .ref (h0 + 0)), (1, .int (xJ x))] := hl
  obtain ⟨Q, eQ⟩ : ∃ Q, Q = MQ below (xQi D g h0 (fun r τ => xFr (fun k => k = 136) s0 τ ∧ ((r = 1 ∧ 0 ≤ x ∧ x ≤ 65535) ∨ (r = 0 ∧ (x < 0 ∨ 65535 < x))))) args s 0 0 (xA h0) := ⟨_, rfl⟩
  rw [← eQ]
  generalize hHe : ([] : List Loc) = locs at hW ⊢
  obtain ⟨H, eH⟩ : ∃ H, H = s.heap := ⟨_, rfl⟩
  rw [← eH] at hW ⊢
  have hF : xFr (fun k => k = 136) s0 s0 := xFr.rf
  refine x_iload_n hx hb hl 1 rfl dX10_seed_0 rfl ?_
  refine x_iconst hx hb dX10_seed_1 ?_
  refine lv_ldcw (v := xJ 65535) hx hb hown (hT _ wq1153) dX10_seed_2 ?_
  refine x_goi (x_runS (As := [.int (xJ x), .int (xJ 0), .int (xJ 65535)]) hx hb hml hown hT hE hW hl.1 cf_X10_isIn wq562 wq561 (c_X10_isIn l D g T h0 s0 hW.2.1 x rx 0 (by decide) 65535 (by decide)) ⟨rfl, rfl, ⟨by decide, by decide⟩, ⟨by decide, by decide⟩⟩ rfl rfl (Nat.le_of_ble_eq_true rfl) dX10_seed_5) hW (fun x1 s2 H locs rx1 hp3 hW => ?_)
  obtain ⟨es2, hp3⟩ := hp3
  subst es2
  have ghp3 := hp3
  refine x_if_ne (tgt := 13) hx hb rx1 dX10_seed_8 (by decide) (fun c4 => ?_) (fun c4 => ?_)
  · skip
    refine x_aload_n hx hb hl 0 rfl dX10_seed_13 rfl ?_
    refine x_get (j := 8) (v := .ref (h0 + 136)) hx hb hown hT hE hW cls_X10 (Or.inl (by decide)) (so_0 h0 g _) (by decide) rfl wq520 dX10_seed_14 ?_
    refine x_iload_n hx hb hl 1 rfl dX10_seed_17 rfl ?_
    refine x_putN (j := 8) hx hb hown hT hE hW cls_X2 (by decide) (fun σ => so_136 h0 g σ) (by decide) (st_X2_8 h0 s0 136 x) (ln_X2_8 h0 _ _) wn405 rfl rfl rfl rx dX10_seed_18 (fun H locs s5 es5 hW => ?_)
    have hF6 := hF.put es5 (by omega)
    refine x_iconst hx hb dX10_seed_21 ?_
    rw [eQ]
    exact x_zret hx hb hr hlk hW (by omega) ⟨hF6, by omega⟩ dX10_seed_22
  refine x_iconst hx hb dX10_seed_11 ?_
  rw [eQ]
  exact x_zret hx hb hr hlk hW (by omega) ⟨hF, by omega⟩ dX10_seed_12
set_option maxHeartbeats 4000000 in
set_option maxRecDepth 100000 in
theorem c_X10_keep (l : Launch) (D : va_G) (g : xG) (T : Nat × Nat × Nat) (h0 : Nat) (s0 : xS) (hσ : xRR s0) (p0 : s0 137 = fun _ => (-1)) (p1 : s0 142 = fun _ => (-1)) (p2 : s0 143 = fun _ => 0) (p3 : 0 ≤ s0 136 7 ∧ s0 136 7 ≤ 9999) (p4 : 0 ≤ s0 136 8 ∧ s0 136 8 ≤ 65535) (p5 : s0 145 = fun _ => 0) (p6 : ∀ j : Int, 0 ≤ j → j < 2 → xAr s0 (s0 138 j).toNat) (p7 : s0 147 = fun _ => (-1)) (p8 : s0 152 = fun _ => (-1)) (p9 : s0 153 = fun _ => 0) (p10 : 0 ≤ s0 146 7 ∧ s0 146 7 ≤ 9999) (p11 : 0 ≤ s0 146 8 ∧ s0 146 8 ≤ 65535) (p12 : s0 155 = fun _ => 0) (p13 : s0 136 7 = 0) : Met l yX10_keep (xws yX10_keep cX10_keep 1 (some .int)) { frames := 1, cells := 0, slots := 0, locals := 22 } (xP [.ref (h0 + 0)] D g T h0 s0) (xQi D g h0 (fun r τ => xFr (fun k => k = 0 ∨ k = 146 ∨ k = 147 ∨ k = 148 ∨ k = 151 ∨ k = 152 ∨ k = 153 ∨ k = 154 ∨ k = 155) s0 τ ∧ (r = 0))) 0 0 (xA h0) := by
  refine x_met hσ (by decide) (Nat.le_of_ble_eq_true rfl) ?_
  intro p e s m args below meth c hx hb hr hml hown hT hlk hnm hE hW ls hl
  have hl : lv_has ls 1 [(0, .ref (h0 + 0))] := hl
  obtain ⟨Q, eQ⟩ : ∃ Q, Q = MQ below (xQi D g h0 (fun r τ => xFr (fun k => k = 0 ∨ k = 146 ∨ k = 147 ∨ k = 148 ∨ k = 151 ∨ k = 152 ∨ k = 153 ∨ k = 154 ∨ k = 155) s0 τ ∧ (r = 0))) args s 0 0 (xA h0) := ⟨_, rfl⟩
  rw [← eQ]
  generalize hHe : ([] : List Loc) = locs at hW ⊢
  obtain ⟨H, eH⟩ : ∃ H, H = s.heap := ⟨_, rfl⟩
  rw [← eH] at hW ⊢
  have hF : xFr (fun k => k = 0 ∨ k = 146 ∨ k = 147 ∨ k = 148 ∨ k = 151 ∨ k = 152 ∨ k = 153 ∨ k = 154 ∨ k = 155) s0 s0 := xFr.rf
  refine x_aload_n hx hb hl 0 rfl dX10_keep_0 rfl ?_
  refine x_get (j := 9) (v := .ref (h0 + 146)) hx hb hown hT hE hW cls_X10 (Or.inl (by decide)) (so_0 h0 g _) (by decide) rfl wq521 dX10_keep_1 ?_
  refine x_aload_n hx hb hl 0 rfl dX10_keep_4 rfl ?_
  refine x_get (j := 8) (v := .ref (h0 + 136)) hx hb hown hT hE hW cls_X10 (Or.inl (by decide)) (so_0 h0 g _) (by decide) rfl wq520 dX10_keep_5 ?_
  refine x_gov (x_runVN (As := [.ref (h0 + 136)]) hx hb hml hown hT hE hW hl.1 (Or.inl (by decide)) (so_146 h0 g _) rfl cf_X2_copyFrom wq918 wq64 wn1158 (c_X2_copyFrom l D g T h0 s0 hW.2.1 146 xd_146 136 xd_136 (by omega) p7 p8 p9 p10 p11 p12 p0 p1 p2 p3 p4 p5 p6) ⟨rfl, rfl, ⟨by decide, by decide⟩, ⟨by decide, by decide⟩⟩ rfl rfl (Nat.le_of_ble_eq_true rfl) dX10_keep_8) hW (fun s2 H locs hp3 hW => ?_)
  obtain ⟨fs2, hp3⟩ := hp3
  have hF4 := hF.call fs2 (fun k h => by omega)
  have q5 : s2 137 = fun _ => (-1) := (fs2 _ (by omega)).trans p0
  have q6 : s2 142 = fun _ => (-1) := (fs2 _ (by omega)).trans p1
  have q7 : s2 143 = fun _ => 0 := (fs2 _ (by omega)).trans p2
  have q8 : 0 ≤ s2 136 7 ∧ s2 136 7 ≤ 9999 := by rw [fs2 136 (by omega)]; exact p3
  have q9 : 0 ≤ s2 136 8 ∧ s2 136 8 ≤ 65535 := by rw [fs2 136 (by omega)]; exact p4
  have q10 : s2 145 = fun _ => 0 := (fs2 _ (by omega)).trans p5
  have q11 : ∀ j : Int, 0 ≤ j → j < 2 → xAr s2 (s2 138 j).toNat := by intro j h1 h2; rw [fs2 138 (by omega)]; exact (p6 j h1 h2).f (fs2 999997 (by omega))
  have q12 : s2 136 7 = 0 := (congrFun (fs2 _ (by omega)) _).trans p13
  have ghp3 := hp3.2
  refine x_aload_n hx hb hl 0 rfl dX10_keep_11 rfl ?_
  refine x_iconst hx hb dX10_keep_12 ?_
  refine x_put (j := 11) hx hb hown hT hE hW cls_X10 (by decide) (fun σ => so_0 h0 g σ) (by decide) (st_X10_11 h0 s2 0 1) (ln_X10_11 h0 _ _) wq523 rfl rfl rfl (by decide) dX10_keep_13 (fun H locs s13 es13 hW => ?_)
  have q14 : s13 137 = fun _ => (-1) := by rw [es13, xU_k _ _ _ (by omega)]; exact q5
  have q15 : s13 142 = fun _ => (-1) := by rw [es13, xU_k _ _ _ (by omega)]; exact q6
  have q16 : s13 143 = fun _ => 0 := by rw [es13, xU_k _ _ _ (by omega)]; exact q7
  have q17 : 0 ≤ s13 136 7 ∧ s13 136 7 ≤ 9999 := by rw [es13, xU_k _ _ _ (by omega)]; exact q8
  have q18 : 0 ≤ s13 136 8 ∧ s13 136 8 ≤ 65535 := by rw [es13, xU_k _ _ _ (by omega)]; exact q9
  have q19 : s13 145 = fun _ => 0 := by rw [es13, xU_k _ _ _ (by omega)]; exact q10
  have q20 : ∀ j : Int, 0 ≤ j → j < 2 → xAr s13 (s13 138 j).toNat := by intro j h1 h2; rw [show s13 138 = s2 138 from by rw [es13, xU_k _ _ _ (by omega)]]; exact (q11 j h1 h2).f (by rw [es13, xU_k _ _ _ (by omega)])
  have q21 : s13 136 7 = 0 := by rw [es13, xU_k _ _ _ (by omega)]; exact q12
  have q22 : s13 147 = fun _ => (-1) := by rw [es13, xU_k _ _ _ (by omega)]; exact hp3.1.1
  have q23 : s13 152 = fun _ => (-1) := by rw [es13, xU_k _ _ _ (by omega)]; exact hp3.1.2.1
  have q24 : s13 153 = fun _ => 0 := by rw [es13, xU_k _ _ _ (by omega)]; exact hp3.1.2.2.1
  have q25 : 0 ≤ s13 146 7 ∧ s13 146 7 ≤ 9999 := by rw [es13, xU_k _ _ _ (by omega)]; exact hp3.1.2.2.2.1
  have q26 : 0 ≤ s13 146 8 ∧ s13 146 8 ≤ 65535 := by rw [es13, xU_k _ _ _ (by omega)]; exact hp3.1.2.2.2.2.1
  have q27 : s13 155 = fun _ => 0 := by rw [es13, xU_k _ _ _ (by omega)]; exact hp3.1.2.2.2.2.2.1
  have hF28 := hF4.put es13 (by omega)
  refine x_aload_n hx hb hl 0 rfl dX10_keep_16 rfl ?_
  refine x_get (j := 8) (v := .ref (h0 + 136)) hx hb hown hT hE hW cls_X10 (Or.inl (by decide)) (so_0 h0 g _) (by decide) rfl wq520 dX10_keep_17 ?_
  refine x_getN (j := 7) (v := .int (xJ (s13 136 7))) hx hb hown hT hE hW cls_X2 (Or.inl (by decide)) (so_136 h0 g _) (by decide) rfl wn403 dX10_keep_20 ?_
  refine x_rd hW (fun x29 ex29 rx29 => ?_)
  have fx29 : x29 = 0 := by rw [ex29, q21]
  have qx29 : 0 ≤ x29 ∧ x29 ≤ 9999 := by rw [ex29]; exact q17
  rw [eQ]
  exact x_iret hx hb hr hlk hW rx29 ⟨hF28, by omega⟩ dX10_keep_23
set_option maxHeartbeats 4000000 in
set_option maxRecDepth 100000 in
theorem c_X10_undo (l : Launch) (D : va_G) (g : xG) (T : Nat × Nat × Nat) (h0 : Nat) (s0 : xS) (hσ : xRR s0) (p0 : s0 0 11 = 0) : Met l yX10_undo (xws yX10_undo cX10_undo 1 (some .boolean)) { frames := 0, cells := 0, slots := 0, locals := 0 } (xP [.ref (h0 + 0)] D g T h0 s0) (xQi D g h0 (fun r τ => s0 = τ ∧ (r = 0))) 0 0 (xA h0) := by
  refine x_met hσ (by decide) (Nat.le_of_ble_eq_true rfl) ?_
  intro p e s m args below meth c hx hb hr hml hown hT hlk hnm hE hW ls hl
  have hl : lv_has ls 1 [(0, .ref (h0 + 0))] := hl
  obtain ⟨Q, eQ⟩ : ∃ Q, Q = MQ below (xQi D g h0 (fun r τ => s0 = τ ∧ (r = 0))) args s 0 0 (xA h0) := ⟨_, rfl⟩
  rw [← eQ]
  generalize hHe : ([] : List Loc) = locs at hW ⊢
  obtain ⟨H, eH⟩ : ∃ H, H = s.heap := ⟨_, rfl⟩
  rw [← eH] at hW ⊢
  refine x_aload_n hx hb hl 0 rfl dX10_undo_0 rfl ?_
  refine x_get (j := 11) (v := .int (xJ (s0 0 11))) hx hb hown hT hE hW cls_X10 (Or.inl (by decide)) (so_0 h0 g _) (by decide) rfl wq523 dX10_undo_1 ?_
  refine x_rd hW (fun x1 ex1 rx1 => ?_)
  have fx1 : x1 = 0 := by rw [ex1, p0]
  refine x_if_eq (tgt := 18) hx hb rx1 dX10_undo_4 (by decide) (fun c2 => ?_) (fun c2 => False.elim (by omega))
  refine x_aload_n hx hb hl 0 rfl dX10_undo_18 rfl ?_
  refine x_get (j := 11) (v := .int (xJ (s0 0 11))) hx hb hown hT hE hW cls_X10 (Or.inl (by decide)) (so_0 h0 g _) (by decide) rfl wq523 dX10_undo_19 ?_
  refine x_rd hW (fun x3 ex3 rx3 => ?_)
  have fx3 : x3 = 0 := by rw [ex3, p0]
  rw [eQ]
  exact x_zret hx hb hr hlk hW (by omega) ⟨rfl, by omega⟩ dX10_undo_22
set_option maxHeartbeats 4000000 in
set_option maxRecDepth 100000 in
theorem c_X10_check (l : Launch) (D : va_G) (g : xG) (T : Nat × Nat × Nat) (h0 : Nat) (s0 : xS) (hσ : xRR s0) (n : Int) (rn : xR n) (p0 : s0 1 1 = 0) : Met l yX10_check (xws yX10_check cX10_check 4 (some .int)) { frames := 1, cells := 0, slots := 0, locals := 22 } (xP [.ref (h0 + 0), .int (xJ n)] D g T h0 s0) (xQi D g h0 (fun r τ => xFr (fun k => k = 1) s0 τ ∧ ((r = -1 ∧ n = 0) ∨ (r = -2 ∧ n ≠ 0)))) 0 0 (xA h0) := by
  refine x_met hσ (by decide) (Nat.le_of_ble_eq_true rfl) ?_
  intro p e s m args below meth c hx hb hr hml hown hT hlk hnm hE hW ls hl
  have hl : lv_has ls 4 [(0, .ref (h0 + 0)), (1, .int (xJ n))] := hl
  obtain ⟨Q, eQ⟩ : ∃ Q, Q = MQ below (xQi D g h0 (fun r τ => xFr (fun k => k = 1) s0 τ ∧ ((r = -1 ∧ n = 0) ∨ (r = -2 ∧ n ≠ 0)))) args s 0 0 (xA h0) := ⟨_, rfl⟩
  rw [← eQ]
  generalize hHe : ([] : List Loc) = locs at hW ⊢
  obtain ⟨H, eH⟩ : ∃ H, H = s.heap := ⟨_, rfl⟩
  rw [← eH] at hW ⊢
  have hF : xFr (fun k => k = 1) s0 s0 := xFr.rf
  refine x_iload_n hx hb hl 1 rfl dX10_check_0 rfl ?_
  refine x_iconst hx hb dX10_check_1 ?_
  refine x_bipush hx hb dX10_check_2 (by decide) ?_
  refine x_goi (x_runS (As := [.int (xJ n), .int (xJ 0), .int (xJ 10)]) hx hb hml hown hT hE hW hl.1 cf_X10_isIn wq562 wq561 (c_X10_isIn l D g T h0 s0 hW.2.1 n rn 0 (by decide) 10 (by decide)) ⟨rfl, rfl, ⟨by decide, by decide⟩, ⟨by decide, by decide⟩⟩ rfl rfl (Nat.le_of_ble_eq_true rfl) dX10_check_4) hW (fun x1 s2 H locs rx1 hp3 hW => ?_)
  obtain ⟨es2, hp3⟩ := hp3
  subst es2
  have ghp3 := hp3
  refine x_if_eq (tgt := 23) hx hb rx1 dX10_check_7 (by decide) (fun c4 => ?_) (fun c4 => ?_)
  · skip
    refine x_bipush hx hb dX10_check_23 (by decide) ?_
    rw [eQ]
    exact x_iret hx hb hr hlk hW (by decide) ⟨hF, by omega⟩ dX10_check_25
  refine x_iconst hx hb dX10_check_10 ?_
  refine x_iload_n hx hb hl 1 rfl dX10_check_11 rfl ?_
  refine x_imul hx hb dX10_check_12 ?_
  refine x_aload_n hx hb hl 0 rfl dX10_check_13 rfl ?_
  refine x_get (j := 0) (v := .ref (h0 + 1)) hx hb hown hT hE hW cls_X10 (Or.inl (by decide)) (so_0 h0 g _) (by decide) rfl wq512 dX10_check_14 ?_
  refine x_getN (j := 1) (v := .int (xJ (s0 1 1))) hx hb hown hT hE hW cls_X8 (Or.inl (by decide)) (so_1 h0 g _) (by decide) rfl wn198 dX10_check_17 ?_
  refine x_rd hW (fun x5 ex5 rx5 => ?_)
  have fx5 : x5 = 0 := by rw [ex5, p0]
  refine x_icmp_le (tgt := 26) hx hb (by omega) rx5 dX10_check_20 (by decide) (fun c6 => ?_) (fun c6 => ?_)
  · skip
    refine x_iconst hx hb dX10_check_26 ?_
    refine lv_istore_n (lv' := [(2, .int (xJ (-1))), (0, .ref (h0 + 0)), (1, .int (xJ n))]) hx hb dX10_check_27 rfl hl (by decide) rfl (fun ls hl => ?_)
    refine x_iconst hx hb dX10_check_28 ?_
    refine lv_istore_n (lv' := [(3, .int (xJ 0)), (2, .int (xJ (-1))), (0, .ref (h0 + 0)), (1, .int (xJ n))]) hx hb dX10_check_29 rfl hl (by decide) rfl (fun ls hl => ?_)
    refine x_iload_n hx hb hl 0 rfl dX10_check_30 rfl ?_
    refine x_iload_n hx hb hl 3 rfl dX10_check_31 rfl ?_
    refine x_icmp_ge (tgt := 70) hx hb (by decide) rn dX10_check_32 (by decide) (fun c7 => ?_) (fun c7 => False.elim (by omega))
    refine x_aload_n hx hb hl 2 rfl dX10_check_70 rfl ?_
    refine x_get (j := 0) (v := .ref (h0 + 1)) hx hb hown hT hE hW cls_X10 (Or.inl (by decide)) (so_0 h0 g _) (by decide) rfl wq512 dX10_check_71 ?_
    refine x_gov (x_runVN (As := []) hx hb hml hown hT hE hW hl.1 (Or.inl (by decide)) (so_1 h0 g _) rfl cf_X8_drop wq607 wq7 wn605 (c_X8_drop l D g T h0 s0 hW.2.1) ⟨rfl, rfl, ⟨by decide, by decide⟩, ⟨by decide, by decide⟩⟩ rfl rfl (Nat.le_of_ble_eq_true rfl) dX10_check_74) hW (fun s9 H locs hp10 hW => ?_)
    obtain ⟨fs9, hp10⟩ := hp10
    have hF11 := hF.call fs9 (fun k h => by omega)
    have ghp10 := hp10
    refine x_iload_n hx hb hl 1 rfl dX10_check_77 rfl ?_
    rw [eQ]
    exact x_iret hx hb hr hlk hW (by decide) ⟨hF11, by omega⟩ dX10_check_78
  refine x_bipush hx hb dX10_check_23 (by decide) ?_
  rw [eQ]
  exact x_iret hx hb hr hlk hW (by decide) ⟨hF, by omega⟩ dX10_check_25
set_option maxHeartbeats 4000000 in
set_option maxRecDepth 100000 in
theorem c_X10_count (l : Launch) (D : va_G) (g : xG) (T : Nat × Nat × Nat) (h0 : Nat) (s0 : xS) (hσ : xRR s0) (x : Int) (rx : xR x) (p0 : s0 137 = fun _ => (-1)) (p1 : s0 142 = fun _ => (-1)) (p2 : s0 143 = fun _ => 0) (p3 : s0 4 = fun _ => 0) (p4 : s0 129 = fun _ => (-1)) (p5 : s0 109 6 = 0) (p6 : s0 1 1 = 0) (p7 : s0 136 7 = 0) (p8 : s0 136 8 = 1) (p9 : ∀ j : Int, 0 ≤ j → j < 2 → s0 138 j = 139 ∨ s0 138 j = 140) (p10 : s0 141 = fun _ => 0) : Met l yX10_count (xws yX10_count cX10_count 2 (some .int)) { frames := 2, cells := 0, slots := 0, locals := 44 } (xP [.ref (h0 + 0), .int (xJ x)] D g T h0 s0) (xQi D g h0 (fun r τ => xFr (fun k => k = 115) s0 τ ∧ ((r = 1 ∧ x = 7) ∨ (r = 0 ∧ ((0 ≤ x ∧ x ≤ 8 ∧ x ≠ 7) ∨ x = 20 ∨ x = 21 ∨ (100 ≤ x ∧ x ≤ 199))) ∨ (r = -1 ∧ ¬ ((0 ≤ x ∧ x ≤ 8) ∨ x = 20 ∨ x = 21 ∨ (100 ≤ x ∧ x ≤ 199)))))) 0 0 (xA h0) := by
  refine x_met hσ (by decide) (Nat.le_of_ble_eq_true rfl) ?_
  intro p e s m args below meth c hx hb hr hml hown hT hlk hnm hE hW ls hl
  have hl : lv_has ls 2 [(0, .ref (h0 + 0)), (1, .int (xJ x))] := hl
  obtain ⟨Q, eQ⟩ : ∃ Q, Q = MQ below (xQi D g h0 (fun r τ => xFr (fun k => k = 115) s0 τ ∧ ((r = 1 ∧ x = 7) ∨ (r = 0 ∧ ((0 ≤ x ∧ x ≤ 8 ∧ x ≠ 7) ∨ x = 20 ∨ x = 21 ∨ (100 ≤ x ∧ x ≤ 199))) ∨ (r = -1 ∧ ¬ ((0 ≤ x ∧ x ≤ 8) ∨ x = 20 ∨ x = 21 ∨ (100 ≤ x ∧ x ≤ 199)))))) args s 0 0 (xA h0) := ⟨_, rfl⟩
  rw [← eQ]
  generalize hHe : ([] : List Loc) = locs at hW ⊢
  obtain ⟨H, eH⟩ : ∃ H, H = s.heap := ⟨_, rfl⟩
  rw [← eH] at hW ⊢
  have hF : xFr (fun k => k = 115) s0 s0 := xFr.rf
  refine x_iload_n hx hb hl 1 rfl dX10_count_0 rfl ?_
  rcases (show (x < 0 ∨ 8 < x) ∨ x = 0 ∨ x = 1 ∨ x = 2 ∨ x = 3 ∨ x = 4 ∨ x = 5 ∨ x = 6 ∨ x = 7 ∨ x = 8 from by omega) with c1 | c1 | c1 | c1 | c1 | c1 | c1 | c1 | c1 | c1
  · refine x_tabOut (tgt := 148) hx hb rx dX10_count_1 c1 (by decide) ?_
    refine x_iload_n hx hb hl 1 rfl dX10_count_148 rfl ?_
    refine x_bipush hx hb dX10_count_149 (by decide) ?_
    refine x_bipush hx hb dX10_count_151 (by decide) ?_
    refine x_goi (x_runS (As := [.int (xJ x), .int (xJ 10), .int (xJ 11)]) hx hb hml hown hT hE hW hl.1 cf_X10_isIn wq562 wq561 (c_X10_isIn l D g T h0 s0 hW.2.1 x rx 10 (by decide) 11 (by decide)) ⟨rfl, rfl, ⟨by decide, by decide⟩, ⟨by decide, by decide⟩⟩ rfl rfl (Nat.le_of_ble_eq_true rfl) dX10_count_153) hW (fun x2 s3 H locs rx2 hp4 hW => ?_)
    obtain ⟨es3, hp4⟩ := hp4
    subst es3
    have ghp4 := hp4
    refine x_if_eq (tgt := 172) hx hb rx2 dX10_count_156 (by decide) (fun c5 => ?_) (fun c5 => ?_)
    · skip
      refine x_iload_n hx hb hl 1 rfl dX10_count_172 rfl ?_
      refine x_bipush hx hb dX10_count_173 (by decide) ?_
      refine x_bipush hx hb dX10_count_175 (by decide) ?_
      refine x_goi (x_runS (As := [.int (xJ x), .int (xJ 20), .int (xJ 21)]) hx hb hml hown hT hE hW hl.1 cf_X10_isIn wq562 wq561 (c_X10_isIn l D g T h0 s0 hW.2.1 x rx 20 (by decide) 21 (by decide)) ⟨rfl, rfl, ⟨by decide, by decide⟩, ⟨by decide, by decide⟩⟩ rfl rfl (Nat.le_of_ble_eq_true rfl) dX10_count_177) hW (fun x6 s7 H locs rx6 hp8 hW => ?_)
      obtain ⟨es7, hp8⟩ := hp8
      subst es7
      have ghp8 := hp8
      refine x_if_eq (tgt := 195) hx hb rx6 dX10_count_180 (by decide) (fun c9 => ?_) (fun c9 => ?_)
      · skip
        refine x_iload_n hx hb hl 1 rfl dX10_count_195 rfl ?_
        refine x_bipush hx hb dX10_count_196 (by decide) ?_
        refine x_bipush hx hb dX10_count_198 (by decide) ?_
        refine x_goi (x_runS (As := [.int (xJ x), .int (xJ 30), .int (xJ 33)]) hx hb hml hown hT hE hW hl.1 cf_X10_isIn wq562 wq561 (c_X10_isIn l D g T h0 s0 hW.2.1 x rx 30 (by decide) 33 (by decide)) ⟨rfl, rfl, ⟨by decide, by decide⟩, ⟨by decide, by decide⟩⟩ rfl rfl (Nat.le_of_ble_eq_true rfl) dX10_count_200) hW (fun x10 s11 H locs rx10 hp12 hW => ?_)
        obtain ⟨es11, hp12⟩ := hp12
        subst es11
        have ghp12 := hp12
        refine x_if_eq (tgt := 219) hx hb rx10 dX10_count_203 (by decide) (fun c13 => ?_) (fun c13 => ?_)
        · skip
          refine x_iload_n hx hb hl 1 rfl dX10_count_219 rfl ?_
          refine x_bipush hx hb dX10_count_220 (by decide) ?_
          refine x_sipush hx hb dX10_count_222 (by decide) ?_
          refine x_goi (x_runS (As := [.int (xJ x), .int (xJ 100), .int (xJ 199)]) hx hb hml hown hT hE hW hl.1 cf_X10_isIn wq562 wq561 (c_X10_isIn l D g T h0 s0 hW.2.1 x rx 100 (by decide) 199 (by decide)) ⟨rfl, rfl, ⟨by decide, by decide⟩, ⟨by decide, by decide⟩⟩ rfl rfl (Nat.le_of_ble_eq_true rfl) dX10_count_225) hW (fun x14 s15 H locs rx14 hp16 hW => ?_)
          obtain ⟨es15, hp16⟩ := hp16
          subst es15
          have ghp16 := hp16
          refine x_if_eq (tgt := 245) hx hb rx14 dX10_count_228 (by decide) (fun c17 => ?_) (fun c17 => ?_)
          · skip
            refine x_iconst hx hb dX10_count_245 ?_
            rw [eQ]
            exact x_iret hx hb hr hlk hW (by decide) ⟨hF, by omega⟩ dX10_count_246
          refine x_aload_n hx hb hl 0 rfl dX10_count_231 rfl ?_
          refine x_get (j := 1) (v := .ref (h0 + 3)) hx hb hown hT hE hW cls_X10 (Or.inl (by decide)) (so_0 h0 g _) (by decide) rfl wq513 dX10_count_232 ?_
          refine x_iload_n hx hb hl 1 rfl dX10_count_235 rfl ?_
          refine x_bipush hx hb dX10_count_236 (by decide) ?_
          refine x_isub hx hb dX10_count_238 ?_
          refine x_goi (x_runVN (As := [.int (xJ (x - 100))]) hx hb hml hown hT hE hW hl.1 (Or.inl (by decide)) (so_3 h0 g _) rfl cf_X6_kindAt wq619 wq10 wn1067 (c_X6_kindAt l D g T h0 s0 hW.2.1 (x - 100) (by omega) p3) ⟨rfl, rfl, ⟨by decide, by decide⟩, ⟨by decide, by decide⟩⟩ rfl rfl (Nat.le_of_ble_eq_true rfl) dX10_count_239) hW (fun x18 s19 H locs rx18 hp20 hW => ?_)
          obtain ⟨es19, hp20⟩ := hp20
          subst es19
          have ghp20 := hp20
          refine lv_goto (tgt := 246) hx hb dX10_count_242 (by decide) ?_
          rw [eQ]
          exact x_iret hx hb hr hlk hW rx18 ⟨hF, by omega⟩ dX10_count_246
        refine x_aload_n hx hb hl 0 rfl dX10_count_206 rfl ?_
        refine x_get (j := 5) (v := .ref (h0 + 128)) hx hb hown hT hE hW cls_X10 (Or.inl (by decide)) (so_0 h0 g _) (by decide) rfl wq517 dX10_count_207 ?_
        refine x_getN (j := 2) (v := .ref (h0 + 129)) hx hb hown hT hE hW cls_X0 (Or.inl (by decide)) (so_128 h0 g _) (by decide) rfl wn356 dX10_count_210 ?_
        refine x_iload_n hx hb hl 1 rfl dX10_count_213 rfl ?_
        refine x_bipush hx hb dX10_count_214 (by decide) ?_
        refine x_isub hx hb dX10_count_216 ?_
        refine x_iald hx hb hE hW (Or.inl (by decide)) (sa_129 h0 g _) (by omega) (by decide) dX10_count_217 ?_
        refine x_rd hW (fun x21 ex21 rx21 => ?_)
        have fx21 : x21 = (-1) := by rw [ex21, p4]
        rw [eQ]
        exact x_iret hx hb hr hlk hW rx21 ⟨hF, by omega⟩ dX10_count_218
      refine x_aload_n hx hb hl 0 rfl dX10_count_183 rfl ?_
      refine x_get (j := 8) (v := .ref (h0 + 136)) hx hb hown hT hE hW cls_X10 (Or.inl (by decide)) (so_0 h0 g _) (by decide) rfl wq520 dX10_count_184 ?_
      refine x_iload_n hx hb hl 1 rfl dX10_count_187 rfl ?_
      refine x_bipush hx hb dX10_count_188 (by decide) ?_
      refine x_isub hx hb dX10_count_190 ?_
      refine x_goi (x_runVN (As := [.int (xJ (x - 20))]) hx hb hml hown hT hE hW hl.1 (Or.inl (by decide)) (so_136 h0 g _) rfl cf_X2_stepsLeft wq781 wq39 wn1178 (c_X2_stepsLeft l D g T h0 s0 hW.2.1 (x - 20) (by omega) p9 p10) ⟨rfl, rfl, ⟨by decide, by decide⟩, ⟨by decide, by decide⟩⟩ rfl rfl (Nat.le_of_ble_eq_true rfl) dX10_count_191) hW (fun x22 s23 H locs rx22 hp24 hW => ?_)
      obtain ⟨es23, hp24⟩ := hp24
      subst es23
      have ghp24 := hp24
      rw [eQ]
      exact x_iret hx hb hr hlk hW rx22 ⟨hF, by omega⟩ dX10_count_194
    refine x_aload_n hx hb hl 0 rfl dX10_count_159 rfl ?_
    refine x_get (j := 8) (v := .ref (h0 + 136)) hx hb hown hT hE hW cls_X10 (Or.inl (by decide)) (so_0 h0 g _) (by decide) rfl wq520 dX10_count_160 ?_
    refine x_getN (j := 0) (v := .ref (h0 + 137)) hx hb hown hT hE hW cls_X2 (Or.inl (by decide)) (so_136 h0 g _) (by decide) rfl wn385 dX10_count_163 ?_
    refine x_iload_n hx hb hl 1 rfl dX10_count_166 rfl ?_
    refine x_bipush hx hb dX10_count_167 (by decide) ?_
    refine x_isub hx hb dX10_count_169 ?_
    refine x_iald hx hb hE hW (Or.inl (by decide)) (sa_137 h0 g _) (by omega) (by decide) dX10_count_170 ?_
    refine x_rd hW (fun x25 ex25 rx25 => ?_)
    have fx25 : x25 = (-1) := by rw [ex25, p0]
    rw [eQ]
    exact x_iret hx hb hr hlk hW rx25 ⟨hF, by omega⟩ dX10_count_171
  · refine x_tabIn (v := 0) (tgt := 52) hx hb rx c1 dX10_count_1 (by decide) rfl (by decide) ?_
    refine x_aload_n hx hb hl 0 rfl dX10_count_52 rfl ?_
    refine x_get (j := 8) (v := .ref (h0 + 136)) hx hb hown hT hE hW cls_X10 (Or.inl (by decide)) (so_0 h0 g _) (by decide) rfl wq520 dX10_count_53 ?_
    refine x_getN (j := 7) (v := .int (xJ (s0 136 7))) hx hb hown hT hE hW cls_X2 (Or.inl (by decide)) (so_136 h0 g _) (by decide) rfl wn403 dX10_count_56 ?_
    refine x_rd hW (fun x26 ex26 rx26 => ?_)
    have fx26 : x26 = 0 := by rw [ex26, p7]
    rw [eQ]
    exact x_iret hx hb hr hlk hW rx26 ⟨hF, by omega⟩ dX10_count_59
  · refine x_tabIn (v := 1) (tgt := 60) hx hb rx c1 dX10_count_1 (by decide) rfl (by decide) ?_
    refine x_aload_n hx hb hl 0 rfl dX10_count_60 rfl ?_
    refine x_get (j := 8) (v := .ref (h0 + 136)) hx hb hown hT hE hW cls_X10 (Or.inl (by decide)) (so_0 h0 g _) (by decide) rfl wq520 dX10_count_61 ?_
    refine x_getN (j := 0) (v := .ref (h0 + 137)) hx hb hown hT hE hW cls_X2 (Or.inl (by decide)) (so_136 h0 g _) (by decide) rfl wn385 dX10_count_64 ?_
    refine x_goi (x_runS (As := [.ref (h0 + 137)]) hx hb hml hown hT hE hW hl.1 cf_X10_bitsOfTold wq1107 wq1106 (c_X10_bitsOfTold2 l D g T h0 s0 hW.2.1 137 (by decide) (fun σ => sa_137 h0 g σ) p0) ⟨rfl, rfl, ⟨by decide, by decide⟩, ⟨by decide, by decide⟩⟩ rfl rfl (Nat.le_of_ble_eq_true rfl) dX10_count_67) hW (fun x27 s28 H locs rx27 hp29 hW => ?_)
    obtain ⟨es28, hp29⟩ := hp29
    subst es28
    have ghp29 := hp29
    rw [eQ]
    exact x_iret hx hb hr hlk hW rx27 ⟨hF, by omega⟩ dX10_count_70
  · refine x_tabIn (v := 2) (tgt := 71) hx hb rx c1 dX10_count_1 (by decide) rfl (by decide) ?_
    refine x_aload_n hx hb hl 0 rfl dX10_count_71 rfl ?_
    refine x_get (j := 8) (v := .ref (h0 + 136)) hx hb hown hT hE hW cls_X10 (Or.inl (by decide)) (so_0 h0 g _) (by decide) rfl wq520 dX10_count_72 ?_
    refine x_getN (j := 3) (v := .ref (h0 + 142)) hx hb hown hT hE hW cls_X2 (Or.inl (by decide)) (so_136 h0 g _) (by decide) rfl wn391 dX10_count_75 ?_
    refine x_goi (x_runS (As := [.ref (h0 + 142)]) hx hb hml hown hT hE hW hl.1 cf_X10_bitsOfTold wq1107 wq1106 (c_X10_bitsOfTold10 l D g T h0 s0 hW.2.1 142 (by decide) (fun σ => sa_142 h0 g σ) p1) ⟨rfl, rfl, ⟨by decide, by decide⟩, ⟨by decide, by decide⟩⟩ rfl rfl (Nat.le_of_ble_eq_true rfl) dX10_count_78) hW (fun x30 s31 H locs rx30 hp32 hW => ?_)
    obtain ⟨es31, hp32⟩ := hp32
    subst es31
    have ghp32 := hp32
    rw [eQ]
    exact x_iret hx hb hr hlk hW rx30 ⟨hF, by omega⟩ dX10_count_81
  · refine x_tabIn (v := 3) (tgt := 82) hx hb rx c1 dX10_count_1 (by decide) rfl (by decide) ?_
    refine x_aload_n hx hb hl 0 rfl dX10_count_82 rfl ?_
    refine x_get (j := 5) (v := .ref (h0 + 128)) hx hb hown hT hE hW cls_X10 (Or.inl (by decide)) (so_0 h0 g _) (by decide) rfl wq517 dX10_count_83 ?_
    refine x_getN (j := 2) (v := .ref (h0 + 129)) hx hb hown hT hE hW cls_X0 (Or.inl (by decide)) (so_128 h0 g _) (by decide) rfl wn356 dX10_count_86 ?_
    refine x_goi (x_runS (As := [.ref (h0 + 129)]) hx hb hml hown hT hE hW hl.1 cf_X10_bitsOfTold wq1107 wq1106 (c_X10_bitsOfTold4 l D g T h0 s0 hW.2.1 129 (by decide) (fun σ => sa_129 h0 g σ) p4) ⟨rfl, rfl, ⟨by decide, by decide⟩, ⟨by decide, by decide⟩⟩ rfl rfl (Nat.le_of_ble_eq_true rfl) dX10_count_89) hW (fun x33 s34 H locs rx33 hp35 hW => ?_)
    obtain ⟨es34, hp35⟩ := hp35
    subst es34
    have ghp35 := hp35
    rw [eQ]
    exact x_iret hx hb hr hlk hW rx33 ⟨hF, by omega⟩ dX10_count_92
  · refine x_tabIn (v := 4) (tgt := 93) hx hb rx c1 dX10_count_1 (by decide) rfl (by decide) ?_
    refine x_aload_n hx hb hl 0 rfl dX10_count_93 rfl ?_
    refine x_get (j := 8) (v := .ref (h0 + 136)) hx hb hown hT hE hW cls_X10 (Or.inl (by decide)) (so_0 h0 g _) (by decide) rfl wq520 dX10_count_94 ?_
    refine x_goi (x_runVN (As := []) hx hb hml hown hT hE hW hl.1 (Or.inl (by decide)) (so_136 h0 g _) rfl cf_X2_owedByAll wq765 wq35 wn1176 (c_X2_owedByAll l D g T h0 s0 hW.2.1 136 xd_136 p2) ⟨rfl, rfl, ⟨by decide, by decide⟩, ⟨by decide, by decide⟩⟩ rfl rfl (Nat.le_of_ble_eq_true rfl) dX10_count_97) hW (fun x36 s37 H locs rx36 hp38 hW => ?_)
    obtain ⟨es37, hp38⟩ := hp38
    subst es37
    have ghp38 := hp38
    rw [eQ]
    exact x_iret hx hb hr hlk hW rx36 ⟨hF, by omega⟩ dX10_count_100
  · refine x_tabIn (v := 5) (tgt := 101) hx hb rx c1 dX10_count_1 (by decide) rfl (by decide) ?_
    refine x_aload_n hx hb hl 0 rfl dX10_count_101 rfl ?_
    refine x_get (j := 2) (v := .ref (h0 + 109)) hx hb hown hT hE hW cls_X10 (Or.inl (by decide)) (so_0 h0 g _) (by decide) rfl wq514 dX10_count_102 ?_
    refine x_getN (j := 6) (v := .int (xJ (s0 109 6))) hx hb hown hT hE hW cls_X4 (Or.inl (by decide)) (so_109 h0 g _) (by decide) rfl wn263 dX10_count_105 ?_
    refine x_rd hW (fun x39 ex39 rx39 => ?_)
    have fx39 : x39 = 0 := by rw [ex39, p5]
    rw [eQ]
    exact x_iret hx hb hr hlk hW rx39 ⟨hF, by omega⟩ dX10_count_108
  · refine x_tabIn (v := 6) (tgt := 109) hx hb rx c1 dX10_count_1 (by decide) rfl (by decide) ?_
    refine x_aload_n hx hb hl 0 rfl dX10_count_109 rfl ?_
    refine x_get (j := 0) (v := .ref (h0 + 1)) hx hb hown hT hE hW cls_X10 (Or.inl (by decide)) (so_0 h0 g _) (by decide) rfl wq512 dX10_count_110 ?_
    refine x_getN (j := 1) (v := .int (xJ (s0 1 1))) hx hb hown hT hE hW cls_X8 (Or.inl (by decide)) (so_1 h0 g _) (by decide) rfl wn198 dX10_count_113 ?_
    refine x_rd hW (fun x40 ex40 rx40 => ?_)
    have fx40 : x40 = 0 := by rw [ex40, p6]
    rw [eQ]
    exact x_iret hx hb hr hlk hW rx40 ⟨hF, by omega⟩ dX10_count_116
  · refine x_tabIn (v := 7) (tgt := 117) hx hb rx c1 dX10_count_1 (by decide) rfl (by decide) ?_
    refine x_aload_n hx hb hl 0 rfl dX10_count_117 rfl ?_
    refine x_get (j := 8) (v := .ref (h0 + 136)) hx hb hown hT hE hW cls_X10 (Or.inl (by decide)) (so_0 h0 g _) (by decide) rfl wq520 dX10_count_118 ?_
    refine x_getN (j := 8) (v := .int (xJ (s0 136 8))) hx hb hown hT hE hW cls_X2 (Or.inl (by decide)) (so_136 h0 g _) (by decide) rfl wn405 dX10_count_121 ?_
    refine x_rd hW (fun x41 ex41 rx41 => ?_)
    have fx41 : x41 = 1 := by rw [ex41, p8]
    rw [eQ]
    exact x_iret hx hb hr hlk hW rx41 ⟨hF, by omega⟩ dX10_count_124
  · refine x_tabIn (v := 8) (tgt := 125) hx hb rx c1 dX10_count_1 (by decide) rfl (by decide) ?_
    refine x_aload_n hx hb hl 0 rfl dX10_count_125 rfl ?_
    refine x_get (j := 2) (v := .ref (h0 + 109)) hx hb hown hT hE hW cls_X10 (Or.inl (by decide)) (so_0 h0 g _) (by decide) rfl wq514 dX10_count_126 ?_
    refine x_aload_n hx hb hl 0 rfl dX10_count_129 rfl ?_
    refine x_get (j := 8) (v := .ref (h0 + 136)) hx hb hown hT hE hW cls_X10 (Or.inl (by decide)) (so_0 h0 g _) (by decide) rfl wq520 dX10_count_130 ?_
    refine x_getN (j := 7) (v := .int (xJ (s0 136 7))) hx hb hown hT hE hW cls_X2 (Or.inl (by decide)) (so_136 h0 g _) (by decide) rfl wn403 dX10_count_133 ?_
    refine x_rd hW (fun x42 ex42 rx42 => ?_)
    have fx42 : x42 = 0 := by rw [ex42, p7]
    refine x_goi (x_runVN (As := [.int (xJ x42)]) hx hb hml hown hT hE hW hl.1 (Or.inl (by decide)) (so_109 h0 g _) rfl cf_X4_isNight wq819 wq45 wn1177 (c_X4_isNight l D g T h0 s0 hW.2.1 x42 rx42 p5) ⟨rfl, rfl, ⟨by decide, by decide⟩, ⟨by decide, by decide⟩⟩ rfl rfl (Nat.le_of_ble_eq_true rfl) dX10_count_136) hW (fun x43 s44 H locs rx43 hp45 hW => ?_)
    obtain ⟨fs44, hp45⟩ := hp45
    have hF46 := hF.call fs44 (fun k h => by omega)
    have q47 : s44 137 = fun _ => (-1) := (fs44 _ (by omega)).trans p0
    have q48 : s44 142 = fun _ => (-1) := (fs44 _ (by omega)).trans p1
    have q49 : s44 143 = fun _ => 0 := (fs44 _ (by omega)).trans p2
    have q50 : s44 4 = fun _ => 0 := (fs44 _ (by omega)).trans p3
    have q51 : s44 129 = fun _ => (-1) := (fs44 _ (by omega)).trans p4
    have q52 : s44 109 6 = 0 := (congrFun (fs44 _ (by omega)) _).trans p5
    have q53 : s44 1 1 = 0 := (congrFun (fs44 _ (by omega)) _).trans p6
    have q54 : s44 136 7 = 0 := (congrFun (fs44 _ (by omega)) _).trans p7
    have q55 : s44 136 8 = 1 := (congrFun (fs44 _ (by omega)) _).trans p8
    have q56 : ∀ j : Int, 0 ≤ j → j < 2 → s44 138 j = 139 ∨ s44 138 j = 140 := by rw [fs44 138 (by omega)]; exact p9
    have q57 : s44 141 = fun _ => 0 := (fs44 _ (by omega)).trans p10
    have ghp45 := hp45
    refine x_if_eq (tgt := 146) hx hb rx43 dX10_count_139 (by decide) (fun c58 => ?_) (fun c58 => ?_)
    · skip
      refine x_iconst hx hb dX10_count_146 ?_
      rw [eQ]
      exact x_iret hx hb hr hlk hW (by decide) ⟨hF46, by omega⟩ dX10_count_147
    refine x_iconst hx hb dX10_count_142 ?_
    refine lv_goto (tgt := 147) hx hb dX10_count_143 (by decide) ?_
    rw [eQ]
    exact x_iret hx hb hr hlk hW (by decide) ⟨hF46, by omega⟩ dX10_count_147
set_option maxHeartbeats 4000000 in
set_option maxRecDepth 100000 in
theorem c_X10_fewest (l : Launch) (D : va_G) (g : xG) (T : Nat × Nat × Nat) (h0 : Nat) (s0 : xS) (hσ : xRR s0) (f : Int) (rf : xR f) (n : Int) (rn : xR n) (x : Int) (rx : xR x) (p0 : s0 142 = fun _ => (-1)) : Met l yX10_fewest (xws yX10_fewest cX10_fewest 4 (some .int)) { frames := 1, cells := 0, slots := 0, locals := 21 } (xP [.ref (h0 + 0), .int (xJ f), .int (xJ n), .int (xJ x)] D g T h0 s0) (xQi D g h0 (fun r τ => s0 = τ ∧ (r = -1))) 0 0 (xA h0) := by
  refine x_met hσ (by decide) (Nat.le_of_ble_eq_true rfl) ?_
  intro p e s m args below meth c hx hb hr hml hown hT hlk hnm hE hW ls hl
  have hl : lv_has ls 4 [(0, .ref (h0 + 0)), (1, .int (xJ f)), (2, .int (xJ n)), (3, .int (xJ x))] := hl
  obtain ⟨Q, eQ⟩ : ∃ Q, Q = MQ below (xQi D g h0 (fun r τ => s0 = τ ∧ (r = -1))) args s 0 0 (xA h0) := ⟨_, rfl⟩
  rw [← eQ]
  generalize hHe : ([] : List Loc) = locs at hW ⊢
  obtain ⟨H, eH⟩ : ∃ H, H = s.heap := ⟨_, rfl⟩
  rw [← eH] at hW ⊢
  refine x_aload_n hx hb hl 0 rfl dX10_fewest_0 rfl ?_
  refine x_get (j := 8) (v := .ref (h0 + 136)) hx hb hown hT hE hW cls_X10 (Or.inl (by decide)) (so_0 h0 g _) (by decide) rfl wq520 dX10_fewest_1 ?_
  refine x_iload_n hx hb hl 1 rfl dX10_fewest_4 rfl ?_
  refine x_goi (x_runVN (As := [.int (xJ f)]) hx hb hml hown hT hE hW hl.1 (Or.inl (by decide)) (so_136 h0 g _) rfl cf_X2_hasFelon wq862 wq53 wn910 (c_X2_hasFelon l D g T h0 s0 hW.2.1 136 xd_136 f rf p0) ⟨rfl, rfl, ⟨by decide, by decide⟩, ⟨by decide, by decide⟩⟩ rfl rfl (Nat.le_of_ble_eq_true rfl) dX10_fewest_5) hW (fun x1 s2 H locs rx1 hp3 hW => ?_)
  obtain ⟨es2, hp3⟩ := hp3
  subst es2
  have ghp3 := hp3
  refine x_if_eq (tgt := 30) hx hb rx1 dX10_fewest_8 (by decide) (fun c4 => ?_) (fun c4 => False.elim (by omega))
  refine x_iconst hx hb dX10_fewest_30 ?_
  rw [eQ]
  exact x_iret hx hb hr hlk hW (by decide) ⟨rfl, by omega⟩ dX10_fewest_31
