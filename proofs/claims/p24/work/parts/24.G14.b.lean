set_option maxHeartbeats 4000000 in
set_option maxRecDepth 100000 in
theorem c_X11_areSpots (l : Launch) (D : va_G) (g : xG) (T : Nat × Nat × Nat) (h0 : Nat) (s0 : xS) (hσ : xRR s0) (n : Int) (rn : xR n) (hn : 0 ≤ n ∧ n ≤ 20) (p0 : IMn s0) (p1 : IMk s0) (p2 : IMo s0) : Met l yX11_areSpots (xws yX11_areSpots cX11_areSpots 3 (some .boolean)) { frames := 1, cells := 0, slots := 0, locals := 22 } (xP [.ref (h0 + 268), .int (xJ n)] D g T h0 s0) (xQi D g h0 (fun r τ => s0 = τ ∧ (r = 0 ∨ (r = 1 ∧ ∀ q : Int, 0 ≤ q → q < n → 0 ≤ s0 276 q ∧ s0 276 q ≤ 99)))) 0 0 (xA h0) := by
  refine x_met hσ (by decide) (Nat.le_of_ble_eq_true rfl) ?_
  intro p e s m args below meth c hx hb hr hml hown hT hlk hnm hE hW ls hl
  have hl : lv_has ls 3 [(0, .ref (h0 + 268)), (1, .int (xJ n))] := hl
  obtain ⟨Q, eQ⟩ : ∃ Q, Q = MQ below (xQi D g h0 (fun r τ => s0 = τ ∧ (r = 0 ∨ (r = 1 ∧ ∀ q : Int, 0 ≤ q → q < n → 0 ≤ s0 276 q ∧ s0 276 q ≤ 99)))) args s 0 0 (xA h0) := ⟨_, rfl⟩
  rw [← eQ]
  generalize hHe : ([] : List Loc) = locs at hW ⊢
  obtain ⟨H, eH⟩ : ∃ H, H = s.heap := ⟨_, rfl⟩
  rw [← eH] at hW ⊢
  have k268_8 : s0 268 8 = s0 268 8 := rfl
  have k268_58 : s0 268 58 = s0 268 58 := rfl
  refine x_iconst hx hb dX11_areSpots_0 ?_
  refine lv_istore_n (lv' := [(2, .int (xJ 0)), (0, .ref (h0 + 268)), (1, .int (xJ n))]) hx hb dX11_areSpots_1 rfl hl (by decide) rfl (fun ls hl => ?_)
  have L2 : ∀ (fu : Nat) (i2_2 : Int) (H : Heap) (locs : List Loc) (ls : Array Slot), (xR i2_2) → (0 ≤ i2_2 ∧ i2_2 ≤ n) → (∀ q : Int, 0 ≤ q → q < i2_2 → 0 ≤ s0 276 q ∧ s0 276 q ≤ 99) → (20 - i2_2).toNat < fu → xW D g h0 s H locs s0 → lv_has ls 3 [(0, .ref (h0 + 268)), (1, .int (xJ n)), (2, .int (xJ i2_2))] → W p l e { frames := 1, cells := 0, slots := 0, locals := 22 } s m args below meth c H locs 0 0 Q (F0 m 2 ls []) := by
    intro fu
    induction fu with
    | zero => intro i2_2 H locs ls ri2_2 v2_0 v2_1 hm; exact absurd hm (Nat.not_lt_zero _)
    | succ fu ih2 =>
      intro i2_2 H locs ls ri2_2 v2_0 v2_1 hm hW hl
      refine x_iload_n hx hb hl 2 rfl dX11_areSpots_2 rfl ?_
      refine x_iload_n hx hb hl 1 rfl dX11_areSpots_3 rfl ?_
      refine x_icmp_ge (tgt := 43) hx hb ri2_2 rn dX11_areSpots_4 (by decide) (fun c1 => ?_) (fun c1 => ?_)
      · skip
        refine x_iconst hx hb dX11_areSpots_43 ?_
        rw [eQ]
        exact x_zret hx hb hr hlk hW (by omega) ⟨rfl, by first | exact Or.inl rfl | exact Or.inr ⟨rfl, fun q h1 h2 => v2_1 q h1 (by omega)⟩⟩ dX11_areSpots_44
      refine x_aload_n hx hb hl 0 rfl dX11_areSpots_7 rfl ?_
      refine x_get (j := 7) (v := .ref (h0 + 276)) hx hb hown hT hE hW cls_X11 (Or.inl (by decide)) (so_268 h0 g _) (by decide) rfl wq1192 dX11_areSpots_8 ?_
      refine x_iload_n hx hb hl 2 rfl dX11_areSpots_11 rfl ?_
      refine x_bald hx hb hE hW (Or.inl (by decide)) (sa_276 h0 g _) (by omega) (by decide) dX11_areSpots_12 ?_
      refine x_rd hW (fun x2 ex2 rx2 => ?_)
      refine x_iconst hx hb dX11_areSpots_13 ?_
      refine x_bipush hx hb dX11_areSpots_14 (by decide) ?_
      refine x_goi (x_runS (As := [.int (xJ x2), .int (xJ 0), .int (xJ 99)]) hx hb hml hown hT hE hW hl.1 cf_X11_in wq1383 wq1382 (c_X11_in l D g T h0 s0 hW.2.1 x2 rx2 0 (by decide) 99 (by decide)) ⟨rfl, rfl, ⟨by decide, by decide⟩, ⟨by decide, by decide⟩⟩ rfl rfl (Nat.le_of_ble_eq_true rfl) dX11_areSpots_16) hW (fun x3 s4 H locs rx3 hp5 hW => ?_)
      obtain ⟨es4, hp5⟩ := hp5
      subst es4
      have ghp5 := hp5
      refine x_if_eq (tgt := 35) hx hb rx3 dX11_areSpots_19 (by decide) (fun c6 => ?_) (fun c6 => ?_)
      · skip
        refine x_iconst hx hb dX11_areSpots_35 ?_
        rw [eQ]
        exact x_zret hx hb hr hlk hW (by omega) ⟨rfl, by first | exact Or.inl rfl | exact Or.inr ⟨rfl, fun q h1 h2 => v2_1 q h1 (by omega)⟩⟩ dX11_areSpots_36
      refine x_aload_n hx hb hl 0 rfl dX11_areSpots_22 rfl ?_
      refine x_aload_n hx hb hl 0 rfl dX11_areSpots_23 rfl ?_
      refine x_get (j := 7) (v := .ref (h0 + 276)) hx hb hown hT hE hW cls_X11 (Or.inl (by decide)) (so_268 h0 g _) (by decide) rfl wq1192 dX11_areSpots_24 ?_
      refine x_iload_n hx hb hl 2 rfl dX11_areSpots_27 rfl ?_
      refine x_bald hx hb hE hW (Or.inl (by decide)) (sa_276 h0 g _) (by omega) (by decide) dX11_areSpots_28 ?_
      refine x_rd hW (fun x7 ex7 rx7 => ?_)
      refine x_goi (x_runV (As := [.int (xJ x7)]) hx hb hml hown hT hE hW hl.1 (Or.inl (by decide)) (so_268 h0 g _) rfl cf_X11_isGround wq1419 wq110 wq1417 (c_X11_isGround l D g T h0 s0 hW.2.1 x7 rx7 (by omega) p0 p1 p2) ⟨rfl, rfl, ⟨by decide, by decide⟩, ⟨by decide, by decide⟩⟩ rfl rfl (Nat.le_of_ble_eq_true rfl) dX11_areSpots_29) hW (fun x8 s9 H locs rx8 hp10 hW => ?_)
      obtain ⟨es9, hp10⟩ := hp10
      subst es9
      have ghp10 := hp10
      refine x_if_ne (tgt := 37) hx hb rx8 dX11_areSpots_32 (by decide) (fun c11 => ?_) (fun c11 => ?_)
      · skip
        refine x_iinc (lv' := [(2, .int (xJ (i2_2 + 1))), (0, .ref (h0 + 268)), (1, .int (xJ n))]) hx hb hl 2 rfl dX11_areSpots_37 (by decide) rfl (fun ls hl => ?_)
        refine lv_goto (tgt := 2) hx hb dX11_areSpots_40 (by decide) ?_
        exact ih2 (i2_2 + 1) H locs ls (by omega) (by omega) (fun q h1 h2 => by
                  by_cases hq : q < (i2_2 + 1) - 1
                  · exact v2_1 q h1 (by omega)
                  · rw [show q = i2_2 from by omega]; omega) (by omega) hW (lv_sub hl [1, 2, 0] rfl)
      refine x_iconst hx hb dX11_areSpots_35 ?_
      rw [eQ]
      exact x_zret hx hb hr hlk hW (by omega) ⟨rfl, by first | exact Or.inl rfl | exact Or.inr ⟨rfl, fun q h1 h2 => v2_1 q h1 (by omega)⟩⟩ dX11_areSpots_36
  exact L2 ((20 - 0 : Int).toNat + 1) 0 H locs ls (by decide) (by omega) (fun q h1 h2 => False.elim (by omega)) (Nat.lt_succ_self _) hW (lv_sub hl [1, 2, 0] rfl)
set_option maxHeartbeats 4000000 in
set_option maxRecDepth 100000 in
theorem c_X11_failsAt (l : Launch) (D : va_G) (g : xG) (T : Nat × Nat × Nat) (h0 : Nat) (s0 : xS) (hσ : xRR s0) (n : Int) (rn : xR n) (hn : 0 ≤ n ∧ n ≤ 20) (ht : ∀ q : Int, 0 ≤ q → q < n → 0 ≤ s0 276 q ∧ s0 276 q ≤ 99) (p0 : IMn s0) (p1 : IMk s0) (p2 : IMo s0) : Met l yX11_failsAt (xws yX11_failsAt cX11_failsAt 3 (some .int)) { frames := 4, cells := 0, slots := 0, locals := 93 } (xP [.ref (h0 + 268), .int (xJ n)] D g T h0 s0) (xQi D g h0 (fun r τ => xFr (fun k => k = 296) s0 τ ∧ (((IMn τ) ∧ (IMk τ) ∧ (IMo τ) ∧ True) ∧ (True)))) 0 0 (xA h0) := by
  refine x_met hσ (by decide) (Nat.le_of_ble_eq_true rfl) ?_
  intro p e s m args below meth c hx hb hr hml hown hT hlk hnm hE hW ls hl
  have hl : lv_has ls 3 [(0, .ref (h0 + 268)), (1, .int (xJ n))] := hl
  obtain ⟨Q, eQ⟩ : ∃ Q, Q = MQ below (xQi D g h0 (fun r τ => xFr (fun k => k = 296) s0 τ ∧ (((IMn τ) ∧ (IMk τ) ∧ (IMo τ) ∧ True) ∧ (True)))) args s 0 0 (xA h0) := ⟨_, rfl⟩
  rw [← eQ]
  generalize hHe : ([] : List Loc) = locs at hW ⊢
  obtain ⟨H, eH⟩ : ∃ H, H = s.heap := ⟨_, rfl⟩
  rw [← eH] at hW ⊢
  have hF : xFr (fun k => k = 296) s0 s0 := xFr.rf
  have k268_8 : s0 268 8 = s0 268 8 := rfl
  have k268_58 : s0 268 58 = s0 268 58 := rfl
  refine x_iconst hx hb dX11_failsAt_0 ?_
  refine lv_istore_n (lv' := [(2, .int (xJ 1)), (0, .ref (h0 + 268)), (1, .int (xJ n))]) hx hb dX11_failsAt_1 rfl hl (by decide) rfl (fun ls hl => ?_)
  have L2 : ∀ (fu : Nat) (i2_2 : Int) (s_2 : xS) (H : Heap) (locs : List Loc) (ls : Array Slot), (xR i2_2) → (xFr (fun k => k = 296) s0 s_2) → (IMn s_2) → (IMk s_2) → (IMo s_2) → (s_2 268 8 = s0 268 8) → (s_2 268 58 = s0 268 58) → (0 ≤ i2_2) → (1 ≤ i2_2) → (n + 1 - i2_2).toNat < fu → xW D g h0 s H locs s_2 → lv_has ls 3 [(0, .ref (h0 + 268)), (1, .int (xJ n)), (2, .int (xJ i2_2))] → W p l e { frames := 4, cells := 0, slots := 0, locals := 93 } s m args below meth c H locs 0 0 Q (F0 m 2 ls []) := by
    intro fu
    induction fu with
    | zero => intro i2_2 s_2 H locs ls ri2_2 hF_2 q2_0 q2_1 q2_2 q2_3 q2_4 v2_0 v2_1 hm; exact absurd hm (Nat.not_lt_zero _)
    | succ fu ih2 =>
      intro i2_2 s_2 H locs ls ri2_2 hF_2 q2_0 q2_1 q2_2 q2_3 q2_4 v2_0 v2_1 hm hW hl
      refine x_iload_n hx hb hl 2 rfl dX11_failsAt_2 rfl ?_
      refine x_iload_n hx hb hl 1 rfl dX11_failsAt_3 rfl ?_
      refine x_icmp_ge (tgt := 46) hx hb ri2_2 rn dX11_failsAt_4 (by decide) (fun c1 => ?_) (fun c1 => ?_)
      · skip
        refine x_iconst hx hb dX11_failsAt_46 ?_
        rw [eQ]
        exact x_iret hx hb hr hlk hW (by decide) ⟨hF_2, ⟨q2_0, q2_1, q2_2, trivial⟩, trivial⟩ dX11_failsAt_47
      refine x_aload_n hx hb hl 0 rfl dX11_failsAt_7 rfl ?_
      refine x_aload_n hx hb hl 0 rfl dX11_failsAt_8 rfl ?_
      refine x_get (j := 7) (v := .ref (h0 + 276)) hx hb hown hT hE hW cls_X11 (Or.inl (by decide)) (so_268 h0 g _) (by decide) rfl wq1192 dX11_failsAt_9 ?_
      refine x_iload_n hx hb hl 2 rfl dX11_failsAt_12 rfl ?_
      refine x_iconst hx hb dX11_failsAt_13 ?_
      refine x_isub hx hb dX11_failsAt_14 ?_
      refine x_bald hx hb hE hW (Or.inl (by decide)) (sa_276 h0 g _) (by omega) (by decide) dX11_failsAt_15 ?_
      refine x_rd hW (fun x2 ex2 rx2 => ?_)
      have tx2 : 0 ≤ x2 ∧ x2 ≤ 99 := by rw [ex2, hF_2 276 (by omega)]; exact ht _ (by omega) (by omega)
      refine x_iconst hx hb dX11_failsAt_16 ?_
      refine x_iconst hx hb dX11_failsAt_17 ?_
      refine x_gov (x_runV (As := [.int (xJ x2), .int (xJ 3), .int (xJ 1)]) hx hb hml hown hT hE hW hl.1 (Or.inl (by decide)) (so_268 h0 g _) rfl cf_X11_laysCosts wq1637 wq151 wq1635 (c_X11_laysCosts l D g T h0 s_2 hW.2.1 x2 rx2 3 (by decide) 1 (by decide) q2_0 q2_1 q2_2) ⟨rfl, rfl, ⟨by decide, by decide⟩, ⟨by decide, by decide⟩⟩ rfl rfl (Nat.le_of_ble_eq_true rfl) dX11_failsAt_18) hW (fun s4 H locs hp5 hW => ?_)
      obtain ⟨fs4, hp5⟩ := hp5
      have hF6 := hF_2.call fs4 (fun k h => by omega)
      have q7 : s4 268 8 = s0 268 8 := (congrFun (fs4 _ (by omega)) _).trans q2_3
      have q8 : s4 268 58 = s0 268 58 := (congrFun (fs4 _ (by omega)) _).trans q2_4
      have ghp5 := hp5.2
      refine x_aload_n hx hb hl 0 rfl dX11_failsAt_21 rfl ?_
      refine x_get (j := 45) (v := .ref (h0 + 296)) hx hb hown hT hE hW cls_X11 (Or.inl (by decide)) (so_268 h0 g _) (by decide) rfl wq1230 dX11_failsAt_22 ?_
      refine x_aload_n hx hb hl 0 rfl dX11_failsAt_25 rfl ?_
      refine x_get (j := 7) (v := .ref (h0 + 276)) hx hb hown hT hE hW cls_X11 (Or.inl (by decide)) (so_268 h0 g _) (by decide) rfl wq1192 dX11_failsAt_26 ?_
      refine x_iload_n hx hb hl 2 rfl dX11_failsAt_29 rfl ?_
      refine x_bald hx hb hE hW (Or.inl (by decide)) (sa_276 h0 g _) (by omega) (by decide) dX11_failsAt_30 ?_
      refine x_rd hW (fun x9 ex9 rx9 => ?_)
      have tx9 : 0 ≤ x9 ∧ x9 ≤ 99 := by rw [ex9, hF6 276 (by omega)]; exact ht _ (by omega) (by omega)
      refine x_iald hx hb hE hW (Or.inl (by decide)) (sa_296 h0 g _) (by omega) (by decide) dX11_failsAt_31 ?_
      refine x_rd hW (fun x10 ex10 rx10 => ?_)
      refine lv_ldcw (v := xJ 1000000000) hx hb hown (hT _ wq1622) dX11_failsAt_32 ?_
      refine x_icmp_ne (tgt := 40) hx hb rx10 (by decide) dX11_failsAt_35 (by decide) (fun c11 => ?_) (fun c11 => ?_)
      · skip
        refine x_iinc (lv' := [(2, .int (xJ (i2_2 + 1))), (0, .ref (h0 + 268)), (1, .int (xJ n))]) hx hb hl 2 rfl dX11_failsAt_40 (by decide) rfl (fun ls hl => ?_)
        refine lv_goto (tgt := 2) hx hb dX11_failsAt_43 (by decide) ?_
        exact ih2 (i2_2 + 1) s4 H locs ls (by omega) hF6 hp5.1.1 hp5.1.2.1 hp5.1.2.2.1 q7 q8 (by omega) (by omega) (by omega) hW (lv_sub hl [1, 2, 0] rfl)
      refine x_iload_n hx hb hl 2 rfl dX11_failsAt_38 rfl ?_
      rw [eQ]
      exact x_iret hx hb hr hlk hW ri2_2 ⟨hF6, ⟨hp5.1.1, hp5.1.2.1, hp5.1.2.2.1, trivial⟩, trivial⟩ dX11_failsAt_39
  exact L2 ((n + 1 - 1 : Int).toNat + 1) 1 s0 H locs ls (by decide) hF p0 p1 p2 k268_8 k268_58 (by omega) (by omega) (Nat.lt_succ_self _) hW (lv_sub hl [1, 2, 0] rfl)
set_option maxHeartbeats 4000000 in
set_option maxRecDepth 100000 in
theorem c_X11_tapeNumber (l : Launch) (D : va_G) (g : xG) (T : Nat × Nat × Nat) (h0 : Nat) (s0 : xS) (hσ : xRR s0) (x : Int) (rx : xR x) (hx : 0 ≤ x ∧ x ≤ 64) (p0 : IMn s0) (p1 : IMk s0) (p2 : IMo s0) : Met l yX11_tapeNumber (xws yX11_tapeNumber cX11_tapeNumber 4 (some .int)) { frames := 0, cells := 0, slots := 0, locals := 0 } (xP [.ref (h0 + 268), .int (xJ x)] D g T h0 s0) (xQi D g h0 (fun r τ => s0 = τ ∧ (True))) 0 0 (xA h0) := by
  refine x_met hσ (by decide) (Nat.le_of_ble_eq_true rfl) ?_
  intro p e s m args below meth c hx hb hr hml hown hT hlk hnm hE hW ls hl
  have hl : lv_has ls 4 [(0, .ref (h0 + 268)), (1, .int (xJ x))] := hl
  obtain ⟨Q, eQ⟩ : ∃ Q, Q = MQ below (xQi D g h0 (fun r τ => s0 = τ ∧ (True))) args s 0 0 (xA h0) := ⟨_, rfl⟩
  rw [← eQ]
  generalize hHe : ([] : List Loc) = locs at hW ⊢
  obtain ⟨H, eH⟩ : ∃ H, H = s.heap := ⟨_, rfl⟩
  rw [← eH] at hW ⊢
  have k268_8 : s0 268 8 = s0 268 8 := rfl
  have k268_58 : s0 268 58 = s0 268 58 := rfl
  refine x_iconst hx hb dX11_tapeNumber_0 ?_
  refine lv_istore_n (lv' := [(2, .int (xJ 0)), (0, .ref (h0 + 268)), (1, .int (xJ x))]) hx hb dX11_tapeNumber_1 rfl hl (by decide) rfl (fun ls hl => ?_)
  refine x_iconst hx hb dX11_tapeNumber_2 ?_
  refine x_iload_n hx hb hl 2 rfl dX11_tapeNumber_3 rfl ?_
  refine x_imul hx hb dX11_tapeNumber_4 ?_
  refine x_nm (fun x1 ex1 => ?_)
  refine lv_istore_n (lv' := [(3, .int (xJ x1)), (2, .int (xJ 0)), (0, .ref (h0 + 268)), (1, .int (xJ x))]) hx hb dX11_tapeNumber_5 rfl hl (by decide) rfl (fun ls hl => ?_)
  have L6 : ∀ (fu : Nat) (i2_6 : Int) (i3_6 : Int) (ls : Array Slot), (xR i2_6) → (xR i3_6) → (4 * x ≤ i3_6 ∧ i3_6 ≤ 4 * x + 4) → (4 * x + 4 - i3_6).toNat < fu → lv_has ls 4 [(0, .ref (h0 + 268)), (1, .int (xJ x)), (2, .int (xJ i2_6)), (3, .int (xJ i3_6))] → W p l e { frames := 0, cells := 0, slots := 0, locals := 0 } s m args below meth c H locs 0 0 Q (F0 m 6 ls []) := by
    intro fu
    induction fu with
    | zero => intro i2_6 i3_6 ls ri2_6 ri3_6 v6_0 hm; exact absurd hm (Nat.not_lt_zero _)
    | succ fu ih6 =>
      intro i2_6 i3_6 ls ri2_6 ri3_6 v6_0 hm  hl
      refine x_iload_n hx hb hl 3 rfl dX11_tapeNumber_6 rfl ?_
      refine x_iconst hx hb dX11_tapeNumber_7 ?_
      refine x_iload_n hx hb hl 1 rfl dX11_tapeNumber_8 rfl ?_
      refine x_imul hx hb dX11_tapeNumber_9 ?_
      refine x_iconst hx hb dX11_tapeNumber_10 ?_
      refine x_iadd hx hb dX11_tapeNumber_11 ?_
      refine x_icmp_ge (tgt := 37) hx hb ri3_6 (by omega) dX11_tapeNumber_12 (by decide) (fun c2 => ?_) (fun c2 => ?_)
      · skip
        refine x_iload_n hx hb hl 2 rfl dX11_tapeNumber_37 rfl ?_
        rw [eQ]
        exact x_iret hx hb hr hlk hW ri2_6 ⟨rfl, trivial⟩ dX11_tapeNumber_38
      refine x_iload_n hx hb hl 2 rfl dX11_tapeNumber_15 rfl ?_
      refine x_bipush hx hb dX11_tapeNumber_16 (by decide) ?_
      refine lv_ishl hx hb dX11_tapeNumber_18 ?_
      refine x_any (fun x3 rx3 => ?_)
      refine x_aload_n hx hb hl 0 rfl dX11_tapeNumber_19 rfl ?_
      refine x_get (j := 7) (v := .ref (h0 + 276)) hx hb hown hT hE hW cls_X11 (Or.inl (by decide)) (so_268 h0 g _) (by decide) rfl wq1192 dX11_tapeNumber_20 ?_
      refine x_iload_n hx hb hl 3 rfl dX11_tapeNumber_23 rfl ?_
      refine x_bald hx hb hE hW (Or.inl (by decide)) (sa_276 h0 g _) (by omega) (by decide) dX11_tapeNumber_24 ?_
      refine x_rd hW (fun x4 ex4 rx4 => ?_)
      refine x_sipush hx hb dX11_tapeNumber_25 (by decide) ?_
      refine x_and255 hx hb rx4 dX11_tapeNumber_28 ?_
      refine x_nm (fun x5 ex5 => ?_)
      refine lv_ior hx hb dX11_tapeNumber_29 ?_
      refine x_any (fun x6 rx6 => ?_)
      refine lv_istore_n (lv' := [(2, .int (xJ x6)), (0, .ref (h0 + 268)), (1, .int (xJ x)), (3, .int (xJ i3_6))]) hx hb dX11_tapeNumber_30 rfl hl (by decide) rfl (fun ls hl => ?_)
      refine x_iinc (lv' := [(3, .int (xJ (i3_6 + 1))), (2, .int (xJ x6)), (0, .ref (h0 + 268)), (1, .int (xJ x))]) hx hb hl 3 rfl dX11_tapeNumber_31 (by decide) rfl (fun ls hl => ?_)
      refine lv_goto (tgt := 6) hx hb dX11_tapeNumber_34 (by decide) ?_
      exact ih6 x6 (i3_6 + 1) ls rx6 (by omega) (by omega) (by omega)  (lv_sub hl [2, 3, 1, 0] rfl)
  exact L6 ((4 * x + 4 - x1 : Int).toNat + 1) 0 x1 ls (by decide) (by omega) (by omega) (Nat.lt_succ_self _)  (lv_sub hl [2, 3, 1, 0] rfl)
set_option maxHeartbeats 4000000 in
set_option maxRecDepth 100000 in
theorem c_X11_check (l : Launch) (D : va_G) (g : xG) (T : Nat × Nat × Nat) (h0 : Nat) (s0 : xS) (hσ : xRR s0) (n : Int) (rn : xR n) (p0 : IMn s0) (p1 : IMk s0) (p2 : IMo s0) : Met l yX11_check (xws yX11_check cX11_check 3 (some .int)) { frames := 2, cells := 0, slots := 0, locals := 42 } (xP [.ref (h0 + 268), .int (xJ n)] D g T h0 s0) (xQi D g h0 (fun r τ => xFr (fun k => k = 268) s0 τ ∧ (((IMn τ) ∧ (IMk τ) ∧ (IMo τ) ∧ (τ 268 58 = s0 268 58) ∧ True) ∧ (((n < 0 ∨ 10 < n ∨ s0 268 8 / 4 < n) ∧ τ 268 8 = s0 268 8 ∧ r = -2) ∨ (¬ (n < 0 ∨ 10 < n ∨ s0 268 8 / 4 < n) ∧ τ 268 8 = 0))))) 0 0 (xA h0) := by
  refine x_met hσ (by decide) (Nat.le_of_ble_eq_true rfl) ?_
  intro p e s m args below meth c hx hb hr hml hown hT hlk hnm hE hW ls hl
  have hl : lv_has ls 3 [(0, .ref (h0 + 268)), (1, .int (xJ n))] := hl
  obtain ⟨Q, eQ⟩ : ∃ Q, Q = MQ below (xQi D g h0 (fun r τ => xFr (fun k => k = 268) s0 τ ∧ (((IMn τ) ∧ (IMk τ) ∧ (IMo τ) ∧ (τ 268 58 = s0 268 58) ∧ True) ∧ (((n < 0 ∨ 10 < n ∨ s0 268 8 / 4 < n) ∧ τ 268 8 = s0 268 8 ∧ r = -2) ∨ (¬ (n < 0 ∨ 10 < n ∨ s0 268 8 / 4 < n) ∧ τ 268 8 = 0))))) args s 0 0 (xA h0) := ⟨_, rfl⟩
  rw [← eQ]
  generalize hHe : ([] : List Loc) = locs at hW ⊢
  obtain ⟨H, eH⟩ : ∃ H, H = s.heap := ⟨_, rfl⟩
  rw [← eH] at hW ⊢
  have hF : xFr (fun k => k = 268) s0 s0 := xFr.rf
  have k268_58 : s0 268 58 = s0 268 58 := rfl
  have k268_8 : s0 268 8 = s0 268 8 := rfl
  refine x_iload_n hx hb hl 1 rfl dX11_check_0 rfl ?_
  refine x_iconst hx hb dX11_check_1 ?_
  refine x_bipush hx hb dX11_check_2 (by decide) ?_
  refine x_goi (x_runS (As := [.int (xJ n), .int (xJ 0), .int (xJ 10)]) hx hb hml hown hT hE hW hl.1 cf_X11_in wq1383 wq1382 (c_X11_in l D g T h0 s0 hW.2.1 n rn 0 (by decide) 10 (by decide)) ⟨rfl, rfl, ⟨by decide, by decide⟩, ⟨by decide, by decide⟩⟩ rfl rfl (Nat.le_of_ble_eq_true rfl) dX11_check_4) hW (fun x1 s2 H locs rx1 hp3 hW => ?_)
  obtain ⟨es2, hp3⟩ := hp3
  subst es2
  have ghp3 := hp3
  refine x_if_eq (tgt := 20) hx hb rx1 dX11_check_7 (by decide) (fun c4 => ?_) (fun c4 => ?_)
  · skip
    refine x_bipush hx hb dX11_check_20 (by decide) ?_
    rw [eQ]
    exact x_iret hx hb hr hlk hW (by decide) ⟨hF, ⟨p0, p1, p2, k268_58, trivial⟩, by omega⟩ dX11_check_22
  refine x_iload_n hx hb hl 1 rfl dX11_check_10 rfl ?_
  refine x_aload_n hx hb hl 0 rfl dX11_check_11 rfl ?_
  refine x_get (j := 8) (v := .int (xJ (s0 268 8))) hx hb hown hT hE hW cls_X11 (Or.inl (by decide)) (so_268 h0 g _) (by decide) rfl wq1193 dX11_check_12 ?_
  refine x_rd hW (fun x5 ex5 rx5 => ?_)
  have bx5 : 0 ≤ x5 ∧ x5 ≤ 260 := by rw [ex5]; exact IMn.t p0
  have fx5 : x5 = s0 268 8 := ex5.trans k268_8
  refine x_iconst hx hb dX11_check_15 ?_
  refine x_idiv hx hb rx5 (by decide) (by omega) (by decide) dX11_check_16 ?_
  refine x_icmp_le (tgt := 23) hx hb rn (by omega) dX11_check_17 (by decide) (fun c6 => ?_) (fun c6 => ?_)
  · skip
    refine x_aload_n hx hb hl 0 rfl dX11_check_23 rfl ?_
    refine x_iconst hx hb dX11_check_24 ?_
    refine x_put (j := 8) hx hb hown hT hE hW cls_X11 (by decide) (fun σ => so_268 h0 g σ) (by decide) (st_X11_8 h0 s0 268 0) (ln_X11_8 h0 _ _) wq1193 rfl rfl rfl (by decide) dX11_check_25 (fun H locs s7 es7 hW => ?_)
    have q8 : IMn s7 := by rw [es7]; exact IMn_268 p0 (by omega)
    have q9 : IMk s7 := by rw [es7]; exact IMk_268 p1 (by omega)
    have q10 : IMo s7 := by rw [es7]; exact IMo_o (by unfold suIMo; omega) p2
    have q11 : s7 268 58 = s0 268 58 := (show s7 268 58 = s0 268 58 from by rw [es7, xU_j _ _ (by decide)]).trans k268_58
    have q12 : s7 268 8 = 0 := by rw [es7, xU_s]
    have hF13 := hF.put es7 (by omega)
    refine x_iconst hx hb dX11_check_28 ?_
    refine lv_istore_n (lv' := [(2, .int (xJ 0)), (0, .ref (h0 + 268)), (1, .int (xJ n))]) hx hb dX11_check_29 rfl hl (by decide) rfl (fun ls hl => ?_)
    have L30 : ∀ (fu : Nat) (i2_30 : Int) (H : Heap) (locs : List Loc) (ls : Array Slot), (xR i2_30) → (0 ≤ i2_30) → (n + 1 - i2_30).toNat < fu → xW D g h0 s H locs s7 → lv_has ls 3 [(0, .ref (h0 + 268)), (1, .int (xJ n)), (2, .int (xJ i2_30))] → W p l e { frames := 2, cells := 0, slots := 0, locals := 42 } s m args below meth c H locs 0 0 Q (F0 m 30 ls []) := by
      intro fu
      induction fu with
      | zero => intro i2_30 H locs ls ri2_30 v30_0 hm; exact absurd hm (Nat.not_lt_zero _)
      | succ fu ih30 =>
        intro i2_30 H locs ls ri2_30 v30_0 hm hW hl
        refine x_iload_n hx hb hl 2 rfl dX11_check_30 rfl ?_
        refine x_iload_n hx hb hl 1 rfl dX11_check_31 rfl ?_
        refine x_icmp_ge (tgt := 72) hx hb ri2_30 rn dX11_check_32 (by decide) (fun c14 => ?_) (fun c14 => ?_)
        · skip
          refine x_iconst hx hb dX11_check_72 ?_
          rw [eQ]
          exact x_iret hx hb hr hlk hW (by decide) ⟨hF13, ⟨q8, q9, q10, q11, trivial⟩, by omega⟩ dX11_check_73
        refine x_aload_n hx hb hl 0 rfl dX11_check_35 rfl ?_
        refine x_iload_n hx hb hl 2 rfl dX11_check_36 rfl ?_
        refine x_goi (x_runV (As := [.int (xJ i2_30)]) hx hb hml hown hT hE hW hl.1 (Or.inl (by decide)) (so_268 h0 g _) rfl cf_X11_tapeNumber wq1776 wq164 wq1774 (c_X11_tapeNumber l D g T h0 s7 hW.2.1 i2_30 ri2_30 (by omega) q8 q9 q10) ⟨rfl, rfl, ⟨by decide, by decide⟩, ⟨by decide, by decide⟩⟩ rfl rfl (Nat.le_of_ble_eq_true rfl) dX11_check_37) hW (fun x15 s16 H locs rx15 hp17 hW => ?_)
        obtain ⟨es16, hp17⟩ := hp17
        subst es16
        have ghp17 := hp17
        refine x_aload_n hx hb hl 0 rfl dX11_check_40 rfl ?_
        refine x_iload_n hx hb hl 2 rfl dX11_check_41 rfl ?_
        refine x_goi (x_runV (As := [.int (xJ i2_30)]) hx hb hml hown hT hE hW hl.1 (Or.inl (by decide)) (so_268 h0 g _) rfl cf_X11_isFelon wq1423 wq111 wq1421 (c_X11_isFelon l D g T h0 s7 hW.2.1 i2_30 ri2_30 q8 q9 q10) ⟨rfl, rfl, ⟨by decide, by decide⟩, ⟨by decide, by decide⟩⟩ rfl rfl (Nat.le_of_ble_eq_true rfl) dX11_check_42) hW (fun x18 s19 H locs rx18 hp20 hW => ?_)
        obtain ⟨es19, hp20⟩ := hp20
        subst es19
        have ghp20 := hp20
        refine x_if_eq (tgt := 60) hx hb rx18 dX11_check_45 (by decide) (fun c21 => ?_) (fun c21 => ?_)
        · skip
          refine x_iconst hx hb dX11_check_60 ?_
          refine x_icmp_eq (tgt := 66) hx hb rx15 (by decide) dX11_check_61 (by decide) (fun c22 => ?_) (fun c22 => ?_)
          · skip
            refine x_iinc (lv' := [(2, .int (xJ (i2_30 + 1))), (0, .ref (h0 + 268)), (1, .int (xJ n))]) hx hb hl 2 rfl dX11_check_66 (by decide) rfl (fun ls hl => ?_)
            refine lv_goto (tgt := 30) hx hb dX11_check_69 (by decide) ?_
            exact ih30 (i2_30 + 1) H locs ls (by omega) (by omega) (by omega) hW (lv_sub hl [1, 2, 0] rfl)
          refine x_iload_n hx hb hl 2 rfl dX11_check_64 rfl ?_
          rw [eQ]
          exact x_iret hx hb hr hlk hW ri2_30 ⟨hF13, ⟨q8, q9, q10, q11, trivial⟩, by omega⟩ dX11_check_65
        refine x_aload_n hx hb hl 0 rfl dX11_check_48 rfl ?_
        refine x_get (j := 0) (v := .ref (h0 + 269)) hx hb hown hT hE hW cls_X11 (Or.inl (by decide)) (so_268 h0 g _) (by decide) rfl wq1185 dX11_check_49 ?_
        refine x_bipush hx hb dX11_check_52 (by decide) ?_
        refine x_iload_n hx hb hl 2 rfl dX11_check_54 rfl ?_
        refine x_iadd hx hb dX11_check_55 ?_
        refine x_iald hx hb hE hW (Or.inl (by decide)) (sa_269 h0 g _) (by omega) (by decide) dX11_check_56 ?_
        refine x_rd hW (fun x23 ex23 rx23 => ?_)
        refine lv_goto (tgt := 61) hx hb dX11_check_57 (by decide) ?_
        refine x_icmp_eq (tgt := 66) hx hb rx15 rx23 dX11_check_61 (by decide) (fun c24 => ?_) (fun c24 => ?_)
        · skip
          refine x_iinc (lv' := [(2, .int (xJ (i2_30 + 1))), (0, .ref (h0 + 268)), (1, .int (xJ n))]) hx hb hl 2 rfl dX11_check_66 (by decide) rfl (fun ls hl => ?_)
          refine lv_goto (tgt := 30) hx hb dX11_check_69 (by decide) ?_
          exact ih30 (i2_30 + 1) H locs ls (by omega) (by omega) (by omega) hW (lv_sub hl [1, 2, 0] rfl)
        refine x_iload_n hx hb hl 2 rfl dX11_check_64 rfl ?_
        rw [eQ]
        exact x_iret hx hb hr hlk hW ri2_30 ⟨hF13, ⟨q8, q9, q10, q11, trivial⟩, by omega⟩ dX11_check_65
    exact L30 ((n + 1 - 0 : Int).toNat + 1) 0 H locs ls (by decide) (by omega) (Nat.lt_succ_self _) hW (lv_sub hl [1, 2, 0] rfl)
  refine x_bipush hx hb dX11_check_20 (by decide) ?_
  rw [eQ]
  exact x_iret hx hb hr hlk hW (by decide) ⟨hF, ⟨p0, p1, p2, k268_58, trivial⟩, by omega⟩ dX11_check_22
set_option maxHeartbeats 4000000 in
set_option maxRecDepth 100000 in
theorem c_X11_cloudy (l : Launch) (D : va_G) (g : xG) (T : Nat × Nat × Nat) (h0 : Nat) (s0 : xS) (hσ : xRR s0) (n : Int) (rn : xR n) (w : Int) (rw : xR w) (x : Int) (rx : xR x) (p0 : IMn s0) (p1 : IMk s0) (p2 : IMo s0) : Met l yX11_cloudy (xws yX11_cloudy cX11_cloudy 10 (some .int)) { frames := 1, cells := 0, slots := 0, locals := 22 } (xP [.ref (h0 + 268), .int (xJ n), .int (xJ w), .int (xJ x)] D g T h0 s0) (xQi D g h0 (fun r τ => xFr (fun k => k = 268) s0 τ ∧ (((IMn τ) ∧ (IMk τ) ∧ (IMo τ) ∧ (τ 268 58 = s0 268 58) ∧ True) ∧ (((n < 1 ∨ 10 < n ∨ w < 0 ∨ 90 < w ∨ x < 0 ∨ 2 < x ∨ s0 268 8 < n) ∧ τ 268 8 = s0 268 8 ∧ r = -1) ∨ (¬ (n < 1 ∨ 10 < n ∨ w < 0 ∨ 90 < w ∨ x < 0 ∨ 2 < x ∨ s0 268 8 < n) ∧ τ 268 8 = 0 ∧ ((zbad (s0 276) n 1 9 ∧ r = -3) ∨ (¬ zbad (s0 276) n 1 9 ∧ r = zans (s0 276) n w x 1023))))))) 0 0 (xA h0) := by
  refine x_met hσ (by decide) (Nat.le_of_ble_eq_true rfl) ?_
  intro p e s m args below meth c hx hb hr hml hown hT hlk hnm hE hW ls hl
  have hl : lv_has ls 10 [(0, .ref (h0 + 268)), (1, .int (xJ n)), (2, .int (xJ w)), (3, .int (xJ x))] := hl
  obtain ⟨Q, eQ⟩ : ∃ Q, Q = MQ below (xQi D g h0 (fun r τ => xFr (fun k => k = 268) s0 τ ∧ (((IMn τ) ∧ (IMk τ) ∧ (IMo τ) ∧ (τ 268 58 = s0 268 58) ∧ True) ∧ (((n < 1 ∨ 10 < n ∨ w < 0 ∨ 90 < w ∨ x < 0 ∨ 2 < x ∨ s0 268 8 < n) ∧ τ 268 8 = s0 268 8 ∧ r = -1) ∨ (¬ (n < 1 ∨ 10 < n ∨ w < 0 ∨ 90 < w ∨ x < 0 ∨ 2 < x ∨ s0 268 8 < n) ∧ τ 268 8 = 0 ∧ ((zbad (s0 276) n 1 9 ∧ r = -3) ∨ (¬ zbad (s0 276) n 1 9 ∧ r = zans (s0 276) n w x 1023))))))) args s 0 0 (xA h0) := ⟨_, rfl⟩
  rw [← eQ]
  generalize hHe : ([] : List Loc) = locs at hW ⊢
  obtain ⟨H, eH⟩ : ∃ H, H = s.heap := ⟨_, rfl⟩
  rw [← eH] at hW ⊢
  have hF : xFr (fun k => k = 268) s0 s0 := xFr.rf
  have k268_58 : s0 268 58 = s0 268 58 := rfl
  have k268_8 : s0 268 8 = s0 268 8 := rfl
  have hpw : 1 ≤ n ∧ n ≤ 10 → 1 ≤ zpw n ∧ zpw n ≤ 1024 := fun h => zpw_le ⟨by omega, h.2⟩
  refine x_iload_n hx hb hl 1 rfl dX11_cloudy_0 rfl ?_
  refine x_iconst hx hb dX11_cloudy_1 ?_
  refine x_bipush hx hb dX11_cloudy_2 (by decide) ?_
  refine x_goi (x_runS (As := [.int (xJ n), .int (xJ 1), .int (xJ 10)]) hx hb hml hown hT hE hW hl.1 cf_X11_in wq1383 wq1382 (c_X11_in l D g T h0 s0 hW.2.1 n rn 1 (by decide) 10 (by decide)) ⟨rfl, rfl, ⟨by decide, by decide⟩, ⟨by decide, by decide⟩⟩ rfl rfl (Nat.le_of_ble_eq_true rfl) dX11_cloudy_4) hW (fun x1 s2 H locs rx1 hp3 hW => ?_)
  obtain ⟨es2, hp3⟩ := hp3
  subst es2
  have ghp3 := hp3
  refine x_if_eq (tgt := 37) hx hb rx1 dX11_cloudy_7 (by decide) (fun c4 => ?_) (fun c4 => ?_)
  · skip
    refine x_iconst hx hb dX11_cloudy_37 ?_
    rw [eQ]
    exact x_iret hx hb hr hlk hW (by decide) ⟨hF, ⟨p0, p1, p2, k268_58, trivial⟩, Or.inl ⟨by omega, by omega, by omega⟩⟩ dX11_cloudy_38
  refine x_iload_n hx hb hl 2 rfl dX11_cloudy_10 rfl ?_
  refine x_iconst hx hb dX11_cloudy_11 ?_
  refine x_bipush hx hb dX11_cloudy_12 (by decide) ?_
  refine x_goi (x_runS (As := [.int (xJ w), .int (xJ 0), .int (xJ 90)]) hx hb hml hown hT hE hW hl.1 cf_X11_in wq1383 wq1382 (c_X11_in l D g T h0 s0 hW.2.1 w rw 0 (by decide) 90 (by decide)) ⟨rfl, rfl, ⟨by decide, by decide⟩, ⟨by decide, by decide⟩⟩ rfl rfl (Nat.le_of_ble_eq_true rfl) dX11_cloudy_14) hW (fun x5 s6 H locs rx5 hp7 hW => ?_)
  obtain ⟨es6, hp7⟩ := hp7
  subst es6
  have ghp7 := hp7
  refine x_if_eq (tgt := 37) hx hb rx5 dX11_cloudy_17 (by decide) (fun c8 => ?_) (fun c8 => ?_)
  · skip
    refine x_iconst hx hb dX11_cloudy_37 ?_
    rw [eQ]
    exact x_iret hx hb hr hlk hW (by decide) ⟨hF, ⟨p0, p1, p2, k268_58, trivial⟩, Or.inl ⟨by omega, by omega, by omega⟩⟩ dX11_cloudy_38
  refine x_iload_n hx hb hl 3 rfl dX11_cloudy_20 rfl ?_
  refine x_iconst hx hb dX11_cloudy_21 ?_
  refine x_iconst hx hb dX11_cloudy_22 ?_
  refine x_goi (x_runS (As := [.int (xJ x), .int (xJ 0), .int (xJ 2)]) hx hb hml hown hT hE hW hl.1 cf_X11_in wq1383 wq1382 (c_X11_in l D g T h0 s0 hW.2.1 x rx 0 (by decide) 2 (by decide)) ⟨rfl, rfl, ⟨by decide, by decide⟩, ⟨by decide, by decide⟩⟩ rfl rfl (Nat.le_of_ble_eq_true rfl) dX11_cloudy_23) hW (fun x9 s10 H locs rx9 hp11 hW => ?_)
  obtain ⟨es10, hp11⟩ := hp11
  subst es10
  have ghp11 := hp11
  refine x_if_eq (tgt := 37) hx hb rx9 dX11_cloudy_26 (by decide) (fun c12 => ?_) (fun c12 => ?_)
  · skip
    refine x_iconst hx hb dX11_cloudy_37 ?_
    rw [eQ]
    exact x_iret hx hb hr hlk hW (by decide) ⟨hF, ⟨p0, p1, p2, k268_58, trivial⟩, Or.inl ⟨by omega, by omega, by omega⟩⟩ dX11_cloudy_38
  refine x_iload_n hx hb hl 1 rfl dX11_cloudy_29 rfl ?_
  refine x_aload_n hx hb hl 0 rfl dX11_cloudy_30 rfl ?_
  refine x_get (j := 8) (v := .int (xJ (s0 268 8))) hx hb hown hT hE hW cls_X11 (Or.inl (by decide)) (so_268 h0 g _) (by decide) rfl wq1193 dX11_cloudy_31 ?_
  refine x_rd hW (fun x13 ex13 rx13 => ?_)
  have bx13 : 0 ≤ x13 ∧ x13 ≤ 260 := by rw [ex13]; exact IMn.t p0
  have fx13 : x13 = s0 268 8 := ex13.trans k268_8
  refine x_icmp_le (tgt := 39) hx hb rn rx13 dX11_cloudy_34 (by decide) (fun c14 => ?_) (fun c14 => ?_)
  · skip
    refine x_aload_n hx hb hl 0 rfl dX11_cloudy_39 rfl ?_
    refine x_iconst hx hb dX11_cloudy_40 ?_
    refine x_put (j := 8) hx hb hown hT hE hW cls_X11 (by decide) (fun σ => so_268 h0 g σ) (by decide) (st_X11_8 h0 s0 268 0) (ln_X11_8 h0 _ _) wq1193 rfl rfl rfl (by decide) dX11_cloudy_41 (fun H locs s15 es15 hW => ?_)
    have q16 : IMn s15 := by rw [es15]; exact IMn_268 p0 (by omega)
    have q17 : IMk s15 := by rw [es15]; exact IMk_268 p1 (by omega)
    have q18 : IMo s15 := by rw [es15]; exact IMo_o (by unfold suIMo; omega) p2
    have q19 : s15 268 58 = s0 268 58 := (show s15 268 58 = s0 268 58 from by rw [es15, xU_j _ _ (by decide)]).trans k268_58
    have q20 : s15 268 8 = 0 := by rw [es15, xU_s]
    have hF21 := hF.put es15 (by omega)
    refine x_iconst hx hb dX11_cloudy_44 ?_
    refine lv_istore (lv' := [(4, .int (xJ 0)), (0, .ref (h0 + 268)), (1, .int (xJ n)), (2, .int (xJ w)), (3, .int (xJ x))]) hx hb dX11_cloudy_45 hl (by decide) rfl (fun ls hl => ?_)
    have L47 : ∀ (fu : Nat) (i4_47 : Int) (H : Heap) (locs : List Loc) (ls : Array Slot), (xR i4_47) → (0 ≤ i4_47 ∧ i4_47 ≤ n) → (∀ q : Int, 0 ≤ q → q < i4_47 → 1 ≤ s0 276 q ∧ s0 276 q ≤ 9) → (11 - i4_47).toNat < fu → xW D g h0 s H locs s15 → lv_has ls 10 [(0, .ref (h0 + 268)), (1, .int (xJ n)), (2, .int (xJ w)), (3, .int (xJ x)), (4, .int (xJ i4_47))] → W p l e { frames := 1, cells := 0, slots := 0, locals := 22 } s m args below meth c H locs 0 0 Q (F0 m 47 ls []) := by
      intro fu
      induction fu with
      | zero => intro i4_47 H locs ls ri4_47 v47_0 v47_1 hm; exact absurd hm (Nat.not_lt_zero _)
      | succ fu ih47 =>
        intro i4_47 H locs ls ri4_47 v47_0 v47_1 hm hW hl
        refine x_iload hx hb hl 4 rfl dX11_cloudy_47 ?_
        refine x_iload_n hx hb hl 1 rfl dX11_cloudy_49 rfl ?_
        refine x_icmp_ge (tgt := 78) hx hb ri4_47 rn dX11_cloudy_50 (by decide) (fun c22 => ?_) (fun c22 => ?_)
        · skip
          refine x_iconst hx hb dX11_cloudy_78 ?_
          refine lv_istore (lv' := [(4, .int (xJ 0)), (0, .ref (h0 + 268)), (1, .int (xJ n)), (2, .int (xJ w)), (3, .int (xJ x))]) hx hb dX11_cloudy_79 hl (by decide) rfl (fun ls hl => ?_)
          refine x_bipush hx hb dX11_cloudy_81 (by decide) ?_
          refine lv_istore (lv' := [(5, .int (xJ (-2))), (4, .int (xJ 0)), (0, .ref (h0 + 268)), (1, .int (xJ n)), (2, .int (xJ w)), (3, .int (xJ x))]) hx hb dX11_cloudy_83 hl (by decide) rfl (fun ls hl => ?_)
          refine x_sipush hx hb dX11_cloudy_85 (by decide) ?_
          refine lv_istore (lv' := [(6, .int (xJ 1023)), (5, .int (xJ (-2))), (4, .int (xJ 0)), (0, .ref (h0 + 268)), (1, .int (xJ n)), (2, .int (xJ w)), (3, .int (xJ x))]) hx hb dX11_cloudy_88 hl (by decide) rfl (fun ls hl => ?_)
          refine x_iconst hx hb dX11_cloudy_90 ?_
          refine lv_istore (lv' := [(7, .int (xJ 0)), (6, .int (xJ 1023)), (5, .int (xJ (-2))), (4, .int (xJ 0)), (0, .ref (h0 + 268)), (1, .int (xJ n)), (2, .int (xJ w)), (3, .int (xJ x))]) hx hb dX11_cloudy_91 hl (by decide) rfl (fun ls hl => ?_)
          have L93 : ∀ (fu : Nat) (i4_93 : Int) (i5_93 : Int) (i6_93 : Int) (i7_93 : Int) (H : Heap) (locs : List Loc) (ls : Array Slot), (xR i4_93) → (xR i5_93) → (xR i6_93) → (xR i7_93) → (0 ≤ i7_93 ∧ i7_93 ≤ zpw n) → (0 ≤ i4_93 ∧ i4_93 ≤ i7_93) → (i4_93 = zcm (s0 276) n w (i7_93).toNat) → (i5_93 = zcf (s0 276) n w (i7_93).toNat) → (i6_93 = zca (s0 276) n w 1023 (i7_93).toNat) → (1024 - i7_93).toNat < fu → xW D g h0 s H locs s15 → lv_has ls 10 [(0, .ref (h0 + 268)), (1, .int (xJ n)), (2, .int (xJ w)), (3, .int (xJ x)), (4, .int (xJ i4_93)), (5, .int (xJ i5_93)), (6, .int (xJ i6_93)), (7, .int (xJ i7_93))] → W p l e { frames := 1, cells := 0, slots := 0, locals := 22 } s m args below meth c H locs 0 0 Q (F0 m 93 ls []) := by
            intro fu
            induction fu with
            | zero => intro i4_93 i5_93 i6_93 i7_93 H locs ls ri4_93 ri5_93 ri6_93 ri7_93 v93_0 v93_1 v93_2 v93_3 v93_4 hm; exact absurd hm (Nat.not_lt_zero _)
            | succ fu ih93 =>
              intro i4_93 i5_93 i6_93 i7_93 H locs ls ri4_93 ri5_93 ri6_93 ri7_93 v93_0 v93_1 v93_2 v93_3 v93_4 hm hW hl
              refine x_iload hx hb hl 7 rfl dX11_cloudy_93 ?_
              refine x_iconst hx hb dX11_cloudy_95 ?_
              refine x_iload_n hx hb hl 1 rfl dX11_cloudy_96 rfl ?_
              refine x_shl1 hx hb (by omega) dX11_cloudy_97 (fun x23 ex23 bx23 => ?_)
              have P97 : x23 = zpw n := ex23
              refine x_icmp_ge (tgt := 187) hx hb ri7_93 (by omega) dX11_cloudy_98 (by decide) (fun c24 => ?_) (fun c24 => ?_)
              · skip
                refine x_iload_n hx hb hl 3 rfl dX11_cloudy_187 rfl ?_
                refine x_if_ne (tgt := 196) hx hb rx dX11_cloudy_188 (by decide) (fun c25 => ?_) (fun c25 => ?_)
                · skip
                  refine x_iload_n hx hb hl 3 rfl dX11_cloudy_196 rfl ?_
                  refine x_iconst hx hb dX11_cloudy_197 ?_
                  refine x_icmp_eq (tgt := 206) hx hb rx (by decide) dX11_cloudy_198 (by decide) (fun c26 => ?_) (fun c26 => ?_)
                  · skip
                    refine x_iload hx hb hl 5 rfl dX11_cloudy_206 ?_
                    refine lv_goto (tgt := 213) hx hb dX11_cloudy_208 (by decide) ?_
                    rw [eQ]
                    exact x_iret hx hb hr hlk hW ri5_93 ⟨hF21, ⟨q16, q17, q18, q19, trivial⟩, Or.inr ⟨by omega, by omega, Or.inr ⟨fun ⟨i, h1, h2, h3⟩ => by have := v47_1 i h1 (by omega); omega, zans_i (i := i7_93) (c := i4_93) (d := i5_93) (e := i6_93) (by omega) v93_2 v93_3 v93_4 (by omega)⟩⟩⟩ dX11_cloudy_213
                  refine x_iload hx hb hl 4 rfl dX11_cloudy_201 ?_
                  refine x_if_ne (tgt := 211) hx hb ri4_93 dX11_cloudy_203 (by decide) (fun c27 => ?_) (fun c27 => ?_)
                  · skip
                    refine x_iload hx hb hl 6 rfl dX11_cloudy_211 ?_
                    rw [eQ]
                    exact x_iret hx hb hr hlk hW ri6_93 ⟨hF21, ⟨q16, q17, q18, q19, trivial⟩, Or.inr ⟨by omega, by omega, Or.inr ⟨fun ⟨i, h1, h2, h3⟩ => by have := v47_1 i h1 (by omega); omega, zans_i (i := i7_93) (c := i4_93) (d := i5_93) (e := i6_93) (by omega) v93_2 v93_3 v93_4 (by omega)⟩⟩⟩ dX11_cloudy_213
                  refine x_iload hx hb hl 5 rfl dX11_cloudy_206 ?_
                  refine lv_goto (tgt := 213) hx hb dX11_cloudy_208 (by decide) ?_
                  rw [eQ]
                  exact x_iret hx hb hr hlk hW ri5_93 ⟨hF21, ⟨q16, q17, q18, q19, trivial⟩, Or.inr ⟨by omega, by omega, Or.inr ⟨fun ⟨i, h1, h2, h3⟩ => by have := v47_1 i h1 (by omega); omega, zans_i (i := i7_93) (c := i4_93) (d := i5_93) (e := i6_93) (by omega) v93_2 v93_3 v93_4 (by omega)⟩⟩⟩ dX11_cloudy_213
                refine x_iload hx hb hl 4 rfl dX11_cloudy_191 ?_
                refine lv_goto (tgt := 213) hx hb dX11_cloudy_193 (by decide) ?_
                rw [eQ]
                exact x_iret hx hb hr hlk hW ri4_93 ⟨hF21, ⟨q16, q17, q18, q19, trivial⟩, Or.inr ⟨by omega, by omega, Or.inr ⟨fun ⟨i, h1, h2, h3⟩ => by have := v47_1 i h1 (by omega); omega, zans_i (i := i7_93) (c := i4_93) (d := i5_93) (e := i6_93) (by omega) v93_2 v93_3 v93_4 (by omega)⟩⟩⟩ dX11_cloudy_213
              refine x_iconst hx hb dX11_cloudy_101 ?_
              refine lv_istore (lv' := [(8, .int (xJ 0)), (0, .ref (h0 + 268)), (1, .int (xJ n)), (2, .int (xJ w)), (3, .int (xJ x)), (4, .int (xJ i4_93)), (5, .int (xJ i5_93)), (6, .int (xJ i6_93)), (7, .int (xJ i7_93))]) hx hb dX11_cloudy_102 hl (by decide) rfl (fun ls hl => ?_)
              refine x_iconst hx hb dX11_cloudy_104 ?_
              refine lv_istore (lv' := [(9, .int (xJ 0)), (8, .int (xJ 0)), (0, .ref (h0 + 268)), (1, .int (xJ n)), (2, .int (xJ w)), (3, .int (xJ x)), (4, .int (xJ i4_93)), (5, .int (xJ i5_93)), (6, .int (xJ i6_93)), (7, .int (xJ i7_93))]) hx hb dX11_cloudy_105 hl (by decide) rfl (fun ls hl => ?_)
              have L107 : ∀ (fu : Nat) (i8_107 : Int) (i9_107 : Int) (H : Heap) (locs : List Loc) (ls : Array Slot), (xR i8_107) → (xR i9_107) → (0 ≤ i9_107 ∧ i9_107 ≤ n) → (i8_107 = zsum (s0 276) i7_93 (i9_107).toNat) → (0 ≤ i8_107 ∧ i8_107 ≤ 9 * i9_107) → (11 - i9_107).toNat < fu → xW D g h0 s H locs s15 → lv_has ls 10 [(0, .ref (h0 + 268)), (1, .int (xJ n)), (2, .int (xJ w)), (3, .int (xJ x)), (4, .int (xJ i4_93)), (5, .int (xJ i5_93)), (6, .int (xJ i6_93)), (7, .int (xJ i7_93)), (8, .int (xJ i8_107)), (9, .int (xJ i9_107))] → W p l e { frames := 1, cells := 0, slots := 0, locals := 22 } s m args below meth c H locs 0 0 Q (F0 m 107 ls []) := by
                intro fu
                induction fu with
                | zero => intro i8_107 i9_107 H locs ls ri8_107 ri9_107 v107_0 v107_1 v107_2 hm; exact absurd hm (Nat.not_lt_zero _)
                | succ fu ih107 =>
                  intro i8_107 i9_107 H locs ls ri8_107 ri9_107 v107_0 v107_1 v107_2 hm hW hl
                  refine x_iload hx hb hl 9 rfl dX11_cloudy_107 ?_
                  refine x_iload_n hx hb hl 1 rfl dX11_cloudy_109 rfl ?_
                  refine x_icmp_ge (tgt := 145) hx hb ri9_107 rn dX11_cloudy_110 (by decide) (fun c28 => ?_) (fun c28 => ?_)
                  · skip
                    refine x_iload hx hb hl 8 rfl dX11_cloudy_145 ?_
                    have Z145 : i8_107 = zsum (s0 276) i7_93 n.toNat := by rw [show n = i9_107 from by omega]; exact v107_1
                    refine x_iload_n hx hb hl 2 rfl dX11_cloudy_147 rfl ?_
                    refine x_icmp_eq (tgt := 154) hx hb ri8_107 rw dX11_cloudy_148 (by decide) (fun c29 => ?_) (fun c29 => ?_)
                    · skip
                      refine x_iload hx hb hl 4 rfl dX11_cloudy_154 ?_
                      refine x_if_ne (tgt := 164) hx hb ri4_93 dX11_cloudy_156 (by decide) (fun c30 => ?_) (fun c30 => ?_)
                      · skip
                        refine x_iload hx hb hl 5 rfl dX11_cloudy_164 ?_
                        refine lv_istore (lv' := [(5, .int (xJ i5_93)), (0, .ref (h0 + 268)), (1, .int (xJ n)), (2, .int (xJ w)), (3, .int (xJ x)), (4, .int (xJ i4_93)), (6, .int (xJ i6_93)), (7, .int (xJ i7_93)), (8, .int (xJ i8_107)), (9, .int (xJ i9_107))]) hx hb dX11_cloudy_166 hl (by decide) rfl (fun ls hl => ?_)
                        refine x_iload hx hb hl 5 rfl dX11_cloudy_168 ?_
                        refine x_iconst hx hb dX11_cloudy_170 ?_
                        refine x_iadd hx hb dX11_cloudy_171 ?_
                        refine x_nm (fun x31 ex31 => ?_)
                        refine lv_istore (lv' := [(4, .int (xJ x31)), (5, .int (xJ i5_93)), (0, .ref (h0 + 268)), (1, .int (xJ n)), (2, .int (xJ w)), (3, .int (xJ x)), (6, .int (xJ i6_93)), (7, .int (xJ i7_93)), (8, .int (xJ i8_107)), (9, .int (xJ i9_107))]) hx hb dX11_cloudy_172 hl (by decide) rfl (fun ls hl => ?_)
                        refine x_iload hx hb hl 6 rfl dX11_cloudy_174 ?_
                        refine x_iload hx hb hl 7 rfl dX11_cloudy_176 ?_
                        refine x_zand hx hb dX11_cloudy_178 (fun x32 ex32 rx32 => ?_)
                        have Z178 : x32 = zand i6_93 i7_93 := ex32
                        refine lv_istore (lv' := [(6, .int (xJ x32)), (4, .int (xJ x31)), (5, .int (xJ i5_93)), (0, .ref (h0 + 268)), (1, .int (xJ n)), (2, .int (xJ w)), (3, .int (xJ x)), (7, .int (xJ i7_93)), (8, .int (xJ i8_107)), (9, .int (xJ i9_107))]) hx hb dX11_cloudy_179 hl (by decide) rfl (fun ls hl => ?_)
                        refine x_iinc (lv' := [(7, .int (xJ (i7_93 + 1))), (6, .int (xJ x32)), (4, .int (xJ x31)), (5, .int (xJ i5_93)), (0, .ref (h0 + 268)), (1, .int (xJ n)), (2, .int (xJ w)), (3, .int (xJ x)), (8, .int (xJ i8_107)), (9, .int (xJ i9_107))]) hx hb hl 7 rfl dX11_cloudy_181 (by decide) rfl (fun ls hl => ?_)
                        refine lv_goto (tgt := 93) hx hb dX11_cloudy_184 (by decide) ?_
                        exact ih93 x31 i5_93 x32 (i7_93 + 1) H locs ls (by omega) ri5_93 rx32 (by omega) (by omega) (by omega) (by first | (have z9 := zcs_n (f := s0 276) (n := n) (w := w) (a0 := 1023) (i := i7_93) (by omega) (by omega); omega) | (have z9 := zcs_y (f := s0 276) (n := n) (w := w) (a0 := 1023) (i := i7_93) (by omega) (by omega); omega)) (by first | (have z9 := zcs_n (f := s0 276) (n := n) (w := w) (a0 := 1023) (i := i7_93) (by omega) (by omega); omega) | (have z9 := zcs_y (f := s0 276) (n := n) (w := w) (a0 := 1023) (i := i7_93) (by omega) (by omega); omega)) (by first | (have z9 := zcs_n (f := s0 276) (n := n) (w := w) (a0 := 1023) (i := i7_93) (by omega) (by omega); omega) | (have z9 := zcs_y (f := s0 276) (n := n) (w := w) (a0 := 1023) (i := i7_93) (by omega) (by omega); rw [z9.2.2.2, ← v93_4]; exact Z178)) (by omega) hW (lv_sub hl [4, 5, 6, 7, 2, 3, 1, 0] rfl)
                      refine x_iload hx hb hl 7 rfl dX11_cloudy_159 ?_
                      refine lv_goto (tgt := 166) hx hb dX11_cloudy_161 (by decide) ?_
                      refine lv_istore (lv' := [(5, .int (xJ i7_93)), (0, .ref (h0 + 268)), (1, .int (xJ n)), (2, .int (xJ w)), (3, .int (xJ x)), (4, .int (xJ i4_93)), (6, .int (xJ i6_93)), (7, .int (xJ i7_93)), (8, .int (xJ i8_107)), (9, .int (xJ i9_107))]) hx hb dX11_cloudy_166 hl (by decide) rfl (fun ls hl => ?_)
                      refine x_iload hx hb hl 5 rfl dX11_cloudy_168 ?_
                      refine x_iconst hx hb dX11_cloudy_170 ?_
                      refine x_iadd hx hb dX11_cloudy_171 ?_
                      refine x_nm (fun x33 ex33 => ?_)
                      refine lv_istore (lv' := [(4, .int (xJ x33)), (5, .int (xJ i7_93)), (0, .ref (h0 + 268)), (1, .int (xJ n)), (2, .int (xJ w)), (3, .int (xJ x)), (6, .int (xJ i6_93)), (7, .int (xJ i7_93)), (8, .int (xJ i8_107)), (9, .int (xJ i9_107))]) hx hb dX11_cloudy_172 hl (by decide) rfl (fun ls hl => ?_)
                      refine x_iload hx hb hl 6 rfl dX11_cloudy_174 ?_
                      refine x_iload hx hb hl 7 rfl dX11_cloudy_176 ?_
                      refine x_zand hx hb dX11_cloudy_178 (fun x34 ex34 rx34 => ?_)
                      have Z178 : x34 = zand i6_93 i7_93 := ex34
                      refine lv_istore (lv' := [(6, .int (xJ x34)), (4, .int (xJ x33)), (5, .int (xJ i7_93)), (0, .ref (h0 + 268)), (1, .int (xJ n)), (2, .int (xJ w)), (3, .int (xJ x)), (7, .int (xJ i7_93)), (8, .int (xJ i8_107)), (9, .int (xJ i9_107))]) hx hb dX11_cloudy_179 hl (by decide) rfl (fun ls hl => ?_)
                      refine x_iinc (lv' := [(7, .int (xJ (i7_93 + 1))), (6, .int (xJ x34)), (4, .int (xJ x33)), (5, .int (xJ i7_93)), (0, .ref (h0 + 268)), (1, .int (xJ n)), (2, .int (xJ w)), (3, .int (xJ x)), (8, .int (xJ i8_107)), (9, .int (xJ i9_107))]) hx hb hl 7 rfl dX11_cloudy_181 (by decide) rfl (fun ls hl => ?_)
                      refine lv_goto (tgt := 93) hx hb dX11_cloudy_184 (by decide) ?_
                      exact ih93 x33 i7_93 x34 (i7_93 + 1) H locs ls (by omega) ri7_93 rx34 (by omega) (by omega) (by omega) (by first | (have z9 := zcs_n (f := s0 276) (n := n) (w := w) (a0 := 1023) (i := i7_93) (by omega) (by omega); omega) | (have z9 := zcs_y (f := s0 276) (n := n) (w := w) (a0 := 1023) (i := i7_93) (by omega) (by omega); omega)) (by first | (have z9 := zcs_n (f := s0 276) (n := n) (w := w) (a0 := 1023) (i := i7_93) (by omega) (by omega); omega) | (have z9 := zcs_y (f := s0 276) (n := n) (w := w) (a0 := 1023) (i := i7_93) (by omega) (by omega); omega)) (by first | (have z9 := zcs_n (f := s0 276) (n := n) (w := w) (a0 := 1023) (i := i7_93) (by omega) (by omega); omega) | (have z9 := zcs_y (f := s0 276) (n := n) (w := w) (a0 := 1023) (i := i7_93) (by omega) (by omega); rw [z9.2.2.2, ← v93_4]; exact Z178)) (by omega) hW (lv_sub hl [4, 5, 6, 7, 2, 3, 1, 0] rfl)
                    refine lv_goto (tgt := 181) hx hb dX11_cloudy_151 (by decide) ?_
                    refine x_iinc (lv' := [(7, .int (xJ (i7_93 + 1))), (0, .ref (h0 + 268)), (1, .int (xJ n)), (2, .int (xJ w)), (3, .int (xJ x)), (4, .int (xJ i4_93)), (5, .int (xJ i5_93)), (6, .int (xJ i6_93)), (8, .int (xJ i8_107)), (9, .int (xJ i9_107))]) hx hb hl 7 rfl dX11_cloudy_181 (by decide) rfl (fun ls hl => ?_)
                    refine lv_goto (tgt := 93) hx hb dX11_cloudy_184 (by decide) ?_
                    exact ih93 i4_93 i5_93 i6_93 (i7_93 + 1) H locs ls ri4_93 ri5_93 ri6_93 (by omega) (by omega) (by omega) (by first | (have z9 := zcs_n (f := s0 276) (n := n) (w := w) (a0 := 1023) (i := i7_93) (by omega) (by omega); omega) | (have z9 := zcs_y (f := s0 276) (n := n) (w := w) (a0 := 1023) (i := i7_93) (by omega) (by omega); omega)) (by first | (have z9 := zcs_n (f := s0 276) (n := n) (w := w) (a0 := 1023) (i := i7_93) (by omega) (by omega); omega) | (have z9 := zcs_y (f := s0 276) (n := n) (w := w) (a0 := 1023) (i := i7_93) (by omega) (by omega); omega)) (by first | (have z9 := zcs_n (f := s0 276) (n := n) (w := w) (a0 := 1023) (i := i7_93) (by omega) (by omega); omega) | (have z9 := zcs_y (f := s0 276) (n := n) (w := w) (a0 := 1023) (i := i7_93) (by omega) (by omega); rw [z9.2.2.2, ← v93_4]; exact Z178)) (by omega) hW (lv_sub hl [1, 2, 3, 4, 5, 6, 7, 0] rfl)
                  refine x_iload hx hb hl 8 rfl dX11_cloudy_113 ?_
                  refine x_iload hx hb hl 7 rfl dX11_cloudy_115 ?_
                  refine x_iload hx hb hl 9 rfl dX11_cloudy_117 ?_
                  refine x_goi (x_runS (As := [.int (xJ i7_93), .int (xJ i9_107)]) hx hb hml hown hT hE hW hl.1 cf_X11_has wq1415 wq1414 (c_X11_has l D g T h0 s15 hW.2.1 i7_93 ri7_93 i9_107 ri9_107) ⟨rfl, rfl, ⟨by decide, by decide⟩, ⟨by decide, by decide⟩⟩ rfl rfl (Nat.le_of_ble_eq_true rfl) dX11_cloudy_119) hW (fun x35 s36 H locs rx35 hp37 hW => ?_)
                  obtain ⟨es36, hp37⟩ := hp37
                  subst es36
                  have ghp37 := hp37
                  have Z119 := ghp37
                  refine x_if_eq (tgt := 129) hx hb rx35 dX11_cloudy_122 (by decide) (fun c38 => ?_) (fun c38 => ?_)
                  · skip
                    refine x_aload_n hx hb hl 0 rfl dX11_cloudy_129 rfl ?_
                    refine x_get (j := 7) (v := .ref (h0 + 276)) hx hb hown hT hE hW cls_X11 (Or.inl (by decide)) (so_268 h0 g _) (by decide) rfl wq1192 dX11_cloudy_130 ?_
                    refine x_iload hx hb hl 9 rfl dX11_cloudy_133 ?_
                    refine x_bald hx hb hE hW (Or.inl (by decide)) (sa_276 h0 g _) (by omega) (by decide) dX11_cloudy_135 ?_
                    refine x_rd hW (fun x39 ex39 rx39 => ?_)
                    have b135 : x39 = s0 276 i9_107 := by rw [ex39, hF21 276 (by omega)]
                    have c135 := v47_1 i9_107 (by omega) (by omega)
                    refine x_iadd hx hb dX11_cloudy_136 ?_
                    refine x_nm (fun x40 ex40 => ?_)
                    refine lv_istore (lv' := [(8, .int (xJ x40)), (0, .ref (h0 + 268)), (1, .int (xJ n)), (2, .int (xJ w)), (3, .int (xJ x)), (4, .int (xJ i4_93)), (5, .int (xJ i5_93)), (6, .int (xJ i6_93)), (7, .int (xJ i7_93)), (9, .int (xJ i9_107))]) hx hb dX11_cloudy_137 hl (by decide) rfl (fun ls hl => ?_)
                    refine x_iinc (lv' := [(9, .int (xJ (i9_107 + 1))), (8, .int (xJ x40)), (0, .ref (h0 + 268)), (1, .int (xJ n)), (2, .int (xJ w)), (3, .int (xJ x)), (4, .int (xJ i4_93)), (5, .int (xJ i5_93)), (6, .int (xJ i6_93)), (7, .int (xJ i7_93))]) hx hb hl 9 rfl dX11_cloudy_139 (by decide) rfl (fun ls hl => ?_)
                    refine lv_goto (tgt := 107) hx hb dX11_cloudy_142 (by decide) ?_
                    exact ih107 x40 (i9_107 + 1) H locs ls (by omega) (by omega) (by omega) (by first | (rw [zsum_n (by omega) (by omega)]; omega) | (rw [zsum_y (by omega) (by omega)]; omega)) (by omega) (by omega) hW (lv_sub hl [2, 3, 4, 5, 6, 7, 8, 9, 1, 0] rfl)
                  refine x_iconst hx hb dX11_cloudy_125 ?_
                  refine lv_goto (tgt := 136) hx hb dX11_cloudy_126 (by decide) ?_
                  refine x_iadd hx hb dX11_cloudy_136 ?_
                  refine x_nm (fun x41 ex41 => ?_)
                  refine lv_istore (lv' := [(8, .int (xJ x41)), (0, .ref (h0 + 268)), (1, .int (xJ n)), (2, .int (xJ w)), (3, .int (xJ x)), (4, .int (xJ i4_93)), (5, .int (xJ i5_93)), (6, .int (xJ i6_93)), (7, .int (xJ i7_93)), (9, .int (xJ i9_107))]) hx hb dX11_cloudy_137 hl (by decide) rfl (fun ls hl => ?_)
                  refine x_iinc (lv' := [(9, .int (xJ (i9_107 + 1))), (8, .int (xJ x41)), (0, .ref (h0 + 268)), (1, .int (xJ n)), (2, .int (xJ w)), (3, .int (xJ x)), (4, .int (xJ i4_93)), (5, .int (xJ i5_93)), (6, .int (xJ i6_93)), (7, .int (xJ i7_93))]) hx hb hl 9 rfl dX11_cloudy_139 (by decide) rfl (fun ls hl => ?_)
                  refine lv_goto (tgt := 107) hx hb dX11_cloudy_142 (by decide) ?_
                  exact ih107 x41 (i9_107 + 1) H locs ls (by omega) (by omega) (by omega) (by first | (rw [zsum_n (by omega) (by omega)]; omega) | (rw [zsum_y (by omega) (by omega)]; omega)) (by omega) (by omega) hW (lv_sub hl [2, 3, 4, 5, 6, 7, 8, 9, 1, 0] rfl)
              exact L107 ((11 - 0 : Int).toNat + 1) 0 0 H locs ls (by decide) (by decide) (by omega) (rfl) (by omega) (Nat.lt_succ_self _) hW (lv_sub hl [2, 3, 4, 5, 6, 7, 8, 9, 1, 0] rfl)
          exact L93 ((1024 - 0 : Int).toNat + 1) 0 (-2) 1023 0 H locs ls (by decide) (by decide) (by decide) (by decide) (by omega) (by omega) (rfl) (rfl) (rfl) (Nat.lt_succ_self _) hW (lv_sub hl [4, 5, 6, 7, 3, 2, 1, 0] rfl)
        refine x_aload_n hx hb hl 0 rfl dX11_cloudy_53 rfl ?_
        refine x_get (j := 7) (v := .ref (h0 + 276)) hx hb hown hT hE hW cls_X11 (Or.inl (by decide)) (so_268 h0 g _) (by decide) rfl wq1192 dX11_cloudy_54 ?_
        refine x_iload hx hb hl 4 rfl dX11_cloudy_57 ?_
        refine x_bald hx hb hE hW (Or.inl (by decide)) (sa_276 h0 g _) (by omega) (by decide) dX11_cloudy_59 ?_
        refine x_rd hW (fun x42 ex42 rx42 => ?_)
        have b59 : x42 = s0 276 i4_47 := by rw [ex42, hF21 276 (by omega)]
        refine x_iconst hx hb dX11_cloudy_60 ?_
        refine x_bipush hx hb dX11_cloudy_61 (by decide) ?_
        refine x_goi (x_runS (As := [.int (xJ x42), .int (xJ 1), .int (xJ 9)]) hx hb hml hown hT hE hW hl.1 cf_X11_in wq1383 wq1382 (c_X11_in l D g T h0 s15 hW.2.1 x42 rx42 1 (by decide) 9 (by decide)) ⟨rfl, rfl, ⟨by decide, by decide⟩, ⟨by decide, by decide⟩⟩ rfl rfl (Nat.le_of_ble_eq_true rfl) dX11_cloudy_63) hW (fun x43 s44 H locs rx43 hp45 hW => ?_)
        obtain ⟨es44, hp45⟩ := hp45
        subst es44
        have ghp45 := hp45
        refine x_if_ne (tgt := 72) hx hb rx43 dX11_cloudy_66 (by decide) (fun c46 => ?_) (fun c46 => ?_)
        · skip
          refine x_iinc (lv' := [(4, .int (xJ (i4_47 + 1))), (0, .ref (h0 + 268)), (1, .int (xJ n)), (2, .int (xJ w)), (3, .int (xJ x))]) hx hb hl 4 rfl dX11_cloudy_72 (by decide) rfl (fun ls hl => ?_)
          refine lv_goto (tgt := 47) hx hb dX11_cloudy_75 (by decide) ?_
          exact ih47 (i4_47 + 1) H locs ls (by omega) (by omega) (fun q h1 h2 => (Classical.em (q < (i4_47 + 1) - 1)).elim (fun z => v47_1 q h1 (by omega)) (fun z => by rw [show q = i4_47 from by omega]; omega)) (by omega) hW (lv_sub hl [1, 2, 3, 4, 0] rfl)
        refine x_bipush hx hb dX11_cloudy_69 (by decide) ?_
        rw [eQ]
        exact x_iret hx hb hr hlk hW (by decide) ⟨hF21, ⟨q16, q17, q18, q19, trivial⟩, Or.inr ⟨by omega, by omega, Or.inl ⟨⟨i4_47, by omega, by omega, by omega⟩, by omega⟩⟩⟩ dX11_cloudy_71
    exact L47 ((11 - 0 : Int).toNat + 1) 0 H locs ls (by decide) (by omega) (fun q h1 h2 => absurd h2 (by omega)) (Nat.lt_succ_self _) hW (lv_sub hl [1, 2, 3, 4, 0] rfl)
  refine x_iconst hx hb dX11_cloudy_37 ?_
  rw [eQ]
  exact x_iret hx hb hr hlk hW (by decide) ⟨hF, ⟨p0, p1, p2, k268_58, trivial⟩, Or.inl ⟨by omega, by omega, by omega⟩⟩ dX11_cloudy_38
set_option maxHeartbeats 4000000 in
set_option maxRecDepth 100000 in
theorem c_X11_binds (l : Launch) (D : va_G) (g : xG) (T : Nat × Nat × Nat) (h0 : Nat) (s0 : xS) (hσ : xRR s0) (a : Int) (ra : xR a) (b : Int) (rb : xR b) (n : Int) (rn : xR n) (hab : (0 ≤ a ∧ a ≤ 7) ∧ (0 ≤ b ∧ b ≤ 7) ∧ n ≤ 8) (p0 : IMn s0) (p1 : IMk s0) (p2 : IMo s0) : Met l yX11_binds (xws yX11_binds cX11_binds 7 none) { frames := 1, cells := 0, slots := 0, locals := 21 } (xP [.ref (h0 + 268), .int (xJ a), .int (xJ b), .int (xJ n)] D g T h0 s0) (xQv D g h0 (fun τ => xFr (fun k => k = 306) s0 τ ∧ (((IMn τ) ∧ (IMk τ) ∧ (IMo τ) ∧ True) ∧ (True)))) 0 0 (xA h0) := by
  refine x_met hσ (by decide) (Nat.le_of_ble_eq_true rfl) ?_
  intro p e s m args below meth c hx hb hr hml hown hT hlk hnm hE hW ls hl
  have hl : lv_has ls 7 [(0, .ref (h0 + 268)), (1, .int (xJ a)), (2, .int (xJ b)), (3, .int (xJ n))] := hl
  obtain ⟨Q, eQ⟩ : ∃ Q, Q = MQ below (xQv D g h0 (fun τ => xFr (fun k => k = 306) s0 τ ∧ (((IMn τ) ∧ (IMk τ) ∧ (IMo τ) ∧ True) ∧ (True)))) args s 0 0 (xA h0) := ⟨_, rfl⟩
  rw [← eQ]
  generalize hHe : ([] : List Loc) = locs at hW ⊢
  obtain ⟨H, eH⟩ : ∃ H, H = s.heap := ⟨_, rfl⟩
  rw [← eH] at hW ⊢
  have hF : xFr (fun k => k = 306) s0 s0 := xFr.rf
  have k268_8 : s0 268 8 = s0 268 8 := rfl
  have k268_58 : s0 268 58 = s0 268 58 := rfl
  refine x_aload_n hx hb hl 0 rfl dX11_binds_0 rfl ?_
  refine x_get (j := 56) (v := .ref (h0 + 306)) hx hb hown hT hE hW cls_X11 (Or.inl (by decide)) (so_268 h0 g _) (by decide) rfl wq1241 dX11_binds_1 ?_
  refine x_iload_n hx hb hl 1 rfl dX11_binds_4 rfl ?_
  refine x_iald hx hb hE hW (Or.inl (by decide)) (sa_306 h0 g _) (by omega) (by decide) dX11_binds_5 ?_
  refine x_rd hW (fun x1 ex1 rx1 => ?_)
  have bx1 : 0 ≤ x1 ∧ x1 ≤ 7 := by rw [ex1]; exact IMo.b p2 _ (by omega) (by omega)
  refine x_aload_n hx hb hl 0 rfl dX11_binds_6 rfl ?_
  refine x_get (j := 56) (v := .ref (h0 + 306)) hx hb hown hT hE hW cls_X11 (Or.inl (by decide)) (so_268 h0 g _) (by decide) rfl wq1241 dX11_binds_7 ?_
  refine x_iload_n hx hb hl 2 rfl dX11_binds_10 rfl ?_
  refine x_iald hx hb hE hW (Or.inl (by decide)) (sa_306 h0 g _) (by omega) (by decide) dX11_binds_11 ?_
  refine x_rd hW (fun x2 ex2 rx2 => ?_)
  have bx2 : 0 ≤ x2 ∧ x2 ≤ 7 := by rw [ex2]; exact IMo.b p2 _ (by omega) (by omega)
  refine x_goi (x_runS (As := [.int (xJ x1), .int (xJ x2)]) hx hb hml hown hT hE hW hl.1 cf_X11_min wq1640 wq1639 (c_X11_min l D g T h0 s0 hW.2.1 x1 rx1 x2 rx2) ⟨rfl, rfl, ⟨by decide, by decide⟩, ⟨by decide, by decide⟩⟩ rfl rfl (Nat.le_of_ble_eq_true rfl) dX11_binds_12) hW (fun x3 s4 H locs rx3 hp5 hW => ?_)
  obtain ⟨es4, hp5⟩ := hp5
  subst es4
  have ghp5 := hp5
  refine lv_istore (lv' := [(4, .int (xJ x3)), (0, .ref (h0 + 268)), (1, .int (xJ a)), (2, .int (xJ b)), (3, .int (xJ n))]) hx hb dX11_binds_15 hl (by decide) rfl (fun ls hl => ?_)
  refine x_aload_n hx hb hl 1 rfl dX11_binds_17 rfl ?_
  refine x_get (j := 56) (v := .ref (h0 + 306)) hx hb hown hT hE hW cls_X11 (Or.inl (by decide)) (so_268 h0 g _) (by decide) rfl wq1241 dX11_binds_18 ?_
  refine x_iload_n hx hb hl 2 rfl dX11_binds_21 rfl ?_
  refine x_iald hx hb hE hW (Or.inl (by decide)) (sa_306 h0 g _) (by omega) (by decide) dX11_binds_22 ?_
  refine x_rd hW (fun x6 ex6 rx6 => ?_)
  have bx6 : 0 ≤ x6 ∧ x6 ≤ 7 := by rw [ex6]; exact IMo.b p2 _ (by omega) (by omega)
  refine x_aload_n hx hb hl 1 rfl dX11_binds_23 rfl ?_
  refine x_get (j := 56) (v := .ref (h0 + 306)) hx hb hown hT hE hW cls_X11 (Or.inl (by decide)) (so_268 h0 g _) (by decide) rfl wq1241 dX11_binds_24 ?_
  refine x_iload_n hx hb hl 3 rfl dX11_binds_27 rfl ?_
  refine x_iald hx hb hE hW (Or.inl (by decide)) (sa_306 h0 g _) (by omega) (by decide) dX11_binds_28 ?_
  refine x_rd hW (fun x7 ex7 rx7 => ?_)
  have bx7 : 0 ≤ x7 ∧ x7 ≤ 7 := by rw [ex7]; exact IMo.b p2 _ (by omega) (by omega)
  refine x_goi (x_runS (As := [.int (xJ x6), .int (xJ x7)]) hx hb hml hown hT hE hW hl.1 cf_X11_max wq1677 wq1676 (c_X11_max l D g T h0 s0 hW.2.1 x6 rx6 x7 rx7) ⟨rfl, rfl, ⟨by decide, by decide⟩, ⟨by decide, by decide⟩⟩ rfl rfl (Nat.le_of_ble_eq_true rfl) dX11_binds_29) hW (fun x8 s9 H locs rx8 hp10 hW => ?_)
  obtain ⟨es9, hp10⟩ := hp10
  subst es9
  have ghp10 := hp10
  refine lv_istore (lv' := [(5, .int (xJ x8)), (4, .int (xJ x3)), (0, .ref (h0 + 268)), (1, .int (xJ a)), (2, .int (xJ b)), (3, .int (xJ n))]) hx hb dX11_binds_32 hl (by decide) rfl (fun ls hl => ?_)
  refine x_iconst hx hb dX11_binds_34 ?_
  refine lv_istore (lv' := [(6, .int (xJ 0)), (5, .int (xJ x8)), (4, .int (xJ x3)), (0, .ref (h0 + 268)), (1, .int (xJ a)), (2, .int (xJ b)), (3, .int (xJ n))]) hx hb dX11_binds_35 hl (by decide) rfl (fun ls hl => ?_)
  have L37 : ∀ (fu : Nat) (i6_37 : Int) (s_37 : xS) (H : Heap) (locs : List Loc) (ls : Array Slot), (xR i6_37) → (xFr (fun k => k = 306) s0 s_37) → (IMn s_37) → (IMk s_37) → (IMo s_37) → (s_37 268 8 = s0 268 8) → (s_37 268 58 = s0 268 58) → (0 ≤ i6_37) → (n + 1 - i6_37).toNat < fu → xW D g h0 s H locs s_37 → lv_has ls 7 [(0, .ref (h0 + 268)), (3, .int (xJ n)), (4, .int (xJ x3)), (5, .int (xJ x8)), (6, .int (xJ i6_37))] → W p l e { frames := 1, cells := 0, slots := 0, locals := 21 } s m args below meth c H locs 0 0 Q (F0 m 37 ls []) := by
    intro fu
    induction fu with
    | zero => intro i6_37 s_37 H locs ls ri6_37 hF_37 q37_0 q37_1 q37_2 q37_3 q37_4 v37_0 hm; exact absurd hm (Nat.not_lt_zero _)
    | succ fu ih37 =>
      intro i6_37 s_37 H locs ls ri6_37 hF_37 q37_0 q37_1 q37_2 q37_3 q37_4 v37_0 hm hW hl
      refine x_iload hx hb hl 4 rfl dX11_binds_37 ?_
      refine x_iload_n hx hb hl 1 rfl dX11_binds_39 rfl ?_
      refine x_icmp_ge (tgt := 70) hx hb ri6_37 rn dX11_binds_40 (by decide) (fun c11 => ?_) (fun c11 => ?_)
      · skip
        rw [eQ]
        exact x_vret hx hb hr hlk hW ⟨hF_37, ⟨q37_0, q37_1, q37_2, trivial⟩, trivial⟩ dX11_binds_70
      refine x_aload_n hx hb hl 0 rfl dX11_binds_43 rfl ?_
      refine x_get (j := 56) (v := .ref (h0 + 306)) hx hb hown hT hE hW cls_X11 (Or.inl (by decide)) (so_268 h0 g _) (by decide) rfl wq1241 dX11_binds_44 ?_
      refine x_iload hx hb hl 4 rfl dX11_binds_47 ?_
      refine x_iald hx hb hE hW (Or.inl (by decide)) (sa_306 h0 g _) (by omega) (by decide) dX11_binds_49 ?_
      refine x_rd hW (fun x12 ex12 rx12 => ?_)
      have bx12 : 0 ≤ x12 ∧ x12 ≤ 7 := by rw [ex12]; exact IMo.b q37_2 _ (by omega) (by omega)
      refine x_iload hx hb hl 3 rfl dX11_binds_50 ?_
      refine x_icmp_ne (tgt := 64) hx hb rx12 rx8 dX11_binds_52 (by decide) (fun c13 => ?_) (fun c13 => ?_)
      · skip
        refine x_iinc (lv' := [(6, .int (xJ (i6_37 + 1))), (0, .ref (h0 + 268)), (3, .int (xJ n)), (4, .int (xJ x3)), (5, .int (xJ x8))]) hx hb hl 4 rfl dX11_binds_64 (by decide) rfl (fun ls hl => ?_)
        refine lv_goto (tgt := 37) hx hb dX11_binds_67 (by decide) ?_
        exact ih37 (i6_37 + 1) s_37 H locs ls (by omega) hF_37 q37_0 q37_1 q37_2 q37_3 q37_4 (by omega) (by omega) hW (lv_sub hl [1, 2, 3, 4, 0] rfl)
      refine x_aload_n hx hb hl 0 rfl dX11_binds_55 rfl ?_
      refine x_get (j := 56) (v := .ref (h0 + 306)) hx hb hown hT hE hW cls_X11 (Or.inl (by decide)) (so_268 h0 g _) (by decide) rfl wq1241 dX11_binds_56 ?_
      refine x_iload hx hb hl 4 rfl dX11_binds_59 ?_
      refine x_iload hx hb hl 2 rfl dX11_binds_61 ?_
      refine x_iast hx hb hE hW (by decide) (fun σ => sa_306 h0 g σ) (by omega) (by decide) rx3 dX11_binds_63 (fun H locs s14 es14 hW => ?_)
      have q15 : IMn s14 := by rw [es14]; exact IMn_o (by unfold suIMn; omega) q37_0
      have q16 : IMk s14 := by rw [es14]; exact IMk_o (by unfold suIMk; omega) q37_1
      have q17 : IMo s14 := by rw [es14]; exact IMo_306 q37_2 (by omega)
      have q18 : s14 268 8 = s0 268 8 := (show s14 268 8 = s_37 268 8 from by rw [es14, xU_k _ _ _ (by omega)]).trans q37_3
      have q19 : s14 268 58 = s0 268 58 := (show s14 268 58 = s_37 268 58 from by rw [es14, xU_k _ _ _ (by omega)]).trans q37_4
      have hF20 := hF_37.put es14 (by omega)
      refine x_iinc (lv' := [(6, .int (xJ (i6_37 + 1))), (0, .ref (h0 + 268)), (3, .int (xJ n)), (4, .int (xJ x3)), (5, .int (xJ x8))]) hx hb hl 4 rfl dX11_binds_64 (by decide) rfl (fun ls hl => ?_)
      refine lv_goto (tgt := 37) hx hb dX11_binds_67 (by decide) ?_
      exact ih37 (i6_37 + 1) s14 H locs ls (by omega) hF20 q15 q16 q17 q18 q19 (by omega) (by omega) hW (lv_sub hl [1, 2, 3, 4, 0] rfl)
  exact L37 ((n + 1 - 0 : Int).toNat + 1) 0 s0 H locs ls (by decide) hF p0 p1 p2 k268_8 k268_58 (by omega) (Nat.lt_succ_self _) hW (lv_sub hl [3, 6, 2, 1, 0] rfl)
set_option maxHeartbeats 4000000 in
set_option maxRecDepth 100000 in
theorem c_X11_together (l : Launch) (D : va_G) (g : xG) (T : Nat × Nat × Nat) (h0 : Nat) (s0 : xS) (hσ : xRR s0) (n : Int) (rn : xR n) (x : Int) (rx : xR x) (p0 : IMn s0) (p1 : IMk s0) (p2 : IMo s0) : Met l yX11_together (xws yX11_together cX11_together 8 (some .int)) { frames := 2, cells := 0, slots := 0, locals := 47 } (xP [.ref (h0 + 268), .int (xJ n), .int (xJ x)] D g T h0 s0) (xQi D g h0 (fun r τ => xFr (fun k => k = 268 ∨ k = 306 ∨ k = 307) s0 τ ∧ (((IMn τ) ∧ (IMk τ) ∧ (IMo τ) ∧ (τ 268 58 = s0 268 58) ∧ True) ∧ (((n < 1 ∨ 8 < n ∨ x < 0 ∨ 2 < x ∨ s0 268 8 < 2 * n + 1 ∨ s0 268 8 < 2 * n + 1 + 2 * (s0 276 (2 * n) % 256)) ∧ τ 268 8 = s0 268 8 ∧ r = -1) ∨ (¬ (n < 1 ∨ 8 < n ∨ x < 0 ∨ 2 < x ∨ s0 268 8 < 2 * n + 1 ∨ s0 268 8 < 2 * n + 1 + 2 * (s0 276 (2 * n) % 256)) ∧ τ 268 8 = 0))))) 0 0 (xA h0) := by
  refine x_met hσ (by decide) (Nat.le_of_ble_eq_true rfl) ?_
  intro p e s m args below meth c hx hb hr hml hown hT hlk hnm hE hW ls hl
  have hl : lv_has ls 8 [(0, .ref (h0 + 268)), (1, .int (xJ n)), (2, .int (xJ x))] := hl
  obtain ⟨Q, eQ⟩ : ∃ Q, Q = MQ below (xQi D g h0 (fun r τ => xFr (fun k => k = 268 ∨ k = 306 ∨ k = 307) s0 τ ∧ (((IMn τ) ∧ (IMk τ) ∧ (IMo τ) ∧ (τ 268 58 = s0 268 58) ∧ True) ∧ (((n < 1 ∨ 8 < n ∨ x < 0 ∨ 2 < x ∨ s0 268 8 < 2 * n + 1 ∨ s0 268 8 < 2 * n + 1 + 2 * (s0 276 (2 * n) % 256)) ∧ τ 268 8 = s0 268 8 ∧ r = -1) ∨ (¬ (n < 1 ∨ 8 < n ∨ x < 0 ∨ 2 < x ∨ s0 268 8 < 2 * n + 1 ∨ s0 268 8 < 2 * n + 1 + 2 * (s0 276 (2 * n) % 256)) ∧ τ 268 8 = 0))))) args s 0 0 (xA h0) := ⟨_, rfl⟩
  rw [← eQ]
  generalize hHe : ([] : List Loc) = locs at hW ⊢
  obtain ⟨H, eH⟩ : ∃ H, H = s.heap := ⟨_, rfl⟩
  rw [← eH] at hW ⊢
  have hF : xFr (fun k => k = 268 ∨ k = 306 ∨ k = 307) s0 s0 := xFr.rf
  have k268_58 : s0 268 58 = s0 268 58 := rfl
  have k268_8 : s0 268 8 = s0 268 8 := rfl
  refine x_iload_n hx hb hl 1 rfl dX11_together_0 rfl ?_
  refine x_iconst hx hb dX11_together_1 ?_
  refine x_bipush hx hb dX11_together_2 (by decide) ?_
  refine x_goi (x_runS (As := [.int (xJ n), .int (xJ 1), .int (xJ 8)]) hx hb hml hown hT hE hW hl.1 cf_X11_in wq1383 wq1382 (c_X11_in l D g T h0 s0 hW.2.1 n rn 1 (by decide) 8 (by decide)) ⟨rfl, rfl, ⟨by decide, by decide⟩, ⟨by decide, by decide⟩⟩ rfl rfl (Nat.le_of_ble_eq_true rfl) dX11_together_4) hW (fun x1 s2 H locs rx1 hp3 hW => ?_)
  obtain ⟨es2, hp3⟩ := hp3
  subst es2
  have ghp3 := hp3
  refine x_if_eq (tgt := 31) hx hb rx1 dX11_together_7 (by decide) (fun c4 => ?_) (fun c4 => ?_)
  · skip
    refine x_iconst hx hb dX11_together_31 ?_
    rw [eQ]
    exact x_iret hx hb hr hlk hW (by decide) ⟨hF, ⟨p0, p1, p2, k268_58, trivial⟩, by omega⟩ dX11_together_32
  refine x_iload_n hx hb hl 2 rfl dX11_together_10 rfl ?_
  refine x_iconst hx hb dX11_together_11 ?_
  refine x_iconst hx hb dX11_together_12 ?_
  refine x_goi (x_runS (As := [.int (xJ x), .int (xJ 0), .int (xJ 2)]) hx hb hml hown hT hE hW hl.1 cf_X11_in wq1383 wq1382 (c_X11_in l D g T h0 s0 hW.2.1 x rx 0 (by decide) 2 (by decide)) ⟨rfl, rfl, ⟨by decide, by decide⟩, ⟨by decide, by decide⟩⟩ rfl rfl (Nat.le_of_ble_eq_true rfl) dX11_together_13) hW (fun x5 s6 H locs rx5 hp7 hW => ?_)
  obtain ⟨es6, hp7⟩ := hp7
  subst es6
  have ghp7 := hp7
  refine x_if_eq (tgt := 31) hx hb rx5 dX11_together_16 (by decide) (fun c8 => ?_) (fun c8 => ?_)
  · skip
    refine x_iconst hx hb dX11_together_31 ?_
    rw [eQ]
    exact x_iret hx hb hr hlk hW (by decide) ⟨hF, ⟨p0, p1, p2, k268_58, trivial⟩, by omega⟩ dX11_together_32
  refine x_iconst hx hb dX11_together_19 ?_
  refine x_iload_n hx hb hl 1 rfl dX11_together_20 rfl ?_
  refine x_imul hx hb dX11_together_21 ?_
  refine x_iconst hx hb dX11_together_22 ?_
  refine x_iadd hx hb dX11_together_23 ?_
  refine x_aload_n hx hb hl 0 rfl dX11_together_24 rfl ?_
  refine x_get (j := 8) (v := .int (xJ (s0 268 8))) hx hb hown hT hE hW cls_X11 (Or.inl (by decide)) (so_268 h0 g _) (by decide) rfl wq1193 dX11_together_25 ?_
  refine x_rd hW (fun x9 ex9 rx9 => ?_)
  have bx9 : 0 ≤ x9 ∧ x9 ≤ 260 := by rw [ex9]; exact IMn.t p0
  have fx9 : x9 = s0 268 8 := ex9.trans k268_8
  refine x_icmp_le (tgt := 33) hx hb (by omega) rx9 dX11_together_28 (by decide) (fun c10 => ?_) (fun c10 => ?_)
  · skip
    refine x_aload_n hx hb hl 0 rfl dX11_together_33 rfl ?_
    refine x_get (j := 7) (v := .ref (h0 + 276)) hx hb hown hT hE hW cls_X11 (Or.inl (by decide)) (so_268 h0 g _) (by decide) rfl wq1192 dX11_together_34 ?_
    refine x_iconst hx hb dX11_together_37 ?_
    refine x_iload_n hx hb hl 1 rfl dX11_together_38 rfl ?_
    refine x_imul hx hb dX11_together_39 ?_
    refine x_bald hx hb hE hW (Or.inl (by decide)) (sa_276 h0 g _) (by omega) (by decide) dX11_together_40 ?_
    refine x_rd hW (fun x11 ex11 rx11 => ?_)
    refine x_sipush hx hb dX11_together_41 (by decide) ?_
    refine x_and255 hx hb rx11 dX11_together_44 ?_
    refine x_nm (fun x12 ex12 => ?_)
    refine lv_istore_n (lv' := [(3, .int (xJ x12)), (0, .ref (h0 + 268)), (1, .int (xJ n)), (2, .int (xJ x))]) hx hb dX11_together_45 rfl hl (by decide) rfl (fun ls hl => ?_)
    refine x_iconst hx hb dX11_together_46 ?_
    refine x_iload_n hx hb hl 2 rfl dX11_together_47 rfl ?_
    refine x_imul hx hb dX11_together_48 ?_
    refine x_iconst hx hb dX11_together_49 ?_
    refine x_iadd hx hb dX11_together_50 ?_
    refine x_iconst hx hb dX11_together_51 ?_
    refine x_iload_n hx hb hl 0 rfl dX11_together_52 rfl ?_
    refine x_imul hx hb dX11_together_53 ?_
    refine x_iadd hx hb dX11_together_54 ?_
    refine x_aload_n hx hb hl 1 rfl dX11_together_55 rfl ?_
    refine x_get (j := 8) (v := .int (xJ (s0 268 8))) hx hb hown hT hE hW cls_X11 (Or.inl (by decide)) (so_268 h0 g _) (by decide) rfl wq1193 dX11_together_56 ?_
    refine x_rd hW (fun x13 ex13 rx13 => ?_)
    have bx13 : 0 ≤ x13 ∧ x13 ≤ 260 := by rw [ex13]; exact IMn.t p0
    have fx13 : x13 = s0 268 8 := ex13.trans k268_8
    refine x_icmp_le (tgt := 64) hx hb (by omega) rx13 dX11_together_59 (by decide) (fun c14 => ?_) (fun c14 => ?_)
    · skip
      refine x_aload_n hx hb hl 1 rfl dX11_together_64 rfl ?_
      refine x_iconst hx hb dX11_together_65 ?_
      refine x_put (j := 8) hx hb hown hT hE hW cls_X11 (by decide) (fun σ => so_268 h0 g σ) (by decide) (st_X11_8 h0 s0 268 0) (ln_X11_8 h0 _ _) wq1193 rfl rfl rfl (by decide) dX11_together_66 (fun H locs s15 es15 hW => ?_)
      have q16 : IMn s15 := by rw [es15]; exact IMn_268 p0 (by omega)
      have q17 : IMk s15 := by rw [es15]; exact IMk_268 p1 (by omega)
      have q18 : IMo s15 := by rw [es15]; exact IMo_o (by unfold suIMo; omega) p2
      have q19 : s15 268 58 = s0 268 58 := (show s15 268 58 = s0 268 58 from by rw [es15, xU_j _ _ (by decide)]).trans k268_58
      have q20 : s15 268 8 = 0 := by rw [es15, xU_s]
      have hF21 := hF.put es15 (by omega)
      refine x_iload_n hx hb hl 0 rfl dX11_together_69 rfl ?_
      refine x_bipush hx hb dX11_together_70 (by decide) ?_
      refine x_icmp_le (tgt := 78) hx hb (by omega) (by decide) dX11_together_72 (by decide) (fun c22 => ?_) (fun c22 => ?_)
      · skip
        refine x_iconst hx hb dX11_together_78 ?_
        refine lv_istore (lv' := [(4, .int (xJ 0)), (3, .int (xJ x12)), (0, .ref (h0 + 268)), (1, .int (xJ n)), (2, .int (xJ x))]) hx hb dX11_together_79 hl (by decide) rfl (fun ls hl => ?_)
        have L81 : ∀ (fu : Nat) (i4_81 : Int) (s_81 : xS) (H : Heap) (locs : List Loc) (ls : Array Slot), (xR i4_81) → (xFr (fun k => k = 268 ∨ k = 306 ∨ k = 307) s0 s_81) → (IMn s_81) → (IMk s_81) → (IMo s_81) → (s_81 268 58 = s0 268 58) → (s_81 268 8 = 0) → (0 ≤ i4_81) → (n + 1 - i4_81).toNat < fu → xW D g h0 s H locs s_81 → lv_has ls 8 [(0, .ref (h0 + 268)), (1, .int (xJ n)), (2, .int (xJ x)), (3, .int (xJ x12)), (4, .int (xJ i4_81))] → W p l e { frames := 2, cells := 0, slots := 0, locals := 47 } s m args below meth c H locs 0 0 Q (F0 m 81 ls []) := by
          intro fu
          induction fu with
          | zero => intro i4_81 s_81 H locs ls ri4_81 hF_81 q81_0 q81_1 q81_2 q81_3 q81_4 v81_0 hm; exact absurd hm (Nat.not_lt_zero _)
          | succ fu ih81 =>
            intro i4_81 s_81 H locs ls ri4_81 hF_81 q81_0 q81_1 q81_2 q81_3 q81_4 v81_0 hm hW hl
            refine x_iload hx hb hl 4 rfl dX11_together_81 ?_
            refine x_iload_n hx hb hl 1 rfl dX11_together_83 rfl ?_
            refine x_icmp_ge (tgt := 110) hx hb ri4_81 rn dX11_together_84 (by decide) (fun c23 => ?_) (fun c23 => ?_)
            · skip
              refine x_iconst hx hb dX11_together_110 ?_
              refine lv_istore (lv' := [(4, .int (xJ 0)), (0, .ref (h0 + 268)), (1, .int (xJ n)), (2, .int (xJ x)), (3, .int (xJ x12))]) hx hb dX11_together_111 hl (by decide) rfl (fun ls hl => ?_)
              have L113 : ∀ (fu : Nat) (i4_113 : Int) (H : Heap) (locs : List Loc) (ls : Array Slot), (xR i4_113) → (0 ≤ i4_113 ∧ i4_113 ≤ 24) → (∀ q : Int, 0 ≤ q → q < i4_113 → 0 ≤ s0 276 (2 * n + 1 + q) ∧ s0 276 (2 * n + 1 + q) ≤ n - 1) → (2 * x12 - i4_113).toNat < fu → xW D g h0 s H locs s_81 → lv_has ls 8 [(0, .ref (h0 + 268)), (1, .int (xJ n)), (2, .int (xJ x)), (3, .int (xJ x12)), (4, .int (xJ i4_113))] → W p l e { frames := 2, cells := 0, slots := 0, locals := 47 } s m args below meth c H locs 0 0 Q (F0 m 113 ls []) := by
                intro fu
                induction fu with
                | zero => intro i4_113 H locs ls ri4_113 v113_0 v113_1 hm; exact absurd hm (Nat.not_lt_zero _)
                | succ fu ih113 =>
                  intro i4_113 H locs ls ri4_113 v113_0 v113_1 hm hW hl
                  refine x_iload hx hb hl 4 rfl dX11_together_113 ?_
                  refine x_iconst hx hb dX11_together_115 ?_
                  refine x_iload_n hx hb hl 3 rfl dX11_together_116 rfl ?_
                  refine x_imul hx hb dX11_together_117 ?_
                  refine x_icmp_ge (tgt := 153) hx hb ri4_113 (by omega) dX11_together_118 (by decide) (fun c24 => ?_) (fun c24 => ?_)
                  · skip
                    refine x_iconst hx hb dX11_together_153 ?_
                    refine lv_istore (lv' := [(4, .int (xJ 0)), (0, .ref (h0 + 268)), (1, .int (xJ n)), (2, .int (xJ x)), (3, .int (xJ x12))]) hx hb dX11_together_154 hl (by decide) rfl (fun ls hl => ?_)
                    have L156 : ∀ (fu : Nat) (i4_156 : Int) (s_156 : xS) (H : Heap) (locs : List Loc) (ls : Array Slot), (xR i4_156) → (xFr (fun k => k = 268 ∨ k = 306 ∨ k = 307) s0 s_156) → (IMn s_156) → (IMk s_156) → (IMo s_156) → (s_156 268 58 = s0 268 58) → (s_156 268 8 = 0) → (0 ≤ i4_156) → (x12 + 1 - i4_156).toNat < fu → xW D g h0 s H locs s_156 → lv_has ls 8 [(0, .ref (h0 + 268)), (1, .int (xJ n)), (2, .int (xJ x)), (3, .int (xJ x12)), (4, .int (xJ i4_156))] → W p l e { frames := 2, cells := 0, slots := 0, locals := 47 } s m args below meth c H locs 0 0 Q (F0 m 156 ls []) := by
                      intro fu
                      induction fu with
                      | zero => intro i4_156 s_156 H locs ls ri4_156 hF_156 q156_0 q156_1 q156_2 q156_3 q156_4 v156_0 hm; exact absurd hm (Nat.not_lt_zero _)
                      | succ fu ih156 =>
                        intro i4_156 s_156 H locs ls ri4_156 hF_156 q156_0 q156_1 q156_2 q156_3 q156_4 v156_0 hm hW hl
                        refine x_iload hx hb hl 4 rfl dX11_together_156 ?_
                        refine x_iload_n hx hb hl 3 rfl dX11_together_158 rfl ?_
                        refine x_icmp_ge (tgt := 203) hx hb ri4_156 (by omega) dX11_together_159 (by decide) (fun c25 => ?_) (fun c25 => ?_)
                        · skip
                          refine x_iconst hx hb dX11_together_203 ?_
                          refine lv_istore (lv' := [(4, .int (xJ 0)), (0, .ref (h0 + 268)), (1, .int (xJ n)), (2, .int (xJ x)), (3, .int (xJ x12))]) hx hb dX11_together_204 hl (by decide) rfl (fun ls hl => ?_)
                          have L206 : ∀ (fu : Nat) (i4_206 : Int) (s_206 : xS) (H : Heap) (locs : List Loc) (ls : Array Slot), (xR i4_206) → (xFr (fun k => k = 268 ∨ k = 306 ∨ k = 307) s0 s_206) → (IMn s_206) → (IMk s_206) → (IMo s_206) → (s_206 268 58 = s0 268 58) → (s_206 268 8 = 0) → (0 ≤ i4_206) → (n + 1 - i4_206).toNat < fu → xW D g h0 s H locs s_206 → lv_has ls 8 [(0, .ref (h0 + 268)), (1, .int (xJ n)), (2, .int (xJ x)), (4, .int (xJ i4_206))] → W p l e { frames := 2, cells := 0, slots := 0, locals := 47 } s m args below meth c H locs 0 0 Q (F0 m 206 ls []) := by
                            intro fu
                            induction fu with
                            | zero => intro i4_206 s_206 H locs ls ri4_206 hF_206 q206_0 q206_1 q206_2 q206_3 q206_4 v206_0 hm; exact absurd hm (Nat.not_lt_zero _)
                            | succ fu ih206 =>
                              intro i4_206 s_206 H locs ls ri4_206 hF_206 q206_0 q206_1 q206_2 q206_3 q206_4 v206_0 hm hW hl
                              refine x_iload hx hb hl 3 rfl dX11_together_206 ?_
                              refine x_iload_n hx hb hl 1 rfl dX11_together_208 rfl ?_
                              refine x_icmp_ge (tgt := 278) hx hb ri4_206 rn dX11_together_209 (by decide) (fun c26 => ?_) (fun c26 => ?_)
                              · skip
                                refine x_iconst hx hb dX11_together_278 ?_
                                refine lv_istore (lv' := [(4, .int (xJ 0)), (0, .ref (h0 + 268)), (1, .int (xJ n)), (2, .int (xJ x))]) hx hb dX11_together_279 hl (by decide) rfl (fun ls hl => ?_)
                                refine x_iconst hx hb dX11_together_281 ?_
                                refine lv_istore (lv' := [(5, .int (xJ 0)), (4, .int (xJ 0)), (0, .ref (h0 + 268)), (1, .int (xJ n)), (2, .int (xJ x))]) hx hb dX11_together_282 hl (by decide) rfl (fun ls hl => ?_)
                                refine x_iconst hx hb dX11_together_284 ?_
                                refine lv_istore (lv' := [(6, .int (xJ 0)), (5, .int (xJ 0)), (4, .int (xJ 0)), (0, .ref (h0 + 268)), (1, .int (xJ n)), (2, .int (xJ x))]) hx hb dX11_together_285 hl (by decide) rfl (fun ls hl => ?_)
                                refine x_iconst hx hb dX11_together_287 ?_
                                refine lv_istore (lv' := [(7, .int (xJ 0)), (6, .int (xJ 0)), (5, .int (xJ 0)), (4, .int (xJ 0)), (0, .ref (h0 + 268)), (1, .int (xJ n)), (2, .int (xJ x))]) hx hb dX11_together_288 hl (by decide) rfl (fun ls hl => ?_)
                                have L290 : ∀ (fu : Nat) (i4_290 : Int) (i5_290 : Int) (i6_290 : Int) (i7_290 : Int) (H : Heap) (locs : List Loc) (ls : Array Slot), (xR i4_290) → (xR i5_290) → (xR i6_290) → (xR i7_290) → (0 ≤ i7_290) → (n + 1 - i7_290).toNat < fu → xW D g h0 s H locs s_206 → lv_has ls 8 [(0, .ref (h0 + 268)), (1, .int (xJ n)), (2, .int (xJ x)), (4, .int (xJ i4_290)), (5, .int (xJ i5_290)), (6, .int (xJ i6_290)), (7, .int (xJ i7_290))] → W p l e { frames := 2, cells := 0, slots := 0, locals := 47 } s m args below meth c H locs 0 0 Q (F0 m 290 ls []) := by
                                  intro fu
                                  induction fu with
                                  | zero => intro i4_290 i5_290 i6_290 i7_290 H locs ls ri4_290 ri5_290 ri6_290 ri7_290 v290_0 hm; exact absurd hm (Nat.not_lt_zero _)
                                  | succ fu ih290 =>
                                    intro i4_290 i5_290 i6_290 i7_290 H locs ls ri4_290 ri5_290 ri6_290 ri7_290 v290_0 hm hW hl
                                    refine x_iload hx hb hl 6 rfl dX11_together_290 ?_
                                    refine x_iload_n hx hb hl 1 rfl dX11_together_292 rfl ?_
                                    refine x_icmp_ge (tgt := 346) hx hb ri7_290 rn dX11_together_293 (by decide) (fun c27 => ?_) (fun c27 => ?_)
                                    · skip
                                      refine x_iload_n hx hb hl 2 rfl dX11_together_346 rfl ?_
                                      refine x_if_ne (tgt := 355) hx hb rx dX11_together_347 (by decide) (fun c28 => ?_) (fun c28 => ?_)
                                      · skip
                                        refine x_iload_n hx hb hl 2 rfl dX11_together_355 rfl ?_
                                        refine x_iconst hx hb dX11_together_356 ?_
                                        refine x_icmp_ne (tgt := 365) hx hb rx (by decide) dX11_together_357 (by decide) (fun c29 => ?_) (fun c29 => ?_)
                                        · skip
                                          refine x_iload hx hb hl 5 rfl dX11_together_365 ?_
                                          rw [eQ]
                                          exact x_iret hx hb hr hlk hW ri6_290 ⟨hF_206, ⟨q206_0, q206_1, q206_2, q206_3, trivial⟩, by omega⟩ dX11_together_367
                                        refine x_iload hx hb hl 4 rfl dX11_together_360 ?_
                                        refine lv_goto (tgt := 367) hx hb dX11_together_362 (by decide) ?_
                                        rw [eQ]
                                        exact x_iret hx hb hr hlk hW ri5_290 ⟨hF_206, ⟨q206_0, q206_1, q206_2, q206_3, trivial⟩, by omega⟩ dX11_together_367
                                      refine x_iload hx hb hl 3 rfl dX11_together_350 ?_
                                      refine lv_goto (tgt := 367) hx hb dX11_together_352 (by decide) ?_
                                      rw [eQ]
                                      exact x_iret hx hb hr hlk hW ri4_290 ⟨hF_206, ⟨q206_0, q206_1, q206_2, q206_3, trivial⟩, by omega⟩ dX11_together_367
                                    refine x_aload_n hx hb hl 0 rfl dX11_together_296 rfl ?_
                                    refine x_get (j := 56) (v := .ref (h0 + 306)) hx hb hown hT hE hW cls_X11 (Or.inl (by decide)) (so_268 h0 g _) (by decide) rfl wq1241 dX11_together_297 ?_
                                    refine x_iload hx hb hl 6 rfl dX11_together_300 ?_
                                    refine x_iald hx hb hE hW (Or.inl (by decide)) (sa_306 h0 g _) (by omega) (by decide) dX11_together_302 ?_
                                    refine x_rd hW (fun x30 ex30 rx30 => ?_)
                                    have bx30 : 0 ≤ x30 ∧ x30 ≤ 7 := by rw [ex30]; exact IMo.b q206_2 _ (by omega) (by omega)
                                    refine x_iload hx hb hl 6 rfl dX11_together_303 ?_
                                    have J314 : ∀ (i5_314 : Int) (ls : Array Slot), (xR i5_314) → lv_has ls 8 [(0, .ref (h0 + 268)), (1, .int (xJ n)), (2, .int (xJ x)), (4, .int (xJ i4_290)), (5, .int (xJ i5_314)), (6, .int (xJ i6_290)), (7, .int (xJ i7_290))] → W p l e { frames := 2, cells := 0, slots := 0, locals := 47 } s m args below meth c H locs 0 0 Q (F0 m 314 ls []) := by
                                      intro i5_314 ls ri5_314  hl
                                      refine x_iload hx hb hl 3 rfl dX11_together_314 ?_
                                      refine x_aload_n hx hb hl 0 rfl dX11_together_316 rfl ?_
                                      refine x_get (j := 57) (v := .ref (h0 + 307)) hx hb hown hT hE hW cls_X11 (Or.inl (by decide)) (so_268 h0 g _) (by decide) rfl wq1242 dX11_together_317 ?_
                                      refine x_iload hx hb hl 6 rfl dX11_together_320 ?_
                                      refine x_iald hx hb hE hW (Or.inl (by decide)) (sa_307 h0 g _) (by omega) (by decide) dX11_together_322 ?_
                                      refine x_rd hW (fun x31 ex31 rx31 => ?_)
                                      refine x_iadd hx hb dX11_together_323 ?_
                                      refine x_any (fun x32 rx32 => ?_)
                                      refine lv_istore (lv' := [(4, .int (xJ x32)), (0, .ref (h0 + 268)), (1, .int (xJ n)), (2, .int (xJ x)), (5, .int (xJ i5_314)), (6, .int (xJ i6_290)), (7, .int (xJ i7_290))]) hx hb dX11_together_324 hl (by decide) rfl (fun ls hl => ?_)
                                      refine x_iload hx hb hl 5 rfl dX11_together_326 ?_
                                      refine x_aload_n hx hb hl 1 rfl dX11_together_328 rfl ?_
                                      refine x_get (j := 57) (v := .ref (h0 + 307)) hx hb hown hT hE hW cls_X11 (Or.inl (by decide)) (so_268 h0 g _) (by decide) rfl wq1242 dX11_together_329 ?_
                                      refine x_iload hx hb hl 6 rfl dX11_together_332 ?_
                                      refine x_iald hx hb hE hW (Or.inl (by decide)) (sa_307 h0 g _) (by omega) (by decide) dX11_together_334 ?_
                                      refine x_rd hW (fun x33 ex33 rx33 => ?_)
                                      refine x_goi (x_runS (As := [.int (xJ i6_290), .int (xJ x33)]) hx hb hml hown hT hE hW hl.1 cf_X11_max wq1677 wq1676 (c_X11_max l D g T h0 s_206 hW.2.1 i6_290 ri6_290 x33 rx33) ⟨rfl, rfl, ⟨by decide, by decide⟩, ⟨by decide, by decide⟩⟩ rfl rfl (Nat.le_of_ble_eq_true rfl) dX11_together_335) hW (fun x34 s35 H locs rx34 hp36 hW => ?_)
                                      obtain ⟨es35, hp36⟩ := hp36
                                      subst es35
                                      have ghp36 := hp36
                                      refine lv_istore (lv' := [(6, .int (xJ x34)), (4, .int (xJ x32)), (0, .ref (h0 + 268)), (1, .int (xJ n)), (2, .int (xJ x)), (5, .int (xJ i5_314)), (7, .int (xJ i7_290))]) hx hb dX11_together_338 hl (by decide) rfl (fun ls hl => ?_)
                                      refine x_iinc (lv' := [(7, .int (xJ (i7_290 + 1))), (6, .int (xJ x34)), (4, .int (xJ x32)), (0, .ref (h0 + 268)), (1, .int (xJ n)), (2, .int (xJ x)), (5, .int (xJ i5_314))]) hx hb hl 6 rfl dX11_together_340 (by decide) rfl (fun ls hl => ?_)
                                      refine lv_goto (tgt := 290) hx hb dX11_together_343 (by decide) ?_
                                      exact ih290 x32 i5_314 x34 (i7_290 + 1) H locs ls rx32 ri5_314 rx34 (by omega) (by omega) (by omega) hW (lv_sub hl [3, 4, 5, 2, 6, 1, 0] rfl)
                                    refine x_icmp_ne (tgt := 314) hx hb rx30 ri7_290 dX11_together_305 (by decide) (fun c37 => ?_) (fun c37 => ?_)
                                    · skip
                                      exact J314 i5_290 ls ri5_290  (lv_sub hl [0, 1, 2, 3, 4, 5, 6] rfl)
                                    refine x_iload hx hb hl 4 rfl dX11_together_308 ?_
                                    refine x_iconst hx hb dX11_together_310 ?_
                                    refine x_iadd hx hb dX11_together_311 ?_
                                    refine x_any (fun x38 rx38 => ?_)
                                    refine lv_istore (lv' := [(5, .int (xJ x38)), (0, .ref (h0 + 268)), (1, .int (xJ n)), (2, .int (xJ x)), (4, .int (xJ i4_290)), (6, .int (xJ i6_290)), (7, .int (xJ i7_290))]) hx hb dX11_together_312 hl (by decide) rfl (fun ls hl => ?_)
                                    exact J314 x38 ls rx38  (lv_sub hl [1, 2, 3, 4, 0, 5, 6] rfl)
                                exact L290 ((n + 1 - 0 : Int).toNat + 1) 0 0 0 0 H locs ls (by decide) (by decide) (by decide) (by decide) (by omega) (Nat.lt_succ_self _) hW (lv_sub hl [4, 5, 6, 3, 2, 1, 0] rfl)
                              refine x_aload_n hx hb hl 0 rfl dX11_together_212 rfl ?_
                              refine x_get (j := 57) (v := .ref (h0 + 307)) hx hb hown hT hE hW cls_X11 (Or.inl (by decide)) (so_268 h0 g _) (by decide) rfl wq1242 dX11_together_213 ?_
                              refine x_aload_n hx hb hl 0 rfl dX11_together_216 rfl ?_
                              refine x_get (j := 56) (v := .ref (h0 + 306)) hx hb hown hT hE hW cls_X11 (Or.inl (by decide)) (so_268 h0 g _) (by decide) rfl wq1241 dX11_together_217 ?_
                              refine x_iload hx hb hl 3 rfl dX11_together_220 ?_
                              refine x_iald hx hb hE hW (Or.inl (by decide)) (sa_306 h0 g _) (by omega) (by decide) dX11_together_222 ?_
                              refine x_rd hW (fun x39 ex39 rx39 => ?_)
                              have bx39 : 0 ≤ x39 ∧ x39 ≤ 7 := by rw [ex39]; exact IMo.b q206_2 _ (by omega) (by omega)
                              refine x_aload_n hx hb hl 0 rfl dX11_together_223 rfl ?_
                              refine x_get (j := 57) (v := .ref (h0 + 307)) hx hb hown hT hE hW cls_X11 (Or.inl (by decide)) (so_268 h0 g _) (by decide) rfl wq1242 dX11_together_224 ?_
                              refine x_aload_n hx hb hl 0 rfl dX11_together_227 rfl ?_
                              refine x_get (j := 56) (v := .ref (h0 + 306)) hx hb hown hT hE hW cls_X11 (Or.inl (by decide)) (so_268 h0 g _) (by decide) rfl wq1241 dX11_together_228 ?_
                              refine x_iload hx hb hl 3 rfl dX11_together_231 ?_
                              refine x_iald hx hb hE hW (Or.inl (by decide)) (sa_306 h0 g _) (by omega) (by decide) dX11_together_233 ?_
                              refine x_rd hW (fun x40 ex40 rx40 => ?_)
                              have bx40 : 0 ≤ x40 ∧ x40 ≤ 7 := by rw [ex40]; exact IMo.b q206_2 _ (by omega) (by omega)
                              refine x_iald hx hb hE hW (Or.inl (by decide)) (sa_307 h0 g _) (by omega) (by decide) dX11_together_234 ?_
                              refine x_rd hW (fun x41 ex41 rx41 => ?_)
                              refine x_aload_n hx hb hl 0 rfl dX11_together_235 rfl ?_
                              refine x_get (j := 7) (v := .ref (h0 + 276)) hx hb hown hT hE hW cls_X11 (Or.inl (by decide)) (so_268 h0 g _) (by decide) rfl wq1192 dX11_together_236 ?_
                              refine x_iconst hx hb dX11_together_239 ?_
                              refine x_iload hx hb hl 3 rfl dX11_together_240 ?_
                              refine x_imul hx hb dX11_together_242 ?_
                              refine x_bald hx hb hE hW (Or.inl (by decide)) (sa_276 h0 g _) (by omega) (by decide) dX11_together_243 ?_
                              refine x_rd hW (fun x42 ex42 rx42 => ?_)
                              refine x_sipush hx hb dX11_together_244 (by decide) ?_
                              refine x_and255 hx hb rx42 dX11_together_247 ?_
                              refine x_nm (fun x43 ex43 => ?_)
                              refine x_sipush hx hb dX11_together_248 (by decide) ?_
                              refine x_imul hx hb dX11_together_251 ?_
                              refine x_aload_n hx hb hl 0 rfl dX11_together_252 rfl ?_
                              refine x_get (j := 7) (v := .ref (h0 + 276)) hx hb hown hT hE hW cls_X11 (Or.inl (by decide)) (so_268 h0 g _) (by decide) rfl wq1192 dX11_together_253 ?_
                              refine x_iconst hx hb dX11_together_256 ?_
                              refine x_iload hx hb hl 3 rfl dX11_together_257 ?_
                              refine x_imul hx hb dX11_together_259 ?_
                              refine x_iconst hx hb dX11_together_260 ?_
                              refine x_iadd hx hb dX11_together_261 ?_
                              refine x_bald hx hb hE hW (Or.inl (by decide)) (sa_276 h0 g _) (by omega) (by decide) dX11_together_262 ?_
                              refine x_rd hW (fun x44 ex44 rx44 => ?_)
                              refine x_sipush hx hb dX11_together_263 (by decide) ?_
                              refine x_and255 hx hb rx44 dX11_together_266 ?_
                              refine x_nm (fun x45 ex45 => ?_)
                              refine x_iadd hx hb dX11_together_267 ?_
                              refine x_goi (x_runS (As := [.int (xJ x41), .int (xJ ((x43 * 256) + x45))]) hx hb hml hown hT hE hW hl.1 cf_X11_max wq1677 wq1676 (c_X11_max l D g T h0 s_206 hW.2.1 x41 rx41 ((x43 * 256) + x45) (by omega)) ⟨rfl, rfl, ⟨by decide, by decide⟩, ⟨by decide, by decide⟩⟩ rfl rfl (Nat.le_of_ble_eq_true rfl) dX11_together_268) hW (fun x46 s47 H locs rx46 hp48 hW => ?_)
                              obtain ⟨es47, hp48⟩ := hp48
                              subst es47
                              have ghp48 := hp48
                              refine x_iast hx hb hE hW (by decide) (fun σ => sa_307 h0 g σ) (by omega) (by decide) rx46 dX11_together_271 (fun H locs s49 es49 hW => ?_)
                              have q50 : IMn s49 := by rw [es49]; exact IMn_o (by unfold suIMn; omega) q206_0
                              have q51 : IMk s49 := by rw [es49]; exact IMk_o (by unfold suIMk; omega) q206_1
                              have q52 : IMo s49 := by rw [es49]; exact IMo_o (by unfold suIMo; omega) q206_2
                              have q53 : s49 268 58 = s0 268 58 := (show s49 268 58 = s_206 268 58 from by rw [es49, xU_k _ _ _ (by omega)]).trans q206_3
                              have q54 : s49 268 8 = 0 := (show s49 268 8 = s_206 268 8 from by rw [es49, xU_k _ _ _ (by omega)]).trans q206_4
                              have hF55 := hF_206.put es49 (by omega)
                              refine x_iinc (lv' := [(4, .int (xJ (i4_206 + 1))), (0, .ref (h0 + 268)), (1, .int (xJ n)), (2, .int (xJ x))]) hx hb hl 3 rfl dX11_together_272 (by decide) rfl (fun ls hl => ?_)
                              refine lv_goto (tgt := 206) hx hb dX11_together_275 (by decide) ?_
                              exact ih206 (i4_206 + 1) s49 H locs ls (by omega) hF55 q50 q51 q52 q53 q54 (by omega) (by omega) hW (lv_sub hl [1, 2, 3, 0] rfl)
                          exact L206 ((n + 1 - 0 : Int).toNat + 1) 0 s_156 H locs ls (by decide) hF_156 q156_0 q156_1 q156_2 q156_3 q156_4 (by omega) (Nat.lt_succ_self _) hW (lv_sub hl [1, 2, 3, 0] rfl)
                        refine x_aload_n hx hb hl 0 rfl dX11_together_162 rfl ?_
                        refine x_aload_n hx hb hl 0 rfl dX11_together_163 rfl ?_
                        refine x_get (j := 7) (v := .ref (h0 + 276)) hx hb hown hT hE hW cls_X11 (Or.inl (by decide)) (so_268 h0 g _) (by decide) rfl wq1192 dX11_together_164 ?_
                        refine x_iconst hx hb dX11_together_167 ?_
                        refine x_iload_n hx hb hl 1 rfl dX11_together_168 rfl ?_
                        refine x_imul hx hb dX11_together_169 ?_
                        refine x_iconst hx hb dX11_together_170 ?_
                        refine x_iadd hx hb dX11_together_171 ?_
                        refine x_iconst hx hb dX11_together_172 ?_
                        refine x_iload hx hb hl 4 rfl dX11_together_173 ?_
                        refine x_imul hx hb dX11_together_175 ?_
                        refine x_iadd hx hb dX11_together_176 ?_
                        refine x_bald hx hb hE hW (Or.inl (by decide)) (sa_276 h0 g _) (by omega) (by decide) dX11_together_177 ?_
                        refine x_rd hW (fun x56 ex56 rx56 => ?_)
                        have ux56 : (2 * n + 1 + ((((2 * n) + 1) + (2 * i4_156)) - (2 * n + 1))) = (((2 * n) + 1) + (2 * i4_156)) := by omega
                        have wx56 := v113_1 ((((2 * n) + 1) + (2 * i4_156)) - (2 * n + 1)) (by omega) (by omega)
                        rw [ux56, ← hF_156 276 (by omega), ← ex56] at wx56
                        have tx56 : 0 ≤ x56 ∧ x56 ≤ 7 := by omega
                        refine x_aload_n hx hb hl 0 rfl dX11_together_178 rfl ?_
                        refine x_get (j := 7) (v := .ref (h0 + 276)) hx hb hown hT hE hW cls_X11 (Or.inl (by decide)) (so_268 h0 g _) (by decide) rfl wq1192 dX11_together_179 ?_
                        refine x_iconst hx hb dX11_together_182 ?_
                        refine x_iload_n hx hb hl 1 rfl dX11_together_183 rfl ?_
                        refine x_imul hx hb dX11_together_184 ?_
                        refine x_iconst hx hb dX11_together_185 ?_
                        refine x_iadd hx hb dX11_together_186 ?_
                        refine x_iconst hx hb dX11_together_187 ?_
                        refine x_iload hx hb hl 4 rfl dX11_together_188 ?_
                        refine x_imul hx hb dX11_together_190 ?_
                        refine x_iadd hx hb dX11_together_191 ?_
                        refine x_bald hx hb hE hW (Or.inl (by decide)) (sa_276 h0 g _) (by omega) (by decide) dX11_together_192 ?_
                        refine x_rd hW (fun x57 ex57 rx57 => ?_)
                        have ux57 : (2 * n + 1 + ((((2 * n) + 2) + (2 * i4_156)) - (2 * n + 1))) = (((2 * n) + 2) + (2 * i4_156)) := by omega
                        have wx57 := v113_1 ((((2 * n) + 2) + (2 * i4_156)) - (2 * n + 1)) (by omega) (by omega)
                        rw [ux57, ← hF_156 276 (by omega), ← ex57] at wx57
                        have tx57 : 0 ≤ x57 ∧ x57 ≤ 7 := by omega
                        refine x_iload_n hx hb hl 1 rfl dX11_together_193 rfl ?_
                        refine x_gov (x_runV (As := [.int (xJ x56), .int (xJ x57), .int (xJ n)]) hx hb hml hown hT hE hW hl.1 (Or.inl (by decide)) (so_268 h0 g _) rfl cf_X11_binds wq1748 wq163 wq1746 (c_X11_binds l D g T h0 s_156 hW.2.1 x56 rx56 x57 rx57 n rn (by omega) q156_0 q156_1 q156_2) ⟨rfl, rfl, ⟨by decide, by decide⟩, ⟨by decide, by decide⟩⟩ rfl rfl (Nat.le_of_ble_eq_true rfl) dX11_together_194) hW (fun s59 H locs hp60 hW => ?_)
                        obtain ⟨fs59, hp60⟩ := hp60
                        have hF61 := hF_156.call fs59 (fun k h => by omega)
                        have q62 : s59 268 58 = s0 268 58 := (congrFun (fs59 _ (by omega)) _).trans q156_3
                        have q63 : s59 268 8 = 0 := (congrFun (fs59 _ (by omega)) _).trans q156_4
                        have ghp60 := hp60.2
                        refine x_iinc (lv' := [(4, .int (xJ (i4_156 + 1))), (0, .ref (h0 + 268)), (1, .int (xJ n)), (2, .int (xJ x)), (3, .int (xJ x12))]) hx hb hl 4 rfl dX11_together_197 (by decide) rfl (fun ls hl => ?_)
                        refine lv_goto (tgt := 156) hx hb dX11_together_200 (by decide) ?_
                        exact ih156 (i4_156 + 1) s59 H locs ls (by omega) hF61 hp60.1.1 hp60.1.2.1 hp60.1.2.2.1 q62 q63 (by omega) (by omega) hW (lv_sub hl [1, 2, 3, 4, 0] rfl)
                    exact L156 ((x12 + 1 - 0 : Int).toNat + 1) 0 s_81 H locs ls (by decide) hF_81 q81_0 q81_1 q81_2 q81_3 q81_4 (by omega) (Nat.lt_succ_self _) hW (lv_sub hl [1, 2, 3, 4, 0] rfl)
                  refine x_aload_n hx hb hl 0 rfl dX11_together_121 rfl ?_
                  refine x_get (j := 7) (v := .ref (h0 + 276)) hx hb hown hT hE hW cls_X11 (Or.inl (by decide)) (so_268 h0 g _) (by decide) rfl wq1192 dX11_together_122 ?_
                  refine x_iconst hx hb dX11_together_125 ?_
                  refine x_iload_n hx hb hl 1 rfl dX11_together_126 rfl ?_
                  refine x_imul hx hb dX11_together_127 ?_
                  refine x_iconst hx hb dX11_together_128 ?_
                  refine x_iadd hx hb dX11_together_129 ?_
                  refine x_iload hx hb hl 4 rfl dX11_together_130 ?_
                  refine x_iadd hx hb dX11_together_132 ?_
                  refine x_bald hx hb hE hW (Or.inl (by decide)) (sa_276 h0 g _) (by omega) (by decide) dX11_together_133 ?_
                  refine x_rd hW (fun x64 ex64 rx64 => ?_)
                  refine x_iconst hx hb dX11_together_134 ?_
                  refine x_iload_n hx hb hl 1 rfl dX11_together_135 rfl ?_
                  refine x_iconst hx hb dX11_together_136 ?_
                  refine x_isub hx hb dX11_together_137 ?_
                  refine x_goi (x_runS (As := [.int (xJ x64), .int (xJ 0), .int (xJ (n - 1))]) hx hb hml hown hT hE hW hl.1 cf_X11_in wq1383 wq1382 (c_X11_in l D g T h0 s_81 hW.2.1 x64 rx64 0 (by decide) (n - 1) (by omega)) ⟨rfl, rfl, ⟨by decide, by decide⟩, ⟨by decide, by decide⟩⟩ rfl rfl (Nat.le_of_ble_eq_true rfl) dX11_together_138) hW (fun x65 s66 H locs rx65 hp67 hW => ?_)
                  obtain ⟨es66, hp67⟩ := hp67
                  subst es66
                  have ghp67 := hp67
                  refine x_if_ne (tgt := 147) hx hb rx65 dX11_together_141 (by decide) (fun c68 => ?_) (fun c68 => ?_)
                  · skip
                    refine x_iinc (lv' := [(4, .int (xJ (i4_113 + 1))), (0, .ref (h0 + 268)), (1, .int (xJ n)), (2, .int (xJ x)), (3, .int (xJ x12))]) hx hb hl 4 rfl dX11_together_147 (by decide) rfl (fun ls hl => ?_)
                    refine lv_goto (tgt := 113) hx hb dX11_together_150 (by decide) ?_
                    exact ih113 (i4_113 + 1) H locs ls (by omega) (by omega) (fun q h1 h2 => (Classical.em (q < (i4_113 + 1) - 1)).elim (fun hq => v113_1 q h1 (by omega)) (fun hq => by rw [show q = i4_113 from by omega, ← hF_81 276 (by omega)]; omega)) (by omega) hW (lv_sub hl [1, 2, 3, 4, 0] rfl)
                  refine x_bipush hx hb dX11_together_144 (by decide) ?_
                  rw [eQ]
                  exact x_iret hx hb hr hlk hW (by decide) ⟨hF_81, ⟨q81_0, q81_1, q81_2, q81_3, trivial⟩, by omega⟩ dX11_together_146
              exact L113 ((2 * x12 - 0 : Int).toNat + 1) 0 H locs ls (by decide) (by omega) (fun q h1 h2 => False.elim (by omega)) (Nat.lt_succ_self _) hW (lv_sub hl [1, 2, 3, 4, 0] rfl)
            refine x_aload_n hx hb hl 0 rfl dX11_together_87 rfl ?_
            refine x_get (j := 56) (v := .ref (h0 + 306)) hx hb hown hT hE hW cls_X11 (Or.inl (by decide)) (so_268 h0 g _) (by decide) rfl wq1241 dX11_together_88 ?_
            refine x_iload hx hb hl 4 rfl dX11_together_91 ?_
            refine x_iload hx hb hl 4 rfl dX11_together_93 ?_
            refine x_iast hx hb hE hW (by decide) (fun σ => sa_306 h0 g σ) (by omega) (by decide) ri4_81 dX11_together_95 (fun H locs s69 es69 hW => ?_)
            have q70 : IMn s69 := by rw [es69]; exact IMn_o (by unfold suIMn; omega) q81_0
            have q71 : IMk s69 := by rw [es69]; exact IMk_o (by unfold suIMk; omega) q81_1
            have q72 : IMo s69 := by rw [es69]; exact IMo_306 q81_2 (by omega)
            have q73 : s69 268 58 = s0 268 58 := (show s69 268 58 = s_81 268 58 from by rw [es69, xU_k _ _ _ (by omega)]).trans q81_3
            have q74 : s69 268 8 = 0 := (show s69 268 8 = s_81 268 8 from by rw [es69, xU_k _ _ _ (by omega)]).trans q81_4
            have hF75 := hF_81.put es69 (by omega)
            refine x_aload_n hx hb hl 0 rfl dX11_together_96 rfl ?_
            refine x_get (j := 57) (v := .ref (h0 + 307)) hx hb hown hT hE hW cls_X11 (Or.inl (by decide)) (so_268 h0 g _) (by decide) rfl wq1242 dX11_together_97 ?_
            refine x_iload hx hb hl 4 rfl dX11_together_100 ?_
            refine x_iconst hx hb dX11_together_102 ?_
            refine x_iast hx hb hE hW (by decide) (fun σ => sa_307 h0 g σ) (by omega) (by decide) (by decide) dX11_together_103 (fun H locs s76 es76 hW => ?_)
            have q77 : IMn s76 := by rw [es76]; exact IMn_o (by unfold suIMn; omega) q70
            have q78 : IMk s76 := by rw [es76]; exact IMk_o (by unfold suIMk; omega) q71
            have q79 : IMo s76 := by rw [es76]; exact IMo_o (by unfold suIMo; omega) q72
            have q80 : s76 268 58 = s0 268 58 := (show s76 268 58 = s69 268 58 from by rw [es76, xU_k _ _ _ (by omega)]).trans q73
            have q81 : s76 268 8 = 0 := (show s76 268 8 = s69 268 8 from by rw [es76, xU_k _ _ _ (by omega)]).trans q74
            have hF82 := hF75.put es76 (by omega)
            refine x_iinc (lv' := [(4, .int (xJ (i4_81 + 1))), (0, .ref (h0 + 268)), (1, .int (xJ n)), (2, .int (xJ x)), (3, .int (xJ x12))]) hx hb hl 4 rfl dX11_together_104 (by decide) rfl (fun ls hl => ?_)
            refine lv_goto (tgt := 81) hx hb dX11_together_107 (by decide) ?_
            exact ih81 (i4_81 + 1) s76 H locs ls (by omega) hF82 q77 q78 q79 q80 q81 (by omega) (by omega) hW (lv_sub hl [1, 2, 3, 4, 0] rfl)
        exact L81 ((n + 1 - 0 : Int).toNat + 1) 0 s15 H locs ls (by decide) hF21 q16 q17 q18 q19 q20 (by omega) (Nat.lt_succ_self _) hW (lv_sub hl [2, 3, 4, 1, 0] rfl)
      refine x_bipush hx hb dX11_together_75 (by decide) ?_
      rw [eQ]
      exact x_iret hx hb hr hlk hW (by decide) ⟨hF21, ⟨q16, q17, q18, q19, trivial⟩, by omega⟩ dX11_together_77
    refine x_iconst hx hb dX11_together_62 ?_
    rw [eQ]
    exact x_iret hx hb hr hlk hW (by decide) ⟨hF, ⟨p0, p1, p2, k268_58, trivial⟩, by omega⟩ dX11_together_63
  refine x_iconst hx hb dX11_together_31 ?_
  rw [eQ]
  exact x_iret hx hb hr hlk hW (by decide) ⟨hF, ⟨p0, p1, p2, k268_58, trivial⟩, by omega⟩ dX11_together_32
set_option maxHeartbeats 4000000 in
set_option maxRecDepth 100000 in
theorem c_X11_prints (l : Launch) (D : va_G) (g : xG) (T : Nat × Nat × Nat) (h0 : Nat) (s0 : xS) (hσ : xRR s0) (n : Int) (rn : xR n) (x : Int) (rx : xR x) (p0 : IMn s0) (p1 : IMk s0) (p2 : IMo s0) : Met l yX11_prints (xws yX11_prints cX11_prints 6 (some .int)) { frames := 5, cells := 0, slots := 0, locals := 115 } (xP [.ref (h0 + 268), .int (xJ n), .int (xJ x)] D g T h0 s0) (xQi D g h0 (fun r τ => xFr (fun k => k = 268 ∨ k = 296) s0 τ ∧ (((IMn τ) ∧ (IMk τ) ∧ (IMo τ) ∧ (τ 268 58 = s0 268 58) ∧ True) ∧ (((n < 2 ∨ 20 < n ∨ x < 0 ∨ 1 < x ∨ s0 268 8 < n) ∧ τ 268 8 = s0 268 8 ∧ r = -1) ∨ (¬ (n < 2 ∨ 20 < n ∨ x < 0 ∨ 1 < x ∨ s0 268 8 < n) ∧ τ 268 8 = 0))))) 0 0 (xA h0) := by
  refine x_met hσ (by decide) (Nat.le_of_ble_eq_true rfl) ?_
  intro p e s m args below meth c hx hb hr hml hown hT hlk hnm hE hW ls hl
  have hl : lv_has ls 6 [(0, .ref (h0 + 268)), (1, .int (xJ n)), (2, .int (xJ x))] := hl
  obtain ⟨Q, eQ⟩ : ∃ Q, Q = MQ below (xQi D g h0 (fun r τ => xFr (fun k => k = 268 ∨ k = 296) s0 τ ∧ (((IMn τ) ∧ (IMk τ) ∧ (IMo τ) ∧ (τ 268 58 = s0 268 58) ∧ True) ∧ (((n < 2 ∨ 20 < n ∨ x < 0 ∨ 1 < x ∨ s0 268 8 < n) ∧ τ 268 8 = s0 268 8 ∧ r = -1) ∨ (¬ (n < 2 ∨ 20 < n ∨ x < 0 ∨ 1 < x ∨ s0 268 8 < n) ∧ τ 268 8 = 0))))) args s 0 0 (xA h0) := ⟨_, rfl⟩
  rw [← eQ]
  generalize hHe : ([] : List Loc) = locs at hW ⊢
  obtain ⟨H, eH⟩ : ∃ H, H = s.heap := ⟨_, rfl⟩
  rw [← eH] at hW ⊢
  have hF : xFr (fun k => k = 268 ∨ k = 296) s0 s0 := xFr.rf
  have k268_58 : s0 268 58 = s0 268 58 := rfl
  have k268_8 : s0 268 8 = s0 268 8 := rfl
  refine x_iload_n hx hb hl 1 rfl dX11_prints_0 rfl ?_
  refine x_iconst hx hb dX11_prints_1 ?_
  refine x_bipush hx hb dX11_prints_2 (by decide) ?_
  refine x_goi (x_runS (As := [.int (xJ n), .int (xJ 2), .int (xJ 20)]) hx hb hml hown hT hE hW hl.1 cf_X11_in wq1383 wq1382 (c_X11_in l D g T h0 s0 hW.2.1 n rn 2 (by decide) 20 (by decide)) ⟨rfl, rfl, ⟨by decide, by decide⟩, ⟨by decide, by decide⟩⟩ rfl rfl (Nat.le_of_ble_eq_true rfl) dX11_prints_4) hW (fun x1 s2 H locs rx1 hp3 hW => ?_)
  obtain ⟨es2, hp3⟩ := hp3
  subst es2
  have ghp3 := hp3
  refine x_if_eq (tgt := 27) hx hb rx1 dX11_prints_7 (by decide) (fun c4 => ?_) (fun c4 => ?_)
  · skip
    refine x_iconst hx hb dX11_prints_27 ?_
    rw [eQ]
    exact x_iret hx hb hr hlk hW (by decide) ⟨hF, ⟨p0, p1, p2, k268_58, trivial⟩, by omega⟩ dX11_prints_28
  refine x_iload_n hx hb hl 2 rfl dX11_prints_10 rfl ?_
  refine x_iconst hx hb dX11_prints_11 ?_
  refine x_iconst hx hb dX11_prints_12 ?_
  refine x_goi (x_runS (As := [.int (xJ x), .int (xJ 0), .int (xJ 1)]) hx hb hml hown hT hE hW hl.1 cf_X11_in wq1383 wq1382 (c_X11_in l D g T h0 s0 hW.2.1 x rx 0 (by decide) 1 (by decide)) ⟨rfl, rfl, ⟨by decide, by decide⟩, ⟨by decide, by decide⟩⟩ rfl rfl (Nat.le_of_ble_eq_true rfl) dX11_prints_13) hW (fun x5 s6 H locs rx5 hp7 hW => ?_)
  obtain ⟨es6, hp7⟩ := hp7
  subst es6
  have ghp7 := hp7
  refine x_if_eq (tgt := 27) hx hb rx5 dX11_prints_16 (by decide) (fun c8 => ?_) (fun c8 => ?_)
  · skip
    refine x_iconst hx hb dX11_prints_27 ?_
    rw [eQ]
    exact x_iret hx hb hr hlk hW (by decide) ⟨hF, ⟨p0, p1, p2, k268_58, trivial⟩, by omega⟩ dX11_prints_28
  refine x_iload_n hx hb hl 1 rfl dX11_prints_19 rfl ?_
  refine x_aload_n hx hb hl 0 rfl dX11_prints_20 rfl ?_
  refine x_get (j := 8) (v := .int (xJ (s0 268 8))) hx hb hown hT hE hW cls_X11 (Or.inl (by decide)) (so_268 h0 g _) (by decide) rfl wq1193 dX11_prints_21 ?_
  refine x_rd hW (fun x9 ex9 rx9 => ?_)
  have bx9 : 0 ≤ x9 ∧ x9 ≤ 260 := by rw [ex9]; exact IMn.t p0
  have fx9 : x9 = s0 268 8 := ex9.trans k268_8
  refine x_icmp_le (tgt := 29) hx hb rn rx9 dX11_prints_24 (by decide) (fun c10 => ?_) (fun c10 => ?_)
  · skip
    refine x_aload_n hx hb hl 0 rfl dX11_prints_29 rfl ?_
    refine x_iconst hx hb dX11_prints_30 ?_
    refine x_put (j := 8) hx hb hown hT hE hW cls_X11 (by decide) (fun σ => so_268 h0 g σ) (by decide) (st_X11_8 h0 s0 268 0) (ln_X11_8 h0 _ _) wq1193 rfl rfl rfl (by decide) dX11_prints_31 (fun H locs s11 es11 hW => ?_)
    have q12 : IMn s11 := by rw [es11]; exact IMn_268 p0 (by omega)
    have q13 : IMk s11 := by rw [es11]; exact IMk_268 p1 (by omega)
    have q14 : IMo s11 := by rw [es11]; exact IMo_o (by unfold suIMo; omega) p2
    have q15 : s11 268 58 = s0 268 58 := (show s11 268 58 = s0 268 58 from by rw [es11, xU_j _ _ (by decide)]).trans k268_58
    have q16 : s11 268 8 = 0 := by rw [es11, xU_s]
    have hF17 := hF.put es11 (by omega)
    refine x_aload_n hx hb hl 0 rfl dX11_prints_34 rfl ?_
    refine x_iload_n hx hb hl 1 rfl dX11_prints_35 rfl ?_
    refine x_goi (x_runV (As := [.int (xJ n)]) hx hb hml hown hT hE hW hl.1 (Or.inl (by decide)) (so_268 h0 g _) rfl cf_X11_areSpots wq1732 wq161 wq1730 (c_X11_areSpots l D g T h0 s11 hW.2.1 n rn (by omega) q12 q13 q14) ⟨rfl, rfl, ⟨by decide, by decide⟩, ⟨by decide, by decide⟩⟩ rfl rfl (Nat.le_of_ble_eq_true rfl) dX11_prints_36) hW (fun x18 s19 H locs rx18 hp20 hW => ?_)
    obtain ⟨es19, hp20⟩ := hp20
    subst es19
    have ghp20 := hp20
    have ha := ghp20
    have hq9 := hF17 276 (by omega)
    refine x_if_ne (tgt := 45) hx hb rx18 dX11_prints_39 (by decide) (fun c21 => ?_) (fun c21 => ?_)
    · skip
      refine x_iload_n hx hb hl 2 rfl dX11_prints_45 rfl ?_
      refine x_iconst hx hb dX11_prints_46 ?_
      refine x_icmp_ne (tgt := 63) hx hb rx (by decide) dX11_prints_47 (by decide) (fun c22 => ?_) (fun c22 => ?_)
      · skip
        refine x_aload_n hx hb hl 0 rfl dX11_prints_63 rfl ?_
        refine x_iload_n hx hb hl 1 rfl dX11_prints_64 rfl ?_
        refine x_goi (x_runV (As := [.int (xJ n)]) hx hb hml hown hT hE hW hl.1 (Or.inl (by decide)) (so_268 h0 g _) rfl cf_X11_failsAt wq1736 wq162 wq1734 (c_X11_failsAt l D g T h0 s11 hW.2.1 n rn (by omega) ((ha.resolve_left (by omega)).2) q12 q13 q14) ⟨rfl, rfl, ⟨by decide, by decide⟩, ⟨by decide, by decide⟩⟩ rfl rfl (Nat.le_of_ble_eq_true rfl) dX11_prints_65) hW (fun x23 s24 H locs rx23 hp25 hW => ?_)
        obtain ⟨fs24, hp25⟩ := hp25
        have hF26 := hF17.call fs24 (fun k h => by omega)
        have q27 : s24 268 58 = s0 268 58 := (congrFun (fs24 _ (by omega)) _).trans q15
        have q28 : s24 268 8 = 0 := (congrFun (fs24 _ (by omega)) _).trans q16
        have ghp25 := hp25.2
        refine lv_istore_n (lv' := [(3, .int (xJ x23)), (0, .ref (h0 + 268)), (1, .int (xJ n)), (2, .int (xJ x))]) hx hb dX11_prints_68 rfl hl (by decide) rfl (fun ls hl => ?_)
        refine x_iconst hx hb dX11_prints_69 ?_
        refine lv_istore (lv' := [(4, .int (xJ 0)), (3, .int (xJ x23)), (0, .ref (h0 + 268)), (1, .int (xJ n)), (2, .int (xJ x))]) hx hb dX11_prints_70 hl (by decide) rfl (fun ls hl => ?_)
        refine x_iconst hx hb dX11_prints_72 ?_
        refine lv_istore (lv' := [(5, .int (xJ 0)), (4, .int (xJ 0)), (3, .int (xJ x23)), (0, .ref (h0 + 268)), (1, .int (xJ n)), (2, .int (xJ x))]) hx hb dX11_prints_73 hl (by decide) rfl (fun ls hl => ?_)
        have L75 : ∀ (fu : Nat) (i4_75 : Int) (i5_75 : Int) (s_75 : xS) (H : Heap) (locs : List Loc) (ls : Array Slot), (xR i4_75) → (xR i5_75) → (xFr (fun k => k = 268 ∨ k = 296) s0 s_75) → (s_75 268 58 = s0 268 58) → (s_75 268 8 = 0) → (IMn s_75) → (IMk s_75) → (IMo s_75) → (0 ≤ i5_75) → (i5_75 ≤ 10) → (10 + 1 - i5_75).toNat < fu → xW D g h0 s H locs s_75 → lv_has ls 6 [(0, .ref (h0 + 268)), (2, .int (xJ x)), (3, .int (xJ x23)), (4, .int (xJ i4_75)), (5, .int (xJ i5_75))] → W p l e { frames := 5, cells := 0, slots := 0, locals := 115 } s m args below meth c H locs 0 0 Q (F0 m 75 ls []) := by
          intro fu
          induction fu with
          | zero => intro i4_75 i5_75 s_75 H locs ls ri4_75 ri5_75 hF_75 q75_0 q75_1 q75_2 q75_3 q75_4 v75_0 v75_1 hm; exact absurd hm (Nat.not_lt_zero _)
          | succ fu ih75 =>
            intro i4_75 i5_75 s_75 H locs ls ri4_75 ri5_75 hF_75 q75_0 q75_1 q75_2 q75_3 q75_4 v75_0 v75_1 hm hW hl
            refine x_iload hx hb hl 4 rfl dX11_prints_75 ?_
            refine x_bipush hx hb dX11_prints_77 (by decide) ?_
            refine x_icmp_ge (tgt := 141) hx hb ri5_75 (by decide) dX11_prints_79 (by decide) (fun c29 => ?_) (fun c29 => ?_)
            · skip
              refine x_iload_n hx hb hl 1 rfl dX11_prints_141 rfl ?_
              refine x_if_ne (tgt := 157) hx hb rx dX11_prints_142 (by decide) (fun c30 => ?_) (fun c30 => ?_)
              · skip
                refine x_iload hx hb hl 3 rfl dX11_prints_157 ?_
                refine x_if_ne (tgt := 166) hx hb ri4_75 dX11_prints_159 (by decide) (fun c31 => ?_) (fun c31 => ?_)
                · skip
                  refine x_iload_n hx hb hl 2 rfl dX11_prints_166 rfl ?_
                  refine x_iconst hx hb dX11_prints_167 ?_
                  refine x_icmp_ne (tgt := 176) hx hb rx23 (by decide) dX11_prints_168 (by decide) (fun c32 => ?_) (fun c32 => ?_)
                  · skip
                    refine x_iload_n hx hb hl 2 rfl dX11_prints_176 rfl ?_
                    rw [eQ]
                    exact x_iret hx hb hr hlk hW rx23 ⟨hF_75, ⟨q75_2, q75_3, q75_4, q75_0, trivial⟩, by omega⟩ dX11_prints_177
                  refine x_bipush hx hb dX11_prints_171 (by decide) ?_
                  refine lv_goto (tgt := 177) hx hb dX11_prints_173 (by decide) ?_
                  rw [eQ]
                  exact x_iret hx hb hr hlk hW (by decide) ⟨hF_75, ⟨q75_2, q75_3, q75_4, q75_0, trivial⟩, by omega⟩ dX11_prints_177
                refine x_iconst hx hb dX11_prints_162 ?_
                refine lv_goto (tgt := 177) hx hb dX11_prints_163 (by decide) ?_
                rw [eQ]
                exact x_iret hx hb hr hlk hW (by decide) ⟨hF_75, ⟨q75_2, q75_3, q75_4, q75_0, trivial⟩, by omega⟩ dX11_prints_177
              refine x_iload_n hx hb hl 2 rfl dX11_prints_145 rfl ?_
              refine x_iconst hx hb dX11_prints_146 ?_
              refine x_icmp_ne (tgt := 155) hx hb rx23 (by decide) dX11_prints_147 (by decide) (fun c33 => ?_) (fun c33 => ?_)
              · skip
                refine x_iconst hx hb dX11_prints_155 ?_
                rw [eQ]
                exact x_iret hx hb hr hlk hW (by decide) ⟨hF_75, ⟨q75_2, q75_3, q75_4, q75_0, trivial⟩, by omega⟩ dX11_prints_156
              refine x_iload hx hb hl 3 rfl dX11_prints_150 ?_
              refine lv_goto (tgt := 156) hx hb dX11_prints_152 (by decide) ?_
              rw [eQ]
              exact x_iret hx hb hr hlk hW ri4_75 ⟨hF_75, ⟨q75_2, q75_3, q75_4, q75_0, trivial⟩, by omega⟩ dX11_prints_156
            refine x_aload_n hx hb hl 0 rfl dX11_prints_82 rfl ?_
            refine x_iload hx hb hl 4 rfl dX11_prints_83 ?_
            refine x_goi (x_runV (As := [.int (xJ i5_75)]) hx hb hml hown hT hE hW hl.1 (Or.inl (by decide)) (so_268 h0 g _) rfl cf_X11_isFelon wq1423 wq111 wq1421 (c_X11_isFelon l D g T h0 s_75 hW.2.1 i5_75 ri5_75 q75_2 q75_3 q75_4) ⟨rfl, rfl, ⟨by decide, by decide⟩, ⟨by decide, by decide⟩⟩ rfl rfl (Nat.le_of_ble_eq_true rfl) dX11_prints_85) hW (fun x34 s35 H locs rx34 hp36 hW => ?_)
            obtain ⟨es35, hp36⟩ := hp36
            subst es35
            have ghp36 := hp36
            refine x_if_ne (tgt := 94) hx hb rx34 dX11_prints_88 (by decide) (fun c37 => ?_) (fun c37 => ?_)
            · skip
              refine x_aload_n hx hb hl 0 rfl dX11_prints_94 rfl ?_
              refine x_aload_n hx hb hl 0 rfl dX11_prints_95 rfl ?_
              refine x_get (j := 0) (v := .ref (h0 + 269)) hx hb hown hT hE hW cls_X11 (Or.inl (by decide)) (so_268 h0 g _) (by decide) rfl wq1185 dX11_prints_96 ?_
              refine x_iconst hx hb dX11_prints_99 ?_
              refine x_iload hx hb hl 4 rfl dX11_prints_100 ?_
              refine x_iadd hx hb dX11_prints_102 ?_
              refine x_iald hx hb hE hW (Or.inl (by decide)) (sa_269 h0 g _) (by omega) (by decide) dX11_prints_103 ?_
              refine x_rd hW (fun x38 ex38 rx38 => ?_)
              have bx38 : 0 ≤ x38 ∧ x38 ≤ 99 := by rw [ex38]; exact (IMn.n1 q75_2).2.2.1 _ (by omega) (by omega)
              refine x_iconst hx hb dX11_prints_104 ?_
              refine x_iconst hx hb dX11_prints_105 ?_
              refine x_gov (x_runV (As := [.int (xJ x38), .int (xJ 3), .int (xJ 1)]) hx hb hml hown hT hE hW hl.1 (Or.inl (by decide)) (so_268 h0 g _) rfl cf_X11_laysCosts wq1637 wq151 wq1635 (c_X11_laysCosts l D g T h0 s_75 hW.2.1 x38 rx38 3 (by decide) 1 (by decide) q75_2 q75_3 q75_4) ⟨rfl, rfl, ⟨by decide, by decide⟩, ⟨by decide, by decide⟩⟩ rfl rfl (Nat.le_of_ble_eq_true rfl) dX11_prints_106) hW (fun s40 H locs hp41 hW => ?_)
              obtain ⟨fs40, hp41⟩ := hp41
              have hF42 := hF_75.call fs40 (fun k h => by omega)
              have q43 : s40 268 58 = s0 268 58 := (congrFun (fs40 _ (by omega)) _).trans q75_0
              have q44 : s40 268 8 = 0 := (congrFun (fs40 _ (by omega)) _).trans q75_1
              have ghp41 := hp41.2
              refine x_aload_n hx hb hl 0 rfl dX11_prints_109 rfl ?_
              refine x_get (j := 45) (v := .ref (h0 + 296)) hx hb hown hT hE hW cls_X11 (Or.inl (by decide)) (so_268 h0 g _) (by decide) rfl wq1230 dX11_prints_110 ?_
              refine x_aload_n hx hb hl 0 rfl dX11_prints_113 rfl ?_
              refine x_get (j := 7) (v := .ref (h0 + 276)) hx hb hown hT hE hW cls_X11 (Or.inl (by decide)) (so_268 h0 g _) (by decide) rfl wq1192 dX11_prints_114 ?_
              refine x_iconst hx hb dX11_prints_117 ?_
              refine x_bald hx hb hE hW (Or.inl (by decide)) (sa_276 h0 g _) ⟨by decide, by decide⟩ (by decide) dX11_prints_118 ?_
              refine x_rd hW (fun x45 ex45 rx45 => ?_)
              have tx45 : 0 ≤ x45 ∧ x45 ≤ 99 := by rw [ex45, hF42 276 (by omega), ← hq9]; exact (ha.resolve_left (by omega)).2 _ (by omega) (by omega)
              refine x_iald hx hb hE hW (Or.inl (by decide)) (sa_296 h0 g _) (by omega) (by decide) dX11_prints_119 ?_
              refine x_rd hW (fun x46 ex46 rx46 => ?_)
              refine lv_ldcw (v := xJ 1000000000) hx hb hown (hT _ wq1622) dX11_prints_120 ?_
              refine x_icmp_ge (tgt := 135) hx hb rx46 (by decide) dX11_prints_123 (by decide) (fun c47 => ?_) (fun c47 => ?_)
              · skip
                refine x_iinc (lv' := [(5, .int (xJ (i5_75 + 1))), (0, .ref (h0 + 268)), (2, .int (xJ x)), (3, .int (xJ x23)), (4, .int (xJ i4_75))]) hx hb hl 4 rfl dX11_prints_135 (by decide) rfl (fun ls hl => ?_)
                refine lv_goto (tgt := 75) hx hb dX11_prints_138 (by decide) ?_
                exact ih75 i4_75 (i5_75 + 1) s40 H locs ls ri4_75 (by omega) hF42 q43 q44 hp41.1.1 hp41.1.2.1 hp41.1.2.2.1 (by omega) (by omega) (by omega) hW (lv_sub hl [1, 2, 3, 4, 0] rfl)
              refine x_iload hx hb hl 3 rfl dX11_prints_126 ?_
              refine x_iconst hx hb dX11_prints_128 ?_
              refine x_iload hx hb hl 4 rfl dX11_prints_129 ?_
              refine lv_ishl hx hb dX11_prints_131 ?_
              refine x_any (fun x48 rx48 => ?_)
              refine lv_ior hx hb dX11_prints_132 ?_
              refine x_any (fun x49 rx49 => ?_)
              refine lv_istore (lv' := [(4, .int (xJ x49)), (0, .ref (h0 + 268)), (2, .int (xJ x)), (3, .int (xJ x23)), (5, .int (xJ i5_75))]) hx hb dX11_prints_133 hl (by decide) rfl (fun ls hl => ?_)
              refine x_iinc (lv' := [(5, .int (xJ (i5_75 + 1))), (4, .int (xJ x49)), (0, .ref (h0 + 268)), (2, .int (xJ x)), (3, .int (xJ x23))]) hx hb hl 4 rfl dX11_prints_135 (by decide) rfl (fun ls hl => ?_)
              refine lv_goto (tgt := 75) hx hb dX11_prints_138 (by decide) ?_
              exact ih75 x49 (i5_75 + 1) s40 H locs ls rx49 (by omega) hF42 q43 q44 hp41.1.1 hp41.1.2.1 hp41.1.2.2.1 (by omega) (by omega) (by omega) hW (lv_sub hl [2, 3, 4, 1, 0] rfl)
            refine lv_goto (tgt := 135) hx hb dX11_prints_91 (by decide) ?_
            refine x_iinc (lv' := [(5, .int (xJ (i5_75 + 1))), (0, .ref (h0 + 268)), (2, .int (xJ x)), (3, .int (xJ x23)), (4, .int (xJ i4_75))]) hx hb hl 4 rfl dX11_prints_135 (by decide) rfl (fun ls hl => ?_)
            refine lv_goto (tgt := 75) hx hb dX11_prints_138 (by decide) ?_
            exact ih75 i4_75 (i5_75 + 1) s_75 H locs ls ri4_75 (by omega) hF_75 q75_0 q75_1 q75_2 q75_3 q75_4 (by omega) (by omega) (by omega) hW (lv_sub hl [1, 2, 3, 4, 0] rfl)
        exact L75 ((10 + 1 - 0 : Int).toNat + 1) 0 0 s24 H locs ls (by decide) (by decide) hF26 q27 q28 hp25.1.1 hp25.1.2.1 hp25.1.2.2.1 (by omega) (by omega) (Nat.lt_succ_self _) hW (lv_sub hl [3, 5, 2, 1, 0] rfl)
      refine x_aload_n hx hb hl 0 rfl dX11_prints_50 rfl ?_
      refine x_get (j := 0) (v := .ref (h0 + 269)) hx hb hown hT hE hW cls_X11 (Or.inl (by decide)) (so_268 h0 g _) (by decide) rfl wq1185 dX11_prints_51 ?_
      refine x_bipush hx hb dX11_prints_54 (by decide) ?_
      refine x_iald hx hb hE hW (Or.inl (by decide)) (sa_269 h0 g _) ⟨by decide, by decide⟩ (by decide) dX11_prints_56 ?_
      refine x_rd hW (fun x50 ex50 rx50 => ?_)
      refine x_if_ne (tgt := 63) hx hb rx50 dX11_prints_57 (by decide) (fun c51 => ?_) (fun c51 => ?_)
      · skip
        refine x_aload_n hx hb hl 0 rfl dX11_prints_63 rfl ?_
        refine x_iload_n hx hb hl 1 rfl dX11_prints_64 rfl ?_
        refine x_goi (x_runV (As := [.int (xJ n)]) hx hb hml hown hT hE hW hl.1 (Or.inl (by decide)) (so_268 h0 g _) rfl cf_X11_failsAt wq1736 wq162 wq1734 (c_X11_failsAt l D g T h0 s11 hW.2.1 n rn (by omega) ((ha.resolve_left (by omega)).2) q12 q13 q14) ⟨rfl, rfl, ⟨by decide, by decide⟩, ⟨by decide, by decide⟩⟩ rfl rfl (Nat.le_of_ble_eq_true rfl) dX11_prints_65) hW (fun x52 s53 H locs rx52 hp54 hW => ?_)
        obtain ⟨fs53, hp54⟩ := hp54
        have hF55 := hF17.call fs53 (fun k h => by omega)
        have q56 : s53 268 58 = s0 268 58 := (congrFun (fs53 _ (by omega)) _).trans q15
        have q57 : s53 268 8 = 0 := (congrFun (fs53 _ (by omega)) _).trans q16
        have ghp54 := hp54.2
        refine lv_istore_n (lv' := [(3, .int (xJ x52)), (0, .ref (h0 + 268)), (1, .int (xJ n)), (2, .int (xJ x))]) hx hb dX11_prints_68 rfl hl (by decide) rfl (fun ls hl => ?_)
        refine x_iconst hx hb dX11_prints_69 ?_
        refine lv_istore (lv' := [(4, .int (xJ 0)), (3, .int (xJ x52)), (0, .ref (h0 + 268)), (1, .int (xJ n)), (2, .int (xJ x))]) hx hb dX11_prints_70 hl (by decide) rfl (fun ls hl => ?_)
        refine x_iconst hx hb dX11_prints_72 ?_
        refine lv_istore (lv' := [(5, .int (xJ 0)), (4, .int (xJ 0)), (3, .int (xJ x52)), (0, .ref (h0 + 268)), (1, .int (xJ n)), (2, .int (xJ x))]) hx hb dX11_prints_73 hl (by decide) rfl (fun ls hl => ?_)
        have L75 : ∀ (fu : Nat) (i4_75 : Int) (i5_75 : Int) (s_75 : xS) (H : Heap) (locs : List Loc) (ls : Array Slot), (xR i4_75) → (xR i5_75) → (xFr (fun k => k = 268 ∨ k = 296) s0 s_75) → (s_75 268 58 = s0 268 58) → (s_75 268 8 = 0) → (IMn s_75) → (IMk s_75) → (IMo s_75) → (0 ≤ i5_75) → (i5_75 ≤ 10) → (10 + 1 - i5_75).toNat < fu → xW D g h0 s H locs s_75 → lv_has ls 6 [(0, .ref (h0 + 268)), (2, .int (xJ x)), (3, .int (xJ x52)), (4, .int (xJ i4_75)), (5, .int (xJ i5_75))] → W p l e { frames := 5, cells := 0, slots := 0, locals := 115 } s m args below meth c H locs 0 0 Q (F0 m 75 ls []) := by
          intro fu
          induction fu with
          | zero => intro i4_75 i5_75 s_75 H locs ls ri4_75 ri5_75 hF_75 q75_0 q75_1 q75_2 q75_3 q75_4 v75_0 v75_1 hm; exact absurd hm (Nat.not_lt_zero _)
          | succ fu ih75 =>
            intro i4_75 i5_75 s_75 H locs ls ri4_75 ri5_75 hF_75 q75_0 q75_1 q75_2 q75_3 q75_4 v75_0 v75_1 hm hW hl
            refine x_iload hx hb hl 4 rfl dX11_prints_75 ?_
            refine x_bipush hx hb dX11_prints_77 (by decide) ?_
            refine x_icmp_ge (tgt := 141) hx hb ri5_75 (by decide) dX11_prints_79 (by decide) (fun c58 => ?_) (fun c58 => ?_)
            · skip
              refine x_iload_n hx hb hl 1 rfl dX11_prints_141 rfl ?_
              refine x_if_ne (tgt := 157) hx hb rx dX11_prints_142 (by decide) (fun c59 => ?_) (fun c59 => ?_)
              · skip
                refine x_iload hx hb hl 3 rfl dX11_prints_157 ?_
                refine x_if_ne (tgt := 166) hx hb ri4_75 dX11_prints_159 (by decide) (fun c60 => ?_) (fun c60 => ?_)
                · skip
                  refine x_iload_n hx hb hl 2 rfl dX11_prints_166 rfl ?_
                  refine x_iconst hx hb dX11_prints_167 ?_
                  refine x_icmp_ne (tgt := 176) hx hb rx52 (by decide) dX11_prints_168 (by decide) (fun c61 => ?_) (fun c61 => ?_)
                  · skip
                    refine x_iload_n hx hb hl 2 rfl dX11_prints_176 rfl ?_
                    rw [eQ]
                    exact x_iret hx hb hr hlk hW rx52 ⟨hF_75, ⟨q75_2, q75_3, q75_4, q75_0, trivial⟩, by omega⟩ dX11_prints_177
                  refine x_bipush hx hb dX11_prints_171 (by decide) ?_
                  refine lv_goto (tgt := 177) hx hb dX11_prints_173 (by decide) ?_
                  rw [eQ]
                  exact x_iret hx hb hr hlk hW (by decide) ⟨hF_75, ⟨q75_2, q75_3, q75_4, q75_0, trivial⟩, by omega⟩ dX11_prints_177
                refine x_iconst hx hb dX11_prints_162 ?_
                refine lv_goto (tgt := 177) hx hb dX11_prints_163 (by decide) ?_
                rw [eQ]
                exact x_iret hx hb hr hlk hW (by decide) ⟨hF_75, ⟨q75_2, q75_3, q75_4, q75_0, trivial⟩, by omega⟩ dX11_prints_177
              refine x_iload_n hx hb hl 2 rfl dX11_prints_145 rfl ?_
              refine x_iconst hx hb dX11_prints_146 ?_
              refine x_icmp_ne (tgt := 155) hx hb rx52 (by decide) dX11_prints_147 (by decide) (fun c62 => ?_) (fun c62 => ?_)
              · skip
                refine x_iconst hx hb dX11_prints_155 ?_
                rw [eQ]
                exact x_iret hx hb hr hlk hW (by decide) ⟨hF_75, ⟨q75_2, q75_3, q75_4, q75_0, trivial⟩, by omega⟩ dX11_prints_156
              refine x_iload hx hb hl 3 rfl dX11_prints_150 ?_
              refine lv_goto (tgt := 156) hx hb dX11_prints_152 (by decide) ?_
              rw [eQ]
              exact x_iret hx hb hr hlk hW ri4_75 ⟨hF_75, ⟨q75_2, q75_3, q75_4, q75_0, trivial⟩, by omega⟩ dX11_prints_156
            refine x_aload_n hx hb hl 0 rfl dX11_prints_82 rfl ?_
            refine x_iload hx hb hl 4 rfl dX11_prints_83 ?_
            refine x_goi (x_runV (As := [.int (xJ i5_75)]) hx hb hml hown hT hE hW hl.1 (Or.inl (by decide)) (so_268 h0 g _) rfl cf_X11_isFelon wq1423 wq111 wq1421 (c_X11_isFelon l D g T h0 s_75 hW.2.1 i5_75 ri5_75 q75_2 q75_3 q75_4) ⟨rfl, rfl, ⟨by decide, by decide⟩, ⟨by decide, by decide⟩⟩ rfl rfl (Nat.le_of_ble_eq_true rfl) dX11_prints_85) hW (fun x63 s64 H locs rx63 hp65 hW => ?_)
            obtain ⟨es64, hp65⟩ := hp65
            subst es64
            have ghp65 := hp65
            refine x_if_ne (tgt := 94) hx hb rx63 dX11_prints_88 (by decide) (fun c66 => ?_) (fun c66 => ?_)
            · skip
              refine x_aload_n hx hb hl 0 rfl dX11_prints_94 rfl ?_
              refine x_aload_n hx hb hl 0 rfl dX11_prints_95 rfl ?_
              refine x_get (j := 0) (v := .ref (h0 + 269)) hx hb hown hT hE hW cls_X11 (Or.inl (by decide)) (so_268 h0 g _) (by decide) rfl wq1185 dX11_prints_96 ?_
              refine x_iconst hx hb dX11_prints_99 ?_
              refine x_iload hx hb hl 4 rfl dX11_prints_100 ?_
              refine x_iadd hx hb dX11_prints_102 ?_
              refine x_iald hx hb hE hW (Or.inl (by decide)) (sa_269 h0 g _) (by omega) (by decide) dX11_prints_103 ?_
              refine x_rd hW (fun x67 ex67 rx67 => ?_)
              have bx67 : 0 ≤ x67 ∧ x67 ≤ 99 := by rw [ex67]; exact (IMn.n1 q75_2).2.2.1 _ (by omega) (by omega)
              refine x_iconst hx hb dX11_prints_104 ?_
              refine x_iconst hx hb dX11_prints_105 ?_
              refine x_gov (x_runV (As := [.int (xJ x67), .int (xJ 3), .int (xJ 1)]) hx hb hml hown hT hE hW hl.1 (Or.inl (by decide)) (so_268 h0 g _) rfl cf_X11_laysCosts wq1637 wq151 wq1635 (c_X11_laysCosts l D g T h0 s_75 hW.2.1 x67 rx67 3 (by decide) 1 (by decide) q75_2 q75_3 q75_4) ⟨rfl, rfl, ⟨by decide, by decide⟩, ⟨by decide, by decide⟩⟩ rfl rfl (Nat.le_of_ble_eq_true rfl) dX11_prints_106) hW (fun s69 H locs hp70 hW => ?_)
              obtain ⟨fs69, hp70⟩ := hp70
              have hF71 := hF_75.call fs69 (fun k h => by omega)
              have q72 : s69 268 58 = s0 268 58 := (congrFun (fs69 _ (by omega)) _).trans q75_0
              have q73 : s69 268 8 = 0 := (congrFun (fs69 _ (by omega)) _).trans q75_1
              have ghp70 := hp70.2
              refine x_aload_n hx hb hl 0 rfl dX11_prints_109 rfl ?_
              refine x_get (j := 45) (v := .ref (h0 + 296)) hx hb hown hT hE hW cls_X11 (Or.inl (by decide)) (so_268 h0 g _) (by decide) rfl wq1230 dX11_prints_110 ?_
              refine x_aload_n hx hb hl 0 rfl dX11_prints_113 rfl ?_
              refine x_get (j := 7) (v := .ref (h0 + 276)) hx hb hown hT hE hW cls_X11 (Or.inl (by decide)) (so_268 h0 g _) (by decide) rfl wq1192 dX11_prints_114 ?_
              refine x_iconst hx hb dX11_prints_117 ?_
              refine x_bald hx hb hE hW (Or.inl (by decide)) (sa_276 h0 g _) ⟨by decide, by decide⟩ (by decide) dX11_prints_118 ?_
              refine x_rd hW (fun x74 ex74 rx74 => ?_)
              have tx74 : 0 ≤ x74 ∧ x74 ≤ 99 := by rw [ex74, hF71 276 (by omega), ← hq9]; exact (ha.resolve_left (by omega)).2 _ (by omega) (by omega)
              refine x_iald hx hb hE hW (Or.inl (by decide)) (sa_296 h0 g _) (by omega) (by decide) dX11_prints_119 ?_
              refine x_rd hW (fun x75 ex75 rx75 => ?_)
              refine lv_ldcw (v := xJ 1000000000) hx hb hown (hT _ wq1622) dX11_prints_120 ?_
              refine x_icmp_ge (tgt := 135) hx hb rx75 (by decide) dX11_prints_123 (by decide) (fun c76 => ?_) (fun c76 => ?_)
              · skip
                refine x_iinc (lv' := [(5, .int (xJ (i5_75 + 1))), (0, .ref (h0 + 268)), (2, .int (xJ x)), (3, .int (xJ x52)), (4, .int (xJ i4_75))]) hx hb hl 4 rfl dX11_prints_135 (by decide) rfl (fun ls hl => ?_)
                refine lv_goto (tgt := 75) hx hb dX11_prints_138 (by decide) ?_
                exact ih75 i4_75 (i5_75 + 1) s69 H locs ls ri4_75 (by omega) hF71 q72 q73 hp70.1.1 hp70.1.2.1 hp70.1.2.2.1 (by omega) (by omega) (by omega) hW (lv_sub hl [1, 2, 3, 4, 0] rfl)
              refine x_iload hx hb hl 3 rfl dX11_prints_126 ?_
              refine x_iconst hx hb dX11_prints_128 ?_
              refine x_iload hx hb hl 4 rfl dX11_prints_129 ?_
              refine lv_ishl hx hb dX11_prints_131 ?_
              refine x_any (fun x77 rx77 => ?_)
              refine lv_ior hx hb dX11_prints_132 ?_
              refine x_any (fun x78 rx78 => ?_)
              refine lv_istore (lv' := [(4, .int (xJ x78)), (0, .ref (h0 + 268)), (2, .int (xJ x)), (3, .int (xJ x52)), (5, .int (xJ i5_75))]) hx hb dX11_prints_133 hl (by decide) rfl (fun ls hl => ?_)
              refine x_iinc (lv' := [(5, .int (xJ (i5_75 + 1))), (4, .int (xJ x78)), (0, .ref (h0 + 268)), (2, .int (xJ x)), (3, .int (xJ x52))]) hx hb hl 4 rfl dX11_prints_135 (by decide) rfl (fun ls hl => ?_)
              refine lv_goto (tgt := 75) hx hb dX11_prints_138 (by decide) ?_
              exact ih75 x78 (i5_75 + 1) s69 H locs ls rx78 (by omega) hF71 q72 q73 hp70.1.1 hp70.1.2.1 hp70.1.2.2.1 (by omega) (by omega) (by omega) hW (lv_sub hl [2, 3, 4, 1, 0] rfl)
            refine lv_goto (tgt := 135) hx hb dX11_prints_91 (by decide) ?_
            refine x_iinc (lv' := [(5, .int (xJ (i5_75 + 1))), (0, .ref (h0 + 268)), (2, .int (xJ x)), (3, .int (xJ x52)), (4, .int (xJ i4_75))]) hx hb hl 4 rfl dX11_prints_135 (by decide) rfl (fun ls hl => ?_)
            refine lv_goto (tgt := 75) hx hb dX11_prints_138 (by decide) ?_
            exact ih75 i4_75 (i5_75 + 1) s_75 H locs ls ri4_75 (by omega) hF_75 q75_0 q75_1 q75_2 q75_3 q75_4 (by omega) (by omega) (by omega) hW (lv_sub hl [1, 2, 3, 4, 0] rfl)
        exact L75 ((10 + 1 - 0 : Int).toNat + 1) 0 0 s53 H locs ls (by decide) (by decide) hF55 q56 q57 hp54.1.1 hp54.1.2.1 hp54.1.2.2.1 (by omega) (by omega) (Nat.lt_succ_self _) hW (lv_sub hl [3, 5, 2, 1, 0] rfl)
      refine x_bipush hx hb dX11_prints_60 (by decide) ?_
      rw [eQ]
      exact x_iret hx hb hr hlk hW (by decide) ⟨hF17, ⟨q12, q13, q14, q15, trivial⟩, by omega⟩ dX11_prints_62
    refine x_bipush hx hb dX11_prints_42 (by decide) ?_
    rw [eQ]
    exact x_iret hx hb hr hlk hW (by decide) ⟨hF17, ⟨q12, q13, q14, q15, trivial⟩, by omega⟩ dX11_prints_44
  refine x_iconst hx hb dX11_prints_27 ?_
  rw [eQ]
  exact x_iret hx hb hr hlk hW (by decide) ⟨hF, ⟨p0, p1, p2, k268_58, trivial⟩, by omega⟩ dX11_prints_28
