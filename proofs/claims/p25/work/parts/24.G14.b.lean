set_option maxHeartbeats 4000000 in
set_option maxRecDepth 100000 in
theorem c_X11_areSpots (l : Launch) (D : va_G) (g : xG) (T : Nat × Nat × Nat) (h0 : Nat) (s0 : xS) (hσ : xRR s0) (n : Int) (rn : xR n) (hn : 0 ≤ n ∧ n ≤ 20) (p0 : IMn s0) (p1 : IMk s0) (p2 : IMo s0) : Met l yX11_areSpots (xws yX11_areSpots cX11_areSpots 3 (some .boolean)) { frames := 1, cells := 0, slots := 0, locals := 22 } (xP [.ref (h0 + 268), .int (xJ n)] D g T h0 s0) (xQi D g h0 (fun r τ => s0 = τ ∧ (r = 0 ∨ (r = 1 ∧ ∀ q : Int, 0 ≤ q → q < n → 0 ≤ s0 276 q ∧ s0 276 q ≤ 99)))) 0 0 (xA h0) := by
  refine x_met hσ (by decide) (Nat.le_of_ble_eq_true rfl) ?_
  intro p e s m args below meth c hx hb hr hml hown hT hlk hnm hE hW ls hl
  have hl : lv_has ls 3 [(0, .ref (h0 + 268)), (1, .int (xJ n))] := hl
  obtain ⟨Q, eQ⟩ : ∃ Q, Q = MQ below (xQi D g h0 (fun r τ => s0 = τ ∧ (r = 0 ∨ (r = 1 ∧ ∀ q : Int, 0 ≤ q → q < n → 0 ≤ s0 276 q ∧ s0 276 q ≤ 99)))) args s 0 0 (xA h0) := ⟨_, rfl⟩
  rw [← eQ]
  generalize hHe : ([] : List Loc) = locs at hW ⊢
  obtain ⟨H, eH⟩ : ∃ H, H = s.heap := ⟨_, rfl⟩
  rw [← eH] at hW ⊢
  have k268_8 : s0 268 8 = s0 268 8 := rfl
  have k268_58 : s0 268 58 = s0 268 58 := rfl
  refine x_iconst hx hb dX11_areSpots_0 ?_
  refine lv_istore_n (lv' := [(2, .int (xJ 0)), (0, .ref (h0 + 268)), (1, .int (xJ n))]) hx hb dX11_areSpots_1 rfl hl (by decide) rfl (fun ls hl => ?_)
  have L2 : ∀ (fu : Nat) (i2_2 : Int) (H : Heap) (locs : List Loc) (ls : Array Slot), (xR i2_2) → (0 ≤ i2_2 ∧ i2_2 ≤ n) → (∀ q : Int, 0 ≤ q → q < i2_2 → 0 ≤ s0 276 q ∧ s0 276 q ≤ 99) → (20 - i2_2).toNat < fu → xW D g h0 s H locs s0 → lv_has ls 3 [(0, .ref (h0 + 268)), (1, .int (xJ n)), (2, .int (xJ i2_2))] → W p l e { frames := 1, cells := 0, slots := 0, locals := 22 } s m args below meth c H locs 0 0 Q (F0 m 2 ls []) := by
    intro fu
    induction fu with
    | zero => intro i2_2 H locs ls ri2_2 v2_0 v2_1 hm; exact absurd hm (Nat.not_lt_zero _)
    | succ fu ih2 =>
      intro i2_2 H locs ls ri2_2 v2_0 v2_1 hm hW hl
      refine x_iload_n hx hb hl 2 rfl dX11_areSpots_2 rfl ?_
      refine x_iload_n hx hb hl 1 rfl dX11_areSpots_3 rfl ?_
      refine x_icmp_ge (tgt := 43) hx hb ri2_2 rn dX11_areSpots_4 (by decide) (fun c1 => ?_) (fun c1 => ?_)
      · skip
        refine x_iconst hx hb dX11_areSpots_43 ?_
        rw [eQ]
        exact x_zret hx hb hr hlk hW (by omega) ⟨rfl, by first | exact Or.inl rfl | exact Or.inr ⟨rfl, fun q h1 h2 => v2_1 q h1 (by omega)⟩⟩ dX11_areSpots_44
      refine x_aload_n hx hb hl 0 rfl dX11_areSpots_7 rfl ?_
      refine x_get (j := 7) (v := .ref (h0 + 276)) hx hb hown hT hE hW cls_X11 (Or.inl (by decide)) (so_268 h0 g _) (by decide) rfl wq1192 dX11_areSpots_8 ?_
      refine x_iload_n hx hb hl 2 rfl dX11_areSpots_11 rfl ?_
      refine x_bald hx hb hE hW (Or.inl (by decide)) (sa_276 h0 g _) (by omega) (by decide) dX11_areSpots_12 ?_
      refine x_rd hW (fun x2 ex2 rx2 => ?_)
      refine x_iconst hx hb dX11_areSpots_13 ?_
      refine x_bipush hx hb dX11_areSpots_14 (by decide) ?_
      refine x_goi (x_runS (As := [.int (xJ x2), .int (xJ 0), .int (xJ 99)]) hx hb hml hown hT hE hW hl.1 cf_X11_in wq1383 wq1382 (c_X11_in l D g T h0 s0 hW.2.1 x2 rx2 0 (by decide) 99 (by decide)) ⟨rfl, rfl, ⟨by decide, by decide⟩, ⟨by decide, by decide⟩⟩ rfl rfl (Nat.le_of_ble_eq_true rfl) dX11_areSpots_16) hW (fun x3 s4 H locs rx3 hp5 hW => ?_)
      obtain ⟨es4, hp5⟩ := hp5
      subst es4
      have ghp5 := hp5
      refine x_if_eq (tgt := 35) hx hb rx3 dX11_areSpots_19 (by decide) (fun c6 => ?_) (fun c6 => ?_)
      · skip
        refine x_iconst hx hb dX11_areSpots_35 ?_
        rw [eQ]
        exact x_zret hx hb hr hlk hW (by omega) ⟨rfl, by first | exact Or.inl rfl | exact Or.inr ⟨rfl, fun q h1 h2 => v2_1 q h1 (by omega)⟩⟩ dX11_areSpots_36
      refine x_aload_n hx hb hl 0 rfl dX11_areSpots_22 rfl ?_
      refine x_aload_n hx hb hl 0 rfl dX11_areSpots_23 rfl ?_
      refine x_get (j := 7) (v := .ref (h0 + 276)) hx hb hown hT hE hW cls_X11 (Or.inl (by decide)) (so_268 h0 g _) (by decide) rfl wq1192 dX11_areSpots_24 ?_
      refine x_iload_n hx hb hl 2 rfl dX11_areSpots_27 rfl ?_
      refine x_bald hx hb hE hW (Or.inl (by decide)) (sa_276 h0 g _) (by omega) (by decide) dX11_areSpots_28 ?_
      refine x_rd hW (fun x7 ex7 rx7 => ?_)
      refine x_goi (x_runV (As := [.int (xJ x7)]) hx hb hml hown hT hE hW hl.1 (Or.inl (by decide)) (so_268 h0 g _) rfl cf_X11_isGround wq1419 wq110 wq1417 (c_X11_isGround l D g T h0 s0 hW.2.1 x7 rx7 (by omega) p0 p1 p2) ⟨rfl, rfl, ⟨by decide, by decide⟩, ⟨by decide, by decide⟩⟩ rfl rfl (Nat.le_of_ble_eq_true rfl) dX11_areSpots_29) hW (fun x8 s9 H locs rx8 hp10 hW => ?_)
      obtain ⟨es9, hp10⟩ := hp10
      subst es9
      have ghp10 := hp10
      refine x_if_ne (tgt := 37) hx hb rx8 dX11_areSpots_32 (by decide) (fun c11 => ?_) (fun c11 => ?_)
      · skip
        refine x_iinc (lv' := [(2, .int (xJ (i2_2 + 1))), (0, .ref (h0 + 268)), (1, .int (xJ n))]) hx hb hl 2 rfl dX11_areSpots_37 (by decide) rfl (fun ls hl => ?_)
        refine lv_goto (tgt := 2) hx hb dX11_areSpots_40 (by decide) ?_
        exact ih2 (i2_2 + 1) H locs ls (by omega) (by omega) (fun q h1 h2 => by
                  by_cases hq : q < (i2_2 + 1) - 1
                  · exact v2_1 q h1 (by omega)
                  · rw [show q = i2_2 from by omega]; omega) (by omega) hW (lv_sub hl [1, 2, 0] rfl)
      refine x_iconst hx hb dX11_areSpots_35 ?_
      rw [eQ]
      exact x_zret hx hb hr hlk hW (by omega) ⟨rfl, by first | exact Or.inl rfl | exact Or.inr ⟨rfl, fun q h1 h2 => v2_1 q h1 (by omega)⟩⟩ dX11_areSpots_36
  exact L2 ((20 - 0 : Int).toNat + 1) 0 H locs ls (by decide) (by omega) (fun q h1 h2 => False.elim (by omega)) (Nat.lt_succ_self _) hW (lv_sub hl [1, 2, 0] rfl)
set_option maxHeartbeats 4000000 in
set_option maxRecDepth 100000 in
theorem c_X11_failsAt (l : Launch) (D : va_G) (g : xG) (T : Nat × Nat × Nat) (h0 : Nat) (s0 : xS) (hσ : xRR s0) (n : Int) (rn : xR n) (hn : 0 ≤ n ∧ n ≤ 20) (ht : ∀ q : Int, 0 ≤ q → q < n → 0 ≤ s0 276 q ∧ s0 276 q ≤ 99) (p0 : IMn s0) (p1 : IMk s0) (p2 : IMo s0) : Met l yX11_failsAt (xws yX11_failsAt cX11_failsAt 3 (some .int)) { frames := 4, cells := 0, slots := 0, locals := 93 } (xP [.ref (h0 + 268), .int (xJ n)] D g T h0 s0) (xQi D g h0 (fun r τ => xFr (fun k => k = 296) s0 τ ∧ (((IMn τ) ∧ (IMk τ) ∧ (IMo τ) ∧ True) ∧ (True)))) 0 0 (xA h0) := by
  refine x_met hσ (by decide) (Nat.le_of_ble_eq_true rfl) ?_
  intro p e s m args below meth c hx hb hr hml hown hT hlk hnm hE hW ls hl
  have hl : lv_has ls 3 [(0, .ref (h0 + 268)), (1, .int (xJ n))] := hl
  obtain ⟨Q, eQ⟩ : ∃ Q, Q = MQ below (xQi D g h0 (fun r τ => xFr (fun k => k = 296) s0 τ ∧ (((IMn τ) ∧ (IMk τ) ∧ (IMo τ) ∧ True) ∧ (True)))) args s 0 0 (xA h0) := ⟨_, rfl⟩
  rw [← eQ]
  generalize hHe : ([] : List Loc) = locs at hW ⊢
  obtain ⟨H, eH⟩ : ∃ H, H = s.heap := ⟨_, rfl⟩
  rw [← eH] at hW ⊢
  have hF : xFr (fun k => k = 296) s0 s0 := xFr.rf
  have k268_8 : s0 268 8 = s0 268 8 := rfl
  have k268_58 : s0 268 58 = s0 268 58 := rfl
  refine x_iconst hx hb dX11_failsAt_0 ?_
  refine lv_istore_n (lv' := [(2, .int (xJ 1)), (0, .ref (h0 + 268)), (1, .int (xJ n))]) hx hb dX11_failsAt_1 rfl hl (by decide) rfl (fun ls hl => ?_)
  have L2 : ∀ (fu : Nat) (i2_2 : Int) (s_2 : xS) (H : Heap) (locs : List Loc) (ls : Array Slot), (xR i2_2) → (xFr (fun k => k = 296) s0 s_2) → (IMn s_2) → (IMk s_2) → (IMo s_2) → (s_2 268 8 = s0 268 8) → (s_2 268 58 = s0 268 58) → (0 ≤ i2_2) → (1 ≤ i2_2) → (n + 1 - i2_2).toNat < fu → xW D g h0 s H locs s_2 → lv_has ls 3 [(0, .ref (h0 + 268)), (1, .int (xJ n)), (2, .int (xJ i2_2))] → W p l e { frames := 4, cells := 0, slots := 0, locals := 93 } s m args below meth c H locs 0 0 Q (F0 m 2 ls []) := by
    intro fu
    induction fu with
    | zero => intro i2_2 s_2 H locs ls ri2_2 hF_2 q2_0 q2_1 q2_2 q2_3 q2_4 v2_0 v2_1 hm; exact absurd hm (Nat.not_lt_zero _)
    | succ fu ih2 =>
      intro i2_2 s_2 H locs ls ri2_2 hF_2 q2_0 q2_1 q2_2 q2_3 q2_4 v2_0 v2_1 hm hW hl
      refine x_iload_n hx hb hl 2 rfl dX11_failsAt_2 rfl ?_
      refine x_iload_n hx hb hl 1 rfl dX11_failsAt_3 rfl ?_
      refine x_icmp_ge (tgt := 46) hx hb ri2_2 rn dX11_failsAt_4 (by decide) (fun c1 => ?_) (fun c1 => ?_)
      · skip
        refine x_iconst hx hb dX11_failsAt_46 ?_
        rw [eQ]
        exact x_iret hx hb hr hlk hW (by decide) ⟨hF_2, ⟨q2_0, q2_1, q2_2, trivial⟩, trivial⟩ dX11_failsAt_47
      refine x_aload_n hx hb hl 0 rfl dX11_failsAt_7 rfl ?_
      refine x_aload_n hx hb hl 0 rfl dX11_failsAt_8 rfl ?_
      refine x_get (j := 7) (v := .ref (h0 + 276)) hx hb hown hT hE hW cls_X11 (Or.inl (by decide)) (so_268 h0 g _) (by decide) rfl wq1192 dX11_failsAt_9 ?_
      refine x_iload_n hx hb hl 2 rfl dX11_failsAt_12 rfl ?_
      refine x_iconst hx hb dX11_failsAt_13 ?_
      refine x_isub hx hb dX11_failsAt_14 ?_
      refine x_bald hx hb hE hW (Or.inl (by decide)) (sa_276 h0 g _) (by omega) (by decide) dX11_failsAt_15 ?_
      refine x_rd hW (fun x2 ex2 rx2 => ?_)
      have tx2 : 0 ≤ x2 ∧ x2 ≤ 99 := by rw [ex2, hF_2 276 (by omega)]; exact ht _ (by omega) (by omega)
      refine x_iconst hx hb dX11_failsAt_16 ?_
      refine x_iconst hx hb dX11_failsAt_17 ?_
      refine x_gov (x_runV (As := [.int (xJ x2), .int (xJ 3), .int (xJ 1)]) hx hb hml hown hT hE hW hl.1 (Or.inl (by decide)) (so_268 h0 g _) rfl cf_X11_laysCosts wq1637 wq151 wq1635 (c_X11_laysCosts l D g T h0 s_2 hW.2.1 x2 rx2 3 (by decide) 1 (by decide) q2_0 q2_1 q2_2) ⟨rfl, rfl, ⟨by decide, by decide⟩, ⟨by decide, by decide⟩⟩ rfl rfl (Nat.le_of_ble_eq_true rfl) dX11_failsAt_18) hW (fun s4 H locs hp5 hW => ?_)
      obtain ⟨fs4, hp5⟩ := hp5
      have hF6 := hF_2.call fs4 (fun k h => by omega)
      have q7 : s4 268 8 = s0 268 8 := (congrFun (fs4 _ (by omega)) _).trans q2_3
      have q8 : s4 268 58 = s0 268 58 := (congrFun (fs4 _ (by omega)) _).trans q2_4
      have ghp5 := hp5.2
      refine x_aload_n hx hb hl 0 rfl dX11_failsAt_21 rfl ?_
      refine x_get (j := 45) (v := .ref (h0 + 296)) hx hb hown hT hE hW cls_X11 (Or.inl (by decide)) (so_268 h0 g _) (by decide) rfl wq1230 dX11_failsAt_22 ?_
      refine x_aload_n hx hb hl 0 rfl dX11_failsAt_25 rfl ?_
      refine x_get (j := 7) (v := .ref (h0 + 276)) hx hb hown hT hE hW cls_X11 (Or.inl (by decide)) (so_268 h0 g _) (by decide) rfl wq1192 dX11_failsAt_26 ?_
      refine x_iload_n hx hb hl 2 rfl dX11_failsAt_29 rfl ?_
      refine x_bald hx hb hE hW (Or.inl (by decide)) (sa_276 h0 g _) (by omega) (by decide) dX11_failsAt_30 ?_
      refine x_rd hW (fun x9 ex9 rx9 => ?_)
      have tx9 : 0 ≤ x9 ∧ x9 ≤ 99 := by rw [ex9, hF6 276 (by omega)]; exact ht _ (by omega) (by omega)
      refine x_iald hx hb hE hW (Or.inl (by decide)) (sa_296 h0 g _) (by omega) (by decide) dX11_failsAt_31 ?_
      refine x_rd hW (fun x10 ex10 rx10 => ?_)
      refine lv_ldcw (v := xJ 1000000000) hx hb hown (hT _ wq1622) dX11_failsAt_32 ?_
      refine x_icmp_ne (tgt := 40) hx hb rx10 (by decide) dX11_failsAt_35 (by decide) (fun c11 => ?_) (fun c11 => ?_)
      · skip
        refine x_iinc (lv' := [(2, .int (xJ (i2_2 + 1))), (0, .ref (h0 + 268)), (1, .int (xJ n))]) hx hb hl 2 rfl dX11_failsAt_40 (by decide) rfl (fun ls hl => ?_)
        refine lv_goto (tgt := 2) hx hb dX11_failsAt_43 (by decide) ?_
        exact ih2 (i2_2 + 1) s4 H locs ls (by omega) hF6 hp5.1.1 hp5.1.2.1 hp5.1.2.2.1 q7 q8 (by omega) (by omega) (by omega) hW (lv_sub hl [1, 2, 0] rfl)
      refine x_iload_n hx hb hl 2 rfl dX11_failsAt_38 rfl ?_
      rw [eQ]
      exact x_iret hx hb hr hlk hW ri2_2 ⟨hF6, ⟨hp5.1.1, hp5.1.2.1, hp5.1.2.2.1, trivial⟩, trivial⟩ dX11_failsAt_39
  exact L2 ((n + 1 - 1 : Int).toNat + 1) 1 s0 H locs ls (by decide) hF p0 p1 p2 k268_8 k268_58 (by omega) (by omega) (Nat.lt_succ_self _) hW (lv_sub hl [1, 2, 0] rfl)
set_option maxHeartbeats 4000000 in
set_option maxRecDepth 100000 in
theorem c_X11_tapeNumber (l : Launch) (D : va_G) (g : xG) (T : Nat × Nat × Nat) (h0 : Nat) (s0 : xS) (hσ : xRR s0) (x : Int) (rx : xR x) (hx : 0 ≤ x ∧ x ≤ 64) (p0 : IMn s0) (p1 : IMk s0) (p2 : IMo s0) : Met l yX11_tapeNumber (xws yX11_tapeNumber cX11_tapeNumber 4 (some .int)) { frames := 0, cells := 0, slots := 0, locals := 0 } (xP [.ref (h0 + 268), .int (xJ x)] D g T h0 s0) (xQi D g h0 (fun r τ => s0 = τ ∧ (True))) 0 0 (xA h0) := by
  refine x_met hσ (by decide) (Nat.le_of_ble_eq_true rfl) ?_
  intro p e s m args below meth c hx hb hr hml hown hT hlk hnm hE hW ls hl
  have hl : lv_has ls 4 [(0, .ref (h0 + 268)), (1, .int (xJ x))] := hl
  obtain ⟨Q, eQ⟩ : ∃ Q, Q = MQ below (xQi D g h0 (fun r τ => s0 = τ ∧ (True))) args s 0 0 (xA h0) := ⟨_, rfl⟩
  rw [← eQ]
  generalize hHe : ([] : List Loc) = locs at hW ⊢
  obtain ⟨H, eH⟩ : ∃ H, H = s.heap := ⟨_, rfl⟩
  rw [← eH] at hW ⊢
  have k268_8 : s0 268 8 = s0 268 8 := rfl
  have k268_58 : s0 268 58 = s0 268 58 := rfl
  refine x_iconst hx hb dX11_tapeNumber_0 ?_
  refine lv_istore_n (lv' := [(2, .int (xJ 0)), (0, .ref (h0 + 268)), (1, .int (xJ x))]) hx hb dX11_tapeNumber_1 rfl hl (by decide) rfl (fun ls hl => ?_)
  refine x_iconst hx hb dX11_tapeNumber_2 ?_
  refine x_iload_n hx hb hl 2 rfl dX11_tapeNumber_3 rfl ?_
  refine x_imul hx hb dX11_tapeNumber_4 ?_
  refine x_nm (fun x1 ex1 => ?_)
  refine lv_istore_n (lv' := [(3, .int (xJ x1)), (2, .int (xJ 0)), (0, .ref (h0 + 268)), (1, .int (xJ x))]) hx hb dX11_tapeNumber_5 rfl hl (by decide) rfl (fun ls hl => ?_)
  have L6 : ∀ (fu : Nat) (i2_6 : Int) (i3_6 : Int) (ls : Array Slot), (xR i2_6) → (xR i3_6) → (4 * x ≤ i3_6 ∧ i3_6 ≤ 4 * x + 4) → (4 * x + 4 - i3_6).toNat < fu → lv_has ls 4 [(0, .ref (h0 + 268)), (1, .int (xJ x)), (2, .int (xJ i2_6)), (3, .int (xJ i3_6))] → W p l e { frames := 0, cells := 0, slots := 0, locals := 0 } s m args below meth c H locs 0 0 Q (F0 m 6 ls []) := by
    intro fu
    induction fu with
    | zero => intro i2_6 i3_6 ls ri2_6 ri3_6 v6_0 hm; exact absurd hm (Nat.not_lt_zero _)
    | succ fu ih6 =>
      intro i2_6 i3_6 ls ri2_6 ri3_6 v6_0 hm  hl
      refine x_iload_n hx hb hl 3 rfl dX11_tapeNumber_6 rfl ?_
      refine x_iconst hx hb dX11_tapeNumber_7 ?_
      refine x_iload_n hx hb hl 1 rfl dX11_tapeNumber_8 rfl ?_
      refine x_imul hx hb dX11_tapeNumber_9 ?_
      refine x_iconst hx hb dX11_tapeNumber_10 ?_
      refine x_iadd hx hb dX11_tapeNumber_11 ?_
      refine x_icmp_ge (tgt := 37) hx hb ri3_6 (by omega) dX11_tapeNumber_12 (by decide) (fun c2 => ?_) (fun c2 => ?_)
      · skip
        refine x_iload_n hx hb hl 2 rfl dX11_tapeNumber_37 rfl ?_
        rw [eQ]
        exact x_iret hx hb hr hlk hW ri2_6 ⟨rfl, trivial⟩ dX11_tapeNumber_38
      refine x_iload_n hx hb hl 2 rfl dX11_tapeNumber_15 rfl ?_
      refine x_bipush hx hb dX11_tapeNumber_16 (by decide) ?_
      refine lv_ishl hx hb dX11_tapeNumber_18 ?_
      refine x_any (fun x3 rx3 => ?_)
      refine x_aload_n hx hb hl 0 rfl dX11_tapeNumber_19 rfl ?_
      refine x_get (j := 7) (v := .ref (h0 + 276)) hx hb hown hT hE hW cls_X11 (Or.inl (by decide)) (so_268 h0 g _) (by decide) rfl wq1192 dX11_tapeNumber_20 ?_
      refine x_iload_n hx hb hl 3 rfl dX11_tapeNumber_23 rfl ?_
      refine x_bald hx hb hE hW (Or.inl (by decide)) (sa_276 h0 g _) (by omega) (by decide) dX11_tapeNumber_24 ?_
      refine x_rd hW (fun x4 ex4 rx4 => ?_)
      refine x_sipush hx hb dX11_tapeNumber_25 (by decide) ?_
      refine x_and255 hx hb rx4 dX11_tapeNumber_28 ?_
      refine x_nm (fun x5 ex5 => ?_)
      refine lv_ior hx hb dX11_tapeNumber_29 ?_
      refine x_any (fun x6 rx6 => ?_)
      refine lv_istore_n (lv' := [(2, .int (xJ x6)), (0, .ref (h0 + 268)), (1, .int (xJ x)), (3, .int (xJ i3_6))]) hx hb dX11_tapeNumber_30 rfl hl (by decide) rfl (fun ls hl => ?_)
      refine x_iinc (lv' := [(3, .int (xJ (i3_6 + 1))), (2, .int (xJ x6)), (0, .ref (h0 + 268)), (1, .int (xJ x))]) hx hb hl 3 rfl dX11_tapeNumber_31 (by decide) rfl (fun ls hl => ?_)
      refine lv_goto (tgt := 6) hx hb dX11_tapeNumber_34 (by decide) ?_
      exact ih6 x6 (i3_6 + 1) ls rx6 (by omega) (by omega) (by omega)  (lv_sub hl [2, 3, 1, 0] rfl)
  exact L6 ((4 * x + 4 - x1 : Int).toNat + 1) 0 x1 ls (by decide) (by omega) (by omega) (Nat.lt_succ_self _)  (lv_sub hl [2, 3, 1, 0] rfl)
set_option maxHeartbeats 4000000 in
set_option maxRecDepth 100000 in
theorem c_X11_check (l : Launch) (D : va_G) (g : xG) (T : Nat × Nat × Nat) (h0 : Nat) (s0 : xS) (hσ : xRR s0) (n : Int) (rn : xR n) (p0 : IMn s0) (p1 : IMk s0) (p2 : IMo s0) : Met l yX11_check (xws yX11_check cX11_check 3 (some .int)) { frames := 2, cells := 0, slots := 0, locals := 42 } (xP [.ref (h0 + 268), .int (xJ n)] D g T h0 s0) (xQi D g h0 (fun r τ => xFr (fun k => k = 268) s0 τ ∧ (((IMn τ) ∧ (IMk τ) ∧ (IMo τ) ∧ (τ 268 58 = s0 268 58) ∧ True) ∧ (((n < 0 ∨ 10 < n ∨ s0 268 8 / 4 < n) ∧ τ 268 8 = s0 268 8 ∧ r = -2) ∨ (¬ (n < 0 ∨ 10 < n ∨ s0 268 8 / 4 < n) ∧ τ 268 8 = 0))))) 0 0 (xA h0) := by
  refine x_met hσ (by decide) (Nat.le_of_ble_eq_true rfl) ?_
  intro p e s m args below meth c hx hb hr hml hown hT hlk hnm hE hW ls hl
  have hl : lv_has ls 3 [(0, .ref (h0 + 268)), (1, .int (xJ n))] := hl
  obtain ⟨Q, eQ⟩ : ∃ Q, Q = MQ below (xQi D g h0 (fun r τ => xFr (fun k => k = 268) s0 τ ∧ (((IMn τ) ∧ (IMk τ) ∧ (IMo τ) ∧ (τ 268 58 = s0 268 58) ∧ True) ∧ (((n < 0 ∨ 10 < n ∨ s0 268 8 / 4 < n) ∧ τ 268 8 = s0 268 8 ∧ r = -2) ∨ (¬ (n < 0 ∨ 10 < n ∨ s0 268 8 / 4 < n) ∧ τ 268 8 = 0))))) args s 0 0 (xA h0) := ⟨_, rfl⟩
  rw [← eQ]
  generalize hHe : ([] : List Loc) = locs at hW ⊢
  obtain ⟨H, eH⟩ : ∃ H, H = s.heap := ⟨_, rfl⟩
  rw [← eH] at hW ⊢
  have hF : xFr (fun k => k = 268) s0 s0 := xFr.rf
  have k268_58 : s0 268 58 = s0 268 58 := rfl
  have k268_8 : s0 268 8 = s0 268 8 := rfl
  refine x_iload_n hx hb hl 1 rfl dX11_check_0 rfl ?_
  refine x_iconst hx hb dX11_check_1 ?_
  refine x_bipush hx hb dX11_check_2 (by decide) ?_
  refine x_goi (x_runS (As := [.int (xJ n), .int (xJ 0), .int (xJ 10)]) hx hb hml hown hT hE hW hl.1 cf_X11_in wq1383 wq1382 (c_X11_in l D g T h0 s0 hW.2.1 n rn 0 (by decide) 10 (by decide)) ⟨rfl, rfl, ⟨by decide, by decide⟩, ⟨by decide, by decide⟩⟩ rfl rfl (Nat.le_of_ble_eq_true rfl) dX11_check_4) hW (fun x1 s2 H locs rx1 hp3 hW => ?_)
  obtain ⟨es2, hp3⟩ := hp3
  subst es2
  have ghp3 := hp3
  refine x_if_eq (tgt := 20) hx hb rx1 dX11_check_7 (by decide) (fun c4 => ?_) (fun c4 => ?_)
  · skip
    refine x_bipush hx hb dX11_check_20 (by decide) ?_
    rw [eQ]
    exact x_iret hx hb hr hlk hW (by decide) ⟨hF, ⟨p0, p1, p2, k268_58, trivial⟩, by omega⟩ dX11_check_22
  refine x_iload_n hx hb hl 1 rfl dX11_check_10 rfl ?_
  refine x_aload_n hx hb hl 0 rfl dX11_check_11 rfl ?_
  refine x_get (j := 8) (v := .int (xJ (s0 268 8))) hx hb hown hT hE hW cls_X11 (Or.inl (by decide)) (so_268 h0 g _) (by decide) rfl wq1193 dX11_check_12 ?_
  refine x_rd hW (fun x5 ex5 rx5 => ?_)
  have bx5 : 0 ≤ x5 ∧ x5 ≤ 260 := by rw [ex5]; exact IMn.t p0
  have fx5 : x5 = s0 268 8 := ex5.trans k268_8
  refine x_iconst hx hb dX11_check_15 ?_
  refine x_idiv hx hb rx5 (by decide) (by omega) (by decide) dX11_check_16 ?_
  refine x_icmp_le (tgt := 23) hx hb rn (by omega) dX11_check_17 (by decide) (fun c6 => ?_) (fun c6 => ?_)
  · skip
    refine x_aload_n hx hb hl 0 rfl dX11_check_23 rfl ?_
    refine x_iconst hx hb dX11_check_24 ?_
    refine x_put (j := 8) hx hb hown hT hE hW cls_X11 (by decide) (fun σ => so_268 h0 g σ) (by decide) (st_X11_8 h0 s0 268 0) (ln_X11_8 h0 _ _) wq1193 rfl rfl rfl (by decide) dX11_check_25 (fun H locs s7 es7 hW => ?_)
    have q8 : IMn s7 := by rw [es7]; exact IMn_268 p0 (by omega)
    have q9 : IMk s7 := by rw [es7]; exact IMk_268 p1 (by omega)
    have q10 : IMo s7 := by rw [es7]; exact IMo_o (by unfold suIMo; omega) p2
    have q11 : s7 268 58 = s0 268 58 := (show s7 268 58 = s0 268 58 from by rw [es7, xU_j _ _ (by decide)]).trans k268_58
    have q12 : s7 268 8 = 0 := by rw [es7, xU_s]
    have hF13 := hF.put es7 (by omega)
    refine x_iconst hx hb dX11_check_28 ?_
    refine lv_istore_n (lv' := [(2, .int (xJ 0)), (0, .ref (h0 + 268)), (1, .int (xJ n))]) hx hb dX11_check_29 rfl hl (by decide) rfl (fun ls hl => ?_)
    have L30 : ∀ (fu : Nat) (i2_30 : Int) (H : Heap) (locs : List Loc) (ls : Array Slot), (xR i2_30) → (0 ≤ i2_30) → (n + 1 - i2_30).toNat < fu → xW D g h0 s H locs s7 → lv_has ls 3 [(0, .ref (h0 + 268)), (1, .int (xJ n)), (2, .int (xJ i2_30))] → W p l e { frames := 2, cells := 0, slots := 0, locals := 42 } s m args below meth c H locs 0 0 Q (F0 m 30 ls []) := by
      intro fu
      induction fu with
      | zero => intro i2_30 H locs ls ri2_30 v30_0 hm; exact absurd hm (Nat.not_lt_zero _)
      | succ fu ih30 =>
        intro i2_30 H locs ls ri2_30 v30_0 hm hW hl
        refine x_iload_n hx hb hl 2 rfl dX11_check_30 rfl ?_
        refine x_iload_n hx hb hl 1 rfl dX11_check_31 rfl ?_
        refine x_icmp_ge (tgt := 72) hx hb ri2_30 rn dX11_check_32 (by decide) (fun c14 => ?_) (fun c14 => ?_)
        · skip
          refine x_iconst hx hb dX11_check_72 ?_
          rw [eQ]
          exact x_iret hx hb hr hlk hW (by decide) ⟨hF13, ⟨q8, q9, q10, q11, trivial⟩, by omega⟩ dX11_check_73
        refine x_aload_n hx hb hl 0 rfl dX11_check_35 rfl ?_
        refine x_iload_n hx hb hl 2 rfl dX11_check_36 rfl ?_
        refine x_goi (x_runV (As := [.int (xJ i2_30)]) hx hb hml hown hT hE hW hl.1 (Or.inl (by decide)) (so_268 h0 g _) rfl cf_X11_tapeNumber wq1776 wq164 wq1774 (c_X11_tapeNumber l D g T h0 s7 hW.2.1 i2_30 ri2_30 (by omega) q8 q9 q10) ⟨rfl, rfl, ⟨by decide, by decide⟩, ⟨by decide, by decide⟩⟩ rfl rfl (Nat.le_of_ble_eq_true rfl) dX11_check_37) hW (fun x15 s16 H locs rx15 hp17 hW => ?_)
        obtain ⟨es16, hp17⟩ := hp17
        subst es16
        have ghp17 := hp17
        refine x_aload_n hx hb hl 0 rfl dX11_check_40 rfl ?_
        refine x_iload_n hx hb hl 2 rfl dX11_check_41 rfl ?_
        refine x_goi (x_runV (As := [.int (xJ i2_30)]) hx hb hml hown hT hE hW hl.1 (Or.inl (by decide)) (so_268 h0 g _) rfl cf_X11_isFelon wq1423 wq111 wq1421 (c_X11_isFelon l D g T h0 s7 hW.2.1 i2_30 ri2_30 q8 q9 q10) ⟨rfl, rfl, ⟨by decide, by decide⟩, ⟨by decide, by decide⟩⟩ rfl rfl (Nat.le_of_ble_eq_true rfl) dX11_check_42) hW (fun x18 s19 H locs rx18 hp20 hW => ?_)
        obtain ⟨es19, hp20⟩ := hp20
        subst es19
        have ghp20 := hp20
        refine x_if_eq (tgt := 60) hx hb rx18 dX11_check_45 (by decide) (fun c21 => ?_) (fun c21 => ?_)
        · skip
          refine x_iconst hx hb dX11_check_60 ?_
          refine x_icmp_eq (tgt := 66) hx hb rx15 (by decide) dX11_check_61 (by decide) (fun c22 => ?_) (fun c22 => ?_)
          · skip
            refine x_iinc (lv' := [(2, .int (xJ (i2_30 + 1))), (0, .ref (h0 + 268)), (1, .int (xJ n))]) hx hb hl 2 rfl dX11_check_66 (by decide) rfl (fun ls hl => ?_)
            refine lv_goto (tgt := 30) hx hb dX11_check_69 (by decide) ?_
            exact ih30 (i2_30 + 1) H locs ls (by omega) (by omega) (by omega) hW (lv_sub hl [1, 2, 0] rfl)
          refine x_iload_n hx hb hl 2 rfl dX11_check_64 rfl ?_
          rw [eQ]
          exact x_iret hx hb hr hlk hW ri2_30 ⟨hF13, ⟨q8, q9, q10, q11, trivial⟩, by omega⟩ dX11_check_65
        refine x_aload_n hx hb hl 0 rfl dX11_check_48 rfl ?_
        refine x_get (j := 0) (v := .ref (h0 + 269)) hx hb hown hT hE hW cls_X11 (Or.inl (by decide)) (so_268 h0 g _) (by decide) rfl wq1185 dX11_check_49 ?_
        refine x_bipush hx hb dX11_check_52 (by decide) ?_
        refine x_iload_n hx hb hl 2 rfl dX11_check_54 rfl ?_
        refine x_iadd hx hb dX11_check_55 ?_
        refine x_iald hx hb hE hW (Or.inl (by decide)) (sa_269 h0 g _) (by omega) (by decide) dX11_check_56 ?_
        refine x_rd hW (fun x23 ex23 rx23 => ?_)
        refine lv_goto (tgt := 61) hx hb dX11_check_57 (by decide) ?_
        refine x_icmp_eq (tgt := 66) hx hb rx15 rx23 dX11_check_61 (by decide) (fun c24 => ?_) (fun c24 => ?_)
        · skip
          refine x_iinc (lv' := [(2, .int (xJ (i2_30 + 1))), (0, .ref (h0 + 268)), (1, .int (xJ n))]) hx hb hl 2 rfl dX11_check_66 (by decide) rfl (fun ls hl => ?_)
          refine lv_goto (tgt := 30) hx hb dX11_check_69 (by decide) ?_
          exact ih30 (i2_30 + 1) H locs ls (by omega) (by omega) (by omega) hW (lv_sub hl [1, 2, 0] rfl)
        refine x_iload_n hx hb hl 2 rfl dX11_check_64 rfl ?_
        rw [eQ]
        exact x_iret hx hb hr hlk hW ri2_30 ⟨hF13, ⟨q8, q9, q10, q11, trivial⟩, by omega⟩ dX11_check_65
    exact L30 ((n + 1 - 0 : Int).toNat + 1) 0 H locs ls (by decide) (by omega) (Nat.lt_succ_self _) hW (lv_sub hl [1, 2, 0] rfl)
  refine x_bipush hx hb dX11_check_20 (by decide) ?_
  rw [eQ]
  exact x_iret hx hb hr hlk hW (by decide) ⟨hF, ⟨p0, p1, p2, k268_58, trivial⟩, by omega⟩ dX11_check_22
set_option maxHeartbeats 4000000 in
set_option maxRecDepth 100000 in
theorem c_X11_cloudy (l : Launch) (D : va_G) (g : xG) (T : Nat × Nat × Nat) (h0 : Nat) (s0 : xS) (hσ : xRR s0) (n : Int) (rn : xR n) (w : Int) (rw : xR w) (x : Int) (rx : xR x) (p0 : IMn s0) (p1 : IMk s0) (p2 : IMo s0) : Met l yX11_cloudy (xws yX11_cloudy cX11_cloudy 10 (some .int)) { frames := 1, cells := 0, slots := 0, locals := 22 } (xP [.ref (h0 + 268), .int (xJ n), .int (xJ w), .int (xJ x)] D g T h0 s0) (xQi D g h0 (fun r τ => xFr (fun k => k = 268) s0 τ ∧ (((IMn τ) ∧ (IMk τ) ∧ (IMo τ) ∧ (τ 268 58 = s0 268 58) ∧ True) ∧ (((n < 1 ∨ 10 < n ∨ w < 0 ∨ 90 < w ∨ x < 0 ∨ 2 < x ∨ s0 268 8 < n) ∧ τ 268 8 = s0 268 8 ∧ r = -1) ∨ (¬ (n < 1 ∨ 10 < n ∨ w < 0 ∨ 90 < w ∨ x < 0 ∨ 2 < x ∨ s0 268 8 < n) ∧ τ 268 8 = 0 ∧ ((zbad (s0 276) n 1 9 ∧ r = -3) ∨ (¬ zbad (s0 276) n 1 9 ∧ r = zans (s0 276) n w x 1023))))))) 0 0 (xA h0) := by
  refine x_met hσ (by decide) (Nat.le_of_ble_eq_true rfl) ?_
  intro p e s m args below meth c hx hb hr hml hown hT hlk hnm hE hW ls hl
  have hl : lv_has ls 10 [(0, .ref (h0 + 268)), (1, .int (xJ n)), (2, .int (xJ w)), (3, .int (xJ x))] := hl
  obtain ⟨Q, eQ⟩ : ∃ Q, Q = MQ below (xQi D g h0 (fun r τ => xFr (fun k => k = 268) s0 τ ∧ (((IMn τ) ∧ (IMk τ) ∧ (IMo τ) ∧ (τ 268 58 = s0 268 58) ∧ True) ∧ (((n < 1 ∨ 10 < n ∨ w < 0 ∨ 90 < w ∨ x < 0 ∨ 2 < x ∨ s0 268 8 < n) ∧ τ 268 8 = s0 268 8 ∧ r = -1) ∨ (¬ (n < 1 ∨ 10 < n ∨ w < 0 ∨ 90 < w ∨ x < 0 ∨ 2 < x ∨ s0 268 8 < n) ∧ τ 268 8 = 0 ∧ ((zbad (s0 276) n 1 9 ∧ r = -3) ∨ (¬ zbad (s0 276) n 1 9 ∧ r = zans (s0 276) n w x 1023))))))) args s 0 0 (xA h0) := ⟨_, rfl⟩
  rw [← eQ]
  generalize hHe : ([] : List Loc) = locs at hW ⊢
  obtain ⟨H, eH⟩ : ∃ H, H = s.heap := ⟨_, rfl⟩
  rw [← eH] at hW ⊢
  have hF : xFr (fun k => k = 268) s0 s0 := xFr.rf
  have k268_58 : s0 268 58 = s0 268 58 := rfl
  have k268_8 : s0 268 8 = s0 268 8 := rfl
  have hpw : 1 ≤ n ∧ n ≤ 10 → 1 ≤ zpw n ∧ zpw n ≤ 1024 := fun h => zpw_le ⟨by omega, h.2⟩
  refine x_iload_n hx hb hl 1 rfl dX11_cloudy_0 rfl ?_
  refine x_iconst hx hb dX11_cloudy_1 ?_
  refine x_bipush hx hb dX11_cloudy_2 (by decide) ?_
  refine x_goi (x_runS (As := [.int (xJ n), .int (xJ 1), .int (xJ 10)]) hx hb hml hown hT hE hW hl.1 cf_X11_in wq1383 wq1382 (c_X11_in l D g T h0 s0 hW.2.1 n rn 1 (by decide) 10 (by decide)) ⟨rfl, rfl, ⟨by decide, by decide⟩, ⟨by decide, by decide⟩⟩ rfl rfl (Nat.le_of_ble_eq_true rfl) dX11_cloudy_4) hW (fun x1 s2 H locs rx1 hp3 hW => ?_)
  obtain ⟨es2, hp3⟩ := hp3
  subst es2
  have ghp3 := hp3
  refine x_if_eq (tgt := 37) hx hb rx1 dX11_cloudy_7 (by decide) (fun c4 => ?_) (fun c4 => ?_)
  · skip
    refine x_iconst hx hb dX11_cloudy_37 ?_
    rw [eQ]
    exact x_iret hx hb hr hlk hW (by decide) ⟨hF, ⟨p0, p1, p2, k268_58, trivial⟩, Or.inl ⟨by omega, by omega, by omega⟩⟩ dX11_cloudy_38
  refine x_iload_n hx hb hl 2 rfl dX11_cloudy_10 rfl ?_
  refine x_iconst hx hb dX11_cloudy_11 ?_
  refine x_bipush hx hb dX11_cloudy_12 (by decide) ?_
  refine x_goi (x_runS (As := [.int (xJ w), .int (xJ 0), .int (xJ 90)]) hx hb hml hown hT hE hW hl.1 cf_X11_in wq1383 wq1382 (c_X11_in l D g T h0 s0 hW.2.1 w rw 0 (by decide) 90 (by decide)) ⟨rfl, rfl, ⟨by decide, by decide⟩, ⟨by decide, by decide⟩⟩ rfl rfl (Nat.le_of_ble_eq_true rfl) dX11_cloudy_14) hW (fun x5 s6 H locs rx5 hp7 hW => ?_)
  obtain ⟨es6, hp7⟩ := hp7
  subst es6
  have ghp7 := hp7
  refine x_if_eq (tgt := 37) hx hb rx5 dX11_cloudy_17 (by decide) (fun c8 => ?_) (fun c8 => ?_)
  · skip
    refine x_iconst hx hb dX11_cloudy_37 ?_
    rw [eQ]
    exact x_iret hx hb hr hlk hW (by decide) ⟨hF, ⟨p0, p1, p2, k268_58, trivial⟩, Or.inl ⟨by omega, by omega, by omega⟩⟩ dX11_cloudy_38
  refine x_iload_n hx hb hl 3 rfl dX11_cloudy_20 rfl ?_
  refine x_iconst hx hb dX11_cloudy_21 ?_
  refine x_iconst hx hb dX11_cloudy_22 ?_
  refine x_goi (x_runS (As := [.int (xJ x), .int (xJ 0), .int (xJ 2)]) hx hb hml hown hT hE hW hl.1 cf_X11_in wq1383 wq1382 (c_X11_in l D g T h0 s0 hW.2.1 x rx 0 (by decide) 2 (by decide)) ⟨rfl, rfl, ⟨by decide, by decide⟩, ⟨by decide, by decide⟩⟩ rfl rfl (Nat.le_of_ble_eq_true rfl) dX11_cloudy_23) hW (fun x9 s10 H locs rx9 hp11 hW => ?_)
  obtain ⟨es10, hp11⟩ := hp11
  subst es10
  have ghp11 := hp11
  refine x_if_eq (tgt := 37) hx hb rx9 dX11_cloudy_26 (by decide) (fun c12 => ?_) (fun c12 => ?_)
  · skip
    refine x_iconst hx hb dX11_cloudy_37 ?_
    rw [eQ]
    exact x_iret hx hb hr hlk hW (by decide) ⟨hF, ⟨p0, p1, p2, k268_58, trivial⟩, Or.inl ⟨by omega, by omega, by omega⟩⟩ dX11_cloudy_38
  refine x_iload_n hx hb hl 1 rfl dX11_cloudy_29 rfl ?_
  refine x_aload_n hx hb hl 0 rfl dX11_cloudy_30 rfl ?_
  refine x_get (j := 8) (v := .int (xJ (s0 268 8))) hx hb hown hT hE hW cls_X11 (Or.inl (by decide)) (so_268 h0 g _) (by decide) rfl wq1193 dX11_cloudy_31 ?_
  refine x_rd hW (fun x13 ex13 rx13 => ?_)
  have bx13 : 0 ≤ x13 ∧ x13 ≤ 260 := by rw [ex13]; exact IMn.t p0
  have fx13 : x13 = s0 268 8 := ex13.trans k268_8
  refine x_icmp_le (tgt := 39) hx hb rn rx13 dX11_cloudy_34 (by decide) (fun c14 => ?_) (fun c14 => ?_)
  · skip
    refine x_aload_n hx hb hl 0 rfl dX11_cloudy_39 rfl ?_
    refine x_iconst hx hb dX11_cloudy_40 ?_
    refine x_put (j := 8) hx hb hown hT hE hW cls_X11 (by decide) (fun σ => so_268 h0 g σ) (by decide) (st_X11_8 h0 s0 268 0) (ln_X11_8 h0 _ _) wq1193 rfl rfl rfl (by decide) dX11_cloudy_41 (fun H locs s15 es15 hW => ?_)
    have q16 : IMn s15 := by rw [es15]; exact IMn_268 p0 (by omega)
    have q17 : IMk s15 := by rw [es15]; exact IMk_268 p1 (by omega)
    have q18 : IMo s15 := by rw [es15]; exact IMo_o (by unfold suIMo; omega) p2
    have q19 : s15 268 58 = s0 268 58 := (show s15 268 58 = s0 268 58 from by rw [es15, xU_j _ _ (by decide)]).trans k268_58
    have q20 : s15 268 8 = 0 := by rw [es15, xU_s]
    have hF21 := hF.put es15 (by omega)
    refine x_iconst hx hb dX11_cloudy_44 ?_
    refine lv_istore (lv' := [(4, .int (xJ 0)), (0, .ref (h0 + 268)), (1, .int (xJ n)), (2, .int (xJ w)), (3, .int (xJ x))]) hx hb dX11_cloudy_45 hl (by decide) rfl (fun ls hl => ?_)
    have L47 : ∀ (fu : Nat) (i4_47 : Int) (H : Heap) (locs : List Loc) (ls : Array Slot), (xR i4_47) → (0 ≤ i4_47 ∧ i4_47 ≤ n) → (∀ q : Int, 0 ≤ q → q < i4_47 → 1 ≤ s0 276 q ∧ s0 276 q ≤ 9) → (11 - i4_47).toNat < fu → xW D g h0 s H locs s15 → lv_has ls 10 [(0, .ref (h0 + 268)), (1, .int (xJ n)), (2, .int (xJ w)), (3, .int (xJ x)), (4, .int (xJ i4_47))] → W p l e { frames := 1, cells := 0, slots := 0, locals := 22 } s m args below meth c H locs 0 0 Q (F0 m 47 ls []) := by
      intro fu
      induction fu with
      | zero => intro i4_47 H locs ls ri4_47 v47_0 v47_1 hm; exact absurd hm (Nat.not_lt_zero _)
      | succ fu ih47 =>
        intro i4_47 H locs ls ri4_47 v47_0 v47_1 hm hW hl
        refine x_iload hx hb hl 4 rfl dX11_cloudy_47 ?_
        refine x_iload_n hx hb hl 1 rfl dX11_cloudy_49 rfl ?_
        refine x_icmp_ge (tgt := 78) hx hb ri4_47 rn dX11_cloudy_50 (by decide) (fun c22 => ?_) (fun c22 => ?_)
        · skip
          refine x_iconst hx hb dX11_cloudy_78 ?_
          refine lv_istore (lv' := [(4, .int (xJ 0)), (0, .ref (h0 + 268)), (1, .int (xJ n)), (2, .int (xJ w)), (3, .int (xJ x))]) hx hb dX11_cloudy_79 hl (by decide) rfl (fun ls hl => ?_)
          refine x_bipush hx hb dX11_cloudy_81 (by decide) ?_
          refine lv_istore (lv' := [(5, .int (xJ (-2))), (4, .int (xJ 0)), (0, .ref (h0 + 268)), (1, .int (xJ n)), (2, .int (xJ w)), (3, .int (xJ x))]) hx hb dX11_cloudy_83 hl (by decide) rfl (fun ls hl => ?_)
          refine x_sipush hx hb dX11_cloudy_85 (by decide) ?_
          refine lv_istore (lv' := [(6, .int (xJ 1023)), (5, .int (xJ (-2))), (4, .int (xJ 0)), (0, .ref (h0 + 268)), (1, .int (xJ n)), (2, .int (xJ w)), (3, .int (xJ x))]) hx hb dX11_cloudy_88 hl (by decide) rfl (fun ls hl => ?_)
          refine x_iconst hx hb dX11_cloudy_90 ?_
          refine lv_istore (lv' := [(7, .int (xJ 0)), (6, .int (xJ 1023)), (5, .int (xJ (-2))), (4, .int (xJ 0)), (0, .ref (h0 + 268)), (1, .int (xJ n)), (2, .int (xJ w)), (3, .int (xJ x))]) hx hb dX11_cloudy_91 hl (by decide) rfl (fun ls hl => ?_)
          have L93 : ∀ (fu : Nat) (i4_93 : Int) (i5_93 : Int) (i6_93 : Int) (i7_93 : Int) (H : Heap) (locs : List Loc) (ls : Array Slot), (xR i4_93) → (xR i5_93) → (xR i6_93) → (xR i7_93) → (0 ≤ i7_93 ∧ i7_93 ≤ zpw n) → (0 ≤ i4_93 ∧ i4_93 ≤ i7_93) → (i4_93 = zcm (s0 276) n w (i7_93).toNat) → (i5_93 = zcf (s0 276) n w (i7_93).toNat) → (i6_93 = zca (s0 276) n w 1023 (i7_93).toNat) → (1024 - i7_93).toNat < fu → xW D g h0 s H locs s15 → lv_has ls 10 [(0, .ref (h0 + 268)), (1, .int (xJ n)), (2, .int (xJ w)), (3, .int (xJ x)), (4, .int (xJ i4_93)), (5, .int (xJ i5_93)), (6, .int (xJ i6_93)), (7, .int (xJ i7_93))] → W p l e { frames := 1, cells := 0, slots := 0, locals := 22 } s m args below meth c H locs 0 0 Q (F0 m 93 ls []) := by
            intro fu
            induction fu with
            | zero => intro i4_93 i5_93 i6_93 i7_93 H locs ls ri4_93 ri5_93 ri6_93 ri7_93 v93_0 v93_1 v93_2 v93_3 v93_4 hm; exact absurd hm (Nat.not_lt_zero _)
            | succ fu ih93 =>
              intro i4_93 i5_93 i6_93 i7_93 H locs ls ri4_93 ri5_93 ri6_93 ri7_93 v93_0 v93_1 v93_2 v93_3 v93_4 hm hW hl
              refine x_iload hx hb hl 7 rfl dX11_cloudy_93 ?_
              refine x_iconst hx hb dX11_cloudy_95 ?_
              refine x_iload_n hx hb hl 1 rfl dX11_cloudy_96 rfl ?_
              refine x_shl1 hx hb (by omega) dX11_cloudy_97 (fun x23 ex23 bx23 => ?_)
              have P97 : x23 = zpw n := ex23
              refine x_icmp_ge (tgt := 187) hx hb ri7_93 (by omega) dX11_cloudy_98 (by decide) (fun c24 => ?_) (fun c24 => ?_)
              · skip
                refine x_iload_n hx hb hl 3 rfl dX11_cloudy_187 rfl ?_
                refine x_if_ne (tgt := 196) hx hb rx dX11_cloudy_188 (by decide) (fun c25 => ?_) (fun c25 => ?_)
                · skip
                  refine x_iload_n hx hb hl 3 rfl dX11_cloudy_196 rfl ?_
                  refine x_iconst hx hb dX11_cloudy_197 ?_
                  refine x_icmp_eq (tgt := 206) hx hb rx (by decide) dX11_cloudy_198 (by decide) (fun c26 => ?_) (fun c26 => ?_)
                  · skip
                    refine x_iload hx hb hl 5 rfl dX11_cloudy_206 ?_
                    refine lv_goto (tgt := 213) hx hb dX11_cloudy_208 (by decide) ?_
                    rw [eQ]
                    exact x_iret hx hb hr hlk hW ri5_93 ⟨hF21, ⟨q16, q17, q18, q19, trivial⟩, Or.inr ⟨by omega, by omega, Or.inr ⟨fun ⟨i, h1, h2, h3⟩ => by have := v47_1 i h1 (by omega); omega, zans_i (i := i7_93) (c := i4_93) (d := i5_93) (e := i6_93) (by omega) v93_2 v93_3 v93_4 (by omega)⟩⟩⟩ dX11_cloudy_213
                  refine x_iload hx hb hl 4 rfl dX11_cloudy_201 ?_
                  refine x_if_ne (tgt := 211) hx hb ri4_93 dX11_cloudy_203 (by decide) (fun c27 => ?_) (fun c27 => ?_)
                  · skip
                    refine x_iload hx hb hl 6 rfl dX11_cloudy_211 ?_
                    rw [eQ]
                    exact x_iret hx hb hr hlk hW ri6_93 ⟨hF21, ⟨q16, q17, q18, q19, trivial⟩, Or.inr ⟨by omega, by omega, Or.inr ⟨fun ⟨i, h1, h2, h3⟩ => by have := v47_1 i h1 (by omega); omega, zans_i (i := i7_93) (c := i4_93) (d := i5_93) (e := i6_93) (by omega) v93_2 v93_3 v93_4 (by omega)⟩⟩⟩ dX11_cloudy_213
                  refine x_iload hx hb hl 5 rfl dX11_cloudy_206 ?_
                  refine lv_goto (tgt := 213) hx hb dX11_cloudy_208 (by decide) ?_
                  rw [eQ]
                  exact x_iret hx hb hr hlk hW ri5_93 ⟨hF21, ⟨q16, q17, q18, q19, trivial⟩, Or.inr ⟨by omega, by omega, Or.inr ⟨fun ⟨i, h1, h2, h3⟩ => by have := v47_1 i h1 (by omega); omega, zans_i (i := i7_93) (c := i4_93) (d := i5_93) (e := i6_93) (by omega) v93_2 v93_3 v93_4 (by omega)⟩⟩⟩ dX11_cloudy_213
                refine x_iload hx hb hl 4 rfl dX11_cloudy_191 ?_
                refine lv_goto (tgt := 213) hx hb dX11_cloudy_193 (by decide) ?_
                rw [eQ]
                exact x_iret hx hb hr hlk hW ri4_93 ⟨hF21, ⟨q16, q17, q18, q19, trivial⟩, Or.inr ⟨by omega, by omega, Or.inr ⟨fun ⟨i, h1, h2, h3⟩ => by have := v47_1 i h1 (by omega); omega, zans_i (i := i7_93) (c := i4_93) (d := i5_93) (e := i6_93) (by omega) v93_2 v93_3 v93_4 (by omega)⟩⟩⟩ dX11_cloudy_213
              refine x_iconst hx hb dX11_cloudy_101 ?_
              refine lv_istore (lv' := [(8, .int (xJ 0)), (0, .ref (h0 + 268)), (1, .int (xJ n)), (2, .int (xJ w)), (3, .int (xJ x)), (4, .int (xJ i4_93)), (5, .int (xJ i5_93)), (6, .int (xJ i6_93)), (7, .int (xJ i7_93))]) hx hb dX11_cloudy_102 hl (by decide) rfl (fun ls hl => ?_)
              refine x_iconst hx hb dX11_cloudy_104 ?_
              refine lv_istore (lv' := [(9, .int (xJ 0)), (8, .int (xJ 0)), (0, .ref (h0 + 268)), (1, .int (xJ n)), (2, .int (xJ w)), (3, .int (xJ x)), (4, .int (xJ i4_93)), (5, .int (xJ i5_93)), (6, .int (xJ i6_93)), (7, .int (xJ i7_93))]) hx hb dX11_cloudy_105 hl (by decide) rfl (fun ls hl => ?_)
              have L107 : ∀ (fu : Nat) (i8_107 : Int) (i9_107 : Int) (H : Heap) (locs : List Loc) (ls : Array Slot), (xR i8_107) → (xR i9_107) → (0 ≤ i9_107 ∧ i9_107 ≤ n) → (i8_107 = zsum (s0 276) i7_93 (i9_107).toNat) → (0 ≤ i8_107 ∧ i8_107 ≤ 9 * i9_107) → (11 - i9_107).toNat < fu → xW D g h0 s H locs s15 → lv_has ls 10 [(0, .ref (h0 + 268)), (1, .int (xJ n)), (2, .int (xJ w)), (3, .int (xJ x)), (4, .int (xJ i4_93)), (5, .int (xJ i5_93)), (6, .int (xJ i6_93)), (7, .int (xJ i7_93)), (8, .int (xJ i8_107)), (9, .int (xJ i9_107))] → W p l e { frames := 1, cells := 0, slots := 0, locals := 22 } s m args below meth c H locs 0 0 Q (F0 m 107 ls []) := by
                intro fu
                induction fu with
                | zero => intro i8_107 i9_107 H locs ls ri8_107 ri9_107 v107_0 v107_1 v107_2 hm; exact absurd hm (Nat.not_lt_zero _)
                | succ fu ih107 =>
                  intro i8_107 i9_107 H locs ls ri8_107 ri9_107 v107_0 v107_1 v107_2 hm hW hl
                  refine x_iload hx hb hl 9 rfl dX11_cloudy_107 ?_
                  refine x_iload_n hx hb hl 1 rfl dX11_cloudy_109 rfl ?_
                  refine x_icmp_ge (tgt := 145) hx hb ri9_107 rn dX11_cloudy_110 (by decide) (fun c28 => ?_) (fun c28 => ?_)
                  · skip
                    refine x_iload hx hb hl 8 rfl dX11_cloudy_145 ?_
                    have Z145 : i8_107 = zsum (s0 276) i7_93 n.toNat := by rw [show n = i9_107 from by omega]; exact v107_1
                    refine x_iload_n hx hb hl 2 rfl dX11_cloudy_147 rfl ?_
                    refine x_icmp_eq (tgt := 154) hx hb ri8_107 rw dX11_cloudy_148 (by decide) (fun c29 => ?_) (fun c29 => ?_)
                    · skip
                      refine x_iload hx hb hl 4 rfl dX11_cloudy_154 ?_
                      refine x_if_ne (tgt := 164) hx hb ri4_93 dX11_cloudy_156 (by decide) (fun c30 => ?_) (fun c30 => ?_)
                      · skip
                        refine x_iload hx hb hl 5 rfl dX11_cloudy_164 ?_
                        refine lv_istore (lv' := [(5, .int (xJ i5_93)), (0, .ref (h0 + 268)), (1, .int (xJ n)), (2, .int (xJ w)), (3, .int (xJ x)), (4, .int (xJ i4_93)), (6, .int (xJ i6_93)), (7, .int (xJ i7_93)), (8, .int (xJ i8_107)), (9, .int (xJ i9_107))]) hx hb dX11_cloudy_166 hl (by decide) rfl (fun ls hl => ?_)
                        refine x_iload hx hb hl 5 rfl dX11_cloudy_168 ?_
                        refine x_iconst hx hb dX11_cloudy_170 ?_
                        refine x_iadd hx hb dX11_cloudy_171 ?_
                        refine x_nm (fun x31 ex31 => ?_)
                        refine lv_istore (lv' := [(4, .int (xJ x31)), (5, .int (xJ i5_93)), (0, .ref (h0 + 268)), (1, .int (xJ n)), (2, .int (xJ w)), (3, .int (xJ x)), (6, .int (xJ i6_93)), (7, .int (xJ i7_93)), (8, .int (xJ i8_107)), (9, .int (xJ i9_107))]) hx hb dX11_cloudy_172 hl (by decide) rfl (fun ls hl => ?_)
                        refine x_iload hx hb hl 6 rfl dX11_cloudy_174 ?_
                        refine x_iload hx hb hl 7 rfl dX11_cloudy_176 ?_
                        refine x_zand hx hb dX11_cloudy_178 (fun x32 ex32 rx32 => ?_)
                        have Z178 : x32 = zand i6_93 i7_93 := ex32
                        refine lv_istore (lv' := [(6, .int (xJ x32)), (4, .int (xJ x31)), (5, .int (xJ i5_93)), (0, .ref (h0 + 268)), (1, .int (xJ n)), (2, .int (xJ w)), (3, .int (xJ x)), (7, .int (xJ i7_93)), (8, .int (xJ i8_107)), (9, .int (xJ i9_107))]) hx hb dX11_cloudy_179 hl (by decide) rfl (fun ls hl => ?_)
                        refine x_iinc (lv' := [(7, .int (xJ (i7_93 + 1))), (6, .int (xJ x32)), (4, .int (xJ x31)), (5, .int (xJ i5_93)), (0, .ref (h0 + 268)), (1, .int (xJ n)), (2, .int (xJ w)), (3, .int (xJ x)), (8, .int (xJ i8_107)), (9, .int (xJ i9_107))]) hx hb hl 7 rfl dX11_cloudy_181 (by decide) rfl (fun ls hl => ?_)
                        refine lv_goto (tgt := 93) hx hb dX11_cloudy_184 (by decide) ?_
                        exact ih93 x31 i5_93 x32 (i7_93 + 1) H locs ls (by omega) ri5_93 rx32 (by omega) (by omega) (by omega) (by first | (have z9 := zcs_n (f := s0 276) (n := n) (w := w) (a0 := 1023) (i := i7_93) (by omega) (by omega); omega) | (have z9 := zcs_y (f := s0 276) (n := n) (w := w) (a0 := 1023) (i := i7_93) (by omega) (by omega); omega)) (by first | (have z9 := zcs_n (f := s0 276) (n := n) (w := w) (a0 := 1023) (i := i7_93) (by omega) (by omega); omega) | (have z9 := zcs_y (f := s0 276) (n := n) (w := w) (a0 := 1023) (i := i7_93) (by omega) (by omega); omega)) (by first | (have z9 := zcs_n (f := s0 276) (n := n) (w := w) (a0 := 1023) (i := i7_93) (by omega) (by omega); omega) | (have z9 := zcs_y (f := s0 276) (n := n) (w := w) (a0 := 1023) (i := i7_93) (by omega) (by omega); rw [z9.2.2.2, ← v93_4]; exact Z178)) (by omega) hW (lv_sub hl [4, 5, 6, 7, 2, 3, 1, 0] rfl)
                      refine x_iload hx hb hl 7 rfl dX11_cloudy_159 ?_
                      refine lv_goto (tgt := 166) hx hb dX11_cloudy_161 (by decide) ?_
                      refine lv_istore (lv' := [(5, .int (xJ i7_93)), (0, .ref (h0 + 268)), (1, .int (xJ n)), (2, .int (xJ w)), (3, .int (xJ x)), (4, .int (xJ i4_93)), (6, .int (xJ i6_93)), (7, .int (xJ i7_93)), (8, .int (xJ i8_107)), (9, .int (xJ i9_107))]) hx hb dX11_cloudy_166 hl (by decide) rfl (fun ls hl => ?_)
                      refine x_iload hx hb hl 5 rfl dX11_cloudy_168 ?_
                      refine x_iconst hx hb dX11_cloudy_170 ?_
                      refine x_iadd hx hb dX11_cloudy_171 ?_
                      refine x_nm (fun x33 ex33 => ?_)
                      refine lv_istore (lv' := [(4, .int (xJ x33)), (5, .int (xJ i7_93)), (0, .ref (h0 + 268)), (1, .int (xJ n)), (2, .int (xJ w)), (3, .int (xJ x)), (6, .int (xJ i6_93)), (7, .int (xJ i7_93)), (8, .int (xJ i8_107)), (9, .int (xJ i9_107))]) hx hb dX11_cloudy_172 hl (by decide) rfl (fun ls hl => ?_)
                      refine x_iload hx hb hl 6 rfl dX11_cloudy_174 ?_
                      refine x_iload hx hb hl 7 rfl dX11_cloudy_176 ?_
                      refine x_zand hx hb dX11_cloudy_178 (fun x34 ex34 rx34 => ?_)
                      have Z178 : x34 = zand i6_93 i7_93 := ex34
                      refine lv_istore (lv' := [(6, .int (xJ x34)), (4, .int (xJ x33)), (5, .int (xJ i7_93)), (0, .ref (h0 + 268)), (1, .int (xJ n)), (2, .int (xJ w)), (3, .int (xJ x)), (7, .int (xJ i7_93)), (8, .int (xJ i8_107)), (9, .int (xJ i9_107))]) hx hb dX11_cloudy_179 hl (by decide) rfl (fun ls hl => ?_)
                      refine x_iinc (lv' := [(7, .int (xJ (i7_93 + 1))), (6, .int (xJ x34)), (4, .int (xJ x33)), (5, .int (xJ i7_93)), (0, .ref (h0 + 268)), (1, .int (xJ n)), (2, .int (xJ w)), (3, .int (xJ x)), (8, .int (xJ i8_107)), (9, .int (xJ i9_107))]) hx hb hl 7 rfl dX11_cloudy_181 (by decide) rfl (fun ls hl => ?_)
                      refine lv_goto (tgt := 93) hx hb dX11_cloudy_184 (by decide) ?_
                      exact ih93 x33 i7_93 x34 (i7_93 + 1) H locs ls (by omega) ri7_93 rx34 (by omega) (by omega) (by omega) (by first | (have z9 := zcs_n (f := s0 276) (n := n) (w := w) (a0 := 1023) (i := i7_93) (by omega) (by omega); omega) | (have z9 := zcs_y (f := s0 276) (n := n) (w := w) (a0 := 1023) (i := i7_93) (by omega) (by omega); omega)) (by first | (have z9 := zcs_n (f := s0 276) (n := n) (w := w) (a0 := 1023) (i := i7_93) (by omega) (by omega); omega) | (have z9 := zcs_y (f := s0 276) (n := n) (w := w) (a0 := 1023) (i := i7_93) (by omega) (by omega); omega)) (by first | (have z9 := zcs_n (f := s0 276) (n := n) (w := w) (a0 := 1023) (i := i7_93) (by omega) (by omega); omega) | (have z9 := zcs_y (f := s0 276) (n := n) (w := w) (a0 := 1023) (i := i7_93) (by omega) (by omega); rw [z9.2.2.2, ← v93_4]; exact Z178)) (by omega) hW (lv_sub hl [4, 5, 6, 7, 2, 3, 1, 0] rfl)
                    refine lv_goto (tgt := 181) hx hb dX11_cloudy_151 (by decide) ?_
                    refine x_iinc (lv' := [(7, .int (xJ (i7_93 + 1))), (0, .ref (h0 + 268)), (1, .int (xJ n)), (2, .int (xJ w)), (3, .int (xJ x)), (4, .int (xJ i4_93)), (5, .int (xJ i5_93)), (6, .int (xJ i6_93)), (8, .int (xJ i8_107)), (9, .int (xJ i9_107))]) hx hb hl 7 rfl dX11_cloudy_181 (by decide) rfl (fun ls hl => ?_)
                    refine lv_goto (tgt := 93) hx hb dX11_cloudy_184 (by decide) ?_
                    exact ih93 i4_93 i5_93 i6_93 (i7_93 + 1) H locs ls ri4_93 ri5_93 ri6_93 (by omega) (by omega) (by omega) (by first | (have z9 := zcs_n (f := s0 276) (n := n) (w := w) (a0 := 1023) (i := i7_93) (by omega) (by omega); omega) | (have z9 := zcs_y (f := s0 276) (n := n) (w := w) (a0 := 1023) (i := i7_93) (by omega) (by omega); omega)) (by first | (have z9 := zcs_n (f := s0 276) (n := n) (w := w) (a0 := 1023) (i := i7_93) (by omega) (by omega); omega) | (have z9 := zcs_y (f := s0 276) (n := n) (w := w) (a0 := 1023) (i := i7_93) (by omega) (by omega); omega)) (by first | (have z9 := zcs_n (f := s0 276) (n := n) (w := w) (a0 := 1023) (i := i7_93) (by omega) (by omega); omega) | (have z9 := zcs_y (f := s0 276) (n := n) (w := w) (a0 := 1023) (i := i7_93) (by omega) (by omega); rw [z9.2.2.2, ← v93_4]; exact Z178)) (by omega) hW (lv_sub hl [1, 2, 3, 4, 5, 6, 7, 0] rfl)
                  refine x_iload hx hb hl 8 rfl dX11_cloudy_113 ?_
                  refine x_iload hx hb hl 7 rfl dX11_cloudy_115 ?_
                  refine x_iload hx hb hl 9 rfl dX11_cloudy_117 ?_
                  refine x_goi (x_runS (As := [.int (xJ i7_93), .int (xJ i9_107)]) hx hb hml hown hT hE hW hl.1 cf_X11_has wq1415 wq1414 (c_X11_has l D g T h0 s15 hW.2.1 i7_93 ri7_93 i9_107 ri9_107) ⟨rfl, rfl, ⟨by decide, by decide⟩, ⟨by decide, by decide⟩⟩ rfl rfl (Nat.le_of_ble_eq_true rfl) dX11_cloudy_119) hW (fun x35 s36 H locs rx35 hp37 hW => ?_)
                  obtain ⟨es36, hp37⟩ := hp37
                  subst es36
                  have ghp37 := hp37
                  have Z119 := ghp37
                  refine x_if_eq (tgt := 129) hx hb rx35 dX11_cloudy_122 (by decide) (fun c38 => ?_) (fun c38 => ?_)
                  · skip
                    refine x_aload_n hx hb hl 0 rfl dX11_cloudy_129 rfl ?_
                    refine x_get (j := 7) (v := .ref (h0 + 276)) hx hb hown hT hE hW cls_X11 (Or.inl (by decide)) (so_268 h0 g _) (by decide) rfl wq1192 dX11_cloudy_130 ?_
                    refine x_iload hx hb hl 9 rfl dX11_cloudy_133 ?_
                    refine x_bald hx hb hE hW (Or.inl (by decide)) (sa_276 h0 g _) (by omega) (by decide) dX11_cloudy_135 ?_
                    refine x_rd hW (fun x39 ex39 rx39 => ?_)
                    have b135 : x39 = s0 276 i9_107 := by rw [ex39, hF21 276 (by omega)]
                    have c135 := v47_1 i9_107 (by omega) (by omega)
                    refine x_iadd hx hb dX11_cloudy_136 ?_
                    refine x_nm (fun x40 ex40 => ?_)
                    refine lv_istore (lv' := [(8, .int (xJ x40)), (0, .ref (h0 + 268)), (1, .int (xJ n)), (2, .int (xJ w)), (3, .int (xJ x)), (4, .int (xJ i4_93)), (5, .int (xJ i5_93)), (6, .int (xJ i6_93)), (7, .int (xJ i7_93)), (9, .int (xJ i9_107))]) hx hb dX11_cloudy_137 hl (by decide) rfl (fun ls hl => ?_)
                    refine x_iinc (lv' := [(9, .int (xJ (i9_107 + 1))), (8, .int (xJ x40)), (0, .ref (h0 + 268)), (1, .int (xJ n)), (2, .int (xJ w)), (3, .int (xJ x)), (4, .int (xJ i4_93)), (5, .int (xJ i5_93)), (6, .int (xJ i6_93)), (7, .int (xJ i7_93))]) hx hb hl 9 rfl dX11_cloudy_139 (by decide) rfl (fun ls hl => ?_)
                    refine lv_goto (tgt := 107) hx hb dX11_cloudy_142 (by decide) ?_
                    exact ih107 x40 (i9_107 + 1) H locs ls (by omega) (by omega) (by omega) (by first | (rw [zsum_n (by omega) (by omega)]; omega) | (rw [zsum_y (by omega) (by omega)]; omega)) (by omega) (by omega) hW (lv_sub hl [2, 3, 4, 5, 6, 7, 8, 9, 1, 0] rfl)
                  refine x_iconst hx hb dX11_cloudy_125 ?_
                  refine lv_goto (tgt := 136) hx hb dX11_cloudy_126 (by decide) ?_
                  refine x_iadd hx hb dX11_cloudy_136 ?_
                  refine x_nm (fun x41 ex41 => ?_)
                  refine lv_istore (lv' := [(8, .int (xJ x41)), (0, .ref (h0 + 268)), (1, .int (xJ n)), (2, .int (xJ w)), (3, .int (xJ x)), (4, .int (xJ i4_93)), (5, .int (xJ i5_93)), (6, .int (xJ i6_93)), (7, .int (xJ i7_93)), (9, .int (xJ i9_107))]) hx hb dX11_cloudy_137 hl (by decide) rfl (fun ls hl => ?_)
                  refine x_iinc (lv' := [(9, .int (xJ (i9_107 + 1))), (8, .int (xJ x41)), (0, .ref (h0 + 268)), (1, .int (xJ n)), (2, .int (xJ w)), (3, .int (xJ x)), (4, .int (xJ i4_93)), (5, .int (xJ i5_93)), (6, .int (xJ i6_93)), (7, .int (xJ i7_93))]) hx hb hl 9 rfl dX11_cloudy_139 (by decide) rfl (fun ls hl => ?_)
                  refine lv_goto (tgt := 107) hx hb dX11_cloudy_142 (by decide) ?_
                  exact ih107 x41 (i9_107 + 1) H locs ls (by omega) (by omega) (by omega) (by first | (rw [zsum_n (by omega) (by omega)]; omega) | (rw [zsum_y (by omega) (by omega)]; omega)) (by omega) (by omega) hW (lv_sub hl [2, 3, 4, 5, 6, 7, 8, 9, 1, 0] rfl)
              exact L107 ((11 - 0 : Int).toNat + 1) 0 0 H locs ls (by decide) (by decide) (by omega) (rfl) (by omega) (Nat.lt_succ_self _) hW (lv_sub hl [2, 3, 4, 5, 6, 7, 8, 9, 1, 0] rfl)
          exact L93 ((1024 - 0 : Int).toNat + 1) 0 (-2) 1023 0 H locs ls (by decide) (by decide) (by decide) (by decide) (by omega) (by omega) (rfl) (rfl) (rfl) (Nat.lt_succ_self _) hW (lv_sub hl [4, 5, 6, 7, 3, 2, 1, 0] rfl)
        refine x_aload_n hx hb hl 0 rfl dX11_cloudy_53 rfl ?_
        refine x_get (j := 7) (v := .ref (h0 + 276)) hx hb hown hT hE hW cls_X11 (Or.inl (by decide)) (so_268 h0 g _) (by decide) rfl wq1192 dX11_cloudy_54 ?_
        refine x_iload hx hb hl 4 rfl dX11_cloudy_57 ?_
        refine x_bald hx hb hE hW (Or.inl (by decide)) (sa_276 h0 g _) (by omega) (by decide) dX11_cloudy_59 ?_
        refine x_rd hW (fun x42 ex42 rx42 => ?_)
        have b59 : x42 = s0 276 i4_47 := by rw [ex42, hF21 276 (by omega)]
        refine x_iconst hx hb dX11_cloudy_60 ?_
        refine x_bipush hx hb dX11_cloudy_61 (by decide) ?_
        refine x_goi (x_runS (As := [.int (xJ x42), .int (xJ 1), .int (xJ 9)]) hx hb hml hown hT hE hW hl.1 cf_X11_in wq1383 wq1382 (c_X11_in l D g T h0 s15 hW.2.1 x42 rx42 1 (by decide) 9 (by decide)) ⟨rfl, rfl, ⟨by decide, by decide⟩, ⟨by decide, by decide⟩⟩ rfl rfl (Nat.le_of_ble_eq_true rfl) dX11_cloudy_63) hW (fun x43 s44 H locs rx43 hp45 hW => ?_)
        obtain ⟨es44, hp45⟩ := hp45
        subst es44
        have ghp45 := hp45
        refine x_if_ne (tgt := 72) hx hb rx43 dX11_cloudy_66 (by decide) (fun c46 => ?_) (fun c46 => ?_)
        · skip
          refine x_iinc (lv' := [(4, .int (xJ (i4_47 + 1))), (0, .ref (h0 + 268)), (1, .int (xJ n)), (2, .int (xJ w)), (3, .int (xJ x))]) hx hb hl 4 rfl dX11_cloudy_72 (by decide) rfl (fun ls hl => ?_)
          refine lv_goto (tgt := 47) hx hb dX11_cloudy_75 (by decide) ?_
          exact ih47 (i4_47 + 1) H locs ls (by omega) (by omega) (fun q h1 h2 => (Classical.em (q < (i4_47 + 1) - 1)).elim (fun z => v47_1 q h1 (by omega)) (fun z => by rw [show q = i4_47 from by omega]; omega)) (by omega) hW (lv_sub hl [1, 2, 3, 4, 0] rfl)
        refine x_bipush hx hb dX11_cloudy_69 (by decide) ?_
        rw [eQ]
        exact x_iret hx hb hr hlk hW (by decide) ⟨hF21, ⟨q16, q17, q18, q19, trivial⟩, Or.inr ⟨by omega, by omega, Or.inl ⟨⟨i4_47, by omega, by omega, by omega⟩, by omega⟩⟩⟩ dX11_cloudy_71
    exact L47 ((11 - 0 : Int).toNat + 1) 0 H locs ls (by decide) (by omega) (fun q h1 h2 => absurd h2 (by omega)) (Nat.lt_succ_self _) hW (lv_sub hl [1, 2, 3, 4, 0] rfl)
  refine x_iconst hx hb dX11_cloudy_37 ?_
  rw [eQ]
  exact x_iret hx hb hr hlk hW (by decide) ⟨hF, ⟨p0, p1, p2, k268_58, trivial⟩, Or.inl ⟨by omega, by omega, by omega⟩⟩ dX11_cloudy_38
set_option maxHeartbeats 4000000 in
set_option maxRecDepth 100000 in
theorem c_X11_binds (l : Launch) (D : va_G) (g : xG) (T : Nat × Nat × Nat) (h0 : Nat) (s0 : xS) (hσ : xRR s0) (a : Int) (ra : xR a) (b : Int) (rb : xR b) (n : Int) (rn : xR n) (hab : (0 ≤ a ∧ a ≤ 7) ∧ (0 ≤ b ∧ b ≤ 7) ∧ n ≤ 8) (p0 : IMn s0) (p1 : IMk s0) (p2 : IMo s0) : Met l yX11_binds (xws yX11_binds cX11_binds 7 none) { frames := 1, cells := 0, slots := 0, locals := 21 } (xP [.ref (h0 + 268), .int (xJ a), .int (xJ b), .int (xJ n)] D g T h0 s0) (xQv D g h0 (fun τ => xFr (fun k => k = 306) s0 τ ∧ (((IMn τ) ∧ (IMk τ) ∧ (IMo τ) ∧ True) ∧ (True)))) 0 0 (xA h0) := by
  refine x_met hσ (by decide) (Nat.le_of_ble_eq_true rfl) ?_
  intro p e s m args below meth c hx hb hr hml hown hT hlk hnm hE hW ls hl
  have hl : lv_has ls 7 [(0, .ref (h0 + 268)), (1, .int (xJ a)), (2, .int (xJ b)), (3, .int (xJ n))] := hl
  obtain ⟨Q, eQ⟩ : ∃ Q, Q = MQ below (xQv D g h0 (fun τ => xFr (fun k => k = 306) s0 τ ∧ (((IMn τ) ∧ (IMk τ) ∧ (IMo τ) ∧ True) ∧ (True)))) args s 0 0 (xA h0) := ⟨_, rfl⟩
  rw [← eQ]
  generalize hHe : ([] : List Loc) = locs at hW ⊢
  obtain ⟨H, eH⟩ : ∃ H, H = s.heap := ⟨_, rfl⟩
  rw [← eH] at hW ⊢
  have hF : xFr (fun k => k = 306) s0 s0 := xFr.rf
  have k268_8 : s0 268 8 = s0 268 8 := rfl
  have k268_58 : s0 268 58 = s0 268 58 := rfl
  refine x_aload_n hx hb hl 0 rfl dX11_binds_0 rfl ?_
  refine x_get (j := 56) (v := .ref (h0 + 306)) hx hb hown hT hE hW cls_X11 (Or.inl (by decide)) (so_268 h0 g _) (by decide) rfl wq1241 dX11_binds_1 ?_
  refine x_iload_n hx hb hl 1 rfl dX11_binds_4 rfl ?_
  refine x_iald hx hb hE hW (Or.inl (by decide)) (sa_306 h0 g _) (by omega) (by decide) dX11_binds_5 ?_
  refine x_rd hW (fun x1 ex1 rx1 => ?_)
  have bx1 : 0 ≤ x1 ∧ x1 ≤ 7 := by rw [ex1]; exact IMo.b p2 _ (by omega) (by omega)
  refine x_aload_n hx hb hl 0 rfl dX11_binds_6 rfl ?_
  refine x_get (j := 56) (v := .ref (h0 + 306)) hx hb hown hT hE hW cls_X11 (Or.inl (by decide)) (so_268 h0 g _) (by decide) rfl wq1241 dX11_binds_7 ?_
  refine x_iload_n hx hb hl 2 rfl dX11_binds_10 rfl ?_
  refine x_iald hx hb hE hW (Or.inl (by decide)) (sa_306 h0 g _) (by omega) (by decide) dX11_binds_11 ?_
  refine x_rd hW (fun x2 ex2 rx2 => ?_)
  have bx2 : 0 ≤ x2 ∧ x2 ≤ 7 := by rw [ex2]; exact IMo.b p2 _ (by omega) (by omega)
  refine x_goi (x_runS (As := [.int (xJ x1), .int (xJ x2)]) hx hb hml hown hT hE hW hl.1 cf_X11_min wq1640 wq1639 (c_X11_min l D g T h0 s0 hW.2.1 x1 rx1 x2 rx2) ⟨rfl, rfl, ⟨by decide, by decide⟩, ⟨by decide, by decide⟩⟩ rfl rfl (Nat.le_of_ble_eq_true rfl) dX11_binds_12) hW (fun x3 s4 H locs rx3 hp5 hW => ?_)
  obtain ⟨es4, hp5⟩ := hp5
  subst es4
  have ghp5 := hp5
  refine lv_istore (lv' := [(4, .int (xJ x3)), (0, .ref (h0 + 268)), (1, .int (xJ a)), (2, .int (xJ b)), (3, .int (xJ n))]) hx hb dX11_binds_15 hl (by decide) rfl (fun ls hl => ?_)
  refine x_aload_n hx hb hl 1 rfl dX11_binds_17 rfl ?_
  refine x_get (j := 56) (v := .ref (h0 + 306)) hx hb hown hT hE hW cls_X11 (Or.inl (by decide)) (so_268 h0 g _) (by decide) rfl wq1241 dX11_binds_18 ?_
  refine x_iload_n hx hb hl 2 rfl dX11_binds_21 rfl ?_
  refine x_iald hx hb hE hW (Or.inl (by decide)) (sa_306 h0 g _) (by omega) (by decide) dX11_binds_22 ?_
  refine x_rd hW (fun x6 ex6 rx6 => ?_)
  have bx6 : 0 ≤ x6 ∧ x6 ≤ 7 := by rw [ex6]; exact IMo.b p2 _ (by omega) (by omega)
  refine x_aload_n hx hb hl 1 rfl dX11_binds_23 rfl ?_
  refine x_get (j := 56) (v := .ref (h0 + 306)) hx hb hown hT hE hW cls_X11 (Or.inl (by decide)) (so_268 h0 g _) (by decide) rfl wq1241 dX11_binds_24 ?_
  refine x_iload_n hx hb hl 3 rfl dX11_binds_27 rfl ?_
  refine x_iald hx hb hE hW (Or.inl (by decide)) (sa_306 h0 g _) (by omega) (by decide) dX11_binds_28 ?_
  refine x_rd hW (fun x7 ex7 rx7 => ?_)
  have bx7 : 0 ≤ x7 ∧ x7 ≤ 7 := by rw [ex7]; exact IMo.b p2 _ (by omega) (by omega)
  refine x_goi (x_runS (As := [.int (xJ x6), .int (xJ x7)]) hx hb hml hown hT hE hW hl.1 cf_X11_max wq1677 wq1676 (c_X11_max l D g T h0 s0 hW.2.1 x6 rx6 x7 rx7) ⟨rfl, rfl, ⟨by decide, by decide⟩, ⟨by decide, by decide⟩⟩ rfl rfl (Nat.le_of_ble_eq_true rfl) dX11_binds_29) hW (fun x8 s9 H locs rx8 hp10 hW => ?_)
  obtain ⟨es9, hp10⟩ := hp10
  subst es9
  have ghp10 := hp10
  refine lv_istore (lv' := [(5, .int (xJ x8)), (4, .int (xJ x3)), (0, .ref (h0 + 268)), (1, .int (xJ a)), (2, .int (xJ b)), (3, .int (xJ n))]) hx hb dX11_binds_32 hl (by decide) rfl (fun ls hl => ?_)
  refine x_iconst hx hb dX11_binds_34 ?_
  refine lv_istore (lv' := [(6, .int (xJ 0)), (5, .int (xJ x8)), (4, .int (xJ x3)), (0, .ref (h0 + 268)), (1, .int (xJ a)), (2, .int (xJ b)), (3, .int (xJ n))]) hx hb dX11_binds_35 hl (by decide) rfl (fun ls hl => ?_)
  have L37 : ∀ (fu : Nat) (i6_37 : Int) (s_37 : xS) (H : Heap) (locs : List Loc) (ls : Array Slot), (xR i6_37) → (xFr (fun k => k = 306) s0 s_37) → (IMn s_37) → (IMk s_37) → (IMo s_37) → (s_37 268 8 = s0 268 8) → (s_37 268 58 = s0 268 58) → (0 ≤ i6_37) → (n + 1 - i6_37).toNat < fu → xW D g h0 s H locs s_37 → lv_has ls 7 [(0, .ref (h0 + 268)), (3, .int (xJ n)), (4, .int (xJ x3)), (5, .int (xJ x8)), (6, .int (xJ i6_37))] → W p l e { frames := 1, cells := 0, slots := 0, locals := 21 } s m args below meth c H locs 0 0 Q (F0 m 37 ls []) := by
    intro fu
    induction fu with
    | zero => intro i6_37 s_37 H locs ls ri6_37 hF_37 q37_0 q37_1 q37_2 q37_3 q37_4 v37_0 hm; exact absurd hm (Nat.not_lt_zero _)
    | succ fu ih37 =>
      intro i6_37 s_37 H locs ls ri6_37 hF_37 q37_0 q37_1 q37_2 q37_3 q37_4 v37_0 hm hW hl
      refine x_iload hx hb hl 4 rfl dX11_binds_37 ?_
      refine x_iload_n hx hb hl 1 rfl dX11_binds_39 rfl ?_
      refine x_icmp_ge (tgt := 70) hx hb ri6_37 rn dX11_binds_40 (by decide) (fun c11 => ?_) (fun c11 => ?_)
      · skip
        rw [eQ]
        exact x_vret hx hb hr hlk hW ⟨hF_37, ⟨q37_0, q37_1, q37_2, trivial⟩, trivial⟩ dX11_binds_70
      refine x_aload_n hx hb hl 0 rfl dX11_binds_43 rfl ?_
      refine x_get (j := 56) (v := .ref (h0 + 306)) hx hb hown hT hE hW cls_X11 (Or.inl (by decide)) (so_268 h0 g _) (by decide) rfl wq1241 dX11_binds_44 ?_
      refine x_iload hx hb hl 4 rfl dX11_binds_47 ?_
      refine x_iald hx hb hE hW (Or.inl (by decide)) (sa_306 h0 g _) (by omega) (by decide) dX11_binds_49 ?_
      refine x_rd hW (fun x12 ex12 rx12 => ?_)
      have bx12 : 0 ≤ x12 ∧ x12 ≤ 7 := by rw [ex12]; exact IMo.b q37_2 _ (by omega) (by omega)
      refine x_iload hx hb hl 3 rfl dX11_binds_50 ?_
      refine x_icmp_ne (tgt := 64) hx hb rx12 rx8 dX11_binds_52 (by decide) (fun c13 => ?_) (fun c13 => ?_)
      · skip
        refine x_iinc (lv' := [(6, .int (xJ (i6_37 + 1))), (0, .ref (h0 + 268)), (3, .int (xJ n)), (4, .int (xJ x3)), (5, .int (xJ x8))]) hx hb hl 4 rfl dX11_binds_64 (by decide) rfl (fun ls hl => ?_)
        refine lv_goto (tgt := 37) hx hb dX11_binds_67 (by decide) ?_
        exact ih37 (i6_37 + 1) s_37 H locs ls (by omega) hF_37 q37_0 q37_1 q37_2 q37_3 q37_4 (by omega) (by omega) hW (lv_sub hl [1, 2, 3, 4, 0] rfl)
      refine x_aload_n hx hb hl 0 rfl dX11_binds_55 rfl ?_
      refine x_get (j := 56) (v := .ref (h0 + 306)) hx hb hown hT hE hW cls_X11 (Or.inl (by decide)) (so_268 h0 g _) (by decide) rfl wq1241 dX11_binds_56 ?_
      refine x_iload hx hb hl 4 rfl dX11_binds_59 ?_
      refine x_iload hx hb hl 2 rfl dX11_binds_61 ?_
      refine x_iast hx hb hE hW (by decide) (fun σ => sa_306 h0 g σ) (by omega) (by decide) rx3 dX11_binds_63 (fun H locs s14 es14 hW => ?_)
      have q15 : IMn s14 := by rw [es14]; exact IMn_o (by unfold suIMn; omega) q37_0
      have q16 : IMk s14 := by rw [es14]; exact IMk_o (by unfold suIMk; omega) q37_1
      have q17 : IMo s14 := by rw [es14]; exact IMo_306 q37_2 (by omega)
      have q18 : s14 268 8 = s0 268 8 := (show s14 268 8 = s_37 268 8 from by rw [es14, xU_k _ _ _ (by omega)]).trans q37_3
      have q19 : s14 268 58 = s0 268 58 := (show s14 268 58 = s_37 268 58 from by rw [es14, xU_k _ _ _ (by omega)]).trans q37_4
      have hF20 := hF_37.put es14 (by omega)
      refine x_iinc (lv' := [(6, .int (xJ (i6_37 + 1))), (0, .ref (h0 + 268)), (3, .int (xJ n)), (4, .int (xJ x3)), (5, .int (xJ x8))]) hx hb hl 4 rfl dX11_binds_64 (by decide) rfl (fun ls hl => ?_)
      refine lv_goto (tgt := 37) hx hb dX11_binds_67 (by decide) ?_
      exact ih37 (i6_37 + 1) s14 H locs ls (by omega) hF20 q15 q16 q17 q18 q19 (by omega) (by omega) hW (lv_sub hl [1, 2, 3, 4, 0] rfl)
  exact L37 ((n + 1 - 0 : Int).toNat + 1) 0 s0 H locs ls (by decide) hF p0 p1 p2 k268_8 k268_58 (by omega) (Nat.lt_succ_self _) hW (lv_sub hl [3, 6, 2, 1, 0] rfl)
set_option maxHeartbeats 4000000 in
set_option maxRecDepth 100000 in
theorem c_X11_together (l : Launch) (D : va_G) (g : xG) (T : Nat × Nat × Nat) (h0 : Nat) (s0 : xS) (hσ : xRR s0) (n : Int) (rn : xR n) (x : Int) (rx : xR x) (p0 : IMn s0) (p1 : IMk s0) (p2 : IMo s0) : Met l yX11_together (xws yX11_together cX11_together 8 (some .int)) { frames := 2, cells := 0, slots := 0, locals := 47 } (xP [.ref (h0 + 268), .int (xJ n), .int (xJ x)] D g T h0 s0) (xQi D g h0 (fun r τ => xFr (fun k => k = 268 ∨ k = 306 ∨ k = 307) s0 τ ∧ (((IMn τ) ∧ (IMk τ) ∧ (IMo τ) ∧ (τ 268 58 = s0 268 58) ∧ True) ∧ (((n < 1 ∨ 8 < n ∨ x < 0 ∨ 2 < x ∨ s0 268 8 < 2 * n + 1 ∨ s0 268 8 < 2 * n + 1 + 2 * (s0 276 (2 * n) % 256)) ∧ τ 268 8 = s0 268 8 ∧ r = -1) ∨ (¬ (n < 1 ∨ 8 < n ∨ x < 0 ∨ 2 < x ∨ s0 268 8 < 2 * n + 1 ∨ s0 268 8 < 2 * n + 1 + 2 * (s0 276 (2 * n) % 256)) ∧ τ 268 8 = 0))))) 0 0 (xA h0) := by
  refine x_met hσ (by decide) (Nat.le_of_ble_eq_true rfl) ?_
  intro p e s m args below meth c hx hb hr hml hown hT hlk hnm hE hW ls hl
  have hl : lv_has ls 8 [(0, .ref (h0 + 268)), (1, .int (xJ n)), (2, .int (xJ x))] := hl
  obtain ⟨Q, eQ⟩ : ∃ Q, Q = MQ below (xQi D g h0 (fun r τ => xFr (fun k => k = 268 ∨ k = 306 ∨ k = 307) s0 τ ∧ (((IMn τ) ∧ (IMk τ) ∧ (IMo τ) ∧ (τ 268 58 = s0 268 58) ∧ True) ∧ (((n < 1 ∨ 8 < n ∨ x < 0 ∨ 2 < x ∨ s0 268 8 < 2 * n + 1 ∨ s0 268 8 < 2 * n + 1 + 2 * (s0 276 (2 * n) % 256)) ∧ τ 268 8 = s0 268 8 ∧ r = -1) ∨ (¬ (n < 1 ∨ 8 < n ∨ x < 0 ∨ 2 < x ∨ s0 268 8 < 2 * n + 1 ∨ s0 268 8 < 2 * n + 1 + 2 * (s0 276 (2 * n) % 256)) ∧ τ 268 8 = 0))))) args s 0 0 (xA h0) := ⟨_, rfl⟩
  rw [← eQ]
  generalize hHe : ([] : List Loc) = locs at hW ⊢
  obtain ⟨H, eH⟩ : ∃ H, H = s.heap := ⟨_, rfl⟩
  rw [← eH] at hW ⊢
  have hF : xFr (fun k => k = 268 ∨ k = 306 ∨ k = 307) s0 s0 := xFr.rf
  have k268_58 : s0 268 58 = s0 268 58 := rfl
  have k268_8 : s0 268 8 = s0 268 8 := rfl
  refine x_iload_n hx hb hl 1 rfl dX11_together_0 rfl ?_
  refine x_iconst hx hb dX11_together_1 ?_
  refine x_bipush hx hb dX11_together_2 (by decide) ?_
  refine x_goi (x_runS (As := [.int (xJ n), .int (xJ 1), .int (xJ 8)]) hx hb hml hown hT hE hW hl.1 cf_X11_in wq1383 wq1382 (c_X11_in l D g T h0 s0 hW.2.1 n rn 1 (by decide) 8 (by decide)) ⟨rfl, rfl, ⟨by decide, by decide⟩, ⟨by decide, by decide⟩⟩ rfl rfl (Nat.le_of_ble_eq_true rfl) dX11_together_4) hW (fun x1 s2 H locs rx1 hp3 hW => ?_)
  obtain ⟨es2, hp3⟩ := hp3
  subst es2
  have ghp3 := hp3
  refine x_if_eq (tgt := 31) hx hb rx1 dX11_together_7 (by decide) (fun c4 => ?_) (fun c4 => ?_)
  · skip
    refine x_iconst hx hb dX11_together_31 ?_
    rw [eQ]
    exact x_iret hx hb hr hlk hW (by decide) ⟨hF, ⟨p0, p1, p2, k268_58, trivial⟩, by omega⟩ dX11_together_32
  refine x_iload_n hx hb hl 2 rfl dX11_together_10 rfl ?_
  refine x_iconst hx hb dX11_together_11 ?_
  refine x_iconst hx hb dX11_together_12 ?_
  refine x_goi (x_runS (As := [.int (xJ x), .int (xJ 0), .int (xJ 2)]) hx hb hml hown hT hE hW hl.1 cf_X11_in wq1383 wq1382 (c_X11_in l D g T h0 s0 hW.2.1 x rx 0 (by decide) 2 (by decide)) ⟨rfl, rfl, ⟨by decide, by decide⟩, ⟨by decide, by decide⟩⟩ rfl rfl (Nat.le_of_ble_eq_true rfl) dX11_together_13) hW (fun x5 s6 H locs rx5 hp7 hW => ?_)
  obtain ⟨es6, hp7⟩ := hp7
  subst es6
  have ghp7 := hp7
  refine x_if_eq (tgt := 31) hx hb rx5 dX11_together_16 (by decide) (fun c8 => ?_) (fun c8 => ?_)
  · skip
    refine x_iconst hx hb dX11_together_31 ?_
    rw [eQ]
    exact x_iret hx hb hr hlk hW (by decide) ⟨hF, ⟨p0, p1, p2, k268_58, trivial⟩, by omega⟩ dX11_together_32
  refine x_iconst hx hb dX11_together_19 ?_
  refine x_iload_n hx hb hl 1 rfl dX11_together_20 rfl ?_
  refine x_imul hx hb dX11_together_21 ?_
  refine x_iconst hx hb dX11_together_22 ?_
  refine x_iadd hx hb dX11_together_23 ?_
  refine x_aload_n hx hb hl 0 rfl dX11_together_24 rfl ?_
  refine x_get (j := 8) (v := .int (xJ (s0 268 8))) hx hb hown hT hE hW cls_X11 (Or.inl (by decide)) (so_268 h0 g _) (by decide) rfl wq1193 dX11_together_25 ?_
  refine x_rd hW (fun x9 ex9 rx9 => ?_)
  have bx9 : 0 ≤ x9 ∧ x9 ≤ 260 := by rw [ex9]; exact IMn.t p0
  have fx9 : x9 = s0 268 8 := ex9.trans k268_8
  refine x_icmp_le (tgt := 33) hx hb (by omega) rx9 dX11_together_28 (by decide) (fun c10 => ?_) (fun c10 => ?_)
  · skip
    refine x_aload_n hx hb hl 0 rfl dX11_together_33 rfl ?_
    refine x_get (j := 7) (v := .ref (h0 + 276)) hx hb hown hT hE hW cls_X11 (Or.inl (by decide)) (so_268 h0 g _) (by decide) rfl wq1192 dX11_together_34 ?_
    refine x_iconst hx hb dX11_together_37 ?_
    refine x_iload_n hx hb hl 1 rfl dX11_together_38 rfl ?_
    refine x_imul hx hb dX11_together_39 ?_
    refine x_bald hx hb hE hW (Or.inl (by decide)) (sa_276 h0 g _) (by omega) (by decide) dX11_together_40 ?_
    refine x_rd hW (fun x11 ex11 rx11 => ?_)
    refine x_sipush hx hb dX11_together_41 (by decide) ?_
    refine x_and255 hx hb rx11 dX11_together_44 ?_
    refine x_nm (fun x12 ex12 => ?_)
    refine lv_istore_n (lv' := [(3, .int (xJ x12)), (0, .ref (h0 + 268)), (1, .int (xJ n)), (2, .int (xJ x))]) hx hb dX11_together_45 rfl hl (by decide) rfl (fun ls hl => ?_)
    refine x_iconst hx hb dX11_together_46 ?_
    refine x_iload_n hx hb hl 2 rfl dX11_together_47 rfl ?_
    refine x_imul hx hb dX11_together_48 ?_
    refine x_iconst hx hb dX11_together_49 ?_
    refine x_iadd hx hb dX11_together_50 ?_
    refine x_iconst hx hb dX11_together_51 ?_
    refine x_iload_n hx hb hl 0 rfl dX11_together_52 rfl ?_
    refine x_imul hx hb dX11_together_53 ?_
    refine x_iadd hx hb dX11_together_54 ?_
    refine x_aload_n hx hb hl 1 rfl dX11_together_55 rfl ?_
    refine x_get (j := 8) (v := .int (xJ (s0 268 8))) hx hb hown hT hE hW cls_X11 (Or.inl (by decide)) (so_268 h0 g _) (by decide) rfl wq1193 dX11_together_56 ?_
    refine x_rd hW (fun x13 ex13 rx13 => ?_)
    have bx13 : 0 ≤ x13 ∧ x13 ≤ 260 := by rw [ex13]; exact IMn.t p0
    have fx13 : x13 = s0 268 8 := ex13.trans k268_8
    refine x_icmp_le (tgt := 64) hx hb (by omega) rx13 dX11_together_59 (by decide) (fun c14 => ?_) (fun c14 => ?_)
    · skip
      refine x_aload_n hx hb hl 1 rfl dX11_together_64 rfl ?_
      refine x_iconst hx hb dX11_together_65 ?_
      refine x_put (j := 8) hx hb hown hT hE hW cls_X11 (by decide) (fun σ => so_268 h0 g σ) (by decide) (st_X11_8 h0 s0 268 0) (ln_X11_8 h0 _ _) wq1193 rfl rfl rfl (by decide) dX11_together_66 (fun H locs s15 es15 hW => ?_)
      have q16 : IMn s15 := by rw [es15]; exact IMn_268 p0 (by omega)
      have q17 : IMk s15 := by rw [es15]; exact IMk_268 p1 (by omega)
      have q18 : IMo s15 := by rw [es15]; exact IMo_o (by unfold suIMo; omega) p2
      have q19 : s15 268 58 = s0 268 58 := (show s15 268 58 = s0 268 58 from by rw [es15, xU_j _ _ (by decide)]).trans k268_58
      have q20 : s15 268 8 = 0 := by rw [es15, xU_s]
      have hF21 := hF.put es15 (by omega)
      refine x_iload_n hx hb hl 0 rfl dX11_together_69 rfl ?_
      refine x_bipush hx hb dX11_together_70 (by decide) ?_
      refine x_icmp_le (tgt := 78) hx hb (by omega) (by decide) dX11_together_72 (by decide) (fun c22 => ?_) (fun c22 => ?_)
      · skip
        refine x_iconst hx hb dX11_together_78 ?_
        refine lv_istore (lv' := [(4, .int (xJ 0)), (3, .int (xJ x12)), (0, .ref (h0 + 268)), (1, .int (xJ n)), (2, .int (xJ x))]) hx hb dX11_together_79 hl (by decide) rfl (fun ls hl => ?_)
        have L81 : ∀ (fu : Nat) (i4_81 : Int) (s_81 : xS) (H : Heap) (locs : List Loc) (ls : Array Slot), (xR i4_81) → (xFr (fun k => k = 268 ∨ k = 306 ∨ k = 307) s0 s_81) → (IMn s_81) → (IMk s_81) → (IMo s_81) → (s_81 268 58 = s0 268 58) → (s_81 268 8 = 0) → (0 ≤ i4_81) → (n + 1 - i4_81).toNat < fu → xW D g h0 s H locs s_81 → lv_has ls 8 [(0, .ref (h0 + 268)), (1, .int (xJ n)), (2, .int (xJ x)), (3, .int (xJ x12)), (4, .int (xJ i4_81))] → W p l e { frames := 2, cells := 0, slots := 0, locals := 47 } s m args below meth c H locs 0 0 Q (F0 m 81 ls []) := by
          intro fu
          induction fu with
          | zero => intro i4_81 s_81 H locs ls ri4_81 hF_81 q81_0 q81_1 q81_2 q81_3 q81_4 v81_0 hm; exact absurd hm (Nat.not_lt_zero _)
          | succ fu ih81 =>
            intro i4_81 s_81 H locs ls ri4_81 hF_81 q81_0 q81_1 q81_2 q81_3 q81_4 v81_0 hm hW hl
            refine x_iload hx hb hl 4 rfl dX11_together_81 ?_
            refine x_iload_n hx hb hl 1 rfl dX11_together_83 rfl ?_
            refine x_icmp_ge (tgt := 110) hx hb ri4_81 rn dX11_together_84 (by decide) (fun c23 => ?_) (fun c23 => ?_)
            · skip
              refine x_iconst hx hb dX11_together_110 ?_
              refine lv_istore (lv' := [(4, .int (xJ 0)), (0, .ref (h0 + 268)), (1, .int (xJ n)), (2, .int (xJ x)), (3, .int (xJ x12))]) hx hb dX11_together_111 hl (by decide) rfl (fun ls hl => ?_)
              have L113 : ∀ (fu : Nat) (i4_113 : Int) (H : Heap) (locs : List Loc) (ls : Array Slot), (xR i4_113) → (0 ≤ i4_113 ∧ i4_113 ≤ 24) → (∀ q : Int, 0 ≤ q → q < i4_113 → 0 ≤ s0 276 (2 * n + 1 + q) ∧ s0 276 (2 * n + 1 + q) ≤ n - 1) → (2 * x12 - i4_113).toNat < fu → xW D g h0 s H locs s_81 → lv_has ls 8 [(0, .ref (h0 + 268)), (1, .int (xJ n)), (2, .int (xJ x)), (3, .int (xJ x12)), (4, .int (xJ i4_113))] → W p l e { frames := 2, cells := 0, slots := 0, locals := 47 } s m args below meth c H locs 0 0 Q (F0 m 113 ls []) := by
                intro fu
                induction fu with
                | zero => intro i4_113 H locs ls ri4_113 v113_0 v113_1 hm; exact absurd hm (Nat.not_lt_zero _)
                | succ fu ih113 =>
                  intro i4_113 H locs ls ri4_113 v113_0 v113_1 hm hW hl
                  refine x_iload hx hb hl 4 rfl dX11_together_113 ?_
                  refine x_iconst hx hb dX11_together_115 ?_
                  refine x_iload_n hx hb hl 3 rfl dX11_together_116 rfl ?_
                  refine x_imul hx hb dX11_together_117 ?_
                  refine x_icmp_ge (tgt := 153) hx hb ri4_113 (by omega) dX11_together_118 (by decide) (fun c24 => ?_) (fun c24 => ?_)
                  · skip
                    refine x_iconst hx hb dX11_together_153 ?_
                    refine lv_istore (lv' := [(4, .int (xJ 0)), (0, .ref (h0 + 268)), (1, .int (xJ n)), (2, .int (xJ x)), (3, .int (xJ x12))]) hx hb dX11_together_154 hl (by decide) rfl (fun ls hl => ?_)
                    have L156 : ∀ (fu : Nat) (i4_156 : Int) (s_156 : xS) (H : Heap) (locs : List Loc) (ls : Array Slot), (xR i4_156) → (xFr (fun k => k = 268 ∨ k = 306 ∨ k = 307) s0 s_156) → (IMn s_156) → (IMk s_156) → (IMo s_156) → (s_156 268 58 = s0 268 58) → (s_156 268 8 = 0) → (0 ≤ i4_156) → (x12 + 1 - i4_156).toNat < fu → xW D g h0 s H locs s_156 → lv_has ls 8 [(0, .ref (h0 + 268)), (1, .int (xJ n)), (2, .int (xJ x)), (3, .int (xJ x12)), (4, .int (xJ i4_156))] → W p l e { frames := 2, cells := 0, slots := 0, locals := 47 } s m args below meth c H locs 0 0 Q (F0 m 156 ls []) := by
                      intro fu
                      induction fu with
                      | zero => intro i4_156 s_156 H locs ls ri4_156 hF_156 q156_0 q156_1 q156_2 q156_3 q156_4 v156_0 hm; exact absurd hm (Nat.not_lt_zero _)
                      | succ fu ih156 =>
                        intro i4_156 s_156 H locs ls ri4_156 hF_156 q156_0 q156_1 q156_2 q156_3 q156_4 v156_0 hm hW hl
                        refine x_iload hx hb hl 4 rfl dX11_together_156 ?_
                        refine x_iload_n hx hb hl 3 rfl dX11_together_158 rfl ?_
                        refine x_icmp_ge (tgt := 203) hx hb ri4_156 (by omega) dX11_together_159 (by decide) (fun c25 => ?_) (fun c25 => ?_)
                        · skip
                          refine x_iconst hx hb dX11_together_203 ?_
                          refine lv_istore (lv' := [(4, .int (xJ 0)), (0, .ref (h0 + 268)), (1, .int (xJ n)), (2, .int (xJ x)), (3, .int (xJ x12))]) hx hb dX11_together_204 hl (by decide) rfl (fun ls hl => ?_)
                          have L206 : ∀ (fu : Nat) (i4_206 : Int) (s_206 : xS) (H : Heap) (locs : List Loc) (ls : Array Slot), (xR i4_206) → (xFr (fun k => k = 268 ∨ k = 306 ∨ k = 307) s0 s_206) → (IMn s_206) → (IMk s_206) → (IMo s_206) → (s_206 268 58 = s0 268 58) → (s_206 268 8 = 0) → (0 ≤ i4_206) → (n + 1 - i4_206).toNat < fu → xW D g h0 s H locs s_206 → lv_has ls 8 [(0, .ref (h0 + 268)), (1, .int (xJ n)), (2, .int (xJ x)), (4, .int (xJ i4_206))] → W p l e { frames := 2, cells := 0, slots := 0, locals := 47 } s m args below meth c H locs 0 0 Q (F0 m 206 ls []) := by
                            intro fu
                            induction fu with
                            | zero => intro i4_206 s_206 H locs ls ri4_206 hF_206 q206_0 q206_1 q206_2 q206_3 q206_4 v206_0 hm; exact absurd hm (Nat.not_lt_zero _)
                            | succ fu ih206 =>
                              intro i4_206 s_206 H locs ls ri4_206 hF_206 q206_0 q206_1 q206_2 q206_3 q206_4 v206_0 hm hW hl
                              refine x_iload hx hb hl 3 rfl dX11_together_206 ?_
                              refine x_iload_n hx hb hl 1 rfl dX11_together_208 rfl ?_
                              refine x_icmp_ge (tgt := 278) hx hb ri4_206 rn dX11_together_209 (by decide) (fun c26 => ?_) (fun c26 => ?_)
                              · skip
                                refine x_iconst hx hb dX11_together_278 ?_
                                refine lv_istore (lv' := [(4, .int (xJ 0)), (0, .ref (h0 + 268)), (1, .int (xJ n)), (2, .int (xJ x))]) hx hb dX11_together_279 hl (by decide) rfl (fun ls hl => ?_)
                                refine x_iconst hx hb dX11_together_281 ?_
                                refine lv_istore (lv' := [(5, .int (xJ 0)), (4, .int (xJ 0)), (0, .ref (h0 + 268)), (1, .int (xJ n)), (2, .int (xJ x))]) hx hb dX11_together_282 hl (by decide) rfl (fun ls hl => ?_)
                                refine x_iconst hx hb dX11_together_284 ?_
                                refine lv_istore (lv' := [(6, .int (xJ 0)), (5, .int (xJ 0)), (4, .int (xJ 0)), (0, .ref (h0 + 268)), (1, .int (xJ n)), (2, .int (xJ x))]) hx hb dX11_together_285 hl (by decide) rfl (fun ls hl => ?_)
                                refine x_iconst hx hb dX11_together_287 ?_
                                refine lv_istore (lv' := [(7, .int (xJ 0)), (6, .int (xJ 0)), (5, .int (xJ 0)), (4, .int (xJ 0)), (0, .ref (h0 + 268)), (1, .int (xJ n)), (2, .int (xJ x))]) hx hb dX11_together_288 hl (by decide) rfl (fun ls hl => ?_)
                                have L290 : ∀ (fu : Nat) (i4_290 : Int) (i5_290 : Int) (i6_290 : Int) (i7_290 : Int) (H : Heap) (locs : List Loc) (ls : Array Slot), (xR i4_290) → (xR i5_290) → (xR i6_290) → (xR i7_290) → (0 ≤ i7_290) → (n + 1 - i7_290).toNat < fu → xW D g h0 s H locs s_206 → lv_has ls 8 [(0, .ref (h0 + 268)), (1, .int (xJ n)), (2, .int (xJ x)), (4, .int (xJ i4_290)), (5, .int (xJ i5_290)), (6, .int (xJ i6_290)), (7, .int (xJ i7_290))] → W p l e { frames := 2, cells := 0, slots := 0, locals := 47 } s m args below meth c H locs 0 0 Q (F0 m 290 ls []) := by
                                  intro fu
                                  induction fu with
                                  | zero => intro i4_290 i5_290 i6_290 i7_290 H locs ls ri4_290 ri5_290 ri6_290 ri7_290 v290_0 hm; exact absurd hm (Nat.not_lt_zero _)
                                  | succ fu ih290 =>
                                    intro i4_290 i5_290 i6_290 i7_290 H locs ls ri4_290 ri5_290 ri6_290 ri7_290 v290_0 hm hW hl
                                    refine x_iload hx hb hl 6 rfl dX11_together_290 ?_
                                    refine x_iload_n hx hb hl 1 rfl dX11_together_292 rfl ?_
                                    refine x_icmp_ge (tgt := 346) hx hb ri7_290 rn dX11_together_293 (by decide) (fun c27 => ?_) (fun c27 => ?_)
                                    · skip
                                      refine x_iload_n hx hb hl 2 rfl dX11_together_346 rfl ?_
                                      refine x_if_ne (tgt := 355) hx hb rx dX11_together_347 (by decide) (fun c28 => ?_) (fun c28 => ?_)
                                      · skip
                                        refine x_iload_n hx hb hl 2 rfl dX11_together_355 rfl ?_
                                        refine x_iconst hx hb dX11_together_356 ?_
                                        refine x_icmp_ne (tgt := 365) hx hb rx (by decide) dX11_together_357 (by decide) (fun c29 => ?_) (fun c29 => ?_)
                                        · skip
                                          refine x_iload hx hb hl 5 rfl dX11_together_365 ?_
                                          rw [eQ]
                                          exact x_iret hx hb hr hlk hW ri6_290 ⟨hF_206, ⟨q206_0, q206_1, q206_2, q206_3, trivial⟩, by omega⟩ dX11_together_367
                                        refine x_iload hx hb hl 4 rfl dX11_together_360 ?_
                                        refine lv_goto (tgt := 367) hx hb dX11_together_362 (by decide) ?_
                                        rw [eQ]
                                        exact x_iret hx hb hr hlk hW ri5_290 ⟨hF_206, ⟨q206_0, q206_1, q206_2, q206_3, trivial⟩, by omega⟩ dX11_together_367
                                      refine x_iload hx hb hl 3 rfl dX11_together_350 ?_
                                      refine lv_goto (tgt := 367) hx hb dX11_together_352 (by decide) ?_
                                      rw [eQ]
                                      exact x_iret hx hb hr hlk hW ri4_290 ⟨hF_206, ⟨q206_0, q206_1, q206_2, q206_3, trivial⟩, by omega⟩ dX11_together_367
                                    refine x_aload_n hx hb hl 0 rfl dX11_together_296 rfl ?_
                                    refine x_get (j := 56) (v := .ref (h0 + 306)) hx hb hown hT hE hW cls_X11 (Or.inl (by decide)) (so_268 h0 g _) (by decide) rfl wq1241 dX11_together_297 ?_
                                    refine x_iload hx hb hl 6 rfl dX11_together_300 ?_
                                    refine x_iald hx hb hE hW (Or.inl (by decide)) (sa_306 h0 g _) (by omega) (by decide) dX11_together_302 ?_
                                    refine x_rd hW (fun x30 ex30 rx30 => ?_)
                                    have bx30 : 0 ≤ x30 ∧ x30 ≤ 7 := by rw [ex30]; exact IMo.b q206_2 _ (by omega) (by omega)
                                    refine x_iload hx hb hl 6 rfl dX11_together_303 ?_
                                    have J314 : ∀ (i5_314 : Int) (ls : Array Slot), (xR i5_314) → lv_has ls 8 [(0, .ref (h0 + 268)), (1, .int (xJ n)), (2, .int (xJ x)), (4, .int (xJ i4_290)), (5, .int (xJ i5_314)), (6, .int (xJ i6_290)), (7, .int (xJ i7_290))] → W p l e { frames := 2, cells := 0, slots := 0, locals := 47 } s m args below meth c H locs 0 0 Q (F0 m 314 ls []) := by
                                      intro i5_314 ls ri5_314  hl
                                      refine x_iload hx hb hl 3 rfl dX11_together_314 ?_
                                      refine x_aload_n hx hb hl 0 rfl dX11_together_316 rfl ?_
                                      refine x_get (j := 57) (v := .ref (h0 + 307)) hx hb hown hT hE hW cls_X11 (Or.inl (by decide)) (so_268 h0 g _) (by decide) rfl wq1242 dX11_together_317 ?_
                                      refine x_iload hx hb hl 6 rfl dX11_together_320 ?_
                                      refine x_iald hx hb hE hW (Or.inl (by decide)) (sa_307 h0 g _) (by omega) (by decide) dX11_together_322 ?_
                                      refine x_rd hW (fun x31 ex31 rx31 => ?_)
                                      refine x_iadd hx hb dX11_together_323 ?_
                                      refine x_any (fun x32 rx32 => ?_)
                                      refine lv_istore (lv' := [(4, .int (xJ x32)), (0, .ref (h0 + 268)), (1, .int (xJ n)), (2, .int (xJ x)), (5, .int (xJ i5_314)), (6, .int (xJ i6_290)), (7, .int (xJ i7_290))]) hx hb dX11_together_324 hl (by decide) rfl (fun ls hl => ?_)
                                      refine x_iload hx hb hl 5 rfl dX11_together_326 ?_
                                      refine x_aload_n hx hb hl 1 rfl dX11_together_328 rfl ?_
                                      refine x_get (j := 57) (v := .ref (h0 + 307)) hx hb hown hT hE hW cls_X11 (Or.inl (by decide)) (so_268 h0 g _) (by decide) rfl wq1242 dX11_together_329 ?_
                                      refine x_iload hx hb hl 6 rfl dX11_together_332 ?_
                                      refine x_iald hx hb hE hW (Or.inl (by decide)) (sa_307 h0 g _) (by omega) (by decide) dX11_together_334 ?_
                                      refine x_rd hW (fun x33 ex33 rx33 => ?_)
                                      refine x_goi (x_runS (As := [.int (xJ i6_290), .int (xJ x33)]) hx hb hml hown hT hE hW hl.1 cf_X11_max wq1677 wq1676 (c_X11_max l D g T h0 s_206 hW.2.1 i6_290 ri6_290 x33 rx33) ⟨rfl, rfl, ⟨by decide, by decide⟩, ⟨by decide, by decide⟩⟩ rfl rfl (Nat.le_of_ble_eq_true rfl) dX11_together_335) hW (fun x34 s35 H locs rx34 hp36 hW => ?_)
                                      obtain ⟨es35, hp36⟩ := hp36
                                      subst es35
                                      have ghp36 := hp36
                                      refine lv_istore (lv' := [(6, .int (xJ x34)), (4, .int (xJ x32)), (0, .ref (h0 + 268)), (1, .int (xJ n)), (2, .int (xJ x)), (5, .int (xJ i5_314)), (7, .int (xJ i7_290))]) hx hb dX11_together_338 hl (by decide) rfl (fun ls hl => ?_)
                                      refine x_iinc (lv' := [(7, .int (xJ (i7_290 + 1))), (6, .int (xJ x34)), (4, .int (xJ x32)), (0, .ref (h0 + 268)), (1, .int (xJ n)), (2, .int (xJ x)), (5, .int (xJ i5_314))]) hx hb hl 6 rfl dX11_together_340 (by decide) rfl (fun ls hl => ?_)
                                      refine lv_goto (tgt := 290) hx hb dX11_together_343 (by decide) ?_
                                      exact ih290 x32 i5_314 x34 (i7_290 + 1) H locs ls rx32 ri5_314 rx34 (by omega) (by omega) (by omega) hW (lv_sub hl [3, 4, 5, 2, 6, 1, 0] rfl)
                                    refine x_icmp_ne (tgt := 314) hx hb rx30 ri7_290 dX11_together_305 (by decide) (fun c37 => ?_) (fun c37 => ?_)
                                    · skip
                                      exact J314 i5_290 ls ri5_290  (lv_sub hl [0, 1, 2, 3, 4, 5, 6] rfl)
                                    refine x_iload hx hb hl 4 rfl dX11_together_308 ?_
                                    refine x_iconst hx hb dX11_together_310 ?_
                                    refine x_iadd hx hb dX11_together_311 ?_
                                    refine x_any (fun x38 rx38 => ?_)
                                    refine lv_istore (lv' := [(5, .int (xJ x38)), (0, .ref (h0 + 268)), (1, .int (xJ n)), (2, .int (xJ x)), (4, .int (xJ i4_290)), (6, .int (xJ i6_290)), (7, .int (xJ i7_290))]) hx hb dX11_together_312 hl (by decide) rfl (fun ls hl => ?_)
                                    exact J314 x38 ls rx38  (lv_sub hl [1, 2, 3, 4, 0, 5, 6] rfl)
                                exact L290 ((n + 1 - 0 : Int).toNat + 1) 0 0 0 0 H locs ls (by decide) (by decide) (by decide) (by decide) (by omega) (Nat.lt_succ_self _) hW (lv_sub hl [4, 5, 6, 3, 2, 1, 0] rfl)
                              refine x_aload_n hx hb hl 0 rfl dX11_together_212 rfl ?_
                              refine x_get (j := 57) (v := .ref (h0 + 307)) hx hb hown hT hE hW cls_X11 (Or.inl (by decide)) (so_268 h0 g _) (by decide) rfl wq1242 dX11_together_213 ?_
                              refine x_aload_n hx hb hl 0 rfl dX11_together_216 rfl ?_
                              refine x_get (j := 56) (v := .ref (h0 + 306)) hx hb hown hT hE hW cls_X11 (Or.inl (by decide)) (so_268 h0 g _) (by decide) rfl wq1241 dX11_together_217 ?_
                              refine x_iload hx hb hl 3 rfl dX11_together_220 ?_
                              refine x_iald hx hb hE hW (Or.inl (by decide)) (sa_306 h0 g _) (by omega) (by decide) dX11_together_222 ?_
                              refine x_rd hW (fun x39 ex39 rx39 => ?_)
                              have bx39 : 0 ≤ x39 ∧ x39 ≤ 7 := by rw [ex39]; exact IMo.b q206_2 _ (by omega) (by omega)
                              refine x_aload_n hx hb hl 0 rfl dX11_together_223 rfl ?_
                              refine x_get (j := 57) (v := .ref (h0 + 307)) hx hb hown hT hE hW cls_X11 (Or.inl (by decide)) (so_268 h0 g _) (by decide) rfl wq1242 dX11_together_224 ?_
                              refine x_aload_n hx hb hl 0 rfl dX11_together_227 rfl ?_
                              refine x_get (j := 56) (v := .ref (h0 + 306)) hx hb hown hT hE hW cls_X11 (Or.inl (by decide)) (so_268 h0 g _) (by decide) rfl wq1241 dX11_together_228 ?_
                              refine x_iload hx hb hl 3 rfl dX11_together_231 ?_
                              refine x_iald hx hb hE hW (Or.inl (by decide)) (sa_306 h0 g _) (by omega) (by decide) dX11_together_233 ?_
                              refine x_rd hW (fun x40 ex40 rx40 => ?_)
                              have bx40 : 0 ≤ x40 ∧ x40 ≤ 7 := by rw [ex40]; exact IMo.b q206_2 _ (by omega) (by omega)
                              refine x_iald hx hb hE hW (Or.inl (by decide)) (sa_307 h0 g _) (by omega) (by decide) dX11_together_234 ?_
                              refine x_rd hW (fun x41 ex41 rx41 => ?_)
                              refine x_aload_n hx hb hl 0 rfl dX11_together_235 rfl ?_
                              refine x_get (j := 7) (v := .ref (h0 + 276)) hx hb hown hT hE hW cls_X11 (Or.inl (by decide)) (so_268 h0 g _) (by decide) rfl wq1192 dX11_together_236 ?_
                              refine x_iconst hx hb dX11_together_239 ?_
                              refine x_iload hx hb hl 3 rfl dX11_together_240 ?_
                              refine x_imul hx hb dX11_together_242 ?_
                              refine x_bald hx hb hE hW (Or.inl (by decide)) (sa_276 h0 g _) (by omega) (by decide) dX11_together_243 ?_
                              refine x_rd hW (fun x42 ex42 rx42 => ?_)
                              refine x_sipush hx hb dX11_together_244 (by decide) ?_
                              refine x_and255 hx hb rx42 dX11_together_247 ?_
                              refine x_nm (fun x43 ex43 => ?_)
                              refine x_sipush hx hb dX11_together_248 (by decide) ?_
                              refine x_imul hx hb dX11_together_251 ?_
                              refine x_aload_n hx hb hl 0 rfl dX11_together_252 rfl ?_
                              refine x_get (j := 7) (v := .ref (h0 + 276)) hx hb hown hT hE hW cls_X11 (Or.inl (by decide)) (so_268 h0 g _) (by decide) rfl wq1192 dX11_together_253 ?_
                              refine x_iconst hx hb dX11_together_256 ?_
                              refine x_iload hx hb hl 3 rfl dX11_together_257 ?_
                              refine x_imul hx hb dX11_together_259 ?_
                              refine x_iconst hx hb dX11_together_260 ?_
                              refine x_iadd hx hb dX11_together_261 ?_
                              refine x_bald hx hb hE hW (Or.inl (by decide)) (sa_276 h0 g _) (by omega) (by decide) dX11_together_262 ?_
                              refine x_rd hW (fun x44 ex44 rx44 => ?_)
                              refine x_sipush hx hb dX11_together_263 (by decide) ?_
                              refine x_and255 hx hb rx44 dX11_together_266 ?_
                              refine x_nm (fun x45 ex45 => ?_)
                              refine x_iadd hx hb dX11_together_267 ?_
                              refine x_goi (x_runS (As := [.int (xJ x41), .int (xJ ((x43 * 256) + x45))]) hx hb hml hown hT hE hW hl.1 cf_X11_max wq1677 wq1676 (c_X11_max l D g T h0 s_206 hW.2.1 x41 rx41 ((x43 * 256) + x45) (by omega)) ⟨rfl, rfl, ⟨by decide, by decide⟩, ⟨by decide, by decide⟩⟩ rfl rfl (Nat.le_of_ble_eq_true rfl) dX11_together_268) hW (fun x46 s47 H locs rx46 hp48 hW => ?_)
                              obtain ⟨es47, hp48⟩ := hp48
                              subst es47
                              have ghp48 := hp48
                              refine x_iast hx hb hE hW (by decide) (fun σ => sa_307 h0 g σ) (by omega) (by decide) rx46 dX11_together_271 (fun H locs s49 es49 hW => ?_)
                              have q50 : IMn s49 := by rw [es49]; exact IMn_o (by unfold suIMn; omega) q206_0
                              have q51 : IMk s49 := by rw [es49]; exact IMk_o (by unfold suIMk; omega) q206_1
                              have q52 : IMo s49 := by rw [es49]; exact IMo_o (by unfold suIMo; omega) q206_2
                              have q53 : s49 268 58 = s0 268 58 := (show s49 268 58 = s_206 268 58 from by rw [es49, xU_k _ _ _ (by omega)]).trans q206_3
                              have q54 : s49 268 8 = 0 := (show s49 268 8 = s_206 268 8 from by rw [es49, xU_k _ _ _ (by omega)]).trans q206_4
                              have hF55 := hF_206.put es49 (by omega)
                              refine x_iinc (lv' := [(4, .int (xJ (i4_206 + 1))), (0, .ref (h0 + 268)), (1, .int (xJ n)), (2, .int (xJ x))]) hx hb hl 3 rfl dX11_together_272 (by decide) rfl (fun ls hl => ?_)
                              refine lv_goto (tgt := 206) hx hb dX11_together_275 (by decide) ?_
                              exact ih206 (i4_206 + 1) s49 H locs ls (by omega) hF55 q50 q51 q52 q53 q54 (by omega) (by omega) hW (lv_sub hl [1, 2, 3, 0] rfl)
                          exact L206 ((n + 1 - 0 : Int).toNat + 1) 0 s_156 H locs ls (by decide) hF_156 q156_0 q156_1 q156_2 q156_3 q156_4 (by omega) (Nat.lt_succ_self _) hW (lv_sub hl [1, 2, 3, 0] rfl)
                        refine x_aload_n hx hb hl 0 rfl dX11_together_162 rfl ?_
                        refine x_aload_n hx hb hl 0 rfl dX11_together_163 rfl ?_
                        refine x_get (j := 7) (v := .ref (h0 + 276)) hx hb hown hT hE hW cls_X11 (Or.inl (by decide)) (so_268 h0 g _) (by decide) rfl wq1192 dX11_together_164 ?_
                        refine x_iconst hx hb dX11_together_167 ?_
                        refine x_iload_n hx hb hl 1 rfl dX11_together_168 rfl ?_
                        refine x_imul hx hb dX11_together_169 ?_
                        refine x_iconst hx hb dX11_together_170 ?_
                        refine x_iadd hx hb dX11_together_171 ?_
                        refine x_iconst hx hb dX11_together_172 ?_
                        refine x_iload hx hb hl 4 rfl dX11_together_173 ?_
                        refine x_imul hx hb dX11_together_175 ?_
                        refine x_iadd hx hb dX11_together_176 ?_
                        refine x_bald hx hb hE hW (Or.inl (by decide)) (sa_276 h0 g _) (by omega) (by decide) dX11_together_177 ?_
                        refine x_rd hW (fun x56 ex56 rx56 => ?_)
                        have ux56 : (2 * n + 1 + ((((2 * n) + 1) + (2 * i4_156)) - (2 * n + 1))) = (((2 * n) + 1) + (2 * i4_156)) := by omega
                        have wx56 := v113_1 ((((2 * n) + 1) + (2 * i4_156)) - (2 * n + 1)) (by omega) (by omega)
                        rw [ux56, ← hF_156 276 (by omega), ← ex56] at wx56
                        have tx56 : 0 ≤ x56 ∧ x56 ≤ 7 := by omega
                        refine x_aload_n hx hb hl 0 rfl dX11_together_178 rfl ?_
                        refine x_get (j := 7) (v := .ref (h0 + 276)) hx hb hown hT hE hW cls_X11 (Or.inl (by decide)) (so_268 h0 g _) (by decide) rfl wq1192 dX11_together_179 ?_
                        refine x_iconst hx hb dX11_together_182 ?_
                        refine x_iload_n hx hb hl 1 rfl dX11_together_183 rfl ?_
                        refine x_imul hx hb dX11_together_184 ?_
                        refine x_iconst hx hb dX11_together_185 ?_
                        refine x_iadd hx hb dX11_together_186 ?_
                        refine x_iconst hx hb dX11_together_187 ?_
                        refine x_iload hx hb hl 4 rfl dX11_together_188 ?_
                        refine x_imul hx hb dX11_together_190 ?_
                        refine x_iadd hx hb dX11_together_191 ?_
                        refine x_bald hx hb hE hW (Or.inl (by decide)) (sa_276 h0 g _) (by omega) (by decide) dX11_together_192 ?_
                        refine x_rd hW (fun x57 ex57 rx57 => ?_)
                        have ux57 : (2 * n + 1 + ((((2 * n) + 2) + (2 * i4_156)) - (2 * n + 1))) = (((2 * n) + 2) + (2 * i4_156)) := by omega
                        have wx57 := v113_1 ((((2 * n) + 2) + (2 * i4_156)) - (2 * n + 1)) (by omega) (by omega)
                        rw [ux57, ← hF_156 276 (by omega), ← ex57] at wx57
                        have tx57 : 0 ≤ x57 ∧ x57 ≤ 7 := by omega
                        refine x_iload_n hx hb hl 1 rfl dX11_together_193 rfl ?_
                        refine x_gov (x_runV (As := [.int (xJ x56), .int (xJ x57), .int (xJ n)]) hx hb hml hown hT hE hW hl.1 (Or.inl (by decide)) (so_268 h0 g _) rfl cf_X11_binds wq1748 wq163 wq1746 (c_X11_binds l D g T h0 s_156 hW.2.1 x56 rx56 x57 rx57 n rn (by omega) q156_0 q156_1 q156_2) ⟨rfl, rfl, ⟨by decide, by decide⟩, ⟨by decide, by decide⟩⟩ rfl rfl (Nat.le_of_ble_eq_true rfl) dX11_together_194) hW (fun s59 H locs hp60 hW => ?_)
                        obtain ⟨fs59, hp60⟩ := hp60
                        have hF61 := hF_156.call fs59 (fun k h => by omega)
                        have q62 : s59 268 58 = s0 268 58 := (congrFun (fs59 _ (by omega)) _).trans q156_3
                        have q63 : s59 268 8 = 0 := (congrFun (fs59 _ (by omega)) _).trans q156_4
                        have ghp60 := hp60.2
                        refine x_iinc (lv' := [(4, .int (xJ (i4_156 + 1))), (0, .ref (h0 + 268)), (1, .int (xJ n)), (2, .int (xJ x)), (3, .int (xJ x12))]) hx hb hl 4 rfl dX11_together_197 (by decide) rfl (fun ls hl => ?_)
                        refine lv_goto (tgt := 156) hx hb dX11_together_200 (by decide) ?_
                        exact ih156 (i4_156 + 1) s59 H locs ls (by omega) hF61 hp60.1.1 hp60.1.2.1 hp60.1.2.2.1 q62 q63 (by omega) (by omega) hW (lv_sub hl [1, 2, 3, 4, 0] rfl)
                    exact L156 ((x12 + 1 - 0 : Int).toNat + 1) 0 s_81 H locs ls (by decide) hF_81 q81_0 q81_1 q81_2 q81_3 q81_4 (by omega) (Nat.lt_succ_self _) hW (lv_sub hl [1, 2, 3, 4, 0] rfl)
                  refine x_aload_n hx hb hl 0 rfl dX11_together_121 rfl ?_
                  refine x_get (j := 7) (v := .ref (h0 + 276)) hx hb hown hT hE hW cls_X11 (Or.inl (by decide)) (so_268 h0 g _) (by decide) rfl wq1192 dX11_together_122 ?_
                  refine x_iconst hx hb dX11_together_125 ?_
                  refine x_iload_n hx hb hl 1 rfl dX11_together_126 rfl ?_
                  refine x_imul hx hb dX11_together_127 ?_
                  refine x_iconst hx hb dX11_together_128 ?_
                  refine x_iadd hx hb dX11_together_129 ?_
                  refine x_iload hx hb hl 4 rfl dX11_together_130 ?_
                  refine x_iadd hx hb dX11_together_132 ?_
                  refine x_bald hx hb hE hW (Or.inl (by decide)) (sa_276 h0 g _) (by omega) (by decide) dX11_together_133 ?_
                  refine x_rd hW (fun x64 ex64 rx64 => ?_)
                  refine x_iconst hx hb dX11_together_134 ?_
                  refine x_iload_n hx hb hl 1 rfl dX11_together_135 rfl ?_
                  refine x_iconst hx hb dX11_together_136 ?_
                  refine x_isub hx hb dX11_together_137 ?_
                  refine x_goi (x_runS (As := [.int (xJ x64), .int (xJ 0), .int (xJ (n - 1))]) hx hb hml hown hT hE hW hl.1 cf_X11_in wq1383 wq1382 (c_X11_in l D g T h0 s_81 hW.2.1 x64 rx64 0 (by decide) (n - 1) (by omega)) ⟨rfl, rfl, ⟨by decide, by decide⟩, ⟨by decide, by decide⟩⟩ rfl rfl (Nat.le_of_ble_eq_true rfl) dX11_together_138) hW (fun x65 s66 H locs rx65 hp67 hW => ?_)
                  obtain ⟨es66, hp67⟩ := hp67
                  subst es66
                  have ghp67 := hp67
                  refine x_if_ne (tgt := 147) hx hb rx65 dX11_together_141 (by decide) (fun c68 => ?_) (fun c68 => ?_)
                  · skip
                    refine x_iinc (lv' := [(4, .int (xJ (i4_113 + 1))), (0, .ref (h0 + 268)), (1, .int (xJ n)), (2, .int (xJ x)), (3, .int (xJ x12))]) hx hb hl 4 rfl dX11_together_147 (by decide) rfl (fun ls hl => ?_)
                    refine lv_goto (tgt := 113) hx hb dX11_together_150 (by decide) ?_
                    exact ih113 (i4_113 + 1) H locs ls (by omega) (by omega) (fun q h1 h2 => (Classical.em (q < (i4_113 + 1) - 1)).elim (fun hq => v113_1 q h1 (by omega)) (fun hq => by rw [show q = i4_113 from by omega, ← hF_81 276 (by omega)]; omega)) (by omega) hW (lv_sub hl [1, 2, 3, 4, 0] rfl)
                  refine x_bipush hx hb dX11_together_144 (by decide) ?_
                  rw [eQ]
                  exact x_iret hx hb hr hlk hW (by decide) ⟨hF_81, ⟨q81_0, q81_1, q81_2, q81_3, trivial⟩, by omega⟩ dX11_together_146
              exact L113 ((2 * x12 - 0 : Int).toNat + 1) 0 H locs ls (by decide) (by omega) (fun q h1 h2 => False.elim (by omega)) (Nat.lt_succ_self _) hW (lv_sub hl [1, 2, 3, 4, 0] rfl)
            refine x_aload_n hx hb hl 0 rfl dX11_together_87 rfl ?_
            refine x_get (j := 56) (v := .ref (h0 + 306)) hx hb hown hT hE hW cls_X11 (Or.inl (by decide)) (so_268 h0 g _) (by decide) rfl wq1241 dX11_together_88 ?_
            refine x_iload hx hb hl 4 rfl dX11_together_91 ?_
            refine x_iload hx hb hl 4 rfl dX11_together_93 ?_
            refine x_iast hx hb hE hW (by decide) (fun σ => sa_306 h0 g σ) (by omega) (by decide) ri4_81 dX11_together_95 (fun H locs s69 es69 hW => ?_)
            have q70 : IMn s69 := by rw [es69]; exact IMn_o (by unfold suIMn; omega) q81_0
            have q71 : IMk s69 := by rw [es69]; exact IMk_o (by unfold suIMk; omega) q81_1
            have q72 : IMo s69 := by rw [es69]; exact IMo_306 q81_2 (by omega)
            have q73 : s69 268 58 = s0 268 58 := (show s69 268 58 = s_81 268 58 from by rw [es69, xU_k _ _ _ (by omega)]).trans q81_3
            have q74 : s69 268 8 = 0 := (show s69 268 8 = s_81 268 8 from by rw [es69, xU_k _ _ _ (by omega)]).trans q81_4
            have hF75 := hF_81.put es69 (by omega)
            refine x_aload_n hx hb hl 0 rfl dX11_together_96 rfl ?_
            refine x_get (j := 57) (v := .ref (h0 + 307)) hx hb hown hT hE hW cls_X11 (Or.inl (by decide)) (so_268 h0 g _) (by decide) rfl wq1242 dX11_together_97 ?_
            refine x_iload hx hb hl 4 rfl dX11_together_100 ?_
            refine x_iconst hx hb dX11_together_102 ?_
            refine x_iast hx hb hE hW (by decide) (fun σ => sa_307 h0 g σ) (by omega) (by decide) (by decide) dX11_together_103 (fun H locs s76 es76 hW => ?_)
            have q77 : IMn s76 := by rw [es76]; exact IMn_o (by unfold suIMn; omega) q70
            have q78 : IMk s76 := by rw [es76]; exact IMk_o (by unfold suIMk; omega) q71
            have q79 : IMo s76 := by rw [es76]; exact IMo_o (by unfold suIMo; omega) q72
            have q80 : s76 268 58 = s0 268 58 := (show s76 268 58 = s69 268 58 from by rw [es76, xU_k _ _ _ (by omega)]).trans q73
            have q81 : s76 268 8 = 0 := (show s76 268 8 = s69 268 8 from by rw [es76, xU_k _ _ _ (by omega)]).trans q74
            have hF82 := hF75.put es76 (by omega)
            refine x_iinc (lv' := [(4, .int (xJ (i4_81 + 1))), (0, .ref (h0 + 268)), (1, .int (xJ n)), (2, .int (xJ x)), (3, .int (xJ x12))]) hx hb hl 4 rfl dX11_together_104 (by decide) rfl (fun ls hl => ?_)
            refine lv_goto (tgt := 81) hx hb dX11_together_107 (by decide) ?_
            exact ih81 (i4_81 + 1) s76 H locs ls (by omega) hF82 q77 q78 q79 q80 q81 (by omega) (by omega) hW (lv_sub hl [1, 2, 3, 4, 0] rfl)
        exact L81 ((n + 1 - 0 : Int).toNat + 1) 0 s15 H locs ls (by decide) hF21 q16 q17 q18 q19 q20 (by omega) (Nat.lt_succ_self _) hW (lv_sub hl [2, 3, 4, 1, 0] rfl)
      refine x_bipush hx hb dX11_together_75 (by decide) ?_
      rw [eQ]
      exact x_iret hx hb hr hlk hW (by decide) ⟨hF21, ⟨q16, q17, q18, q19, trivial⟩, by omega⟩ dX11_together_77
    refine x_iconst hx hb dX11_together_62 ?_
    rw [eQ]
    exact x_iret hx hb hr hlk hW (by decide) ⟨hF, ⟨p0, p1, p2, k268_58, trivial⟩, by omega⟩ dX11_together_63
  refine x_iconst hx hb dX11_together_31 ?_
  rw [eQ]
  exact x_iret hx hb hr hlk hW (by decide) ⟨hF, ⟨p0, p1, p2, k268_58, trivial⟩, by omega⟩ dX11_together_32
set_option maxHeartbeats 4000000 in
set_option maxRecDepth 100000 in
theorem c_X11_prints (l : Launch) (D : va_G) (g : xG) (T : Nat × Nat × Nat) (h0 : Nat) (s0 : xS) (hσ : xRR s0) (n : Int) (rn : xR n) (x : Int) (rx : xR x) (p0 : IMn s0) (p1 : IMk s0) (p2 : IMo s0) : Met l yX11_prints (xws yX11_prints cX11_prints 6 (some .int)) { frames := 5, cells := 0, slots := 0, locals := 115 } (xP [.ref (h0 + 268), .int (xJ n), .int (xJ x)] D g T h0 s0) (xQi D g h0 (fun r τ => xFr (fun k => k = 268 ∨ k = 296) s0 τ ∧ (((IMn τ) ∧ (IMk τ) ∧ (IMo τ) ∧ (τ 268 58 = s0 268 58) ∧ True) ∧ (((n < 2 ∨ 20 < n ∨ x < 0 ∨ 1 < x ∨ s0 268 8 < n) ∧ τ 268 8 = s0 268 8 ∧ r = -1) ∨ (¬ (n < 2 ∨ 20 < n ∨ x < 0 ∨ 1 < x ∨ s0 268 8 < n) ∧ τ 268 8 = 0))))) 0 0 (xA h0) := by
  refine x_met hσ (by decide) (Nat.le_of_ble_eq_true rfl) ?_
  intro p e s m args below meth c hx hb hr hml hown hT hlk hnm hE hW ls hl
  have hl : lv_has ls 6 [(0, .ref (h0 + 268)), (1, .int (xJ n)), (2, .int (xJ x))] := hl
  obtain ⟨Q, eQ⟩ : ∃ Q, Q = MQ below (xQi D g h0 (fun r τ => xFr (fun k => k = 268 ∨ k = 296) s0 τ ∧ (((IMn τ) ∧ (IMk τ) ∧ (IMo τ) ∧ (τ 268 58 = s0 268 58) ∧ True) ∧ (((n < 2 ∨ 20 < n ∨ x < 0 ∨ 1 < x ∨ s0 268 8 < n) ∧ τ 268 8 = s0 268 8 ∧ r = -1) ∨ (¬ (n < 2 ∨ 20 < n ∨ x < 0 ∨ 1 < x ∨ s0 268 8 < n) ∧ τ 268 8 = 0))))) args s 0 0 (xA h0) := ⟨_, rfl⟩
  rw [← eQ]
  generalize hHe : ([] : List Loc) = locs at hW ⊢
  obtain ⟨H, eH⟩ : ∃ H, H = s.heap := ⟨_, rfl⟩
  rw [← eH] at hW ⊢
  have hF : xFr (fun k => k = 268 ∨ k = 296) s0 s0 := xFr.rf
  have k268_58 : s0 268 58 = s0 268 58 := rfl
  have k268_8 : s0 268 8 = s0 268 8 := rfl
  refine x_iload_n hx hb hl 1 rfl dX11_prints_0 rfl ?_
  refine x_iconst hx hb dX11_prints_1 ?_
  refine x_bipush hx hb dX11_prints_2 (by decide) ?_
  refine x_goi (x_runS (As := [.int (xJ n), .int (xJ 2), .int (xJ 20)]) hx hb hml hown hT hE hW hl.1 cf_X11_in wq1383 wq1382 (c_X11_in l D g T h0 s0 hW.2.1 n rn 2 (by decide) 20 (by decide)) ⟨rfl, rfl, ⟨by decide, by decide⟩, ⟨by decide, by decide⟩⟩ rfl rfl (Nat.le_of_ble_eq_true rfl) dX11_prints_4) hW (fun x1 s2 H locs rx1 hp3 hW => ?_)
  obtain ⟨es2, hp3⟩ := hp3
  subst es2
  have ghp3 := hp3
  refine x_if_eq (tgt := 27) hx hb rx1 dX11_prints_7 (by decide) (fun c4 => ?_) (fun c4 => ?_)
  · skip
    refine x_iconst hx hb dX11_prints_27 ?_
    rw [eQ]
    exact x_iret hx hb hr hlk hW (by decide) ⟨hF, ⟨p0, p1, p2, k268_58, trivial⟩, by omega⟩ dX11_prints_28
  refine x_iload_n hx hb hl 2 rfl dX11_prints_10 rfl ?_
  refine x_iconst hx hb dX11_prints_11 ?_
  refine x_iconst hx hb dX11_prints_12 ?_
  refine x_goi (x_runS (As := [.int (xJ x), .int (xJ 0), .int (xJ 1)]) hx hb hml hown hT hE hW hl.1 cf_X11_in wq1383 wq1382 (c_X11_in l D g T h0 s0 hW.2.1 x rx 0 (by decide) 1 (by decide)) ⟨rfl, rfl, ⟨by decide, by decide⟩, ⟨by decide, by decide⟩⟩ rfl rfl (Nat.le_of_ble_eq_true rfl) dX11_prints_13) hW (fun x5 s6 H locs rx5 hp7 hW => ?_)
  obtain ⟨es6, hp7⟩ := hp7
  subst es6
  have ghp7 := hp7
  refine x_if_eq (tgt := 27) hx hb rx5 dX11_prints_16 (by decide) (fun c8 => ?_) (fun c8 => ?_)
  · skip
    refine x_iconst hx hb dX11_prints_27 ?_
    rw [eQ]
    exact x_iret hx hb hr hlk hW (by decide) ⟨hF, ⟨p0, p1, p2, k268_58, trivial⟩, by omega⟩ dX11_prints_28
  refine x_iload_n hx hb hl 1 rfl dX11_prints_19 rfl ?_
  refine x_aload_n hx hb hl 0 rfl dX11_prints_20 rfl ?_
  refine x_get (j := 8) (v := .int (xJ (s0 268 8))) hx hb hown hT hE hW cls_X11 (Or.inl (by decide)) (so_268 h0 g _) (by decide) rfl wq1193 dX11_prints_21 ?_
  refine x_rd hW (fun x9 ex9 rx9 => ?_)
  have bx9 : 0 ≤ x9 ∧ x9 ≤ 260 := by rw [ex9]; exact IMn.t p0
  have fx9 : x9 = s0 268 8 := ex9.trans k268_8
  refine x_icmp_le (tgt := 29) hx hb rn rx9 dX11_prints_24 (by decide) (fun c10 => ?_) (fun c10 => ?_)
  · skip
    refine x_aload_n hx hb hl 0 rfl dX11_prints_29 rfl ?_
    refine x_iconst hx hb dX11_prints_30 ?_
    refine x_put (j := 8) hx hb hown hT hE hW cls_X11 (by decide) (fun σ => so_268 h0 g σ) (by decide) (st_X11_8 h0 s0 268 0) (ln_X11_8 h0 _ _) wq1193 rfl rfl rfl (by decide) dX11_prints_31 (fun H locs s11 es11 hW => ?_)
    have q12 : IMn s11 := by rw [es11]; exact IMn_268 p0 (by omega)
    have q13 : IMk s11 := by rw [es11]; exact IMk_268 p1 (by omega)
    have q14 : IMo s11 := by rw [es11]; exact IMo_o (by unfold suIMo; omega) p2
    have q15 : s11 268 58 = s0 268 58 := (show s11 268 58 = s0 268 58 from by rw [es11, xU_j _ _ (by decide)]).trans k268_58
    have q16 : s11 268 8 = 0 := by rw [es11, xU_s]
    have hF17 := hF.put es11 (by omega)
    refine x_aload_n hx hb hl 0 rfl dX11_prints_34 rfl ?_
    refine x_iload_n hx hb hl 1 rfl dX11_prints_35 rfl ?_
    refine x_goi (x_runV (As := [.int (xJ n)]) hx hb hml hown hT hE hW hl.1 (Or.inl (by decide)) (so_268 h0 g _) rfl cf_X11_areSpots wq1732 wq161 wq1730 (c_X11_areSpots l D g T h0 s11 hW.2.1 n rn (by omega) q12 q13 q14) ⟨rfl, rfl, ⟨by decide, by decide⟩, ⟨by decide, by decide⟩⟩ rfl rfl (Nat.le_of_ble_eq_true rfl) dX11_prints_36) hW (fun x18 s19 H locs rx18 hp20 hW => ?_)
    obtain ⟨es19, hp20⟩ := hp20
    subst es19
    have ghp20 := hp20
    have ha := ghp20
    have hq9 := hF17 276 (by omega)
    refine x_if_ne (tgt := 45) hx hb rx18 dX11_prints_39 (by decide) (fun c21 => ?_) (fun c21 => ?_)
    · skip
      refine x_iload_n hx hb hl 2 rfl dX11_prints_45 rfl ?_
      refine x_iconst hx hb dX11_prints_46 ?_
      refine x_icmp_ne (tgt := 63) hx hb rx (by decide) dX11_prints_47 (by decide) (fun c22 => ?_) (fun c22 => ?_)
      · skip
        refine x_aload_n hx hb hl 0 rfl dX11_prints_63 rfl ?_
        refine x_iload_n hx hb hl 1 rfl dX11_prints_64 rfl ?_
        refine x_goi (x_runV (As := [.int (xJ n)]) hx hb hml hown hT hE hW hl.1 (Or.inl (by decide)) (so_268 h0 g _) rfl cf_X11_failsAt wq1736 wq162 wq1734 (c_X11_failsAt l D g T h0 s11 hW.2.1 n rn (by omega) ((ha.resolve_left (by omega)).2) q12 q13 q14) ⟨rfl, rfl, ⟨by decide, by decide⟩, ⟨by decide, by decide⟩⟩ rfl rfl (Nat.le_of_ble_eq_true rfl) dX11_prints_65) hW (fun x23 s24 H locs rx23 hp25 hW => ?_)
        obtain ⟨fs24, hp25⟩ := hp25
        have hF26 := hF17.call fs24 (fun k h => by omega)
        have q27 : s24 268 58 = s0 268 58 := (congrFun (fs24 _ (by omega)) _).trans q15
        have q28 : s24 268 8 = 0 := (congrFun (fs24 _ (by omega)) _).trans q16
        have ghp25 := hp25.2
        refine lv_istore_n (lv' := [(3, .int (xJ x23)), (0, .ref (h0 + 268)), (1, .int (xJ n)), (2, .int (xJ x))]) hx hb dX11_prints_68 rfl hl (by decide) rfl (fun ls hl => ?_)
        refine x_iconst hx hb dX11_prints_69 ?_
        refine lv_istore (lv' := [(4, .int (xJ 0)), (3, .int (xJ x23)), (0, .ref (h0 + 268)), (1, .int (xJ n)), (2, .int (xJ x))]) hx hb dX11_prints_70 hl (by decide) rfl (fun ls hl => ?_)
        refine x_iconst hx hb dX11_prints_72 ?_
        refine lv_istore (lv' := [(5, .int (xJ 0)), (4, .int (xJ 0)), (3, .int (xJ x23)), (0, .ref (h0 + 268)), (1, .int (xJ n)), (2, .int (xJ x))]) hx hb dX11_prints_73 hl (by decide) rfl (fun ls hl => ?_)
        have L75 : ∀ (fu : Nat) (i4_75 : Int) (i5_75 : Int) (s_75 : xS) (H : Heap) (locs : List Loc) (ls : Array Slot), (xR i4_75) → (xR i5_75) → (xFr (fun k => k = 268 ∨ k = 296) s0 s_75) → (s_75 268 58 = s0 268 58) → (s_75 268 8 = 0) → (IMn s_75) → (IMk s_75) → (IMo s_75) → (0 ≤ i5_75) → (i5_75 ≤ 10) → (10 + 1 - i5_75).toNat < fu → xW D g h0 s H locs s_75 → lv_has ls 6 [(0, .ref (h0 + 268)), (2, .int (xJ x)), (3, .int (xJ x23)), (4, .int (xJ i4_75)), (5, .int (xJ i5_75))] → W p l e { frames := 5, cells := 0, slots := 0, locals := 115 } s m args below meth c H locs 0 0 Q (F0 m 75 ls []) := by
          intro fu
          induction fu with
          | zero => intro i4_75 i5_75 s_75 H locs ls ri4_75 ri5_75 hF_75 q75_0 q75_1 q75_2 q75_3 q75_4 v75_0 v75_1 hm; exact absurd hm (Nat.not_lt_zero _)
          | succ fu ih75 =>
            intro i4_75 i5_75 s_75 H locs ls ri4_75 ri5_75 hF_75 q75_0 q75_1 q75_2 q75_3 q75_4 v75_0 v75_1 hm hW hl
            refine x_iload hx hb hl 4 rfl dX11_prints_75 ?_
            refine x_bipush hx hb dX11_prints_77 (by decide) ?_
            refine x_icmp_ge (tgt := 141) hx hb ri5_75 (by decide) dX11_prints_79 (by decide) (fun c29 => ?_) (fun c29 => ?_)
            · skip
              refine x_iload_n hx hb hl 1 rfl dX11_prints_141 rfl ?_
              refine x_if_ne (tgt := 157) hx hb rx dX11_prints_142 (by decide) (fun c30 => ?_) (fun c30 => ?_)
              · skip
                refine x_iload hx hb hl 3 rfl dX11_prints_157 ?_
                refine x_if_ne (tgt := 166) hx hb ri4_75 dX11_prints_159 (by decide) (fun c31 => ?_) (fun c31 => ?_)
                · skip
                  refine x_iload_n hx hb hl 2 rfl dX11_prints_166 rfl ?_
                  refine x_iconst hx hb dX11_prints_167 ?_
                  refine x_icmp_ne (tgt := 176) hx hb rx23 (by decide) dX11_prints_168 (by decide) (fun c32 => ?_) (fun c32 => ?_)
                  · skip
                    refine x_iload_n hx hb hl 2 rfl dX11_prints_176 rfl ?_
                    rw [eQ]
                    exact x_iret hx hb hr hlk hW rx23 ⟨hF_75, ⟨q75_2, q75_3, q75_4, q75_0, trivial⟩, by omega⟩ dX11_prints_177
                  refine x_bipush hx hb dX11_prints_171 (by decide) ?_
                  refine lv_goto (tgt := 177) hx hb dX11_prints_173 (by decide) ?_
                  rw [eQ]
                  exact x_iret hx hb hr hlk hW (by decide) ⟨hF_75, ⟨q75_2, q75_3, q75_4, q75_0, trivial⟩, by omega⟩ dX11_prints_177
                refine x_iconst hx hb dX11_prints_162 ?_
                refine lv_goto (tgt := 177) hx hb dX11_prints_163 (by decide) ?_
                rw [eQ]
                exact x_iret hx hb hr hlk hW (by decide) ⟨hF_75, ⟨q75_2, q75_3, q75_4, q75_0, trivial⟩, by omega⟩ dX11_prints_177
              refine x_iload_n hx hb hl 2 rfl dX11_prints_145 rfl ?_
              refine x_iconst hx hb dX11_prints_146 ?_
              refine x_icmp_ne (tgt := 155) hx hb rx23 (by decide) dX11_prints_147 (by decide) (fun c33 => ?_) (fun c33 => ?_)
              · skip
                refine x_iconst hx hb dX11_prints_155 ?_
                rw [eQ]
                exact x_iret hx hb hr hlk hW (by decide) ⟨hF_75, ⟨q75_2, q75_3, q75_4, q75_0, trivial⟩, by omega⟩ dX11_prints_156
              refine x_iload hx hb hl 3 rfl dX11_prints_150 ?_
              refine lv_goto (tgt := 156) hx hb dX11_prints_152 (by decide) ?_
              rw [eQ]
              exact x_iret hx hb hr hlk hW ri4_75 ⟨hF_75, ⟨q75_2, q75_3, q75_4, q75_0, trivial⟩, by omega⟩ dX11_prints_156
            refine x_aload_n hx hb hl 0 rfl dX11_prints_82 rfl ?_
            refine x_iload hx hb hl 4 rfl dX11_prints_83 ?_
            refine x_goi (x_runV (As := [.int (xJ i5_75)]) hx hb hml hown hT hE hW hl.1 (Or.inl (by decide)) (so_268 h0 g _) rfl cf_X11_isFelon wq1423 wq111 wq1421 (c_X11_isFelon l D g T h0 s_75 hW.2.1 i5_75 ri5_75 q75_2 q75_3 q75_4) ⟨rfl, rfl, ⟨by decide, by decide⟩, ⟨by decide, by decide⟩⟩ rfl rfl (Nat.le_of_ble_eq_true rfl) dX11_prints_85) hW (fun x34 s35 H locs rx34 hp36 hW => ?_)
            obtain ⟨es35, hp36⟩ := hp36
            subst es35
            have ghp36 := hp36
            refine x_if_ne (tgt := 94) hx hb rx34 dX11_prints_88 (by decide) (fun c37 => ?_) (fun c37 => ?_)
            · skip
              refine x_aload_n hx hb hl 0 rfl dX11_prints_94 rfl ?_
              refine x_aload_n hx hb hl 0 rfl dX11_prints_95 rfl ?_
              refine x_get (j := 0) (v := .ref (h0 + 269)) hx hb hown hT hE hW cls_X11 (Or.inl (by decide)) (so_268 h0 g _) (by decide) rfl wq1185 dX11_prints_96 ?_
              refine x_iconst hx hb dX11_prints_99 ?_
              refine x_iload hx hb hl 4 rfl dX11_prints_100 ?_
              refine x_iadd hx hb dX11_prints_102 ?_
              refine x_iald hx hb hE hW (Or.inl (by decide)) (sa_269 h0 g _) (by omega) (by decide) dX11_prints_103 ?_
              refine x_rd hW (fun x38 ex38 rx38 => ?_)
              have bx38 : 0 ≤ x38 ∧ x38 ≤ 99 := by rw [ex38]; exact (IMn.n1 q75_2).2.2.1 _ (by omega) (by omega)
              refine x_iconst hx hb dX11_prints_104 ?_
              refine x_iconst hx hb dX11_prints_105 ?_
              refine x_gov (x_runV (As := [.int (xJ x38), .int (xJ 3), .int (xJ 1)]) hx hb hml hown hT hE hW hl.1 (Or.inl (by decide)) (so_268 h0 g _) rfl cf_X11_laysCosts wq1637 wq151 wq1635 (c_X11_laysCosts l D g T h0 s_75 hW.2.1 x38 rx38 3 (by decide) 1 (by decide) q75_2 q75_3 q75_4) ⟨rfl, rfl, ⟨by decide, by decide⟩, ⟨by decide, by decide⟩⟩ rfl rfl (Nat.le_of_ble_eq_true rfl) dX11_prints_106) hW (fun s40 H locs hp41 hW => ?_)
              obtain ⟨fs40, hp41⟩ := hp41
              have hF42 := hF_75.call fs40 (fun k h => by omega)
              have q43 : s40 268 58 = s0 268 58 := (congrFun (fs40 _ (by omega)) _).trans q75_0
              have q44 : s40 268 8 = 0 := (congrFun (fs40 _ (by omega)) _).trans q75_1
              have ghp41 := hp41.2
              refine x_aload_n hx hb hl 0 rfl dX11_prints_109 rfl ?_
              refine x_get (j := 45) (v := .ref (h0 + 296)) hx hb hown hT hE hW cls_X11 (Or.inl (by decide)) (so_268 h0 g _) (by decide) rfl wq1230 dX11_prints_110 ?_
              refine x_aload_n hx hb hl 0 rfl dX11_prints_113 rfl ?_
              refine x_get (j := 7) (v := .ref (h0 + 276)) hx hb hown hT hE hW cls_X11 (Or.inl (by decide)) (so_268 h0 g _) (by decide) rfl wq1192 dX11_prints_114 ?_
              refine x_iconst hx hb dX11_prints_117 ?_
              refine x_bald hx hb hE hW (Or.inl (by decide)) (sa_276 h0 g _) ⟨by decide, by decide⟩ (by decide) dX11_prints_118 ?_
              refine x_rd hW (fun x45 ex45 rx45 => ?_)
              have tx45 : 0 ≤ x45 ∧ x45 ≤ 99 := by rw [ex45, hF42 276 (by omega), ← hq9]; exact (ha.resolve_left (by omega)).2 _ (by omega) (by omega)
              refine x_iald hx hb hE hW (Or.inl (by decide)) (sa_296 h0 g _) (by omega) (by decide) dX11_prints_119 ?_
              refine x_rd hW (fun x46 ex46 rx46 => ?_)
              refine lv_ldcw (v := xJ 1000000000) hx hb hown (hT _ wq1622) dX11_prints_120 ?_
              refine x_icmp_ge (tgt := 135) hx hb rx46 (by decide) dX11_prints_123 (by decide) (fun c47 => ?_) (fun c47 => ?_)
              · skip
                refine x_iinc (lv' := [(5, .int (xJ (i5_75 + 1))), (0, .ref (h0 + 268)), (2, .int (xJ x)), (3, .int (xJ x23)), (4, .int (xJ i4_75))]) hx hb hl 4 rfl dX11_prints_135 (by decide) rfl (fun ls hl => ?_)
                refine lv_goto (tgt := 75) hx hb dX11_prints_138 (by decide) ?_
                exact ih75 i4_75 (i5_75 + 1) s40 H locs ls ri4_75 (by omega) hF42 q43 q44 hp41.1.1 hp41.1.2.1 hp41.1.2.2.1 (by omega) (by omega) (by omega) hW (lv_sub hl [1, 2, 3, 4, 0] rfl)
              refine x_iload hx hb hl 3 rfl dX11_prints_126 ?_
              refine x_iconst hx hb dX11_prints_128 ?_
              refine x_iload hx hb hl 4 rfl dX11_prints_129 ?_
              refine lv_ishl hx hb dX11_prints_131 ?_
              refine x_any (fun x48 rx48 => ?_)
              refine lv_ior hx hb dX11_prints_132 ?_
              refine x_any (fun x49 rx49 => ?_)
              refine lv_istore (lv' := [(4, .int (xJ x49)), (0, .ref (h0 + 268)), (2, .int (xJ x)), (3, .int (xJ x23)), (5, .int (xJ i5_75))]) hx hb dX11_prints_133 hl (by decide) rfl (fun ls hl => ?_)
              refine x_iinc (lv' := [(5, .int (xJ (i5_75 + 1))), (4, .int (xJ x49)), (0, .ref (h0 + 268)), (2, .int (xJ x)), (3, .int (xJ x23))]) hx hb hl 4 rfl dX11_prints_135 (by decide) rfl (fun ls hl => ?_)
              refine lv_goto (tgt := 75) hx hb dX11_prints_138 (by decide) ?_
              exact ih75 x49 (i5_75 + 1) s40 H locs ls rx49 (by omega) hF42 q43 q44 hp41.1.1 hp41.1.2.1 hp41.1.2.2.1 (by omega) (by omega) (by omega) hW (lv_sub hl [2, 3, 4, 1, 0] rfl)
            refine lv_goto (tgt := 135) hx hb dX11_prints_91 (by decide) ?_
            refine x_iinc (lv' := [(5, .int (xJ (i5_75 + 1))), (0, .ref (h0 + 268)), (2, .int (xJ x)), (3, .int (xJ x23)), (4, .int (xJ i4_75))]) hx hb hl 4 rfl dX11_prints_135 (by decide) rfl (fun ls hl => ?_)
            refine lv_goto (tgt := 75) hx hb dX11_prints_138 (by decide) ?_
            exact ih75 i4_75 (i5_75 + 1) s_75 H locs ls ri4_75 (by omega) hF_75 q75_0 q75_1 q75_2 q75_3 q75_4 (by omega) (by omega) (by omega) hW (lv_sub hl [1, 2, 3, 4, 0] rfl)
        exact L75 ((10 + 1 - 0 : Int).toNat + 1) 0 0 s24 H locs ls (by decide) (by decide) hF26 q27 q28 hp25.1.1 hp25.1.2.1 hp25.1.2.2.1 (by omega) (by omega) (Nat.lt_succ_self _) hW (lv_sub hl [3, 5, 2, 1, 0] rfl)
      refine x_aload_n hx hb hl 0 rfl dX11_prints_50 rfl ?_
      refine x_get (j := 0) (v := .ref (h0 + 269)) hx hb hown hT hE hW cls_X11 (Or.inl (by decide)) (so_268 h0 g _) (by decide) rfl wq1185 dX11_prints_51 ?_
      refine x_bipush hx hb dX11_prints_54 (by decide) ?_
      refine x_iald hx hb hE hW (Or.inl (by decide)) (sa_269 h0 g _) ⟨by decide, by decide⟩ (by decide) dX11_prints_56 ?_
      refine x_rd hW (fun x50 ex50 rx50 => ?_)
      refine x_if_ne (tgt := 63) hx hb rx50 dX11_prints_57 (by decide) (fun c51 => ?_) (fun c51 => ?_)
      · skip
        refine x_aload_n hx hb hl 0 rfl dX11_prints_63 rfl ?_
        refine x_iload_n hx hb hl 1 rfl dX11_prints_64 rfl ?_
        refine x_goi (x_runV (As := [.int (xJ n)]) hx hb hml hown hT hE hW hl.1 (Or.inl (by decide)) (so_268 h0 g _) rfl cf_X11_failsAt wq1736 wq162 wq1734 (c_X11_failsAt l D g T h0 s11 hW.2.1 n rn (by omega) ((ha.resolve_left (by omega)).2) q12 q13 q14) ⟨rfl, rfl, ⟨by decide, by decide⟩, ⟨by decide, by decide⟩⟩ rfl rfl (Nat.le_of_ble_eq_true rfl) dX11_prints_65) hW (fun x52 s53 H locs rx52 hp54 hW => ?_)
        obtain ⟨fs53, hp54⟩ := hp54
        have hF55 := hF17.call fs53 (fun k h => by omega)
        have q56 : s53 268 58 = s0 268 58 := (congrFun (fs53 _ (by omega)) _).trans q15
        have q57 : s53 268 8 = 0 := (congrFun (fs53 _ (by omega)) _).trans q16
        have ghp54 := hp54.2
        refine lv_istore_n (lv' := [(3, .int (xJ x52)), (0, .ref (h0 + 268)), (1, .int (xJ n)), (2, .int (xJ x))]) hx hb dX11_prints_68 rfl hl (by decide) rfl (fun ls hl => ?_)
        refine x_iconst hx hb dX11_prints_69 ?_
        refine lv_istore (lv' := [(4, .int (xJ 0)), (3, .int (xJ x52)), (0, .ref (h0 + 268)), (1, .int (xJ n)), (2, .int (xJ x))]) hx hb dX11_prints_70 hl (by decide) rfl (fun ls hl => ?_)
        refine x_iconst hx hb dX11_prints_72 ?_
        refine lv_istore (lv' := [(5, .int (xJ 0)), (4, .int (xJ 0)), (3, .int (xJ x52)), (0, .ref (h0 + 268)), (1, .int (xJ n)), (2, .int (xJ x))]) hx hb dX11_prints_73 hl (by decide) rfl (fun ls hl => ?_)
        have L75 : ∀ (fu : Nat) (i4_75 : Int) (i5_75 : Int) (s_75 : xS) (H : Heap) (locs : List Loc) (ls : Array Slot), (xR i4_75) → (xR i5_75) → (xFr (fun k => k = 268 ∨ k = 296) s0 s_75) → (s_75 268 58 = s0 268 58) → (s_75 268 8 = 0) → (IMn s_75) → (IMk s_75) → (IMo s_75) → (0 ≤ i5_75) → (i5_75 ≤ 10) → (10 + 1 - i5_75).toNat < fu → xW D g h0 s H locs s_75 → lv_has ls 6 [(0, .ref (h0 + 268)), (2, .int (xJ x)), (3, .int (xJ x52)), (4, .int (xJ i4_75)), (5, .int (xJ i5_75))] → W p l e { frames := 5, cells := 0, slots := 0, locals := 115 } s m args below meth c H locs 0 0 Q (F0 m 75 ls []) := by
          intro fu
          induction fu with
          | zero => intro i4_75 i5_75 s_75 H locs ls ri4_75 ri5_75 hF_75 q75_0 q75_1 q75_2 q75_3 q75_4 v75_0 v75_1 hm; exact absurd hm (Nat.not_lt_zero _)
          | succ fu ih75 =>
            intro i4_75 i5_75 s_75 H locs ls ri4_75 ri5_75 hF_75 q75_0 q75_1 q75_2 q75_3 q75_4 v75_0 v75_1 hm hW hl
            refine x_iload hx hb hl 4 rfl dX11_prints_75 ?_
            refine x_bipush hx hb dX11_prints_77 (by decide) ?_
            refine x_icmp_ge (tgt := 141) hx hb ri5_75 (by decide) dX11_prints_79 (by decide) (fun c58 => ?_) (fun c58 => ?_)
            · skip
              refine x_iload_n hx hb hl 1 rfl dX11_prints_141 rfl ?_
              refine x_if_ne (tgt := 157) hx hb rx dX11_prints_142 (by decide) (fun c59 => ?_) (fun c59 => ?_)
              · skip
                refine x_iload hx hb hl 3 rfl dX11_prints_157 ?_
                refine x_if_ne (tgt := 166) hx hb ri4_75 dX11_prints_159 (by decide) (fun c60 => ?_) (fun c60 => ?_)
                · skip
                  refine x_iload_n hx hb hl 2 rfl dX11_prints_166 rfl ?_
                  refine x_iconst hx hb dX11_prints_167 ?_
                  refine x_icmp_ne (tgt := 176) hx hb rx52 (by decide) dX11_prints_168 (by decide) (fun c61 => ?_) (fun c61 => ?_)
                  · skip
                    refine x_iload_n hx hb hl 2 rfl dX11_prints_176 rfl ?_
                    rw [eQ]
                    exact x_iret hx hb hr hlk hW rx52 ⟨hF_75, ⟨q75_2, q75_3, q75_4, q75_0, trivial⟩, by omega⟩ dX11_prints_177
                  refine x_bipush hx hb dX11_prints_171 (by decide) ?_
                  refine lv_goto (tgt := 177) hx hb dX11_prints_173 (by decide) ?_
                  rw [eQ]
                  exact x_iret hx hb hr hlk hW (by decide) ⟨hF_75, ⟨q75_2, q75_3, q75_4, q75_0, trivial⟩, by omega⟩ dX11_prints_177
                refine x_iconst hx hb dX11_prints_162 ?_
                refine lv_goto (tgt := 177) hx hb dX11_prints_163 (by decide) ?_
                rw [eQ]
                exact x_iret hx hb hr hlk hW (by decide) ⟨hF_75, ⟨q75_2, q75_3, q75_4, q75_0, trivial⟩, by omega⟩ dX11_prints_177
              refine x_iload_n hx hb hl 2 rfl dX11_prints_145 rfl ?_
              refine x_iconst hx hb dX11_prints_146 ?_
              refine x_icmp_ne (tgt := 155) hx hb rx52 (by decide) dX11_prints_147 (by decide) (fun c62 => ?_) (fun c62 => ?_)
              · skip
                refine x_iconst hx hb dX11_prints_155 ?_
                rw [eQ]
                exact x_iret hx hb hr hlk hW (by decide) ⟨hF_75, ⟨q75_2, q75_3, q75_4, q75_0, trivial⟩, by omega⟩ dX11_prints_156
              refine x_iload hx hb hl 3 rfl dX11_prints_150 ?_
              refine lv_goto (tgt := 156) hx hb dX11_prints_152 (by decide) ?_
              rw [eQ]
              exact x_iret hx hb hr hlk hW ri4_75 ⟨hF_75, ⟨q75_2, q75_3, q75_4, q75_0, trivial⟩, by omega⟩ dX11_prints_156
            refine x_aload_n hx hb hl 0 rfl dX11_prints_82 rfl ?_
            refine x_iload hx hb hl 4 rfl dX11_prints_83 ?_
            refine x_goi (x_runV (As := [.int (xJ i5_75)]) hx hb hml hown hT hE hW hl.1 (Or.inl (by decide)) (so_268 h0 g _) rfl cf_X11_isFelon wq1423 wq111 wq1421 (c_X11_isFelon l D g T h0 s_75 hW.2.1 i5_75 ri5_75 q75_2 q75_3 q75_4) ⟨rfl, rfl, ⟨by decide, by decide⟩, ⟨by decide, by decide⟩⟩ rfl rfl (Nat.le_of_ble_eq_true rfl) dX11_prints_85) hW (fun x63 s64 H locs rx63 hp65 hW => ?_)
            obtain ⟨es64, hp65⟩ := hp65
            subst es64
            have ghp65 := hp65
            refine x_if_ne (tgt := 94) hx hb rx63 dX11_prints_88 (by decide) (fun c66 => ?_) (fun c66 => ?_)
            · skip
              refine x_aload_n hx hb hl 0 rfl dX11_prints_94 rfl ?_
              refine x_aload_n hx hb hl 0 rfl dX11_prints_95 rfl ?_
              refine x_get (j := 0) (v := .ref (h0 + 269)) hx hb hown hT hE hW cls_X11 (Or.inl (by decide)) (so_268 h0 g _) (by decide) rfl wq1185 dX11_prints_96 ?_
              refine x_iconst hx hb dX11_prints_99 ?_
              refine x_iload hx hb hl 4 rfl dX11_prints_100 ?_
              refine x_iadd hx hb dX11_prints_102 ?_
              refine x_iald hx hb hE hW (Or.inl (by decide)) (sa_269 h0 g _) (by omega) (by decide) dX11_prints_103 ?_
              refine x_rd hW (fun x67 ex67 rx67 => ?_)
              have bx67 : 0 ≤ x67 ∧ x67 ≤ 99 := by rw [ex67]; exact (IMn.n1 q75_2).2.2.1 _ (by omega) (by omega)
              refine x_iconst hx hb dX11_prints_104 ?_
              refine x_iconst hx hb dX11_prints_105 ?_
              refine x_gov (x_runV (As := [.int (xJ x67), .int (xJ 3), .int (xJ 1)]) hx hb hml hown hT hE hW hl.1 (Or.inl (by decide)) (so_268 h0 g _) rfl cf_X11_laysCosts wq1637 wq151 wq1635 (c_X11_laysCosts l D g T h0 s_75 hW.2.1 x67 rx67 3 (by decide) 1 (by decide) q75_2 q75_3 q75_4) ⟨rfl, rfl, ⟨by decide, by decide⟩, ⟨by decide, by decide⟩⟩ rfl rfl (Nat.le_of_ble_eq_true rfl) dX11_prints_106) hW (fun s69 H locs hp70 hW => ?_)
              obtain ⟨fs69, hp70⟩ := hp70
              have hF71 := hF_75.call fs69 (fun k h => by omega)
              have q72 : s69 268 58 = s0 268 58 := (congrFun (fs69 _ (by omega)) _).trans q75_0
              have q73 : s69 268 8 = 0 := (congrFun (fs69 _ (by omega)) _).trans q75_1
              have ghp70 := hp70.2
              refine x_aload_n hx hb hl 0 rfl dX11_prints_109 rfl ?_
              refine x_get (j := 45) (v := .ref (h0 + 296)) hx hb hown hT hE hW cls_X11 (Or.inl (by decide)) (so_268 h0 g _) (by decide) rfl wq1230 dX11_prints_110 ?_
              refine x_aload_n hx hb hl 0 rfl dX11_prints_113 rfl ?_
              refine x_get (j := 7) (v := .ref (h0 + 276)) hx hb hown hT hE hW cls_X11 (Or.inl (by decide)) (so_268 h0 g _) (by decide) rfl wq1192 dX11_prints_114 ?_
              refine x_iconst hx hb dX11_prints_117 ?_
              refine x_bald hx hb hE hW (Or.inl (by decide)) (sa_276 h0 g _) ⟨by decide, by decide⟩ (by decide) dX11_prints_118 ?_
              refine x_rd hW (fun x74 ex74 rx74 => ?_)
              have tx74 : 0 ≤ x74 ∧ x74 ≤ 99 := by rw [ex74, hF71 276 (by omega), ← hq9]; exact (ha.resolve_left (by omega)).2 _ (by omega) (by omega)
              refine x_iald hx hb hE hW (Or.inl (by decide)) (sa_296 h0 g _) (by omega) (by decide) dX11_prints_119 ?_
              refine x_rd hW (fun x75 ex75 rx75 => ?_)
              refine lv_ldcw (v := xJ 1000000000) hx hb hown (hT _ wq1622) dX11_prints_120 ?_
              refine x_icmp_ge (tgt := 135) hx hb rx75 (by decide) dX11_prints_123 (by decide) (fun c76 => ?_) (fun c76 => ?_)
              · skip
                refine x_iinc (lv' := [(5, .int (xJ (i5_75 + 1))), (0, .ref (h0 + 268)), (2, .int (xJ x)), (3, .int (xJ x52)), (4, .int (xJ i4_75))]) hx hb hl 4 rfl dX11_prints_135 (by decide) rfl (fun ls hl => ?_)
                refine lv_goto (tgt := 75) hx hb dX11_prints_138 (by decide) ?_
                exact ih75 i4_75 (i5_75 + 1) s69 H locs ls ri4_75 (by omega) hF71 q72 q73 hp70.1.1 hp70.1.2.1 hp70.1.2.2.1 (by omega) (by omega) (by omega) hW (lv_sub hl [1, 2, 3, 4, 0] rfl)
              refine x_iload hx hb hl 3 rfl dX11_prints_126 ?_
              refine x_iconst hx hb dX11_prints_128 ?_
              refine x_iload hx hb hl 4 rfl dX11_prints_129 ?_
              refine lv_ishl hx hb dX11_prints_131 ?_
              refine x_any (fun x77 rx77 => ?_)
              refine lv_ior hx hb dX11_prints_132 ?_
              refine x_any (fun x78 rx78 => ?_)
              refine lv_istore (lv' := [(4, .int (xJ x78)), (0, .ref (h0 + 268)), (2, .int (xJ x)), (3, .int (xJ x52)), (5, .int (xJ i5_75))]) hx hb dX11_prints_133 hl (by decide) rfl (fun ls hl => ?_)
              refine x_iinc (lv' := [(5, .int (xJ (i5_75 + 1))), (4, .int (xJ x78)), (0, .ref (h0 + 268)), (2, .int (xJ x)), (3, .int (xJ x52))]) hx hb hl 4 rfl dX11_prints_135 (by decide) rfl (fun ls hl => ?_)
              refine lv_goto (tgt := 75) hx hb dX11_prints_138 (by decide) ?_
              exact ih75 x78 (i5_75 + 1) s69 H locs ls rx78 (by omega) hF71 q72 q73 hp70.1.1 hp70.1.2.1 hp70.1.2.2.1 (by omega) (by omega) (by omega) hW (lv_sub hl [2, 3, 4, 1, 0] rfl)
            refine lv_goto (tgt := 135) hx hb dX11_prints_91 (by decide) ?_
            refine x_iinc (lv' := [(5, .int (xJ (i5_75 + 1))), (0, .ref (h0 + 268)), (2, .int (xJ x)), (3, .int (xJ x52)), (4, .int (xJ i4_75))]) hx hb hl 4 rfl dX11_prints_135 (by decide) rfl (fun ls hl => ?_)
            refine lv_goto (tgt := 75) hx hb dX11_prints_138 (by decide) ?_
            exact ih75 i4_75 (i5_75 + 1) s_75 H locs ls ri4_75 (by omega) hF_75 q75_0 q75_1 q75_2 q75_3 q75_4 (by omega) (by omega) (by omega) hW (lv_sub hl [1, 2, 3, 4, 0] rfl)
        exact L75 ((10 + 1 - 0 : Int).toNat + 1) 0 0 s53 H locs ls (by decide) (by decide) hF55 q56 q57 hp54.1.1 hp54.1.2.1 hp54.1.2.2.1 (by omega) (by omega) (Nat.lt_succ_self _) hW (lv_sub hl [3, 5, 2, 1, 0] rfl)
      refine x_bipush hx hb dX11_prints_60 (by decide) ?_
      rw [eQ]
      exact x_iret hx hb hr hlk hW (by decide) ⟨hF17, ⟨q12, q13, q14, q15, trivial⟩, by omega⟩ dX11_prints_62
    refine x_bipush hx hb dX11_prints_42 (by decide) ?_
    rw [eQ]
    exact x_iret hx hb hr hlk hW (by decide) ⟨hF17, ⟨q12, q13, q14, q15, trivial⟩, by omega⟩ dX11_prints_44
  refine x_iconst hx hb dX11_prints_27 ?_
  rw [eQ]
  exact x_iret hx hb hr hlk hW (by decide) ⟨hF, ⟨p0, p1, p2, k268_58, trivial⟩, by omega⟩ dX11_prints_28


theorem st_X11_9 (h0 : Nat) (σ : xS) (k : Nat) (a : Int) : xobj h0 (xU σ k 9 a) k 11 = (xobj h0 σ k 11).set 9 (.int (xJ a)) := by simp [xobj, xU]
theorem ln_X11_9 (h0 : Nat) (σ : xS) (k : Nat) : 9 < (xobj h0 σ k 11).length := by simp [xobj]
theorem st_X11_11 (h0 : Nat) (σ : xS) (k : Nat) (a : Int) : xobj h0 (xU σ k 11 a) k 11 = (xobj h0 σ k 11).set 11 (.int (xJ a)) := by simp [xobj, xU]
theorem ln_X11_11 (h0 : Nat) (σ : xS) (k : Nat) : 11 < (xobj h0 σ k 11).length := by simp [xobj]
theorem st_X11_12 (h0 : Nat) (σ : xS) (k : Nat) (a : Int) : xobj h0 (xU σ k 12 a) k 11 = (xobj h0 σ k 11).set 12 (.int (xJ a)) := by simp [xobj, xU]
theorem ln_X11_12 (h0 : Nat) (σ : xS) (k : Nat) : 12 < (xobj h0 σ k 11).length := by simp [xobj]
theorem st_X11_13 (h0 : Nat) (σ : xS) (k : Nat) (a : Int) : xobj h0 (xU σ k 13 a) k 11 = (xobj h0 σ k 11).set 13 (.int (xJ a)) := by simp [xobj, xU]
theorem ln_X11_13 (h0 : Nat) (σ : xS) (k : Nat) : 13 < (xobj h0 σ k 11).length := by simp [xobj]
theorem st_X11_14 (h0 : Nat) (σ : xS) (k : Nat) (a : Int) : xobj h0 (xU σ k 14 a) k 11 = (xobj h0 σ k 11).set 14 (.int (xJ a)) := by simp [xobj, xU]
theorem ln_X11_14 (h0 : Nat) (σ : xS) (k : Nat) : 14 < (xobj h0 σ k 11).length := by simp [xobj]
theorem st_X11_15 (h0 : Nat) (σ : xS) (k : Nat) (a : Int) : xobj h0 (xU σ k 15 a) k 11 = (xobj h0 σ k 11).set 15 (.int (xJ a)) := by simp [xobj, xU]
theorem ln_X11_15 (h0 : Nat) (σ : xS) (k : Nat) : 15 < (xobj h0 σ k 11).length := by simp [xobj]
theorem cf_X11_here : xCF yX11_here cX11_here 1 (some .int) 0 := ⟨xq 1392 (by decide +kernel) rfl, xq 179 (by decide +kernel) rfl, by decide +kernel⟩
theorem cf_X11_isDigit : xCF yX11_isDigit cX11_isDigit 1 (some .boolean) 0 := ⟨xq 1486 (by decide +kernel) rfl, xq 179 (by decide +kernel) rfl, by decide +kernel⟩
theorem cf_X11_wrongAt : xCF yX11_wrongAt cX11_wrongAt 3 (some .boolean) 2 := ⟨xq 1402 (by decide +kernel) rfl, xq 179 (by decide +kernel) rfl, by decide +kernel⟩
theorem wq106 : Cond.selects yX11_here.cls yX11_here yX11_here ∈ xTB := xq 106 (by decide +kernel) rfl
theorem wq107 : Cond.selects yX11_wrongAt.cls yX11_wrongAt yX11_wrongAt ∈ xTB := xq 107 (by decide +kernel) rfl
theorem wq119 : Cond.selects yX11_isDigit.cls yX11_isDigit yX11_isDigit ∈ xTB := xq 119 (by decide +kernel) rfl
theorem wq1194 : Cond.fieldLink "ShadowCourtModel" (171) "ShadowCourtModel" "place0" "I" ∈ xTB := xq 1194 (by decide +kernel) rfl
theorem wq1195 : Cond.fieldLink "ShadowCourtModel" (174) "ShadowCourtModel" "length0" "I" ∈ xTB := xq 1195 (by decide +kernel) rfl
theorem wq1196 : Cond.fieldLink "ShadowCourtModel" (181) "ShadowCourtModel" "fault" "I" ∈ xTB := xq 1196 (by decide +kernel) rfl
theorem wq1197 : Cond.fieldLink "ShadowCourtModel" (187) "ShadowCourtModel" "number0" "I" ∈ xTB := xq 1197 (by decide +kernel) rfl
theorem wq1198 : Cond.fieldLink "ShadowCourtModel" (198) "ShadowCourtModel" "open" "I" ∈ xTB := xq 1198 (by decide +kernel) rfl
theorem wq1199 : Cond.fieldLink "ShadowCourtModel" (194) "ShadowCourtModel" "codeMany" "I" ∈ xTB := xq 1199 (by decide +kernel) rfl
theorem wq1200 : Cond.fieldLink "ShadowCourtModel" (201) "ShadowCourtModel" "waiting" "I" ∈ xTB := xq 1200 (by decide +kernel) rfl
theorem wq1203 : Cond.fieldLink "ShadowCourtModel" (35) "ShadowCourtModel" "said" "[I" ∈ xTB := xq 1203 (by decide +kernel) rfl
theorem wq1204 : Cond.fieldLink "ShadowCourtModel" (38) "ShadowCourtModel" "waitsAt" "[I" ∈ xTB := xq 1204 (by decide +kernel) rfl
theorem wq1389 : Cond.methodLink "ShadowCourtModel" (177) yX11_here ∈ xTB := xq 1389 (by decide +kernel) rfl
theorem wq1391 : Cond.instanceMethod yX11_here ∈ xTB := xq 1391 (by decide +kernel) rfl
theorem wq1399 : Cond.methodLink "ShadowCourtModel" (184) yX11_wrongAt ∈ xTB := xq 1399 (by decide +kernel) rfl
theorem wq1401 : Cond.instanceMethod yX11_wrongAt ∈ xTB := xq 1401 (by decide +kernel) rfl
theorem wq1483 : Cond.methodLink "ShadowCourtModel" (190) yX11_isDigit ∈ xTB := xq 1483 (by decide +kernel) rfl
theorem wq1485 : Cond.instanceMethod yX11_isDigit ∈ xTB := xq 1485 (by decide +kernel) rfl
theorem dX11_factOf_0 : decode cX11_factOf 0 = .ok (.iload_n 0, 1) := by decide +kernel
theorem dX11_factOf_1 : decode cX11_factOf 1 = .ok (.tableswitch 118 98 119 #[113, 118, 118, 118, 109, 118, 105, 118, 107, 118, 118, 118, 118, 118, 118, 118, 118, 115, 103, 118, 118, 111], 103) := by decide +kernel
theorem dX11_factOf_104 : decode cX11_factOf 104 = .ok (.iconst 0, 1) := by decide +kernel
theorem dX11_factOf_105 : decode cX11_factOf 105 = .ok (.ireturn, 1) := by decide +kernel
theorem dX11_factOf_106 : decode cX11_factOf 106 = .ok (.iconst 1, 1) := by decide +kernel
theorem dX11_factOf_107 : decode cX11_factOf 107 = .ok (.ireturn, 1) := by decide +kernel
theorem dX11_factOf_108 : decode cX11_factOf 108 = .ok (.iconst 2, 1) := by decide +kernel
theorem dX11_factOf_109 : decode cX11_factOf 109 = .ok (.ireturn, 1) := by decide +kernel
theorem dX11_factOf_110 : decode cX11_factOf 110 = .ok (.iconst 3, 1) := by decide +kernel
theorem dX11_factOf_111 : decode cX11_factOf 111 = .ok (.ireturn, 1) := by decide +kernel
theorem dX11_factOf_112 : decode cX11_factOf 112 = .ok (.iconst 4, 1) := by decide +kernel
theorem dX11_factOf_113 : decode cX11_factOf 113 = .ok (.ireturn, 1) := by decide +kernel
theorem dX11_factOf_114 : decode cX11_factOf 114 = .ok (.iconst 5, 1) := by decide +kernel
theorem dX11_factOf_115 : decode cX11_factOf 115 = .ok (.ireturn, 1) := by decide +kernel
theorem dX11_factOf_116 : decode cX11_factOf 116 = .ok (.bipush 6, 2) := by decide +kernel
theorem dX11_factOf_118 : decode cX11_factOf 118 = .ok (.ireturn, 1) := by decide +kernel
theorem dX11_factOf_119 : decode cX11_factOf 119 = .ok (.iconst (-1), 1) := by decide +kernel
theorem dX11_factOf_120 : decode cX11_factOf 120 = .ok (.ireturn, 1) := by decide +kernel
theorem dX11_here_0 : decode cX11_here 0 = .ok (.aload_n 0, 1) := by decide +kernel
theorem dX11_here_1 : decode cX11_here 1 = .ok (.getfield 171, 3) := by decide +kernel
theorem dX11_here_4 : decode cX11_here 4 = .ok (.aload_n 0, 1) := by decide +kernel
theorem dX11_here_5 : decode cX11_here 5 = .ok (.getfield 174, 3) := by decide +kernel
theorem dX11_here_8 : decode cX11_here 8 = .ok (.if_icmp .ge 19, 3) := by decide +kernel
theorem dX11_here_11 : decode cX11_here 11 = .ok (.aload_n 0, 1) := by decide +kernel
theorem dX11_here_12 : decode cX11_here 12 = .ok (.getfield 32, 3) := by decide +kernel
theorem dX11_here_15 : decode cX11_here 15 = .ok (.aload_n 0, 1) := by decide +kernel
theorem dX11_here_16 : decode cX11_here 16 = .ok (.getfield 171, 3) := by decide +kernel
theorem dX11_here_19 : decode cX11_here 19 = .ok (.baload, 1) := by decide +kernel
theorem dX11_here_20 : decode cX11_here 20 = .ok (.sipush 255, 3) := by decide +kernel
theorem dX11_here_23 : decode cX11_here 23 = .ok (.iand, 1) := by decide +kernel
theorem dX11_here_24 : decode cX11_here 24 = .ok (.goto 4, 3) := by decide +kernel
theorem dX11_here_27 : decode cX11_here 27 = .ok (.iconst (-1), 1) := by decide +kernel
theorem dX11_here_28 : decode cX11_here 28 = .ok (.ireturn, 1) := by decide +kernel
theorem dX11_isClause_0 : decode cX11_isClause 0 = .ok (.iload_n 0, 1) := by decide +kernel
theorem dX11_isClause_1 : decode cX11_isClause 1 = .ok (.bipush 97, 2) := by decide +kernel
theorem dX11_isClause_3 : decode cX11_isClause 3 = .ok (.if_icmp .eq 33, 3) := by decide +kernel
theorem dX11_isClause_6 : decode cX11_isClause 6 = .ok (.iload_n 0, 1) := by decide +kernel
theorem dX11_isClause_7 : decode cX11_isClause 7 = .ok (.bipush 108, 2) := by decide +kernel
theorem dX11_isClause_9 : decode cX11_isClause 9 = .ok (.if_icmp .eq 27, 3) := by decide +kernel
theorem dX11_isClause_12 : decode cX11_isClause 12 = .ok (.iload_n 0, 1) := by decide +kernel
theorem dX11_isClause_13 : decode cX11_isClause 13 = .ok (.bipush 99, 2) := by decide +kernel
theorem dX11_isClause_15 : decode cX11_isClause 15 = .ok (.if_icmp .eq 21, 3) := by decide +kernel
theorem dX11_isClause_18 : decode cX11_isClause 18 = .ok (.iload_n 0, 1) := by decide +kernel
theorem dX11_isClause_19 : decode cX11_isClause 19 = .ok (.bipush 110, 2) := by decide +kernel
theorem dX11_isClause_21 : decode cX11_isClause 21 = .ok (.if_icmp .eq 15, 3) := by decide +kernel
theorem dX11_isClause_24 : decode cX11_isClause 24 = .ok (.iload_n 0, 1) := by decide +kernel
theorem dX11_isClause_25 : decode cX11_isClause 25 = .ok (.bipush 118, 2) := by decide +kernel
theorem dX11_isClause_27 : decode cX11_isClause 27 = .ok (.if_icmp .eq 9, 3) := by decide +kernel
theorem dX11_isClause_30 : decode cX11_isClause 30 = .ok (.iload_n 0, 1) := by decide +kernel
theorem dX11_isClause_31 : decode cX11_isClause 31 = .ok (.bipush 111, 2) := by decide +kernel
theorem dX11_isClause_33 : decode cX11_isClause 33 = .ok (.if_icmp .ne 7, 3) := by decide +kernel
theorem dX11_isClause_36 : decode cX11_isClause 36 = .ok (.iconst 1, 1) := by decide +kernel
theorem dX11_isClause_37 : decode cX11_isClause 37 = .ok (.goto 4, 3) := by decide +kernel
theorem dX11_isClause_40 : decode cX11_isClause 40 = .ok (.iconst 0, 1) := by decide +kernel
theorem dX11_isClause_41 : decode cX11_isClause 41 = .ok (.ireturn, 1) := by decide +kernel
theorem dX11_isDigit_0 : decode cX11_isDigit 0 = .ok (.aload_n 0, 1) := by decide +kernel
theorem dX11_isDigit_1 : decode cX11_isDigit 1 = .ok (.invokevirtual 177, 3) := by decide +kernel
theorem dX11_isDigit_4 : decode cX11_isDigit 4 = .ok (.bipush 48, 2) := by decide +kernel
theorem dX11_isDigit_6 : decode cX11_isDigit 6 = .ok (.if_icmp .lt 16, 3) := by decide +kernel
theorem dX11_isDigit_9 : decode cX11_isDigit 9 = .ok (.aload_n 0, 1) := by decide +kernel
theorem dX11_isDigit_10 : decode cX11_isDigit 10 = .ok (.invokevirtual 177, 3) := by decide +kernel
theorem dX11_isDigit_13 : decode cX11_isDigit 13 = .ok (.bipush 57, 2) := by decide +kernel
theorem dX11_isDigit_15 : decode cX11_isDigit 15 = .ok (.if_icmp .gt 7, 3) := by decide +kernel
theorem dX11_isDigit_18 : decode cX11_isDigit 18 = .ok (.iconst 1, 1) := by decide +kernel
theorem dX11_isDigit_19 : decode cX11_isDigit 19 = .ok (.goto 4, 3) := by decide +kernel
theorem dX11_isDigit_22 : decode cX11_isDigit 22 = .ok (.iconst 0, 1) := by decide +kernel
theorem dX11_isDigit_23 : decode cX11_isDigit 23 = .ok (.ireturn, 1) := by decide +kernel
theorem dX11_isSpotSign_0 : decode cX11_isSpotSign 0 = .ok (.iload_n 0, 1) := by decide +kernel
theorem dX11_isSpotSign_1 : decode cX11_isSpotSign 1 = .ok (.bipush 46, 2) := by decide +kernel
theorem dX11_isSpotSign_3 : decode cX11_isSpotSign 3 = .ok (.if_icmp .eq 21, 3) := by decide +kernel
theorem dX11_isSpotSign_6 : decode cX11_isSpotSign 6 = .ok (.iload_n 0, 1) := by decide +kernel
theorem dX11_isSpotSign_7 : decode cX11_isSpotSign 7 = .ok (.bipush 35, 2) := by decide +kernel
theorem dX11_isSpotSign_9 : decode cX11_isSpotSign 9 = .ok (.if_icmp .eq 15, 3) := by decide +kernel
theorem dX11_isSpotSign_12 : decode cX11_isSpotSign 12 = .ok (.iload_n 0, 1) := by decide +kernel
theorem dX11_isSpotSign_13 : decode cX11_isSpotSign 13 = .ok (.bipush 115, 2) := by decide +kernel
theorem dX11_isSpotSign_15 : decode cX11_isSpotSign 15 = .ok (.if_icmp .eq 9, 3) := by decide +kernel
theorem dX11_isSpotSign_18 : decode cX11_isSpotSign 18 = .ok (.iload_n 0, 1) := by decide +kernel
theorem dX11_isSpotSign_19 : decode cX11_isSpotSign 19 = .ok (.bipush 114, 2) := by decide +kernel
theorem dX11_isSpotSign_21 : decode cX11_isSpotSign 21 = .ok (.if_icmp .ne 7, 3) := by decide +kernel
theorem dX11_isSpotSign_24 : decode cX11_isSpotSign 24 = .ok (.iconst 1, 1) := by decide +kernel
theorem dX11_isSpotSign_25 : decode cX11_isSpotSign 25 = .ok (.goto 4, 3) := by decide +kernel
theorem dX11_isSpotSign_28 : decode cX11_isSpotSign 28 = .ok (.iconst 0, 1) := by decide +kernel
theorem dX11_isSpotSign_29 : decode cX11_isSpotSign 29 = .ok (.ireturn, 1) := by decide +kernel
theorem dX11_isTimes_0 : decode cX11_isTimes 0 = .ok (.iload_n 0, 1) := by decide +kernel
theorem dX11_isTimes_1 : decode cX11_isTimes 1 = .ok (.bipush 48, 2) := by decide +kernel
theorem dX11_isTimes_3 : decode cX11_isTimes 3 = .ok (.if_icmp .eq 14, 3) := by decide +kernel
theorem dX11_isTimes_6 : decode cX11_isTimes 6 = .ok (.iload_n 0, 1) := by decide +kernel
theorem dX11_isTimes_7 : decode cX11_isTimes 7 = .ok (.bipush 50, 2) := by decide +kernel
theorem dX11_isTimes_9 : decode cX11_isTimes 9 = .ok (.bipush 57, 2) := by decide +kernel
theorem dX11_isTimes_11 : decode cX11_isTimes 11 = .ok (.invokestatic 150, 3) := by decide +kernel
theorem dX11_isTimes_14 : decode cX11_isTimes 14 = .ok (.ifCond .eq 7, 3) := by decide +kernel
theorem dX11_isTimes_17 : decode cX11_isTimes 17 = .ok (.iconst 1, 1) := by decide +kernel
theorem dX11_isTimes_18 : decode cX11_isTimes 18 = .ok (.goto 4, 3) := by decide +kernel
theorem dX11_isTimes_21 : decode cX11_isTimes 21 = .ok (.iconst 0, 1) := by decide +kernel
theorem dX11_isTimes_22 : decode cX11_isTimes 22 = .ok (.ireturn, 1) := by decide +kernel
theorem dX11_notes_0 : decode cX11_notes 0 = .ok (.aload_n 0, 1) := by decide +kernel
theorem dX11_notes_1 : decode cX11_notes 1 = .ok (.getfield 35, 3) := by decide +kernel
theorem dX11_notes_4 : decode cX11_notes 4 = .ok (.aload_n 0, 1) := by decide +kernel
theorem dX11_notes_5 : decode cX11_notes 5 = .ok (.getfield 194, 3) := by decide +kernel
theorem dX11_notes_8 : decode cX11_notes 8 = .ok (.ldc 197, 2) := by decide +kernel
theorem dX11_notes_10 : decode cX11_notes 10 = .ok (.iload_n 1, 1) := by decide +kernel
theorem dX11_notes_11 : decode cX11_notes 11 = .ok (.imul, 1) := by decide +kernel
theorem dX11_notes_12 : decode cX11_notes 12 = .ok (.iload_n 2, 1) := by decide +kernel
theorem dX11_notes_13 : decode cX11_notes 13 = .ok (.iadd, 1) := by decide +kernel
theorem dX11_notes_14 : decode cX11_notes 14 = .ok (.iastore, 1) := by decide +kernel
theorem dX11_notes_15 : decode cX11_notes 15 = .ok (.aload_n 0, 1) := by decide +kernel
theorem dX11_notes_16 : decode cX11_notes 16 = .ok (.aload_n 0, 1) := by decide +kernel
theorem dX11_notes_17 : decode cX11_notes 17 = .ok (.getfield 194, 3) := by decide +kernel
theorem dX11_notes_20 : decode cX11_notes 20 = .ok (.iconst 1, 1) := by decide +kernel
theorem dX11_notes_21 : decode cX11_notes 21 = .ok (.iadd, 1) := by decide +kernel
theorem dX11_notes_22 : decode cX11_notes 22 = .ok (.putfield 194, 3) := by decide +kernel
theorem dX11_notes_25 : decode cX11_notes 25 = .ok (.return_, 1) := by decide +kernel
theorem dX11_opens_0 : decode cX11_opens 0 = .ok (.aload_n 0, 1) := by decide +kernel
theorem dX11_opens_1 : decode cX11_opens 1 = .ok (.getfield 198, 3) := by decide +kernel
theorem dX11_opens_4 : decode cX11_opens 4 = .ok (.bipush 6, 2) := by decide +kernel
theorem dX11_opens_6 : decode cX11_opens 6 = .ok (.if_icmp .ne 13, 3) := by decide +kernel
theorem dX11_opens_9 : decode cX11_opens 9 = .ok (.aload_n 0, 1) := by decide +kernel
theorem dX11_opens_10 : decode cX11_opens 10 = .ok (.iconst 5, 1) := by decide +kernel
theorem dX11_opens_11 : decode cX11_opens 11 = .ok (.aload_n 0, 1) := by decide +kernel
theorem dX11_opens_12 : decode cX11_opens 12 = .ok (.getfield 171, 3) := by decide +kernel
theorem dX11_opens_15 : decode cX11_opens 15 = .ok (.invokevirtual 184, 3) := by decide +kernel
theorem dX11_opens_18 : decode cX11_opens 18 = .ok (.ireturn, 1) := by decide +kernel
theorem dX11_opens_19 : decode cX11_opens 19 = .ok (.aload_n 0, 1) := by decide +kernel
theorem dX11_opens_20 : decode cX11_opens 20 = .ok (.aload_n 0, 1) := by decide +kernel
theorem dX11_opens_21 : decode cX11_opens 21 = .ok (.getfield 198, 3) := by decide +kernel
theorem dX11_opens_24 : decode cX11_opens 24 = .ok (.iconst 1, 1) := by decide +kernel
theorem dX11_opens_25 : decode cX11_opens 25 = .ok (.iadd, 1) := by decide +kernel
theorem dX11_opens_26 : decode cX11_opens 26 = .ok (.putfield 198, 3) := by decide +kernel
theorem dX11_opens_29 : decode cX11_opens 29 = .ok (.aload_n 0, 1) := by decide +kernel
theorem dX11_opens_30 : decode cX11_opens 30 = .ok (.getfield 38, 3) := by decide +kernel
theorem dX11_opens_33 : decode cX11_opens 33 = .ok (.aload_n 0, 1) := by decide +kernel
theorem dX11_opens_34 : decode cX11_opens 34 = .ok (.getfield 201, 3) := by decide +kernel
theorem dX11_opens_37 : decode cX11_opens 37 = .ok (.ldc 197, 2) := by decide +kernel
theorem dX11_opens_39 : decode cX11_opens 39 = .ok (.iload_n 1, 1) := by decide +kernel
theorem dX11_opens_40 : decode cX11_opens 40 = .ok (.imul, 1) := by decide +kernel
theorem dX11_opens_41 : decode cX11_opens 41 = .ok (.iastore, 1) := by decide +kernel
theorem dX11_opens_42 : decode cX11_opens 42 = .ok (.aload_n 0, 1) := by decide +kernel
theorem dX11_opens_43 : decode cX11_opens 43 = .ok (.aload_n 0, 1) := by decide +kernel
theorem dX11_opens_44 : decode cX11_opens 44 = .ok (.getfield 201, 3) := by decide +kernel
theorem dX11_opens_47 : decode cX11_opens 47 = .ok (.iconst 1, 1) := by decide +kernel
theorem dX11_opens_48 : decode cX11_opens 48 = .ok (.iadd, 1) := by decide +kernel
theorem dX11_opens_49 : decode cX11_opens 49 = .ok (.putfield 201, 3) := by decide +kernel
theorem dX11_opens_52 : decode cX11_opens 52 = .ok (.aload_n 0, 1) := by decide +kernel
theorem dX11_opens_53 : decode cX11_opens 53 = .ok (.aload_n 0, 1) := by decide +kernel
theorem dX11_opens_54 : decode cX11_opens 54 = .ok (.getfield 171, 3) := by decide +kernel
theorem dX11_opens_57 : decode cX11_opens 57 = .ok (.iconst 1, 1) := by decide +kernel
theorem dX11_opens_58 : decode cX11_opens 58 = .ok (.iadd, 1) := by decide +kernel
theorem dX11_opens_59 : decode cX11_opens 59 = .ok (.putfield 171, 3) := by decide +kernel
theorem dX11_opens_62 : decode cX11_opens 62 = .ok (.iconst 1, 1) := by decide +kernel
theorem dX11_opens_63 : decode cX11_opens 63 = .ok (.ireturn, 1) := by decide +kernel
theorem dX11_readsNumber_0 : decode cX11_readsNumber 0 = .ok (.aload_n 0, 1) := by decide +kernel
theorem dX11_readsNumber_1 : decode cX11_readsNumber 1 = .ok (.getfield 171, 3) := by decide +kernel
theorem dX11_readsNumber_4 : decode cX11_readsNumber 4 = .ok (.istore_n 1, 1) := by decide +kernel
theorem dX11_readsNumber_5 : decode cX11_readsNumber 5 = .ok (.aload_n 0, 1) := by decide +kernel
theorem dX11_readsNumber_6 : decode cX11_readsNumber 6 = .ok (.iconst 0, 1) := by decide +kernel
theorem dX11_readsNumber_7 : decode cX11_readsNumber 7 = .ok (.putfield 187, 3) := by decide +kernel
theorem dX11_readsNumber_10 : decode cX11_readsNumber 10 = .ok (.aload_n 0, 1) := by decide +kernel
theorem dX11_readsNumber_11 : decode cX11_readsNumber 11 = .ok (.invokevirtual 190, 3) := by decide +kernel
theorem dX11_readsNumber_14 : decode cX11_readsNumber 14 = .ok (.ifCond .eq 55, 3) := by decide +kernel
theorem dX11_readsNumber_17 : decode cX11_readsNumber 17 = .ok (.aload_n 0, 1) := by decide +kernel
theorem dX11_readsNumber_18 : decode cX11_readsNumber 18 = .ok (.getfield 171, 3) := by decide +kernel
theorem dX11_readsNumber_21 : decode cX11_readsNumber 21 = .ok (.iload_n 1, 1) := by decide +kernel
theorem dX11_readsNumber_22 : decode cX11_readsNumber 22 = .ok (.iconst 5, 1) := by decide +kernel
theorem dX11_readsNumber_23 : decode cX11_readsNumber 23 = .ok (.iadd, 1) := by decide +kernel
theorem dX11_readsNumber_24 : decode cX11_readsNumber 24 = .ok (.if_icmp .ne 13, 3) := by decide +kernel
theorem dX11_readsNumber_27 : decode cX11_readsNumber 27 = .ok (.aload_n 0, 1) := by decide +kernel
theorem dX11_readsNumber_28 : decode cX11_readsNumber 28 = .ok (.iconst 2, 1) := by decide +kernel
theorem dX11_readsNumber_29 : decode cX11_readsNumber 29 = .ok (.aload_n 0, 1) := by decide +kernel
theorem dX11_readsNumber_30 : decode cX11_readsNumber 30 = .ok (.getfield 171, 3) := by decide +kernel
theorem dX11_readsNumber_33 : decode cX11_readsNumber 33 = .ok (.invokevirtual 184, 3) := by decide +kernel
theorem dX11_readsNumber_36 : decode cX11_readsNumber 36 = .ok (.ireturn, 1) := by decide +kernel
theorem dX11_readsNumber_37 : decode cX11_readsNumber 37 = .ok (.aload_n 0, 1) := by decide +kernel
theorem dX11_readsNumber_38 : decode cX11_readsNumber 38 = .ok (.bipush 10, 2) := by decide +kernel
theorem dX11_readsNumber_40 : decode cX11_readsNumber 40 = .ok (.aload_n 0, 1) := by decide +kernel
theorem dX11_readsNumber_41 : decode cX11_readsNumber 41 = .ok (.getfield 187, 3) := by decide +kernel
theorem dX11_readsNumber_44 : decode cX11_readsNumber 44 = .ok (.imul, 1) := by decide +kernel
theorem dX11_readsNumber_45 : decode cX11_readsNumber 45 = .ok (.aload_n 0, 1) := by decide +kernel
theorem dX11_readsNumber_46 : decode cX11_readsNumber 46 = .ok (.invokevirtual 177, 3) := by decide +kernel
theorem dX11_readsNumber_49 : decode cX11_readsNumber 49 = .ok (.iadd, 1) := by decide +kernel
theorem dX11_readsNumber_50 : decode cX11_readsNumber 50 = .ok (.bipush 48, 2) := by decide +kernel
theorem dX11_readsNumber_52 : decode cX11_readsNumber 52 = .ok (.isub, 1) := by decide +kernel
theorem dX11_readsNumber_53 : decode cX11_readsNumber 53 = .ok (.putfield 187, 3) := by decide +kernel
theorem dX11_readsNumber_56 : decode cX11_readsNumber 56 = .ok (.aload_n 0, 1) := by decide +kernel
theorem dX11_readsNumber_57 : decode cX11_readsNumber 57 = .ok (.aload_n 0, 1) := by decide +kernel
theorem dX11_readsNumber_58 : decode cX11_readsNumber 58 = .ok (.getfield 171, 3) := by decide +kernel
theorem dX11_readsNumber_61 : decode cX11_readsNumber 61 = .ok (.iconst 1, 1) := by decide +kernel
theorem dX11_readsNumber_62 : decode cX11_readsNumber 62 = .ok (.iadd, 1) := by decide +kernel
theorem dX11_readsNumber_63 : decode cX11_readsNumber 63 = .ok (.putfield 171, 3) := by decide +kernel
theorem dX11_readsNumber_66 : decode cX11_readsNumber 66 = .ok (.goto (-56), 3) := by decide +kernel
theorem dX11_readsNumber_69 : decode cX11_readsNumber 69 = .ok (.iconst 1, 1) := by decide +kernel
theorem dX11_readsNumber_70 : decode cX11_readsNumber 70 = .ok (.ireturn, 1) := by decide +kernel
theorem dX11_sumSign_0 : decode cX11_sumSign 0 = .ok (.iload_n 0, 1) := by decide +kernel
theorem dX11_sumSign_1 : decode cX11_sumSign 1 = .ok (.bipush 43, 2) := by decide +kernel
theorem dX11_sumSign_3 : decode cX11_sumSign 3 = .ok (.if_icmp .ne 7, 3) := by decide +kernel
theorem dX11_sumSign_6 : decode cX11_sumSign 6 = .ok (.iconst 2, 1) := by decide +kernel
theorem dX11_sumSign_7 : decode cX11_sumSign 7 = .ok (.goto 45, 3) := by decide +kernel
theorem dX11_sumSign_10 : decode cX11_sumSign 10 = .ok (.iload_n 0, 1) := by decide +kernel
theorem dX11_sumSign_11 : decode cX11_sumSign 11 = .ok (.bipush 45, 2) := by decide +kernel
theorem dX11_sumSign_13 : decode cX11_sumSign 13 = .ok (.if_icmp .ne 7, 3) := by decide +kernel
theorem dX11_sumSign_16 : decode cX11_sumSign 16 = .ok (.iconst 3, 1) := by decide +kernel
theorem dX11_sumSign_17 : decode cX11_sumSign 17 = .ok (.goto 35, 3) := by decide +kernel
theorem dX11_sumSign_20 : decode cX11_sumSign 20 = .ok (.iload_n 0, 1) := by decide +kernel
theorem dX11_sumSign_21 : decode cX11_sumSign 21 = .ok (.bipush 42, 2) := by decide +kernel
theorem dX11_sumSign_23 : decode cX11_sumSign 23 = .ok (.if_icmp .ne 7, 3) := by decide +kernel
theorem dX11_sumSign_26 : decode cX11_sumSign 26 = .ok (.iconst 4, 1) := by decide +kernel
theorem dX11_sumSign_27 : decode cX11_sumSign 27 = .ok (.goto 25, 3) := by decide +kernel
theorem dX11_sumSign_30 : decode cX11_sumSign 30 = .ok (.iload_n 0, 1) := by decide +kernel
theorem dX11_sumSign_31 : decode cX11_sumSign 31 = .ok (.bipush 47, 2) := by decide +kernel
theorem dX11_sumSign_33 : decode cX11_sumSign 33 = .ok (.if_icmp .ne 7, 3) := by decide +kernel
theorem dX11_sumSign_36 : decode cX11_sumSign 36 = .ok (.iconst 5, 1) := by decide +kernel
theorem dX11_sumSign_37 : decode cX11_sumSign 37 = .ok (.goto 15, 3) := by decide +kernel
theorem dX11_sumSign_40 : decode cX11_sumSign 40 = .ok (.iload_n 0, 1) := by decide +kernel
theorem dX11_sumSign_41 : decode cX11_sumSign 41 = .ok (.bipush 37, 2) := by decide +kernel
theorem dX11_sumSign_43 : decode cX11_sumSign 43 = .ok (.if_icmp .ne 8, 3) := by decide +kernel
theorem dX11_sumSign_46 : decode cX11_sumSign 46 = .ok (.bipush 6, 2) := by decide +kernel
theorem dX11_sumSign_48 : decode cX11_sumSign 48 = .ok (.goto 4, 3) := by decide +kernel
theorem dX11_sumSign_51 : decode cX11_sumSign 51 = .ok (.iconst (-1), 1) := by decide +kernel
theorem dX11_sumSign_52 : decode cX11_sumSign 52 = .ok (.ireturn, 1) := by decide +kernel
theorem dX11_takes_0 : decode cX11_takes 0 = .ok (.aload_n 0, 1) := by decide +kernel
theorem dX11_takes_1 : decode cX11_takes 1 = .ok (.invokevirtual 177, 3) := by decide +kernel
theorem dX11_takes_4 : decode cX11_takes 4 = .ok (.iload_n 1, 1) := by decide +kernel
theorem dX11_takes_5 : decode cX11_takes 5 = .ok (.if_icmp .eq 13, 3) := by decide +kernel
theorem dX11_takes_8 : decode cX11_takes 8 = .ok (.aload_n 0, 1) := by decide +kernel
theorem dX11_takes_9 : decode cX11_takes 9 = .ok (.iconst 1, 1) := by decide +kernel
theorem dX11_takes_10 : decode cX11_takes 10 = .ok (.aload_n 0, 1) := by decide +kernel
theorem dX11_takes_11 : decode cX11_takes 11 = .ok (.getfield 171, 3) := by decide +kernel
theorem dX11_takes_14 : decode cX11_takes 14 = .ok (.invokevirtual 184, 3) := by decide +kernel
theorem dX11_takes_17 : decode cX11_takes 17 = .ok (.ireturn, 1) := by decide +kernel
theorem dX11_takes_18 : decode cX11_takes 18 = .ok (.aload_n 0, 1) := by decide +kernel
theorem dX11_takes_19 : decode cX11_takes 19 = .ok (.aload_n 0, 1) := by decide +kernel
theorem dX11_takes_20 : decode cX11_takes 20 = .ok (.getfield 171, 3) := by decide +kernel
theorem dX11_takes_23 : decode cX11_takes 23 = .ok (.iconst 1, 1) := by decide +kernel
theorem dX11_takes_24 : decode cX11_takes 24 = .ok (.iadd, 1) := by decide +kernel
theorem dX11_takes_25 : decode cX11_takes 25 = .ok (.putfield 171, 3) := by decide +kernel
theorem dX11_takes_28 : decode cX11_takes 28 = .ok (.iconst 1, 1) := by decide +kernel
theorem dX11_takes_29 : decode cX11_takes 29 = .ok (.ireturn, 1) := by decide +kernel
theorem dX11_waitTop_0 : decode cX11_waitTop 0 = .ok (.aload_n 0, 1) := by decide +kernel
theorem dX11_waitTop_1 : decode cX11_waitTop 1 = .ok (.getfield 201, 3) := by decide +kernel
theorem dX11_waitTop_4 : decode cX11_waitTop 4 = .ok (.ifCond .ne 7, 3) := by decide +kernel
theorem dX11_waitTop_7 : decode cX11_waitTop 7 = .ok (.iconst (-1), 1) := by decide +kernel
theorem dX11_waitTop_8 : decode cX11_waitTop 8 = .ok (.goto 17, 3) := by decide +kernel
theorem dX11_waitTop_11 : decode cX11_waitTop 11 = .ok (.aload_n 0, 1) := by decide +kernel
theorem dX11_waitTop_12 : decode cX11_waitTop 12 = .ok (.getfield 38, 3) := by decide +kernel
theorem dX11_waitTop_15 : decode cX11_waitTop 15 = .ok (.aload_n 0, 1) := by decide +kernel
theorem dX11_waitTop_16 : decode cX11_waitTop 16 = .ok (.getfield 201, 3) := by decide +kernel
theorem dX11_waitTop_19 : decode cX11_waitTop 19 = .ok (.iconst 1, 1) := by decide +kernel
theorem dX11_waitTop_20 : decode cX11_waitTop 20 = .ok (.isub, 1) := by decide +kernel
theorem dX11_waitTop_21 : decode cX11_waitTop 21 = .ok (.iaload, 1) := by decide +kernel
theorem dX11_waitTop_22 : decode cX11_waitTop 22 = .ok (.ldc 197, 2) := by decide +kernel
theorem dX11_waitTop_24 : decode cX11_waitTop 24 = .ok (.idiv, 1) := by decide +kernel
theorem dX11_waitTop_25 : decode cX11_waitTop 25 = .ok (.ireturn, 1) := by decide +kernel
theorem dX11_wayOf_0 : decode cX11_wayOf 0 = .ok (.iload_n 0, 1) := by decide +kernel
theorem dX11_wayOf_1 : decode cX11_wayOf 1 = .ok (.lookupswitch 63 #[(46, 60), (101, 53), (110, 51), (115, 55), (119, 57)], 51) := by decide +kernel
theorem dX11_wayOf_52 : decode cX11_wayOf 52 = .ok (.iconst 0, 1) := by decide +kernel
theorem dX11_wayOf_53 : decode cX11_wayOf 53 = .ok (.ireturn, 1) := by decide +kernel
theorem dX11_wayOf_54 : decode cX11_wayOf 54 = .ok (.iconst 2, 1) := by decide +kernel
theorem dX11_wayOf_55 : decode cX11_wayOf 55 = .ok (.ireturn, 1) := by decide +kernel
theorem dX11_wayOf_56 : decode cX11_wayOf 56 = .ok (.iconst 4, 1) := by decide +kernel
theorem dX11_wayOf_57 : decode cX11_wayOf 57 = .ok (.ireturn, 1) := by decide +kernel
theorem dX11_wayOf_58 : decode cX11_wayOf 58 = .ok (.bipush 6, 2) := by decide +kernel
theorem dX11_wayOf_60 : decode cX11_wayOf 60 = .ok (.ireturn, 1) := by decide +kernel
theorem dX11_wayOf_61 : decode cX11_wayOf 61 = .ok (.bipush 8, 2) := by decide +kernel
theorem dX11_wayOf_63 : decode cX11_wayOf 63 = .ok (.ireturn, 1) := by decide +kernel
theorem dX11_wayOf_64 : decode cX11_wayOf 64 = .ok (.iconst (-1), 1) := by decide +kernel
theorem dX11_wayOf_65 : decode cX11_wayOf 65 = .ok (.ireturn, 1) := by decide +kernel
theorem dX11_wrongAt_0 : decode cX11_wrongAt 0 = .ok (.aload_n 0, 1) := by decide +kernel
theorem dX11_wrongAt_1 : decode cX11_wrongAt 1 = .ok (.sipush (-1000), 3) := by decide +kernel
theorem dX11_wrongAt_4 : decode cX11_wrongAt 4 = .ok (.iload_n 1, 1) := by decide +kernel
theorem dX11_wrongAt_5 : decode cX11_wrongAt 5 = .ok (.imul, 1) := by decide +kernel
theorem dX11_wrongAt_6 : decode cX11_wrongAt 6 = .ok (.iload_n 2, 1) := by decide +kernel
theorem dX11_wrongAt_7 : decode cX11_wrongAt 7 = .ok (.isub, 1) := by decide +kernel
theorem dX11_wrongAt_8 : decode cX11_wrongAt 8 = .ok (.putfield 181, 3) := by decide +kernel
theorem dX11_wrongAt_11 : decode cX11_wrongAt 11 = .ok (.iconst 0, 1) := by decide +kernel
theorem dX11_wrongAt_12 : decode cX11_wrongAt 12 = .ok (.ireturn, 1) := by decide +kernel


/-! ===== the reader of a law's text ===== -/
def zhC (σ : xS) : Int := if σ 268 9 < σ 268 10 then σ 276 (σ 268 9) % 256 else -1
theorem zhC_in {σ : xS} (h : σ 268 9 < σ 268 10) : zhC σ = σ 276 (σ 268 9) % 256 := if_pos h
theorem zhC_out {σ : xS} (h : σ 268 10 ≤ σ 268 9) : zhC σ = -1 := if_neg (by omega)
theorem zhC_f {σ τ : xS} (h9 : τ 268 9 = σ 268 9) (h10 : τ 268 10 = σ 268 10) (h : τ 276 = σ 276) : zhC τ = zhC σ := by unfold zhC; rw [h9, h10, h]
def ztW (σ : xS) : Int := if σ 268 15 = 0 then -1 else σ 278 (σ 268 15 - 1) / 1048576
theorem ztW_0 {σ : xS} (h : σ 268 15 = 0) : ztW σ = -1 := if_pos h
theorem ztW_1 {σ : xS} (h : σ 268 15 ≠ 0) : ztW σ = σ 278 (σ 268 15 - 1) / 1048576 := if_neg h
def zNB (d n : Int) : Prop := (d = 0 ∧ 0 ≤ n ∧ n ≤ 0) ∨ (d = 1 ∧ 0 ≤ n ∧ n ≤ 9) ∨ (d = 2 ∧ 0 ≤ n ∧ n ≤ 99) ∨ (d = 3 ∧ 0 ≤ n ∧ n ≤ 999) ∨ (d = 4 ∧ 0 ≤ n ∧ n ≤ 9999) ∨ (d = 5 ∧ 0 ≤ n ∧ n ≤ 99999)
theorem zNB_0 {d n : Int} (h : d = 0) (h2 : n = 0) : zNB d n := Or.inl ⟨h, by omega⟩
theorem zNB_le {d n : Int} (h : zNB d n) : (0 ≤ d ∧ d ≤ 5) ∧ 0 ≤ n ∧ n ≤ 99999 := by unfold zNB at h; omega
theorem zNB_s {d n d2 n2 : Int} (h : zNB d n) (h5 : d ≠ 5) (e : d2 = d + 1) (h2 : 10 * n ≤ n2 ∧ n2 ≤ 10 * n + 9) : zNB d2 n2 := by unfold zNB at h ⊢; omega
def zcnt (lo hi : Int) (w : Int → Int) (b : Int) : Nat → Int
  | 0 => 0
  | n + 1 => zcnt lo hi w b n + (if lo ≤ w (b + n) ∧ w (b + n) < hi then 1 else 0)
theorem zcnt_s {lo hi b : Int} {w : Int → Int} (n : Nat) : zcnt lo hi w b (n + 1) = zcnt lo hi w b n + (if lo ≤ w (b + n) ∧ w (b + n) < hi then 1 else 0) := rfl
def zcI (lo hi : Int) (w : Int → Int) (b m : Int) : Int := zcnt lo hi w b (m - b).toNat
theorem zcnt_f {lo hi b : Int} {w w2 : Int → Int} : ∀ n : Nat, (∀ i, b ≤ i → i < b + n → w2 i = w i) → zcnt lo hi w2 b n = zcnt lo hi w b n
  | 0, _ => rfl
  | n + 1, h => by
    unfold zcnt
    rw [zcnt_f n (fun i h1 h2 => h i h1 (by omega)), h (b + n) (by omega) (by omega)]
theorem zcnt_n {lo hi b : Int} {w : Int → Int} : ∀ n : Nat, 0 ≤ zcnt lo hi w b n
  | 0 => Int.le_refl _
  | n + 1 => by
    have := zcnt_n (lo := lo) (hi := hi) (b := b) (w := w) n
    unfold zcnt
    split <;> omega
theorem zcI_n {lo hi b m : Int} {w : Int → Int} : 0 ≤ zcI lo hi w b m := zcnt_n _
theorem zcI_0 {lo hi b : Int} {w : Int → Int} : zcI lo hi w b b = 0 := by
  unfold zcI
  rw [show (b - b).toNat = 0 from by omega]
  rfl
theorem zcI_f {lo hi b m : Int} {w w2 : Int → Int} (h : ∀ i, b ≤ i → i < m → w2 i = w i) : zcI lo hi w2 b m = zcI lo hi w b m :=
  zcnt_f _ (fun i h1 h2 => h i h1 (by omega))
theorem zcI_s {lo hi b m : Int} {w : Int → Int} (h : b ≤ m) : zcI lo hi w b (m + 1) = zcI lo hi w b m + (if lo ≤ w m ∧ w m < hi then 1 else 0) := by
  unfold zcI
  rw [show (m + 1 - b).toNat = (m - b).toNat + 1 from by omega, zcnt_s, show b + (((m - b).toNat : Nat) : Int) = m from by omega]
theorem zcI_y {lo hi b m : Int} {w : Int → Int} (h : b ≤ m) (h1 : lo ≤ w m ∧ w m < hi) : zcI lo hi w b (m + 1) = zcI lo hi w b m + 1 := by rw [zcI_s h, if_pos h1]
theorem zcI_z {lo hi b m : Int} {w : Int → Int} (h : b ≤ m) (h1 : w m < lo ∨ hi ≤ w m) : zcI lo hi w b (m + 1) = zcI lo hi w b m := by rw [zcI_s h, if_neg (by omega)]; omega
theorem zcI_xud {lo hi b m v : Int} {w : Int → Int} : zcI lo hi (xud w m v) b m = zcI lo hi w b m := zcI_f (fun i _ h => xud_o w v (by omega))
/-- one place of the code: d the depths, w the waiting ones -/
def zokc (c w d : Int → Int) (C W k : Int) : Prop := 0 ≤ c k ∧
  ((c k < 1048576 ∧ d (k + 1) = d k + 1) ∨ ((1048576 ≤ c k ∧ c k < 1048583) ∧ d (k + 1) = d k + 1) ∨
   ((10485760 ≤ c k ∧ c k < 11534336) ∧ 1 ≤ d k ∧ d (k + 1) = d k) ∨
   ((11534336 ≤ c k ∧ c k < 13631488) ∧ d k = 1 ∧ d (k + 1) = 0 ∧ ((k < c k % 1048576 ∧ c k % 1048576 ≤ C ∧ d (c k % 1048576) = 1) ∨ ∃ i, 0 ≤ i ∧ i < W ∧ w i % 1048576 = k ∧ 11534336 ≤ w i ∧ w i < 13631488)) ∨
   ((2097152 ≤ c k ∧ c k < 10485760) ∧ 2 ≤ d k ∧ d (k + 1) = d k - 1))
def zokw (c w d : Int → Int) (a C i : Int) : Prop := a ≤ w i % 1048576 ∧ w i % 1048576 < C ∧ (11534336 ≤ c (w i % 1048576) ∧ c (w i % 1048576) < 13631488) ∧ d (w i % 1048576) = 1
def zDC (c w : Int → Int) (C W a D : Int) : Prop := ∃ d : Int → Int, d a = 0 ∧ d C = D ∧ (∀ k, a ≤ k → k < C → zokc c w d C W k) ∧ (∀ k, a ≤ k → k ≤ C → 0 ≤ d k ∧ d k ≤ k - a) ∧ ∀ i, 0 ≤ i → i < W → 11534336 ≤ w i → w i < 13631488 → zokw c w d a C i
theorem zDC_new (c w : Int → Int) (a : Int) : zDC c w a 0 a 0 := ⟨fun _ => 0, rfl, rfl, fun k h1 h2 => by omega, fun k h1 h2 => ⟨Int.le_refl _, by show (0 : Int) ≤ k - a; omega⟩, fun i h1 h2 => by omega⟩
theorem zokc_w {c w w2 d : Int → Int} {C W W2 k : Int} (h : zokc c w d C W k) (hw : ∀ i, 0 ≤ i → i < W → 11534336 ≤ w i → w i < 13631488 → i < W2 ∧ w2 i = w i) : zokc c w2 d C W2 k := by
  obtain ⟨h0, h⟩ := h
  refine ⟨h0, ?_⟩
  rcases h with h | h | h | ⟨h1, h2, h3, h4 | ⟨i, i1, i2, i3, i4, i5⟩⟩ | h
  · exact Or.inl h
  · exact Or.inr (Or.inl h)
  · exact Or.inr (Or.inr (Or.inl h))
  · exact Or.inr (Or.inr (Or.inr (Or.inl ⟨h1, h2, h3, Or.inl h4⟩)))
  · have q := hw i i1 i2 i4 i5
    exact Or.inr (Or.inr (Or.inr (Or.inl ⟨h1, h2, h3, Or.inr ⟨i, i1, q.1, by rw [q.2]; exact i3, by rw [q.2]; exact i4, by rw [q.2]; exact i5⟩⟩)))
  · exact Or.inr (Or.inr (Or.inr (Or.inr h)))
theorem zDC_pop {c w : Int → Int} {C W a D : Int} (h : zDC c w C W a D) (hv : w (W - 1) < 11534336 ∨ 13631488 ≤ w (W - 1)) : zDC c w C (W - 1) a D := by
  obtain ⟨d, h1, h2, h3, h4, h5⟩ := h
  refine ⟨d, h1, h2, fun k k1 k2 => zokc_w (h3 k k1 k2) (fun i i1 i2 i3 i4 => ⟨?_, rfl⟩), h4, fun i i1 i2 => h5 i i1 (by omega)⟩
  by_cases e : i = W - 1
  · subst e; omega
  · omega
theorem zDC_push {c w : Int → Int} {C W a D v : Int} (h : zDC c w C W a D) (hv : v < 11534336 ∨ 13631488 ≤ v) : zDC c (xud w W v) C (W + 1) a D := by
  obtain ⟨d, h1, h2, h3, h4, h5⟩ := h
  refine ⟨d, h1, h2, fun k k1 k2 => zokc_w (h3 k k1 k2) (fun i i1 i2 i3 i4 => ⟨by omega, xud_o w v (by omega)⟩), h4, fun i i1 i2 i3 i4 => ?_⟩
  by_cases e : i = W
  · subst e; rw [xud_s] at i3 i4; omega
  · have q : xud w W v i = w i := xud_o w v e
    rw [q] at i3 i4
    unfold zokw
    rw [q]
    exact h5 i i1 (by omega) i3 i4
theorem zokc_c {c c2 w d d2 : Int → Int} {C C2 W k : Int} (h : zokc c w d C W k) (hc : c2 k = c k) (hd : ∀ q, q ≤ C → d2 q = d q) (hk : k < C) (zhC : C ≤ C2) : zokc c2 w d2 C2 W k := by
  unfold zokc at h ⊢
  rw [hc, hd k (by omega), hd (k + 1) (by omega)]
  obtain ⟨h0, h⟩ := h
  refine ⟨h0, ?_⟩
  rcases h with h | h | h | ⟨h1, h2, h3, h4 | h4⟩ | h
  · exact Or.inl h
  · exact Or.inr (Or.inl h)
  · exact Or.inr (Or.inr (Or.inl h))
  · exact Or.inr (Or.inr (Or.inr (Or.inl ⟨h1, h2, h3, Or.inl ⟨h4.1, by omega, by rw [hd _ h4.2.1]; exact h4.2.2⟩⟩)))
  · exact Or.inr (Or.inr (Or.inr (Or.inl ⟨h1, h2, h3, Or.inr h4⟩)))
  · exact Or.inr (Or.inr (Or.inr (Or.inr h)))
/-- one code more, none that jumps -/
theorem zDC_note {c w : Int → Int} {C W a D D2 v : Int} (h : zDC c w C W a D) (ha : a ≤ C) (hv : 0 ≤ v) (hD : (v < 1048583 ∧ D2 = D + 1) ∨ ((10485760 ≤ v ∧ v < 11534336) ∧ 1 ≤ D ∧ D2 = D) ∨ ((2097152 ≤ v ∧ v < 10485760) ∧ 2 ≤ D ∧ D2 = D - 1)) : zDC (xud c C v) w (C + 1) W a D2 := by
  obtain ⟨d, h1, h2, h3, h4, h5⟩ := h
  have hq : ∀ q, q ≤ C → xud d (C + 1) D2 q = d q := fun q h => xud_o d D2 (by omega)
  have hb := h4 C ha (Int.le_refl _)
  refine ⟨xud d (C + 1) D2, by rw [hq _ ha]; exact h1, xud_s _ _ _, fun k k1 k2 => ?_, fun k k1 k2 => ?_, fun i i1 i2 i3 i4 => ?_⟩
  · by_cases e : k = C
    · subst e
      unfold zokc
      rw [xud_s, xud_s, hq _ (Int.le_refl _), h2]
      refine ⟨hv, ?_⟩
      rcases hD with hD | hD | hD
      · by_cases e : v < 1048576
        · exact Or.inl ⟨e, hD.2⟩
        · exact Or.inr (Or.inl ⟨⟨by omega, hD.1⟩, hD.2⟩)
      · exact Or.inr (Or.inr (Or.inl hD))
      · exact Or.inr (Or.inr (Or.inr (Or.inr hD)))
    · exact zokc_c (h3 k k1 (by omega)) (xud_o c v e) hq (by omega) (by omega)
  · by_cases e : k = C + 1
    · subst e
      rw [xud_s]
      rw [h2] at hb
      omega
    · rw [hq k (by omega)]
      exact h4 k k1 (by omega)
  · have q := h5 i i1 i2 i3 i4
    unfold zokw at q ⊢
    rw [hq _ (by omega), xud_o c v (by omega)]
    exact ⟨q.1, by omega, q.2.2⟩
/-- a jump: it waits for its landing -/
theorem zDC_jump {c w : Int → Int} {C W a o : Int} (h : zDC c w C W a 1) (ha : 0 ≤ a ∧ a ≤ C ∧ C < 1048576) (hW : 0 ≤ W) (ho : o = 11 ∨ o = 12) : zDC (xud c C (1048576 * o)) (xud w W (1048576 * o + C)) (C + 1) (W + 1) a 0 := by
  obtain ⟨d, h1, h2, h3, h4, h5⟩ := h
  have hq : ∀ q, q ≤ C → xud d (C + 1) 0 q = d q := fun q h => xud_o d 0 (by omega)
  have hm : (1048576 * o + C) % 1048576 = C := by omega
  refine ⟨xud d (C + 1) 0, by rw [hq _ ha.2.1]; exact h1, xud_s _ _ _, fun k k1 k2 => ?_, fun k k1 k2 => ?_, fun i i1 i2 i3 i4 => ?_⟩
  · by_cases e : k = C
    · subst e
      unfold zokc
      rw [xud_s, xud_s, hq _ (Int.le_refl _), h2]
      exact ⟨by omega, Or.inr (Or.inr (Or.inr (Or.inl ⟨by omega, rfl, rfl, Or.inr ⟨W, hW, by omega, by rw [xud_s]; omega, by rw [xud_s]; omega, by rw [xud_s]; omega⟩⟩)))⟩
    · exact zokc_w (zokc_c (h3 k k1 (by omega)) (xud_o c _ e) hq (by omega) (by omega)) (fun i i1 i2 _ _ => ⟨by omega, xud_o w _ (by omega)⟩)
  · by_cases e : k = C + 1
    · subst e; rw [xud_s]; omega
    · rw [hq k (by omega)]
      exact h4 k k1 (by omega)
  · by_cases e : i = W
    · subst e
      unfold zokw
      rw [xud_s, hm, xud_s, hq _ (Int.le_refl _), h2]
      omega
    · have qw : xud w W (1048576 * o + C) i = w i := xud_o w _ e
      rw [qw] at i3 i4
      have q := h5 i i1 (by omega) i3 i4
      unfold zokw at q ⊢
      rw [qw, hq _ (by omega), xud_o c _ (by omega)]
      exact ⟨q.1, by omega, q.2.2⟩
/-- the last waiting jump lands here -/
theorem zDC_land {c w : Int → Int} {C W a k0 : Int} (h : zDC c w C W a 1) (zhC : 0 ≤ a ∧ C < 1048576) (hW : 1 ≤ W) (hw : 11534336 ≤ w (W - 1) ∧ w (W - 1) < 13631488) (hk : k0 = w (W - 1) % 1048576) : zDC (xud c k0 (1048576 * (c k0 / 1048576) + C)) w C (W - 1) a 1 := by
  obtain ⟨d, h1, h2, h3, h4, h5⟩ := h
  have q0 := h5 (W - 1) (by omega) (by omega) hw.1 hw.2
  unfold zokw at q0
  rw [← hk] at q0
  obtain ⟨q1, q2, q3, q4⟩ := q0
  obtain ⟨v, ev⟩ : ∃ v, v = 1048576 * (c k0 / 1048576) + C := ⟨_, rfl⟩
  rw [← ev]
  have hv : (11534336 ≤ v ∧ v < 13631488) ∧ v % 1048576 = C := by omega
  refine ⟨d, h1, h2, fun k k1 k2 => ?_, h4, fun i i1 i2 i3 i4 => ?_⟩
  · by_cases e : k = k0
    · subst e
      have q5 := h3 k k1 k2
      unfold zokc at q5 ⊢
      rw [xud_s]
      obtain ⟨q6, q7⟩ := q5
      have hd : d (k + 1) = 0 := by
        rcases q7 with q | q | q | q | q <;> omega
      exact ⟨by omega, Or.inr (Or.inr (Or.inr (Or.inl ⟨hv.1, q4, hd, Or.inl ⟨by omega, by omega, by rw [hv.2]; exact h2⟩⟩)))⟩
    · have q5 := h3 k k1 k2
      unfold zokc at q5 ⊢
      rw [xud_o c v e]
      obtain ⟨q6, q7⟩ := q5
      refine ⟨q6, ?_⟩
      rcases q7 with q | q | q | ⟨q, r1, r2, r3 | ⟨i, i1, i2, i3, i4, i5⟩⟩ | q
      · exact Or.inl q
      · exact Or.inr (Or.inl q)
      · exact Or.inr (Or.inr (Or.inl q))
      · exact Or.inr (Or.inr (Or.inr (Or.inl ⟨q, r1, r2, Or.inl r3⟩)))
      · refine Or.inr (Or.inr (Or.inr (Or.inl ⟨q, r1, r2, Or.inr ⟨i, i1, ?_, i3, i4, i5⟩⟩)))
        by_cases e2 : i = W - 1
        · subst e2; omega
        · omega
      · exact Or.inr (Or.inr (Or.inr (Or.inr q)))
  · have q := h5 i i1 (by omega) i3 i4
    unfold zokw at q ⊢
    by_cases e : w i % 1048576 = k0
    · rw [e] at q ⊢
      rw [xud_s]
      exact ⟨q.1, q.2.1, hv.1, q.2.2.2⟩
    · rw [xud_o c v e]
      exact q
theorem zDC_at {c w : Int → Int} {C W a D : Int} (h : zDC c w C W a D) (hW : 1 ≤ W) (hw : 11534336 ≤ w (W - 1) ∧ w (W - 1) < 13631488) : a ≤ w (W - 1) % 1048576 ∧ w (W - 1) % 1048576 < C ∧ 11534336 ≤ c (w (W - 1) % 1048576) ∧ c (w (W - 1) % 1048576) < 13631488 := by
  obtain ⟨d, h1, h2, h3, h4, h5⟩ := h
  have q := h5 (W - 1) (by omega) (by omega) hw.1 hw.2
  exact ⟨q.1, q.2.1, q.2.2.1⟩
theorem zDC_c {c c2 w w2 : Int → Int} {C W a D : Int} (h : zDC c w C W a D) (hw : ∀ i, 0 ≤ i → i < W → w2 i = w i) (hc : c2 = c) : zDC c2 w2 C W a D := by
  subst hc
  obtain ⟨d, h1, h2, h3, h4, h5⟩ := h
  refine ⟨d, h1, h2, fun k k1 k2 => zokc_w (h3 k k1 k2) (fun i i1 i2 _ _ => ⟨i2, hw i i1 i2⟩), h4, fun i i1 i2 i3 i4 => ?_⟩
  rw [hw i i1 i2] at i3 i4
  unfold zokw
  rw [hw i i1 i2]
  exact h5 i i1 i2 i3 i4
/-- where none waits, the code is safe -/
theorem zgS_DC {c d : Int → Int} {w : Int → Int} {a C : Int} (ha : 0 ≤ a ∧ C ≤ 240) (h3 : ∀ k, a ≤ k → k < C → zokc c w d C 0 k) (h4 : ∀ k, a ≤ k → k ≤ C → 0 ≤ d k ∧ d k ≤ k - a) : ∀ (f k : Nat), a ≤ k → k ≤ C → C - k ≤ f → gS c C.toNat f k (d k).toNat
  | 0, k, h1, h2, h => by
    show k = C.toNat
    omega
  | f + 1, k, h1, h2, h => by
    by_cases e : (k : Int) = C
    · exact Or.inl (by omega)
    · have ih := zgS_DC ha h3 h4 f (k + 1) (by omega) (by omega) (by omega)
      have hb := h4 k h1 h2
      obtain ⟨q0, q⟩ := h3 k h1 (by omega)
      rw [show ((k + 1 : Nat) : Int) = (k : Int) + 1 from by omega] at ih
      refine Or.inr ⟨by omega, q0, ?_⟩
      unfold gO gV
      rcases q with q | q | q | ⟨q, r1, r2, r3 | ⟨i, i1, i2, -⟩⟩ | q
      · rw [q.2] at ih
        exact Or.inl ⟨by omega, by omega, (show (d k).toNat + 1 = (d k + 1).toNat from by omega) ▸ ih⟩
      · rw [q.2] at ih
        exact Or.inr (Or.inl ⟨by omega, by omega, by omega, (show (d k).toNat + 1 = (d k + 1).toNat from by omega) ▸ ih⟩)
      · rw [q.2.2] at ih
        exact Or.inr (Or.inr (Or.inl ⟨by omega, by omega, ih⟩))
      · rw [r2] at ih
        have iv := zgS_DC ha h3 h4 f (c k % 1048576).toNat (by omega) (by omega) (by omega)
        rw [show (((c k % 1048576).toNat : Nat) : Int) = c k % 1048576 from by omega, r3.2.2] at iv
        refine Or.inr (Or.inr (Or.inr (Or.inl ⟨by omega, by omega, ⟨(c k % 1048576).toNat, by omega, by omega, by omega, ?_⟩, ?_⟩)))
        · rw [r1]; exact iv
        · rw [r1]; exact ih
      · omega
      · rw [q.2.2] at ih
        exact Or.inr (Or.inr (Or.inr (Or.inr ⟨by omega, by omega, by omega, (show (d k).toNat - 1 = (d k - 1).toNat from by omega) ▸ ih⟩)))
theorem zDC_seg {c w : Int → Int} {a C D : Int} (h : zDC c w C 0 a D) (ha : 0 ≤ a ∧ a ≤ C ∧ C ≤ 240) : segOK c a C := by
  obtain ⟨d, h1, h2, h3, h4, h5⟩ := h
  refine ⟨ha.1, ha.2.1, ha.2.2, ?_⟩
  have q := zgS_DC ⟨ha.1, ha.2.2⟩ h3 h4 (C - a).toNat a.toNat (by omega) (by omega) (by omega)
  rw [show ((a.toNat : Nat) : Int) = a from by omega, h1] at q
  exact q
theorem segOK_0 (c : Int → Int) {a : Int} (h : 0 ≤ a ∧ a ≤ 240) : segOK c a a := ⟨h.1, Int.le_refl _, h.2, by
  rw [show (a - a).toNat = 0 from by omega]
  exact (rfl : a.toNat = a.toNat)⟩
theorem gS_cp {c c2 : Int → Int} {to : Nat} (h : ∀ k : Nat, k < to → c2 k = c k) : ∀ (f k n : Nat), gS c to f k n → gS c2 to f k n
  | 0, _, _, q => q
  | f + 1, k, n, q => by
    rcases q with q | ⟨hk, h0, q⟩
    · exact Or.inl q
    · refine Or.inr ⟨hk, by rw [h k hk]; exact h0, ?_⟩
      rw [h k hk]
      rcases q with ⟨a, a2, b⟩ | ⟨a, a2, a3, b⟩ | ⟨a, a2, b⟩ | ⟨a, a2, ⟨v, v1, v2, v3, v4⟩, b⟩ | ⟨a, a2, a3, b⟩
      · exact Or.inl ⟨a, a2, gS_cp h _ _ _ b⟩
      · exact Or.inr (Or.inl ⟨a, a2, a3, gS_cp h _ _ _ b⟩)
      · exact Or.inr (Or.inr (Or.inl ⟨a, a2, gS_cp h _ _ _ b⟩))
      · exact Or.inr (Or.inr (Or.inr (Or.inl ⟨a, a2, ⟨v, v1, v2, v3, gS_cp h _ _ _ v4⟩, gS_cp h _ _ _ b⟩)))
      · exact Or.inr (Or.inr (Or.inr (Or.inr ⟨a, a2, a3, gS_cp h _ _ _ b⟩)))
theorem segOK_cp {c c2 : Int → Int} {a b : Int} (hq : segOK c a b) (h : ∀ k, 0 ≤ k → k < b → c2 k = c k) : segOK c2 a b :=
  ⟨hq.1, hq.2.1, hq.2.2.1, gS_cp (fun k hk => h k (by omega) (by omega)) _ _ _ hq.2.2.2⟩
/-- within a sum: base b, c0 the code below a, w0 what waits below b, K its claims on the place, D0 the depth before, e whether a value stands -/
def zLS (c0 : Int → Int) (a M : Int) (w0 : Int → Int) (b K D0 e : Int) (σ : xS) : Prop :=
  (0 ≤ σ 268 9 ∧ σ 268 9 ≤ σ 268 10 ∧ σ 268 10 ≤ 240) ∧ σ 268 16 = M ∧ (∀ k, 0 ≤ k → k < a → σ 277 k = c0 k) ∧ (0 ≤ a ∧ a ≤ σ 268 14) ∧
  (0 ≤ b ∧ b ≤ σ 268 15 ∧ σ 268 15 ≤ σ 268 9 ∧ 0 ≤ K ∧ 0 ≤ D0) ∧
  (σ 268 14 + K + zcI 2097152 7340032 (σ 278) b (σ 268 15) ≤ σ 268 9) ∧
  (∀ i, 0 ≤ i → i < b → σ 278 i = w0 i ∧ 10485760 ≤ w0 i ∧ w0 i < 14680064) ∧
  (∀ i, b ≤ i → i < σ 268 15 → (2097152 ≤ σ 278 i ∧ σ 278 i < 7340032) ∨ (14680064 ≤ σ 278 i ∧ σ 278 i < 15728640)) ∧
  zDC (σ 277) (σ 278) (σ 268 14) (σ 268 15) a (D0 + zcI 2097152 7340032 (σ 278) b (σ 268 15) + e)
section XL
variable {c0 w0 : Int → Int} {a M b K D0 e : Int} {σ τ : xS}
theorem zLS.p (h : zLS c0 a M w0 b K D0 e σ) : 0 ≤ σ 268 9 ∧ σ 268 9 ≤ σ 268 10 ∧ σ 268 10 ≤ 240 := h.1
theorem zLS.m (h : zLS c0 a M w0 b K D0 e σ) : σ 268 16 = M := h.2.1
theorem zLS.old (h : zLS c0 a M w0 b K D0 e σ) : ∀ k, 0 ≤ k → k < a → σ 277 k = c0 k := h.2.2.1
theorem zLS.ca (h : zLS c0 a M w0 b K D0 e σ) : 0 ≤ a ∧ a ≤ σ 268 14 := h.2.2.2.1
theorem zLS.wb (h : zLS c0 a M w0 b K D0 e σ) : 0 ≤ b ∧ b ≤ σ 268 15 ∧ σ 268 15 ≤ σ 268 9 ∧ 0 ≤ K ∧ 0 ≤ D0 := h.2.2.2.2.1
theorem zLS.sz (h : zLS c0 a M w0 b K D0 e σ) : σ 268 14 + K + zcI 2097152 7340032 (σ 278) b (σ 268 15) ≤ σ 268 9 := h.2.2.2.2.2.1
theorem zLS.lo (h : zLS c0 a M w0 b K D0 e σ) : ∀ i, 0 ≤ i → i < b → σ 278 i = w0 i ∧ 10485760 ≤ w0 i ∧ w0 i < 14680064 := h.2.2.2.2.2.2.1
theorem zLS.hi (h : zLS c0 a M w0 b K D0 e σ) : ∀ i, b ≤ i → i < σ 268 15 → (2097152 ≤ σ 278 i ∧ σ 278 i < 7340032) ∨ (14680064 ≤ σ 278 i ∧ σ 278 i < 15728640) := h.2.2.2.2.2.2.2.1
theorem zLS.d (h : zLS c0 a M w0 b K D0 e σ) : zDC (σ 277) (σ 278) (σ 268 14) (σ 268 15) a (D0 + zcI 2097152 7340032 (σ 278) b (σ 268 15) + e) := h.2.2.2.2.2.2.2.2
theorem zLS.cw (h : zLS c0 a M w0 b K D0 e σ) : (0 ≤ σ 268 14 ∧ σ 268 14 ≤ 240) ∧ 0 ≤ σ 268 15 ∧ σ 268 15 ≤ 240 := by
  have h1 := h.p; have h2 := h.ca; have h3 := h.wb; have h4 := h.sz
  have h5 : 0 ≤ zcI 2097152 7340032 (σ 278) b (σ 268 15) := zcI_n
  omega
theorem zLS.wt (h : zLS c0 a M w0 b K D0 e σ) : 0 ≤ σ 268 15 ∧ σ 268 15 ≤ 260 ∧ (σ 268 15 = 0 ∨ 0 ≤ σ 278 (σ 268 15 - 1)) := by
  have h1 := h.cw; have h2 := h.wb
  refine ⟨h1.2.1, by omega, ?_⟩
  by_cases e : σ 268 15 = 0
  · exact Or.inl e
  · by_cases e2 : b ≤ σ 268 15 - 1
    · have := h.hi _ e2 (by omega)
      omega
    · have := h.lo (σ 268 15 - 1) (by omega) (by omega)
      omega
theorem zLS.place (h : zLS c0 a M w0 b K D0 e σ) (e9 : σ 268 9 ≤ τ 268 9 ∧ τ 268 9 ≤ σ 268 10) (e10 : τ 268 10 = σ 268 10) (e14 : τ 268 14 = σ 268 14) (e15 : τ 268 15 = σ 268 15) (e16 : τ 268 16 = σ 268 16) (h7 : τ 277 = σ 277) (h8 : τ 278 = σ 278) : zLS c0 a M w0 b K D0 e τ := by
  have h1 := h.p; have h2 := h.wb; have h3 := h.sz
  exact ⟨by omega, by rw [e16]; exact h.m, by rw [h7]; exact h.old, by rw [e14]; exact h.ca, by omega, by rw [e14, h8, e15]; omega, by rw [h8]; exact h.lo, by rw [h8, e15]; exact h.hi, by rw [h7, h8, e14, e15]; exact h.d⟩
theorem zLS.note {v : Int} (h : zLS c0 a M w0 b K D0 0 σ) (e9 : σ 268 9 + 1 ≤ τ 268 9 ∧ τ 268 9 ≤ σ 268 10) (e10 : τ 268 10 = σ 268 10) (e14 : τ 268 14 = σ 268 14 + 1) (e15 : τ 268 15 = σ 268 15) (e16 : τ 268 16 = σ 268 16) (h7 : τ 277 = xud (σ 277) (σ 268 14) v) (h8 : τ 278 = σ 278) (hv : 0 ≤ v ∧ v < 1048583) : zLS c0 a M w0 b K D0 1 τ := by
  have h1 := h.p; have h2 := h.wb; have h3 := h.sz; have h4 := h.ca
  refine ⟨by omega, by rw [e16]; exact h.m, fun k k1 k2 => by rw [h7, xud_o _ _ (by omega)]; exact h.old k k1 k2, by omega, by omega, by rw [e14, h8, e15]; omega, by rw [h8]; exact h.lo, by rw [h8, e15]; exact h.hi, ?_⟩
  rw [h7, h8, e14, e15]
  exact zDC_note h.d h4.2 hv.1 (Or.inl ⟨hv.2, by omega⟩)
theorem zLS.push {v e2 : Int} (h : zLS c0 a M w0 b K D0 e σ) (e9 : τ 268 9 = σ 268 9 + 1 ∧ σ 268 9 < σ 268 10) (e10 : τ 268 10 = σ 268 10) (e14 : τ 268 14 = σ 268 14) (e15 : τ 268 15 = σ 268 15 + 1) (e16 : τ 268 16 = σ 268 16) (h7 : τ 277 = σ 277) (h8 : τ 278 = xud (σ 278) (σ 268 15) v) (hv : ((2097152 ≤ v ∧ v < 7340032) ∧ e = e2 + 1) ∨ ((14680064 ≤ v ∧ v < 15728640) ∧ e = e2)) : zLS c0 a M w0 b K D0 e2 τ := by
  have h1 := h.p; have h2 := h.wb; have h3 := h.sz; have h4 := h.ca
  have hc : zcI 2097152 7340032 (τ 278) b (σ 268 15 + 1) = zcI 2097152 7340032 (σ 278) b (σ 268 15) + (e - e2) := by
    rw [h8]
    rcases hv with hv | hv
    · rw [zcI_y h2.2.1 (by rw [xud_s]; exact hv.1), zcI_xud]; omega
    · rw [zcI_z h2.2.1 (by rw [xud_s]; omega), zcI_xud]; omega
  refine ⟨by omega, by rw [e16]; exact h.m, by rw [h7]; exact h.old, by omega, by omega, by rw [e14, e15, hc]; omega, fun i i1 i2 => by rw [h8, xud_o _ _ (by omega)]; exact h.lo i i1 i2, fun i i1 i2 => ?_, ?_⟩
  · rw [h8]
    by_cases q : i = σ 268 15
    · rw [q, xud_s]; omega
    · rw [xud_o _ _ q]; exact h.hi i i1 (by omega)
  · rw [e14, e15, hc, h7, h8]
    have q := zDC_push (v := v) h.d (by omega)
    rw [show D0 + (zcI 2097152 7340032 (σ 278) b (σ 268 15) + (e - e2)) + e2 = D0 + zcI 2097152 7340032 (σ 278) b (σ 268 15) + e from by omega]
    exact q
theorem zLS.close {v : Int} (h : zLS c0 a M w0 b K D0 1 σ) (hb : b < σ 268 15) (ht : 2 ≤ ztW σ ∧ ztW σ ≤ 6) (e9 : τ 268 9 = σ 268 9) (e10 : τ 268 10 = σ 268 10) (e14 : τ 268 14 = σ 268 14 + 1) (e15 : τ 268 15 = σ 268 15 - 1) (e16 : τ 268 16 = σ 268 16) (h7 : τ 277 = xud (σ 277) (σ 268 14) v) (h8 : τ 278 = σ 278) (hv : v = 1048576 * ztW σ) : zLS c0 a M w0 b K D0 1 τ := by
  have h1 := h.p; have h2 := h.wb; have h3 := h.sz; have h4 := h.ca
  rw [ztW_1 (by omega)] at ht hv
  have hw : 2097152 ≤ σ 278 (σ 268 15 - 1) ∧ σ 278 (σ 268 15 - 1) < 7340032 := by omega
  have hc : zcI 2097152 7340032 (σ 278) b (σ 268 15) = zcI 2097152 7340032 (σ 278) b (σ 268 15 - 1) + 1 := by
    have q := zcI_y (lo := 2097152) (hi := 7340032) (b := b) (m := σ 268 15 - 1) (w := σ 278) (by omega) hw
    rw [show σ 268 15 - 1 + 1 = σ 268 15 from by omega] at q
    exact q
  have hn : 0 ≤ zcI 2097152 7340032 (σ 278) b (σ 268 15 - 1) := zcI_n
  refine ⟨by omega, by rw [e16]; exact h.m, fun k k1 k2 => by rw [h7, xud_o _ _ (by omega)]; exact h.old k k1 k2, by omega, by omega, by rw [e14, h8, e15]; omega, by rw [h8]; exact h.lo, fun i i1 i2 => by rw [h8]; exact h.hi i i1 (by omega), ?_⟩
  rw [h7, h8, e14, e15]
  have q := zDC_pop h.d (by omega)
  exact zDC_note q h4.2 (by omega) (Or.inr (Or.inr ⟨by omega, by omega, by omega⟩))
theorem zLS.shut (h : zLS c0 a M w0 b K D0 1 σ) (hb : b < σ 268 15) (ht : 14680064 ≤ σ 278 (σ 268 15 - 1)) (e9 : τ 268 9 = σ 268 9 + 1 ∧ σ 268 9 < σ 268 10) (e10 : τ 268 10 = σ 268 10) (e14 : τ 268 14 = σ 268 14) (e15 : τ 268 15 = σ 268 15 - 1) (e16 : τ 268 16 = σ 268 16) (h7 : τ 277 = σ 277) (h8 : τ 278 = σ 278) : zLS c0 a M w0 b K D0 1 τ := by
  have h1 := h.p; have h2 := h.wb; have h3 := h.sz; have h4 := h.ca
  have hc : zcI 2097152 7340032 (σ 278) b (σ 268 15) = zcI 2097152 7340032 (σ 278) b (σ 268 15 - 1) := by
    have q := zcI_z (lo := 2097152) (hi := 7340032) (b := b) (m := σ 268 15 - 1) (w := σ 278) (by omega) (by omega)
    rw [show σ 268 15 - 1 + 1 = σ 268 15 from by omega] at q
    exact q
  refine ⟨by omega, by rw [e16]; exact h.m, by rw [h7]; exact h.old, by omega, by omega, by rw [e14, h8, e15]; omega, by rw [h8]; exact h.lo, fun i i1 i2 => by rw [h8]; exact h.hi i i1 (by omega), ?_⟩
  rw [h7, h8, e14, e15, ← hc]
  exact zDC_pop h.d (by omega)
/-- a bracket of this sum waits -/
def zhO (b : Int) (σ : xS) : Prop := ∃ i, b ≤ i ∧ i < σ 268 15 ∧ 14680064 ≤ σ 278 i
theorem zhO_pop (h : b < σ 268 15) (ht : σ 278 (σ 268 15 - 1) < 14680064) (e15 : τ 268 15 = σ 268 15 - 1) (h8 : τ 278 = σ 278) : zhO b τ ↔ zhO b σ := by
  unfold zhO
  rw [e15, h8]
  constructor
  · rintro ⟨i, i1, i2, i3⟩; exact ⟨i, i1, by omega, i3⟩
  · rintro ⟨i, i1, i2, i3⟩
    refine ⟨i, i1, ?_, i3⟩
    by_cases e : i = σ 268 15 - 1
    · subst e; omega
    · omega
theorem zLS.tb (h : zLS c0 a M w0 b K D0 e σ) (ht : 2 ≤ ztW σ ∧ ztW σ ≤ 6) : b < σ 268 15 ∧ σ 278 (σ 268 15 - 1) < 14680064 := by
  have h2 := h.wb
  by_cases e : σ 268 15 = 0
  · rw [ztW_0 e] at ht; omega
  · rw [ztW_1 e] at ht
    refine ⟨?_, by omega⟩
    by_cases e2 : b < σ 268 15
    · exact e2
    · have := h.lo (σ 268 15 - 1) (by omega) (by omega)
      omega
/-- closed wholly: down to a bracket, or to the base -/
theorem zLS.top (h : zLS c0 a M w0 b K D0 e σ) (ht : ztW σ < 2 ∨ 6 < ztW σ) (ho : zhO b σ) : b < σ 268 15 ∧ 14680064 ≤ σ 278 (σ 268 15 - 1) := by
  obtain ⟨i, i1, i2, i3⟩ := ho
  have h2 := h.wb
  refine ⟨by omega, ?_⟩
  rw [ztW_1 (by omega)] at ht
  have := h.hi (σ 268 15 - 1) (by omega) (by omega)
  omega
theorem zLS.bot (h : zLS c0 a M w0 b K D0 e σ) (ht : ztW σ < 2 ∨ 6 < ztW σ) (ho : ¬ zhO b σ) : σ 268 15 = b := by
  have h2 := h.wb
  by_cases q : σ 268 15 = b
  · exact q
  · exfalso
    rw [ztW_1 (by omega)] at ht
    have := h.hi (σ 268 15 - 1) (by omega) (by omega)
    exact ho ⟨σ 268 15 - 1, by omega, by omega, by omega⟩
/-- between sums: q the claims on the place beside those that wait -/
def zLC (c0 : Int → Int) (a M q D : Int) (σ : xS) : Prop := 0 ≤ q ∧ zLS c0 a M (σ 278) (σ 268 15) (zcI 10485760 11534336 (σ 278) 0 (σ 268 15) + q) D 0 σ
theorem zLS.toC {q : Int} (h : zLS c0 a M w0 b K D0 1 σ) (hb : σ 268 15 = b) (hK : K = zcI 10485760 11534336 w0 0 b + q) (hq : 0 ≤ q) : zLC c0 a M q (D0 + 1) σ := by
  have h2 := h.wb; have h3 := h.sz
  have e0 : zcI 10485760 11534336 (σ 278) 0 b = zcI 10485760 11534336 w0 0 b := zcI_f (fun i i1 i2 => (h.lo i i1 i2).1)
  refine ⟨hq, ⟨h.p, h.m, h.old, h.ca, ?_, ?_, fun i i1 i2 => ?_, fun i i1 i2 => by omega, ?_⟩⟩
  · rw [hb, e0, ← hK]; omega
  · rw [hb, e0, ← hK]; rw [hb] at h3; omega
  · have := h.lo i i1 (by omega)
    exact ⟨rfl, by omega, by omega⟩
  · have q := h.d
    rw [hb, zcI_0] at q ⊢
    rw [show D0 + 1 + 0 + 0 = D0 + 0 + 1 from by omega]
    exact q
theorem zLC.d {q D : Int} (h : zLC c0 a M q D σ) : zDC (σ 277) (σ 278) (σ 268 14) (σ 268 15) a D := by
  have q := h.2.d
  rw [zcI_0] at q
  rw [show D = D + 0 + 0 from by omega]
  exact q
theorem zLC.mk2 {q D : Int} (h0 : 0 ≤ q) (hp : 0 ≤ σ 268 9 ∧ σ 268 9 ≤ σ 268 10 ∧ σ 268 10 ≤ 240) (hm : σ 268 16 = M) (ho : ∀ k, 0 ≤ k → k < a → σ 277 k = c0 k) (ha : 0 ≤ a ∧ a ≤ σ 268 14) (hw : 0 ≤ σ 268 15 ∧ σ 268 15 ≤ σ 268 9) (hD : 0 ≤ D) (hs : σ 268 14 + (zcI 10485760 11534336 (σ 278) 0 (σ 268 15) + q) ≤ σ 268 9) (hl : ∀ i, 0 ≤ i → i < σ 268 15 → 10485760 ≤ σ 278 i ∧ σ 278 i < 14680064) (hd : zDC (σ 277) (σ 278) (σ 268 14) (σ 268 15) a D) : zLC c0 a M q D σ := by
  have h9 : 0 ≤ zcI 10485760 11534336 (σ 278) 0 (σ 268 15) := zcI_n
  refine ⟨h0, ⟨hp, hm, ho, ha, by omega, by rw [zcI_0]; omega, fun i i1 i2 => ⟨rfl, hl i i1 i2⟩, fun i i1 i2 => by omega, ?_⟩⟩
  rw [zcI_0, show D + 0 + 0 = D from by omega]
  exact hd
theorem zLC.f {q D : Int} (h : zLC c0 a M q D σ) : (0 ≤ σ 268 9 ∧ σ 268 9 ≤ σ 268 10 ∧ σ 268 10 ≤ 240) ∧ (0 ≤ a ∧ a ≤ σ 268 14) ∧ (0 ≤ σ 268 15 ∧ σ 268 15 ≤ σ 268 9) ∧ 0 ≤ D ∧ σ 268 14 + (zcI 10485760 11534336 (σ 278) 0 (σ 268 15) + q) ≤ σ 268 9 ∧ 0 ≤ zcI 10485760 11534336 (σ 278) 0 (σ 268 15) ∧ 0 ≤ q := by
  have h1 := h.2.wb; have h2 := h.2.sz
  rw [zcI_0] at h2
  exact ⟨h.2.p, h.2.ca, by omega, by omega, by omega, zcI_n, h.1⟩
theorem zLC.l {q D : Int} (h : zLC c0 a M q D σ) : ∀ i, 0 ≤ i → i < σ 268 15 → 10485760 ≤ σ 278 i ∧ σ 278 i < 14680064 := fun i i1 i2 => (h.2.lo i i1 i2).2
theorem zLC.place {q q2 D : Int} (h : zLC c0 a M q D σ) (e9 : σ 268 9 + (q2 - q) ≤ τ 268 9 ∧ σ 268 9 ≤ τ 268 9 ∧ τ 268 9 ≤ σ 268 10) (hq : 0 ≤ q2) (e10 : τ 268 10 = σ 268 10) (e14 : τ 268 14 = σ 268 14) (e15 : τ 268 15 = σ 268 15) (e16 : τ 268 16 = σ 268 16) (h7 : τ 277 = σ 277) (h8 : τ 278 = σ 278) : zLC c0 a M q2 D τ := by
  obtain ⟨f1, f2, f3, f4, f5, f6, f7⟩ := h.f
  exact zLC.mk2 hq (by omega) (by rw [e16]; exact h.2.m) (by rw [h7]; exact h.2.old) (by omega) (by omega) f4 (by rw [h8, e15, e14]; omega) (by rw [h8, e15]; exact h.l) (by rw [h7, h8, e14, e15]; exact h.d)
theorem zLC.push {q D v : Int} (h : zLC c0 a M q D σ) (e9 : τ 268 9 = σ 268 9 + 1 ∧ σ 268 9 < σ 268 10) (e10 : τ 268 10 = σ 268 10) (e14 : τ 268 14 = σ 268 14) (e15 : τ 268 15 = σ 268 15 + 1) (e16 : τ 268 16 = σ 268 16) (h7 : τ 277 = σ 277) (h8 : τ 278 = xud (σ 278) (σ 268 15) v) (hv : (10485760 ≤ v ∧ v < 11534336) ∨ (13631488 ≤ v ∧ v < 14680064)) : zLC c0 a M q D τ := by
  obtain ⟨f1, f2, f3, f4, f5, f6, f7⟩ := h.f
  have hc : zcI 10485760 11534336 (τ 278) 0 (σ 268 15 + 1) ≤ zcI 10485760 11534336 (σ 278) 0 (σ 268 15) + 1 := by
    rw [h8]
    rcases hv with hv | hv
    · rw [zcI_y f3.1 (by rw [xud_s]; exact hv), zcI_xud]; omega
    · rw [zcI_z f3.1 (by rw [xud_s]; omega), zcI_xud]; omega
  refine zLC.mk2 f7 (by omega) (by rw [e16]; exact h.2.m) (by rw [h7]; exact h.2.old) (by omega) (by omega) f4 (by rw [e14, e15]; omega) (fun i i1 i2 => ?_) (by rw [h7, h8, e14, e15]; exact zDC_push h.d (by omega))
  rw [h8]
  by_cases e : i = σ 268 15
  · rw [e, xud_s]; omega
  · rw [xud_o _ _ e]; exact h.l i i1 (by omega)
theorem zLC.not {q D : Int} (h : zLC c0 a M q D σ) (hD : 1 ≤ D) (ht : ztW σ = 10) (e9 : τ 268 9 = σ 268 9) (e10 : τ 268 10 = σ 268 10) (e14 : τ 268 14 = σ 268 14 + 1) (e15 : τ 268 15 = σ 268 15 - 1) (e16 : τ 268 16 = σ 268 16) (h7 : τ 277 = xud (σ 277) (σ 268 14) 10485760) (h8 : τ 278 = σ 278) : zLC c0 a M q D τ := by
  obtain ⟨f1, f2, f3, f4, f5, f6, f7⟩ := h.f
  have hW : σ 268 15 ≠ 0 := fun e => by rw [ztW_0 e] at ht; omega
  rw [ztW_1 hW] at ht
  have hc : zcI 10485760 11534336 (σ 278) 0 (σ 268 15) = zcI 10485760 11534336 (σ 278) 0 (σ 268 15 - 1) + 1 := by
    have q := zcI_y (lo := 10485760) (hi := 11534336) (b := 0) (m := σ 268 15 - 1) (w := σ 278) (by omega) (by omega)
    rw [show σ 268 15 - 1 + 1 = σ 268 15 from by omega] at q
    exact q
  refine zLC.mk2 f7 (by omega) (by rw [e16]; exact h.2.m) (fun k k1 k2 => by rw [h7, xud_o _ _ (by omega)]; exact h.2.old k k1 k2) (by omega) (by omega) f4 (by rw [e14, e15, h8]; omega) (fun i i1 i2 => by rw [h8]; exact h.l i i1 (by omega)) ?_
  rw [h7, h8, e14, e15]
  exact zDC_note (zDC_pop h.d (by omega)) f2.2 (by omega) (Or.inr (Or.inl ⟨by omega, hD, rfl⟩))
theorem zLC.jt {q D : Int} (h : zLC c0 a M q D σ) (ht : ztW σ = 11 ∨ ztW σ = 12) : 1 ≤ σ 268 15 ∧ (11534336 ≤ σ 278 (σ 268 15 - 1) ∧ σ 278 (σ 268 15 - 1) < 13631488) ∧ a ≤ σ 278 (σ 268 15 - 1) % 1048576 ∧ σ 278 (σ 268 15 - 1) % 1048576 < σ 268 14 ∧ 11534336 ≤ σ 277 (σ 278 (σ 268 15 - 1) % 1048576) ∧ σ 277 (σ 278 (σ 268 15 - 1) % 1048576) < 13631488 := by
  obtain ⟨f1, f2, f3, f4, f5, f6, f7⟩ := h.f
  have hW : σ 268 15 ≠ 0 := fun e => by rw [ztW_0 e] at ht; omega
  rw [ztW_1 hW] at ht
  have := zDC_at h.d (by omega) (by omega)
  exact ⟨by omega, by omega, this⟩
theorem zLC.land {q k v : Int} (h : zLC c0 a M q 1 σ) (ht : ztW σ = 11 ∨ ztW σ = 12) (e9 : τ 268 9 = σ 268 9) (e10 : τ 268 10 = σ 268 10) (e14 : τ 268 14 = σ 268 14) (e15 : τ 268 15 = σ 268 15 - 1) (e16 : τ 268 16 = σ 268 16) (hk : k = σ 278 (σ 268 15 - 1) % 1048576) (h7 : τ 277 = xud (σ 277) k v) (hv : v = 1048576 * (σ 277 k / 1048576) + σ 268 14) (h8 : τ 278 = σ 278) : zLC c0 a M q 1 τ := by
  obtain ⟨f1, f2, f3, f4, f5, f6, f7⟩ := h.f
  obtain ⟨g1, g2, g3, g4, -⟩ := h.jt ht
  have hc : zcI 10485760 11534336 (σ 278) 0 (σ 268 15) = zcI 10485760 11534336 (σ 278) 0 (σ 268 15 - 1) := by
    have q := zcI_z (lo := 10485760) (hi := 11534336) (b := 0) (m := σ 268 15 - 1) (w := σ 278) (by omega) (by omega)
    rw [show σ 268 15 - 1 + 1 = σ 268 15 from by omega] at q
    exact q
  refine zLC.mk2 f7 (by omega) (by rw [e16]; exact h.2.m) (fun i k1 k2 => by rw [h7, xud_o _ _ (by omega)]; exact h.2.old i k1 k2) (by omega) (by omega) f4 (by rw [e14, e15, h8]; omega) (fun i i1 i2 => by rw [h8]; exact h.l i i1 (by omega)) ?_
  rw [h7, h8, e14, e15, hv]
  exact zDC_land h.d (by omega) g1 g2 hk
theorem zLC.pop {q D : Int} (h : zLC c0 a M q D σ) (hW : 1 ≤ σ 268 15) (ht : ztW σ ≠ 11 ∧ ztW σ ≠ 12) (e9 : σ 268 9 ≤ τ 268 9 ∧ τ 268 9 ≤ σ 268 10 ∧ σ 268 15 ≤ τ 268 9 + 1) (e10 : τ 268 10 = σ 268 10) (e14 : τ 268 14 = σ 268 14) (e15 : τ 268 15 = σ 268 15 - 1) (e16 : τ 268 16 = σ 268 16) (h7 : τ 277 = σ 277) (h8 : τ 278 = σ 278) : zLC c0 a M q D τ := by
  obtain ⟨f1, f2, f3, f4, f5, f6, f7⟩ := h.f
  rw [ztW_1 (by omega)] at ht
  have hl := h.l (σ 268 15 - 1) (by omega) (by omega)
  have hc : zcI 10485760 11534336 (σ 278) 0 (σ 268 15 - 1) ≤ zcI 10485760 11534336 (σ 278) 0 (σ 268 15) := by
    have q := zcI_s (lo := 10485760) (hi := 11534336) (b := 0) (m := σ 268 15 - 1) (w := σ 278) (by omega)
    rw [show σ 268 15 - 1 + 1 = σ 268 15 from by omega] at q
    rw [q]
    split <;> omega
  refine zLC.mk2 f7 (by omega) (by rw [e16]; exact h.2.m) (by rw [h7]; exact h.2.old) (by omega) (by omega) f4 (by rw [e14, e15, h8]; omega) (fun i i1 i2 => by rw [h8]; exact h.l i i1 (by omega)) ?_
  rw [h7, h8, e14, e15]
  exact zDC_pop h.d (by omega)
theorem zLC.jump {q o : Int} (h : zLC c0 a M q 1 σ) (ho : o = 11 ∨ o = 12) (e9 : τ 268 9 = σ 268 9 + 1 ∧ σ 268 9 < σ 268 10) (e10 : τ 268 10 = σ 268 10) (e14 : τ 268 14 = σ 268 14 + 1) (e15 : τ 268 15 = σ 268 15 + 1) (e16 : τ 268 16 = σ 268 16) (h7 : τ 277 = xud (σ 277) (σ 268 14) (1048576 * o)) (h8 : τ 278 = xud (σ 278) (σ 268 15) (1048576 * o + σ 268 14)) : zLC c0 a M q 0 τ := by
  obtain ⟨f1, f2, f3, f4, f5, f6, f7⟩ := h.f
  have hc : zcI 10485760 11534336 (τ 278) 0 (σ 268 15 + 1) = zcI 10485760 11534336 (σ 278) 0 (σ 268 15) := by
    rw [h8, zcI_z f3.1 (by rw [xud_s]; omega), zcI_xud]
  refine zLC.mk2 f7 (by omega) (by rw [e16]; exact h.2.m) (fun k k1 k2 => by rw [h7, xud_o _ _ (by omega)]; exact h.2.old k k1 k2) (by omega) (by omega) (by omega) (by rw [e14, e15]; omega) (fun i i1 i2 => ?_) ?_
  · rw [h8]
    by_cases e : i = σ 268 15
    · rw [e, xud_s]; omega
    · rw [xud_o _ _ e]; exact h.l i i1 (by omega)
  · rw [h7, h8, e14, e15]
    exact zDC_jump h.d (by omega) f3.1 ho
theorem zLC.cmp {q D v : Int} (h : zLC c0 a M 1 D σ) (hD : 2 ≤ D) (hv : 7340032 ≤ v ∧ v < 10485760) (e9 : τ 268 9 = σ 268 9) (e10 : τ 268 10 = σ 268 10) (e14 : τ 268 14 = σ 268 14 + 1) (e15 : τ 268 15 = σ 268 15) (e16 : τ 268 16 = σ 268 16) (h7 : τ 277 = xud (σ 277) (σ 268 14) v) (h8 : τ 278 = σ 278) (hq : q = 0) : zLC c0 a M q (D - 1) τ := by
  obtain ⟨f1, f2, f3, f4, f5, f6, f7⟩ := h.f
  refine zLC.mk2 (by omega) (by omega) (by rw [e16]; exact h.2.m) (fun k k1 k2 => by rw [h7, xud_o _ _ (by omega)]; exact h.2.old k k1 k2) (by omega) (by omega) (by omega) (by rw [e14, e15, h8]; omega) (by rw [h8, e15]; exact h.l) ?_
  rw [h7, h8, e14, e15]
  exact zDC_note h.d f2.2 (by omega) (Or.inr (Or.inr ⟨by omega, hD, rfl⟩))
theorem zLC.new (hp : 0 ≤ σ 268 9 ∧ σ 268 9 ≤ σ 268 10 ∧ σ 268 10 ≤ 240) (hc : 0 ≤ σ 268 14 ∧ σ 268 14 ≤ σ 268 9) (hw : σ 268 15 = 0) (ha : a = σ 268 14) (hm : M = σ 268 16) (h7 : ∀ k, 0 ≤ k → k < a → σ 277 k = c0 k) : zLC c0 a M 0 0 σ := by
  subst ha
  refine zLC.mk2 (by omega) hp hm.symm h7 (by omega) (by omega) (by omega) ?_ (fun i i1 i2 => by omega) ?_
  · rw [hw, zcI_0]; omega
  · rw [hw]; exact zDC_new _ _ _
theorem zLC.seg {q D : Int} (h : zLC c0 a M q D σ) (hw : σ 268 15 = 0) : segOK (σ 277) a (σ 268 14) ∧ σ 268 14 ≤ σ 268 9 := by
  obtain ⟨f1, f2, f3, f4, f5, f6, f7⟩ := h.f
  have q := h.d
  rw [hw] at q
  exact ⟨zDC_seg q (by omega), by omega⟩
def zWO (σ : xS) : Prop := 1 ≤ σ 268 15 ∧ 13631488 ≤ σ 278 0 ∧ σ 278 0 < 14680064
end XL
theorem zWO_pop {σ τ : xS} (h : zWO σ) (ht : ztW σ ≠ 13 ∨ σ 268 15 ≠ 1) (e15 : τ 268 15 = σ 268 15 - 1) (h8 : τ 278 = σ 278) : zWO τ := by
  unfold zWO at h ⊢
  rw [e15, h8]
  refine ⟨?_, h.2⟩
  by_cases e : σ 268 15 = 1
  · rw [ztW_1 (by omega), e] at ht
    have : σ 278 (1 - 1) = σ 278 0 := rfl
    omega
  · omega
theorem zWO_f {σ τ : xS} (h : zWO σ) (e15 : τ 268 15 = σ 268 15) (h8 : ∀ i, 0 ≤ i → i < σ 268 15 → τ 278 i = σ 278 i) : zWO τ := by
  unfold zWO at h ⊢
  rw [e15, h8 0 (by omega) (by omega)]
  exact h
theorem zWO_push {σ τ : xS} {v : Int} (h : zWO σ) (e15 : τ 268 15 = σ 268 15 + 1) (h8 : τ 278 = xud (σ 278) (σ 268 15) v) : zWO τ := by
  unfold zWO at h ⊢
  rw [e15, h8, xud_o _ _ (by omega)]
  omega
theorem zWO_new {σ τ : xS} (h : σ 268 15 = 0) (e15 : τ 268 15 = σ 268 15 + 1) (h8 : τ 278 = xud (σ 278) (σ 268 15) 13631488) : zWO τ := by
  unfold zWO
  rw [e15, h8, h, xud_s]
  omega
/-- the clauses that are read -/
def zLW (σ : xS) : Prop := (0 ≤ σ 268 14 ∧ σ 268 14 ≤ σ 268 9) ∧ (0 ≤ σ 268 16 ∧ σ 268 16 ≤ 16) ∧ ∀ j, 0 ≤ j → j < σ 268 16 → segOK (σ 277) (σ 280 j) (σ 281 j) ∧ segOK (σ 277) (σ 281 j) (σ 282 j) ∧ σ 282 j ≤ σ 268 14
theorem zLW.place {σ τ : xS} (h : zLW σ) (e9 : σ 268 9 ≤ τ 268 9) (e14 : τ 268 14 = σ 268 14) (e16 : τ 268 16 = σ 268 16) (h7 : τ 277 = σ 277) (h0 : τ 280 = σ 280) (h1 : τ 281 = σ 281) (h2 : τ 282 = σ 282) : zLW τ := by
  unfold zLW at h ⊢
  rw [e14, e16, h7, h0, h1, h2]
  exact ⟨by omega, h.2⟩
theorem zLW.new {σ : xS} (h9 : 0 ≤ σ 268 9) (e14 : σ 268 14 = 0) (e16 : σ 268 16 = 0) : zLW σ := ⟨by omega, by omega, fun j j1 j2 => by omega⟩
theorem zLW.add {σ τ : xS} {a C1 C2 M : Int} (h : zLW σ) (ha : a = σ 268 14) (hM : M = σ 268 16 ∧ M < 16) (e16 : τ 268 16 = M + 1) (e14 : τ 268 14 = C2) (h9 : C2 ≤ τ 268 9) (hc : a ≤ C1 ∧ C1 ≤ C2) (s1 : segOK (τ 277) a C1) (s2 : segOK (τ 277) C1 C2) (h7 : ∀ k, 0 ≤ k → k < a → τ 277 k = σ 277 k) (h0 : τ 280 = xud (σ 280) M a) (h1 : τ 281 = xud (σ 281) M C1) (h2 : τ 282 = xud (σ 282) M C2) : zLW τ := by
  obtain ⟨q1, q2, q3⟩ := h
  refine ⟨by omega, by omega, fun j j1 j2 => ?_⟩
  rw [h0, h1, h2, e14]
  by_cases e : j = M
  · subst e
    rw [xud_s, xud_s, xud_s]
    exact ⟨s1, s2, Int.le_refl _⟩
  · rw [xud_o _ _ e, xud_o _ _ e, xud_o _ _ e]
    obtain ⟨r1, r2, r3⟩ := q3 j j1 (by omega)
    exact ⟨segOK_cp r1 (fun k k1 k2 => h7 k k1 (by have := r2.2.1; omega)), segOK_cp r2 (fun k k1 k2 => h7 k k1 (by omega)), by omega⟩
theorem zLW.code {σ τ : xS} (h : zLW σ) (e17 : τ 268 17 = σ 268 16) (h3 : ∀ k, 0 ≤ k → k < σ 268 14 → τ 283 k = σ 277 k) (h5 : ∀ j, 0 ≤ j → j < σ 268 16 → τ 285 j = σ 280 j ∧ τ 286 j = σ 281 j ∧ τ 287 j = σ 282 j) : IMk τ := by
  obtain ⟨q1, q2, q3⟩ := h
  unfold IMk
  rw [e17]
  refine ⟨q2, fun j j1 j2 => ?_⟩
  obtain ⟨r1, r2, r3⟩ := q3 j j1 j2
  obtain ⟨g1, g2, g3⟩ := h5 j j1 j2
  rw [g1, g2, g3]
  exact ⟨segOK_cp r1 (fun k k1 k2 => h3 k k1 (by have := r2.2.1; omega)), segOK_cp r2 (fun k k1 k2 => h3 k k1 (by omega))⟩
set_option maxHeartbeats 4000000 in
set_option maxRecDepth 100000 in
theorem c_X11_here (l : Launch) (D : va_G) (g : xG) (T : Nat × Nat × Nat) (h0 : Nat) (s0 : xS) (hσ : xRR s0) (p0 : IMn s0) (p1 : IMk s0) (p2 : IMo s0) (p3 : IR s0) : Met l yX11_here (xws yX11_here cX11_here 1 (some .int)) { frames := 0, cells := 0, slots := 0, locals := 0 } (xP [.ref (h0 + 268)] D g T h0 s0) (xQi D g h0 (fun r τ => s0 = τ ∧ (r = zhC s0 ∧ -1 ≤ zhC s0 ∧ zhC s0 ≤ 255 ∧ zhC s0 < 256 * (s0 268 10 - s0 268 9)))) 0 0 (xA h0) := by
  refine x_met hσ (by decide) (Nat.le_of_ble_eq_true rfl) ?_
  intro p e s m args below meth c hx hb hr hml hown hT hlk hnm hE hW ls hl
  have hl : lv_has ls 1 [(0, .ref (h0 + 268))] := hl
  obtain ⟨Q, eQ⟩ : ∃ Q, Q = MQ below (xQi D g h0 (fun r τ => s0 = τ ∧ (r = zhC s0 ∧ -1 ≤ zhC s0 ∧ zhC s0 ≤ 255 ∧ zhC s0 < 256 * (s0 268 10 - s0 268 9)))) args s 0 0 (xA h0) := ⟨_, rfl⟩
  rw [← eQ]
  generalize hHe : ([] : List Loc) = locs at hW ⊢
  obtain ⟨H, eH⟩ : ∃ H, H = s.heap := ⟨_, rfl⟩
  rw [← eH] at hW ⊢
  have k268_8 : s0 268 8 = s0 268 8 := rfl
  have k268_58 : s0 268 58 = s0 268 58 := rfl
  refine x_aload_n hx hb hl 0 rfl dX11_here_0 rfl ?_
  refine x_get (j := 9) (v := .int (xJ (s0 268 9))) hx hb hown hT hE hW cls_X11 (Or.inl (by decide)) (so_268 h0 g _) (by decide) rfl wq1194 dX11_here_1 ?_
  refine x_rd hW (fun x1 ex1 rx1 => ?_)
  have bx1 : 0 ≤ x1 ∧ x1 ≤ s0 268 10 ∧ s0 268 10 ≤ 240 := by rw [ex1]; exact p3
  refine x_aload_n hx hb hl 0 rfl dX11_here_4 rfl ?_
  refine x_get (j := 10) (v := .int (xJ (s0 268 10))) hx hb hown hT hE hW cls_X11 (Or.inl (by decide)) (so_268 h0 g _) (by decide) rfl wq1195 dX11_here_5 ?_
  refine x_rd hW (fun x2 ex2 rx2 => ?_)
  refine x_icmp_ge (tgt := 27) hx hb rx1 rx2 dX11_here_8 (by decide) (fun c3 => ?_) (fun c3 => ?_)
  · skip
    refine x_iconst hx hb dX11_here_27 ?_
    rw [eQ]
    exact x_iret hx hb hr hlk hW (by decide) ⟨rfl, by first | (have := zhC_in (σ := s0) (by omega); omega) | (have := zhC_out (σ := s0) (by omega); omega)⟩ dX11_here_28
  refine x_aload_n hx hb hl 0 rfl dX11_here_11 rfl ?_
  refine x_get (j := 7) (v := .ref (h0 + 276)) hx hb hown hT hE hW cls_X11 (Or.inl (by decide)) (so_268 h0 g _) (by decide) rfl wq1192 dX11_here_12 ?_
  refine x_aload_n hx hb hl 0 rfl dX11_here_15 rfl ?_
  refine x_get (j := 9) (v := .int (xJ (s0 268 9))) hx hb hown hT hE hW cls_X11 (Or.inl (by decide)) (so_268 h0 g _) (by decide) rfl wq1194 dX11_here_16 ?_
  refine x_rd hW (fun x4 ex4 rx4 => ?_)
  have bx4 : 0 ≤ x4 ∧ x4 ≤ s0 268 10 ∧ s0 268 10 ≤ 240 := by rw [ex4]; exact p3
  refine x_bald hx hb hE hW (Or.inl (by decide)) (sa_276 h0 g _) (by omega) (by decide) dX11_here_19 ?_
  refine x_rd hW (fun x5 ex5 rx5 => ?_)
  have zx5 : x5 = s0 276 (s0 268 9) := by rw [ex5, show x4 = s0 268 9 from by omega]
  refine x_sipush hx hb dX11_here_20 (by decide) ?_
  refine x_and255 hx hb rx5 dX11_here_23 ?_
  refine x_nm (fun x6 ex6 => ?_)
  refine lv_goto (tgt := 28) hx hb dX11_here_24 (by decide) ?_
  rw [eQ]
  exact x_iret hx hb hr hlk hW (by omega) ⟨rfl, by first | (have := zhC_in (σ := s0) (by omega); omega) | (have := zhC_out (σ := s0) (by omega); omega)⟩ dX11_here_28
set_option maxHeartbeats 4000000 in
set_option maxRecDepth 100000 in
theorem c_X11_isDigit (l : Launch) (D : va_G) (g : xG) (T : Nat × Nat × Nat) (h0 : Nat) (s0 : xS) (hσ : xRR s0) (p0 : IMn s0) (p1 : IMk s0) (p2 : IMo s0) (p3 : IR s0) : Met l yX11_isDigit (xws yX11_isDigit cX11_isDigit 1 (some .boolean)) { frames := 1, cells := 0, slots := 0, locals := 20 } (xP [.ref (h0 + 268)] D g T h0 s0) (xQi D g h0 (fun r τ => s0 = τ ∧ ((r = 1 ∧ 48 ≤ zhC s0 ∧ zhC s0 ≤ 57 ∧ s0 268 9 < s0 268 10) ∨ (r = 0 ∧ (zhC s0 < 48 ∨ 57 < zhC s0))))) 0 0 (xA h0) := by
  refine x_met hσ (by decide) (Nat.le_of_ble_eq_true rfl) ?_
  intro p e s m args below meth c hx hb hr hml hown hT hlk hnm hE hW ls hl
  have hl : lv_has ls 1 [(0, .ref (h0 + 268))] := hl
  obtain ⟨Q, eQ⟩ : ∃ Q, Q = MQ below (xQi D g h0 (fun r τ => s0 = τ ∧ ((r = 1 ∧ 48 ≤ zhC s0 ∧ zhC s0 ≤ 57 ∧ s0 268 9 < s0 268 10) ∨ (r = 0 ∧ (zhC s0 < 48 ∨ 57 < zhC s0))))) args s 0 0 (xA h0) := ⟨_, rfl⟩
  rw [← eQ]
  generalize hHe : ([] : List Loc) = locs at hW ⊢
  obtain ⟨H, eH⟩ : ∃ H, H = s.heap := ⟨_, rfl⟩
  rw [← eH] at hW ⊢
  have k268_8 : s0 268 8 = s0 268 8 := rfl
  have k268_58 : s0 268 58 = s0 268 58 := rfl
  refine x_aload_n hx hb hl 0 rfl dX11_isDigit_0 rfl ?_
  refine x_goi (x_runV (As := []) hx hb hml hown hT hE hW hl.1 (Or.inl (by decide)) (so_268 h0 g _) rfl cf_X11_here wq1391 wq106 wq1389 (c_X11_here l D g T h0 s0 hW.2.1 p0 p1 p2 p3) ⟨rfl, rfl, ⟨by decide, by decide⟩, ⟨by decide, by decide⟩⟩ rfl rfl (Nat.le_of_ble_eq_true rfl) dX11_isDigit_1) hW (fun x1 s2 H locs rx1 hp3 hW => ?_)
  obtain ⟨es2, hp3⟩ := hp3
  subst es2
  have ghp3 := hp3
  refine x_bipush hx hb dX11_isDigit_4 (by decide) ?_
  refine x_icmp_lt (tgt := 22) hx hb rx1 (by decide) dX11_isDigit_6 (by decide) (fun c4 => ?_) (fun c4 => ?_)
  · skip
    refine x_iconst hx hb dX11_isDigit_22 ?_
    rw [eQ]
    exact x_zret hx hb hr hlk hW (by omega) ⟨rfl, by omega⟩ dX11_isDigit_23
  refine x_aload_n hx hb hl 0 rfl dX11_isDigit_9 rfl ?_
  refine x_goi (x_runV (As := []) hx hb hml hown hT hE hW hl.1 (Or.inl (by decide)) (so_268 h0 g _) rfl cf_X11_here wq1391 wq106 wq1389 (c_X11_here l D g T h0 s0 hW.2.1 p0 p1 p2 p3) ⟨rfl, rfl, ⟨by decide, by decide⟩, ⟨by decide, by decide⟩⟩ rfl rfl (Nat.le_of_ble_eq_true rfl) dX11_isDigit_10) hW (fun x5 s6 H locs rx5 hp7 hW => ?_)
  obtain ⟨es6, hp7⟩ := hp7
  subst es6
  have ghp7 := hp7
  refine x_bipush hx hb dX11_isDigit_13 (by decide) ?_
  refine x_icmp_gt (tgt := 22) hx hb rx5 (by decide) dX11_isDigit_15 (by decide) (fun c8 => ?_) (fun c8 => ?_)
  · skip
    refine x_iconst hx hb dX11_isDigit_22 ?_
    rw [eQ]
    exact x_zret hx hb hr hlk hW (by omega) ⟨rfl, by omega⟩ dX11_isDigit_23
  refine x_iconst hx hb dX11_isDigit_18 ?_
  refine lv_goto (tgt := 23) hx hb dX11_isDigit_19 (by decide) ?_
  rw [eQ]
  exact x_zret hx hb hr hlk hW (by omega) ⟨rfl, by omega⟩ dX11_isDigit_23
set_option maxHeartbeats 4000000 in
set_option maxRecDepth 100000 in
theorem c_X11_wrongAt (l : Launch) (D : va_G) (g : xG) (T : Nat × Nat × Nat) (h0 : Nat) (s0 : xS) (hσ : xRR s0) (a : Int) (ra : xR a) (b : Int) (rb : xR b) (p0 : IMn s0) (p1 : IMk s0) (p2 : IMo s0) (p3 : IR s0) : Met l yX11_wrongAt (xws yX11_wrongAt cX11_wrongAt 3 (some .boolean)) { frames := 0, cells := 0, slots := 0, locals := 0 } (xP [.ref (h0 + 268), .int (xJ a), .int (xJ b)] D g T h0 s0) (xQi D g h0 (fun r τ => xFr (fun k => k = 268) s0 τ ∧ (((IMn τ) ∧ (IMk τ) ∧ (IMo τ) ∧ (IR τ) ∧ (τ 268 8 = s0 268 8) ∧ (τ 268 58 = s0 268 58) ∧ (τ 268 9 = s0 268 9) ∧ (τ 268 10 = s0 268 10) ∧ (τ 268 14 = s0 268 14) ∧ (τ 268 15 = s0 268 15) ∧ (τ 268 16 = s0 268 16) ∧ (τ 268 34 = s0 268 34) ∧ (τ 268 35 = s0 268 35) ∧ (τ 268 36 = s0 268 36) ∧ (τ 268 37 = s0 268 37) ∧ True) ∧ (r = 0)))) 0 0 (xA h0) := by
  refine x_met hσ (by decide) (Nat.le_of_ble_eq_true rfl) ?_
  intro p e s m args below meth c hx hb hr hml hown hT hlk hnm hE hW ls hl
  have hl : lv_has ls 3 [(0, .ref (h0 + 268)), (1, .int (xJ a)), (2, .int (xJ b))] := hl
  obtain ⟨Q, eQ⟩ : ∃ Q, Q = MQ below (xQi D g h0 (fun r τ => xFr (fun k => k = 268) s0 τ ∧ (((IMn τ) ∧ (IMk τ) ∧ (IMo τ) ∧ (IR τ) ∧ (τ 268 8 = s0 268 8) ∧ (τ 268 58 = s0 268 58) ∧ (τ 268 9 = s0 268 9) ∧ (τ 268 10 = s0 268 10) ∧ (τ 268 14 = s0 268 14) ∧ (τ 268 15 = s0 268 15) ∧ (τ 268 16 = s0 268 16) ∧ (τ 268 34 = s0 268 34) ∧ (τ 268 35 = s0 268 35) ∧ (τ 268 36 = s0 268 36) ∧ (τ 268 37 = s0 268 37) ∧ True) ∧ (r = 0)))) args s 0 0 (xA h0) := ⟨_, rfl⟩
  rw [← eQ]
  generalize hHe : ([] : List Loc) = locs at hW ⊢
  obtain ⟨H, eH⟩ : ∃ H, H = s.heap := ⟨_, rfl⟩
  rw [← eH] at hW ⊢
  have hF : xFr (fun k => k = 268) s0 s0 := xFr.rf
  have k268_8 : s0 268 8 = s0 268 8 := rfl
  have k268_58 : s0 268 58 = s0 268 58 := rfl
  have k268_9 : s0 268 9 = s0 268 9 := rfl
  have k268_10 : s0 268 10 = s0 268 10 := rfl
  have k268_14 : s0 268 14 = s0 268 14 := rfl
  have k268_15 : s0 268 15 = s0 268 15 := rfl
  have k268_16 : s0 268 16 = s0 268 16 := rfl
  have k268_34 : s0 268 34 = s0 268 34 := rfl
  have k268_35 : s0 268 35 = s0 268 35 := rfl
  have k268_36 : s0 268 36 = s0 268 36 := rfl
  have k268_37 : s0 268 37 = s0 268 37 := rfl
  refine x_aload_n hx hb hl 0 rfl dX11_wrongAt_0 rfl ?_
  refine x_sipush hx hb dX11_wrongAt_1 (by decide) ?_
  refine x_iload_n hx hb hl 1 rfl dX11_wrongAt_4 rfl ?_
  refine x_imul hx hb dX11_wrongAt_5 ?_
  refine x_any (fun x1 rx1 => ?_)
  refine x_iload_n hx hb hl 2 rfl dX11_wrongAt_6 rfl ?_
  refine x_isub hx hb dX11_wrongAt_7 ?_
  refine x_any (fun x2 rx2 => ?_)
  refine x_put (j := 11) hx hb hown hT hE hW cls_X11 (by decide) (fun σ => so_268 h0 g σ) (by decide) (st_X11_11 h0 s0 268 x2) (ln_X11_11 h0 _ _) wq1196 rfl rfl rfl rx2 dX11_wrongAt_8 (fun H locs s3 es3 hW => ?_)
  have q4 : IMn s3 := by rw [es3]; exact IMn_268 p0 (by omega)
  have q5 : IMk s3 := by rw [es3]; exact IMk_268 p1 (by omega)
  have q6 : IMo s3 := by rw [es3]; exact IMo_o (by unfold suIMo; omega) p2
  have q7 : IR s3 := by rw [es3]; exact IR_268 p3 (by omega)
  have q8 : s3 268 8 = s0 268 8 := (show s3 268 8 = s0 268 8 from by rw [es3, xU_j _ _ (by decide)]).trans k268_8
  have q9 : s3 268 58 = s0 268 58 := (show s3 268 58 = s0 268 58 from by rw [es3, xU_j _ _ (by decide)]).trans k268_58
  have q10 : s3 268 9 = s0 268 9 := (show s3 268 9 = s0 268 9 from by rw [es3, xU_j _ _ (by decide)]).trans k268_9
  have q11 : s3 268 10 = s0 268 10 := (show s3 268 10 = s0 268 10 from by rw [es3, xU_j _ _ (by decide)]).trans k268_10
  have q12 : s3 268 14 = s0 268 14 := (show s3 268 14 = s0 268 14 from by rw [es3, xU_j _ _ (by decide)]).trans k268_14
  have q13 : s3 268 15 = s0 268 15 := (show s3 268 15 = s0 268 15 from by rw [es3, xU_j _ _ (by decide)]).trans k268_15
  have q14 : s3 268 16 = s0 268 16 := (show s3 268 16 = s0 268 16 from by rw [es3, xU_j _ _ (by decide)]).trans k268_16
  have q15 : s3 268 34 = s0 268 34 := (show s3 268 34 = s0 268 34 from by rw [es3, xU_j _ _ (by decide)]).trans k268_34
  have q16 : s3 268 35 = s0 268 35 := (show s3 268 35 = s0 268 35 from by rw [es3, xU_j _ _ (by decide)]).trans k268_35
  have q17 : s3 268 36 = s0 268 36 := (show s3 268 36 = s0 268 36 from by rw [es3, xU_j _ _ (by decide)]).trans k268_36
  have q18 : s3 268 37 = s0 268 37 := (show s3 268 37 = s0 268 37 from by rw [es3, xU_j _ _ (by decide)]).trans k268_37
  have hF19 := hF.put es3 (by omega)
  refine x_iconst hx hb dX11_wrongAt_11 ?_
  rw [eQ]
  exact x_zret hx hb hr hlk hW (by omega) ⟨hF19, ⟨q4, q5, q6, q7, q8, q9, q10, q11, q12, q13, q14, q15, q16, q17, q18, trivial⟩, by omega⟩ dX11_wrongAt_12
set_option maxHeartbeats 4000000 in
set_option maxRecDepth 100000 in
theorem c_X11_takes (l : Launch) (D : va_G) (g : xG) (T : Nat × Nat × Nat) (h0 : Nat) (s0 : xS) (hσ : xRR s0) (v : Int) (rv : xR v) (hc : 0 ≤ v) (p0 : IMn s0) (p1 : IMk s0) (p2 : IMo s0) (p3 : IR s0) : Met l yX11_takes (xws yX11_takes cX11_takes 2 (some .boolean)) { frames := 1, cells := 0, slots := 0, locals := 22 } (xP [.ref (h0 + 268), .int (xJ v)] D g T h0 s0) (xQi D g h0 (fun r τ => xFr (fun k => k = 268) s0 τ ∧ (((IMn τ) ∧ (IMk τ) ∧ (IMo τ) ∧ (IR τ) ∧ (τ 268 8 = s0 268 8) ∧ (τ 268 58 = s0 268 58) ∧ (τ 268 10 = s0 268 10) ∧ (τ 268 14 = s0 268 14) ∧ (τ 268 15 = s0 268 15) ∧ (τ 268 16 = s0 268 16) ∧ (τ 268 34 = s0 268 34) ∧ (τ 268 35 = s0 268 35) ∧ (τ 268 36 = s0 268 36) ∧ (τ 268 37 = s0 268 37) ∧ True) ∧ (0 ≤ r ∧ r ≤ 1 ∧ τ 268 9 = s0 268 9 + r)))) 0 0 (xA h0) := by
  refine x_met hσ (by decide) (Nat.le_of_ble_eq_true rfl) ?_
  intro p e s m args below meth c hx hb hr hml hown hT hlk hnm hE hW ls hl
  have hl : lv_has ls 2 [(0, .ref (h0 + 268)), (1, .int (xJ v))] := hl
  obtain ⟨Q, eQ⟩ : ∃ Q, Q = MQ below (xQi D g h0 (fun r τ => xFr (fun k => k = 268) s0 τ ∧ (((IMn τ) ∧ (IMk τ) ∧ (IMo τ) ∧ (IR τ) ∧ (τ 268 8 = s0 268 8) ∧ (τ 268 58 = s0 268 58) ∧ (τ 268 10 = s0 268 10) ∧ (τ 268 14 = s0 268 14) ∧ (τ 268 15 = s0 268 15) ∧ (τ 268 16 = s0 268 16) ∧ (τ 268 34 = s0 268 34) ∧ (τ 268 35 = s0 268 35) ∧ (τ 268 36 = s0 268 36) ∧ (τ 268 37 = s0 268 37) ∧ True) ∧ (0 ≤ r ∧ r ≤ 1 ∧ τ 268 9 = s0 268 9 + r)))) args s 0 0 (xA h0) := ⟨_, rfl⟩
  rw [← eQ]
  generalize hHe : ([] : List Loc) = locs at hW ⊢
  obtain ⟨H, eH⟩ : ∃ H, H = s.heap := ⟨_, rfl⟩
  rw [← eH] at hW ⊢
  have hF : xFr (fun k => k = 268) s0 s0 := xFr.rf
  have k268_8 : s0 268 8 = s0 268 8 := rfl
  have k268_58 : s0 268 58 = s0 268 58 := rfl
  have k268_10 : s0 268 10 = s0 268 10 := rfl
  have k268_14 : s0 268 14 = s0 268 14 := rfl
  have k268_15 : s0 268 15 = s0 268 15 := rfl
  have k268_16 : s0 268 16 = s0 268 16 := rfl
  have k268_34 : s0 268 34 = s0 268 34 := rfl
  have k268_35 : s0 268 35 = s0 268 35 := rfl
  have k268_36 : s0 268 36 = s0 268 36 := rfl
  have k268_37 : s0 268 37 = s0 268 37 := rfl
  have k268_9 : s0 268 9 = s0 268 9 := rfl
  refine x_aload_n hx hb hl 0 rfl dX11_takes_0 rfl ?_
  refine x_goi (x_runV (As := []) hx hb hml hown hT hE hW hl.1 (Or.inl (by decide)) (so_268 h0 g _) rfl cf_X11_here wq1391 wq106 wq1389 (c_X11_here l D g T h0 s0 hW.2.1 p0 p1 p2 p3) ⟨rfl, rfl, ⟨by decide, by decide⟩, ⟨by decide, by decide⟩⟩ rfl rfl (Nat.le_of_ble_eq_true rfl) dX11_takes_1) hW (fun x1 s2 H locs rx1 hp3 hW => ?_)
  obtain ⟨es2, hp3⟩ := hp3
  subst es2
  have ghp3 := hp3
  refine x_iload_n hx hb hl 1 rfl dX11_takes_4 rfl ?_
  refine x_icmp_eq (tgt := 18) hx hb rx1 rv dX11_takes_5 (by decide) (fun c4 => ?_) (fun c4 => ?_)
  · skip
    refine x_aload_n hx hb hl 0 rfl dX11_takes_18 rfl ?_
    refine x_aload_n hx hb hl 0 rfl dX11_takes_19 rfl ?_
    refine x_get (j := 9) (v := .int (xJ (s0 268 9))) hx hb hown hT hE hW cls_X11 (Or.inl (by decide)) (so_268 h0 g _) (by decide) rfl wq1194 dX11_takes_20 ?_
    refine x_rd hW (fun x5 ex5 rx5 => ?_)
    have bx5 : 0 ≤ x5 ∧ x5 ≤ s0 268 10 ∧ s0 268 10 ≤ 240 := by rw [ex5]; exact p3
    have fx5 : x5 = s0 268 9 := ex5.trans k268_9
    refine x_iconst hx hb dX11_takes_23 ?_
    refine x_iadd hx hb dX11_takes_24 ?_
    refine x_put (j := 9) hx hb hown hT hE hW cls_X11 (by decide) (fun σ => so_268 h0 g σ) (by decide) (st_X11_9 h0 s0 268 (x5 + 1)) (ln_X11_9 h0 _ _) wq1194 rfl rfl rfl (by omega) dX11_takes_25 (fun H locs s6 es6 hW => ?_)
    have q7 : IMn s6 := by rw [es6]; exact IMn_268 p0 (by omega)
    have q8 : IMk s6 := by rw [es6]; exact IMk_268 p1 (by omega)
    have q9 : IMo s6 := by rw [es6]; exact IMo_o (by unfold suIMo; omega) p2
    have q10 : IR s6 := by rw [es6]; exact IR_268 p3 (by omega)
    have q11 : s6 268 8 = s0 268 8 := (show s6 268 8 = s0 268 8 from by rw [es6, xU_j _ _ (by decide)]).trans k268_8
    have q12 : s6 268 58 = s0 268 58 := (show s6 268 58 = s0 268 58 from by rw [es6, xU_j _ _ (by decide)]).trans k268_58
    have q13 : s6 268 10 = s0 268 10 := (show s6 268 10 = s0 268 10 from by rw [es6, xU_j _ _ (by decide)]).trans k268_10
    have q14 : s6 268 14 = s0 268 14 := (show s6 268 14 = s0 268 14 from by rw [es6, xU_j _ _ (by decide)]).trans k268_14
    have q15 : s6 268 15 = s0 268 15 := (show s6 268 15 = s0 268 15 from by rw [es6, xU_j _ _ (by decide)]).trans k268_15
    have q16 : s6 268 16 = s0 268 16 := (show s6 268 16 = s0 268 16 from by rw [es6, xU_j _ _ (by decide)]).trans k268_16
    have q17 : s6 268 34 = s0 268 34 := (show s6 268 34 = s0 268 34 from by rw [es6, xU_j _ _ (by decide)]).trans k268_34
    have q18 : s6 268 35 = s0 268 35 := (show s6 268 35 = s0 268 35 from by rw [es6, xU_j _ _ (by decide)]).trans k268_35
    have q19 : s6 268 36 = s0 268 36 := (show s6 268 36 = s0 268 36 from by rw [es6, xU_j _ _ (by decide)]).trans k268_36
    have q20 : s6 268 37 = s0 268 37 := (show s6 268 37 = s0 268 37 from by rw [es6, xU_j _ _ (by decide)]).trans k268_37
    have q21 : s6 268 9 = (x5 + 1) := by rw [es6, xU_s]
    have hF22 := hF.put es6 (by omega)
    refine x_iconst hx hb dX11_takes_28 ?_
    rw [eQ]
    exact x_zret hx hb hr hlk hW (by omega) ⟨hF22, ⟨q7, q8, q9, q10, q11, q12, q13, q14, q15, q16, q17, q18, q19, q20, trivial⟩, by omega⟩ dX11_takes_29
  refine x_aload_n hx hb hl 0 rfl dX11_takes_8 rfl ?_
  refine x_iconst hx hb dX11_takes_9 ?_
  refine x_aload_n hx hb hl 0 rfl dX11_takes_10 rfl ?_
  refine x_get (j := 9) (v := .int (xJ (s0 268 9))) hx hb hown hT hE hW cls_X11 (Or.inl (by decide)) (so_268 h0 g _) (by decide) rfl wq1194 dX11_takes_11 ?_
  refine x_rd hW (fun x23 ex23 rx23 => ?_)
  have bx23 : 0 ≤ x23 ∧ x23 ≤ s0 268 10 ∧ s0 268 10 ≤ 240 := by rw [ex23]; exact p3
  have fx23 : x23 = s0 268 9 := ex23.trans k268_9
  refine x_goi (x_runV (As := [.int (xJ 1), .int (xJ x23)]) hx hb hml hown hT hE hW hl.1 (Or.inl (by decide)) (so_268 h0 g _) rfl cf_X11_wrongAt wq1401 wq107 wq1399 (c_X11_wrongAt l D g T h0 s0 hW.2.1 1 (by decide) x23 rx23 p0 p1 p2 p3) ⟨rfl, rfl, ⟨by decide, by decide⟩, ⟨by decide, by decide⟩⟩ rfl rfl (Nat.le_of_ble_eq_true rfl) dX11_takes_14) hW (fun x24 s25 H locs rx24 hp26 hW => ?_)
  obtain ⟨fs25, hp26⟩ := hp26
  have hF27 := hF.call fs25 (fun k h => by omega)
  have ghp26 := hp26.2
  rw [eQ]
  exact x_zret hx hb hr hlk hW (by omega) ⟨hF27, ⟨hp26.1.1, hp26.1.2.1, hp26.1.2.2.1, hp26.1.2.2.2.1, (hp26.1.2.2.2.2.1.trans k268_8), (hp26.1.2.2.2.2.2.1.trans k268_58), (hp26.1.2.2.2.2.2.2.2.1.trans k268_10), (hp26.1.2.2.2.2.2.2.2.2.1.trans k268_14), (hp26.1.2.2.2.2.2.2.2.2.2.1.trans k268_15), (hp26.1.2.2.2.2.2.2.2.2.2.2.1.trans k268_16), (hp26.1.2.2.2.2.2.2.2.2.2.2.2.1.trans k268_34), (hp26.1.2.2.2.2.2.2.2.2.2.2.2.2.1.trans k268_35), (hp26.1.2.2.2.2.2.2.2.2.2.2.2.2.2.1.trans k268_36), (hp26.1.2.2.2.2.2.2.2.2.2.2.2.2.2.2.1.trans k268_37), trivial⟩, by omega⟩ dX11_takes_17
set_option maxHeartbeats 4000000 in
set_option maxRecDepth 100000 in
theorem c_X11_readsNumber (l : Launch) (D : va_G) (g : xG) (T : Nat × Nat × Nat) (h0 : Nat) (s0 : xS) (hσ : xRR s0) (hd : 48 ≤ zhC s0 ∧ zhC s0 ≤ 57) (p0 : IMn s0) (p1 : IMk s0) (p2 : IMo s0) (p3 : IR s0) : Met l yX11_readsNumber (xws yX11_readsNumber cX11_readsNumber 2 (some .boolean)) { frames := 2, cells := 0, slots := 0, locals := 40 } (xP [.ref (h0 + 268)] D g T h0 s0) (xQi D g h0 (fun r τ => xFr (fun k => k = 268) s0 τ ∧ (((IMn τ) ∧ (IMk τ) ∧ (IMo τ) ∧ (IR τ) ∧ (τ 268 8 = s0 268 8) ∧ (τ 268 58 = s0 268 58) ∧ (τ 268 10 = s0 268 10) ∧ (τ 268 14 = s0 268 14) ∧ (τ 268 15 = s0 268 15) ∧ (τ 268 16 = s0 268 16) ∧ (τ 268 34 = s0 268 34) ∧ (τ 268 35 = s0 268 35) ∧ (τ 268 36 = s0 268 36) ∧ (τ 268 37 = s0 268 37) ∧ True) ∧ ((r = 0 ∧ s0 268 9 ≤ τ 268 9) ∨ (r = 1 ∧ s0 268 9 + 1 ≤ τ 268 9 ∧ τ 268 9 ≤ s0 268 10 ∧ 0 ≤ τ 268 12 ∧ τ 268 12 ≤ 99999))))) 0 0 (xA h0) := by
  refine x_met hσ (by decide) (Nat.le_of_ble_eq_true rfl) ?_
  intro p e s m args below meth c hx hb hr hml hown hT hlk hnm hE hW ls hl
  have hl : lv_has ls 2 [(0, .ref (h0 + 268))] := hl
  obtain ⟨Q, eQ⟩ : ∃ Q, Q = MQ below (xQi D g h0 (fun r τ => xFr (fun k => k = 268) s0 τ ∧ (((IMn τ) ∧ (IMk τ) ∧ (IMo τ) ∧ (IR τ) ∧ (τ 268 8 = s0 268 8) ∧ (τ 268 58 = s0 268 58) ∧ (τ 268 10 = s0 268 10) ∧ (τ 268 14 = s0 268 14) ∧ (τ 268 15 = s0 268 15) ∧ (τ 268 16 = s0 268 16) ∧ (τ 268 34 = s0 268 34) ∧ (τ 268 35 = s0 268 35) ∧ (τ 268 36 = s0 268 36) ∧ (τ 268 37 = s0 268 37) ∧ True) ∧ ((r = 0 ∧ s0 268 9 ≤ τ 268 9) ∨ (r = 1 ∧ s0 268 9 + 1 ≤ τ 268 9 ∧ τ 268 9 ≤ s0 268 10 ∧ 0 ≤ τ 268 12 ∧ τ 268 12 ≤ 99999))))) args s 0 0 (xA h0) := ⟨_, rfl⟩
  rw [← eQ]
  generalize hHe : ([] : List Loc) = locs at hW ⊢
  obtain ⟨H, eH⟩ : ∃ H, H = s.heap := ⟨_, rfl⟩
  rw [← eH] at hW ⊢
  have hF : xFr (fun k => k = 268) s0 s0 := xFr.rf
  have k268_8 : s0 268 8 = s0 268 8 := rfl
  have k268_58 : s0 268 58 = s0 268 58 := rfl
  have k268_10 : s0 268 10 = s0 268 10 := rfl
  have k268_14 : s0 268 14 = s0 268 14 := rfl
  have k268_15 : s0 268 15 = s0 268 15 := rfl
  have k268_16 : s0 268 16 = s0 268 16 := rfl
  have k268_34 : s0 268 34 = s0 268 34 := rfl
  have k268_35 : s0 268 35 = s0 268 35 := rfl
  have k268_36 : s0 268 36 = s0 268 36 := rfl
  have k268_37 : s0 268 37 = s0 268 37 := rfl
  have k268_9 : s0 268 9 = s0 268 9 := rfl
  refine x_aload_n hx hb hl 0 rfl dX11_readsNumber_0 rfl ?_
  refine x_get (j := 9) (v := .int (xJ (s0 268 9))) hx hb hown hT hE hW cls_X11 (Or.inl (by decide)) (so_268 h0 g _) (by decide) rfl wq1194 dX11_readsNumber_1 ?_
  refine x_rd hW (fun x1 ex1 rx1 => ?_)
  have bx1 : 0 ≤ x1 ∧ x1 ≤ s0 268 10 ∧ s0 268 10 ≤ 240 := by rw [ex1]; exact p3
  have fx1 : x1 = s0 268 9 := ex1.trans k268_9
  refine lv_istore_n (lv' := [(1, .int (xJ x1)), (0, .ref (h0 + 268))]) hx hb dX11_readsNumber_4 rfl hl (by decide) rfl (fun ls hl => ?_)
  refine x_aload_n hx hb hl 1 rfl dX11_readsNumber_5 rfl ?_
  refine x_iconst hx hb dX11_readsNumber_6 ?_
  refine x_put (j := 12) hx hb hown hT hE hW cls_X11 (by decide) (fun σ => so_268 h0 g σ) (by decide) (st_X11_12 h0 s0 268 0) (ln_X11_12 h0 _ _) wq1197 rfl rfl rfl (by decide) dX11_readsNumber_7 (fun H locs s2 es2 hW => ?_)
  have q3 : IMn s2 := by rw [es2]; exact IMn_268 p0 (by omega)
  have q4 : IMk s2 := by rw [es2]; exact IMk_268 p1 (by omega)
  have q5 : IMo s2 := by rw [es2]; exact IMo_o (by unfold suIMo; omega) p2
  have q6 : IR s2 := by rw [es2]; exact IR_268 p3 (by omega)
  have q7 : s2 268 8 = s0 268 8 := (show s2 268 8 = s0 268 8 from by rw [es2, xU_j _ _ (by decide)]).trans k268_8
  have q8 : s2 268 58 = s0 268 58 := (show s2 268 58 = s0 268 58 from by rw [es2, xU_j _ _ (by decide)]).trans k268_58
  have q9 : s2 268 10 = s0 268 10 := (show s2 268 10 = s0 268 10 from by rw [es2, xU_j _ _ (by decide)]).trans k268_10
  have q10 : s2 268 14 = s0 268 14 := (show s2 268 14 = s0 268 14 from by rw [es2, xU_j _ _ (by decide)]).trans k268_14
  have q11 : s2 268 15 = s0 268 15 := (show s2 268 15 = s0 268 15 from by rw [es2, xU_j _ _ (by decide)]).trans k268_15
  have q12 : s2 268 16 = s0 268 16 := (show s2 268 16 = s0 268 16 from by rw [es2, xU_j _ _ (by decide)]).trans k268_16
  have q13 : s2 268 34 = s0 268 34 := (show s2 268 34 = s0 268 34 from by rw [es2, xU_j _ _ (by decide)]).trans k268_34
  have q14 : s2 268 35 = s0 268 35 := (show s2 268 35 = s0 268 35 from by rw [es2, xU_j _ _ (by decide)]).trans k268_35
  have q15 : s2 268 36 = s0 268 36 := (show s2 268 36 = s0 268 36 from by rw [es2, xU_j _ _ (by decide)]).trans k268_36
  have q16 : s2 268 37 = s0 268 37 := (show s2 268 37 = s0 268 37 from by rw [es2, xU_j _ _ (by decide)]).trans k268_37
  have q17 : s2 268 9 = s0 268 9 := (show s2 268 9 = s0 268 9 from by rw [es2, xU_j _ _ (by decide)]).trans k268_9
  have q18 : s2 268 12 = 0 := by rw [es2, xU_s]
  have hF19 := hF.put es2 (by omega)
  have L10 : ∀ (fu : Nat) (s_10 : xS) (H : Heap) (locs : List Loc) (ls : Array Slot), (xFr (fun k => k = 268) s0 s_10) → (IMn s_10) → (IMk s_10) → (IMo s_10) → (IR s_10) → (s_10 268 8 = s0 268 8) → (s_10 268 58 = s0 268 58) → (s_10 268 10 = s0 268 10) → (s_10 268 14 = s0 268 14) → (s_10 268 15 = s0 268 15) → (s_10 268 16 = s0 268 16) → (s_10 268 34 = s0 268 34) → (s_10 268 35 = s0 268 35) → (s_10 268 36 = s0 268 36) → (s_10 268 37 = s0 268 37) → (zNB (s_10 268 9 - x1) (s_10 268 12)) → (x1 + 6 - s_10 268 9).toNat < fu → xW D g h0 s H locs s_10 → lv_has ls 2 [(0, .ref (h0 + 268)), (1, .int (xJ x1))] → W p l e { frames := 2, cells := 0, slots := 0, locals := 40 } s m args below meth c H locs 0 0 Q (F0 m 10 ls []) := by
    intro fu
    induction fu with
    | zero => intro s_10 H locs ls hF_10 q10_0 q10_1 q10_2 q10_3 q10_4 q10_5 q10_6 q10_7 q10_8 q10_9 q10_10 q10_11 q10_12 q10_13 v10_0 hm; exact absurd hm (Nat.not_lt_zero _)
    | succ fu ih10 =>
      intro s_10 H locs ls hF_10 q10_0 q10_1 q10_2 q10_3 q10_4 q10_5 q10_6 q10_7 q10_8 q10_9 q10_10 q10_11 q10_12 q10_13 v10_0 hm hW hl
      have nb := zNB_le v10_0
      refine x_aload_n hx hb hl 0 rfl dX11_readsNumber_10 rfl ?_
      refine x_goi (x_runV (As := []) hx hb hml hown hT hE hW hl.1 (Or.inl (by decide)) (so_268 h0 g _) rfl cf_X11_isDigit wq1485 wq119 wq1483 (c_X11_isDigit l D g T h0 s_10 hW.2.1 q10_0 q10_1 q10_2 q10_3) ⟨rfl, rfl, ⟨by decide, by decide⟩, ⟨by decide, by decide⟩⟩ rfl rfl (Nat.le_of_ble_eq_true rfl) dX11_readsNumber_11) hW (fun x20 s21 H locs rx20 hp22 hW => ?_)
      obtain ⟨es21, hp22⟩ := hp22
      subst es21
      have ghp22 := hp22
      refine x_if_eq (tgt := 69) hx hb rx20 dX11_readsNumber_14 (by decide) (fun c23 => ?_) (fun c23 => ?_)
      · skip
        refine x_iconst hx hb dX11_readsNumber_69 ?_
        have Z69 := fun (h : s_10 268 9 = s0 268 9) => zhC_f h (by omega : s_10 268 10 = s0 268 10) (hF_10 276 (by omega))
        have Y69 := q10_3
        unfold IR at Y69
        rw [eQ]
        exact x_zret hx hb hr hlk hW (by omega) ⟨hF_10, ⟨q10_0, q10_1, q10_2, q10_3, q10_4, q10_5, q10_6, q10_7, q10_8, q10_9, q10_10, q10_11, q10_12, q10_13, trivial⟩, by omega⟩ dX11_readsNumber_70
      refine x_aload_n hx hb hl 0 rfl dX11_readsNumber_17 rfl ?_
      refine x_get (j := 9) (v := .int (xJ (s_10 268 9))) hx hb hown hT hE hW cls_X11 (Or.inl (by decide)) (so_268 h0 g _) (by decide) rfl wq1194 dX11_readsNumber_18 ?_
      refine x_rd hW (fun x24 ex24 rx24 => ?_)
      have bx24 : 0 ≤ x24 ∧ x24 ≤ s_10 268 10 ∧ s_10 268 10 ≤ 240 := by rw [ex24]; exact q10_3
      have q25 : s_10 268 9 = x24 := ex24.symm
      refine x_iload_n hx hb hl 1 rfl dX11_readsNumber_21 rfl ?_
      refine x_iconst hx hb dX11_readsNumber_22 ?_
      refine x_iadd hx hb dX11_readsNumber_23 ?_
      refine x_icmp_ne (tgt := 37) hx hb rx24 (by omega) dX11_readsNumber_24 (by decide) (fun c26 => ?_) (fun c26 => ?_)
      · skip
        refine x_aload_n hx hb hl 0 rfl dX11_readsNumber_37 rfl ?_
        refine x_bipush hx hb dX11_readsNumber_38 (by decide) ?_
        refine x_aload_n hx hb hl 0 rfl dX11_readsNumber_40 rfl ?_
        refine x_get (j := 12) (v := .int (xJ (s_10 268 12))) hx hb hown hT hE hW cls_X11 (Or.inl (by decide)) (so_268 h0 g _) (by decide) rfl wq1197 dX11_readsNumber_41 ?_
        refine x_rd hW (fun x27 ex27 rx27 => ?_)
        have q28 : s_10 268 12 = x27 := ex27.symm
        refine x_imul hx hb dX11_readsNumber_44 ?_
        refine x_aload_n hx hb hl 0 rfl dX11_readsNumber_45 rfl ?_
        refine x_goi (x_runV (As := []) hx hb hml hown hT hE hW hl.1 (Or.inl (by decide)) (so_268 h0 g _) rfl cf_X11_here wq1391 wq106 wq1389 (c_X11_here l D g T h0 s_10 hW.2.1 q10_0 q10_1 q10_2 q10_3) ⟨rfl, rfl, ⟨by decide, by decide⟩, ⟨by decide, by decide⟩⟩ rfl rfl (Nat.le_of_ble_eq_true rfl) dX11_readsNumber_46) hW (fun x29 s30 H locs rx29 hp31 hW => ?_)
        obtain ⟨es30, hp31⟩ := hp31
        subst es30
        have ghp31 := hp31
        refine x_iadd hx hb dX11_readsNumber_49 ?_
        refine x_bipush hx hb dX11_readsNumber_50 (by decide) ?_
        refine x_isub hx hb dX11_readsNumber_52 ?_
        refine x_put (j := 12) hx hb hown hT hE hW cls_X11 (by decide) (fun σ => so_268 h0 g σ) (by decide) (st_X11_12 h0 s_10 268 (((10 * x27) + x29) - 48)) (ln_X11_12 h0 _ _) wq1197 rfl rfl rfl (by omega) dX11_readsNumber_53 (fun H locs s32 es32 hW => ?_)
        have q33 : IMn s32 := by rw [es32]; exact IMn_268 q10_0 (by omega)
        have q34 : IMk s32 := by rw [es32]; exact IMk_268 q10_1 (by omega)
        have q35 : IMo s32 := by rw [es32]; exact IMo_o (by unfold suIMo; omega) q10_2
        have q36 : IR s32 := by rw [es32]; exact IR_268 q10_3 (by omega)
        have q37 : s32 268 8 = s0 268 8 := (show s32 268 8 = s_10 268 8 from by rw [es32, xU_j _ _ (by decide)]).trans q10_4
        have q38 : s32 268 58 = s0 268 58 := (show s32 268 58 = s_10 268 58 from by rw [es32, xU_j _ _ (by decide)]).trans q10_5
        have q39 : s32 268 10 = s0 268 10 := (show s32 268 10 = s_10 268 10 from by rw [es32, xU_j _ _ (by decide)]).trans q10_6
        have q40 : s32 268 14 = s0 268 14 := (show s32 268 14 = s_10 268 14 from by rw [es32, xU_j _ _ (by decide)]).trans q10_7
        have q41 : s32 268 15 = s0 268 15 := (show s32 268 15 = s_10 268 15 from by rw [es32, xU_j _ _ (by decide)]).trans q10_8
        have q42 : s32 268 16 = s0 268 16 := (show s32 268 16 = s_10 268 16 from by rw [es32, xU_j _ _ (by decide)]).trans q10_9
        have q43 : s32 268 34 = s0 268 34 := (show s32 268 34 = s_10 268 34 from by rw [es32, xU_j _ _ (by decide)]).trans q10_10
        have q44 : s32 268 35 = s0 268 35 := (show s32 268 35 = s_10 268 35 from by rw [es32, xU_j _ _ (by decide)]).trans q10_11
        have q45 : s32 268 36 = s0 268 36 := (show s32 268 36 = s_10 268 36 from by rw [es32, xU_j _ _ (by decide)]).trans q10_12
        have q46 : s32 268 37 = s0 268 37 := (show s32 268 37 = s_10 268 37 from by rw [es32, xU_j _ _ (by decide)]).trans q10_13
        have q47 : s32 268 9 = x24 := (show s32 268 9 = s_10 268 9 from by rw [es32, xU_j _ _ (by decide)]).trans q25
        have q48 : s32 268 12 = (((10 * x27) + x29) - 48) := by rw [es32, xU_s]
        have hF49 := hF_10.put es32 (by omega)
        refine x_aload_n hx hb hl 0 rfl dX11_readsNumber_56 rfl ?_
        refine x_aload_n hx hb hl 0 rfl dX11_readsNumber_57 rfl ?_
        refine x_get (j := 9) (v := .int (xJ (s32 268 9))) hx hb hown hT hE hW cls_X11 (Or.inl (by decide)) (so_268 h0 g _) (by decide) rfl wq1194 dX11_readsNumber_58 ?_
        refine x_rd hW (fun x50 ex50 rx50 => ?_)
        have bx50 : 0 ≤ x50 ∧ x50 ≤ s32 268 10 ∧ s32 268 10 ≤ 240 := by rw [ex50]; exact q36
        have fx50 : x50 = x24 := ex50.trans q47
        refine x_iconst hx hb dX11_readsNumber_61 ?_
        refine x_iadd hx hb dX11_readsNumber_62 ?_
        refine x_put (j := 9) hx hb hown hT hE hW cls_X11 (by decide) (fun σ => so_268 h0 g σ) (by decide) (st_X11_9 h0 s32 268 (x50 + 1)) (ln_X11_9 h0 _ _) wq1194 rfl rfl rfl (by omega) dX11_readsNumber_63 (fun H locs s51 es51 hW => ?_)
        have q52 : IMn s51 := by rw [es51]; exact IMn_268 q33 (by omega)
        have q53 : IMk s51 := by rw [es51]; exact IMk_268 q34 (by omega)
        have q54 : IMo s51 := by rw [es51]; exact IMo_o (by unfold suIMo; omega) q35
        have q55 : IR s51 := by rw [es51]; exact IR_268 q36 (by omega)
        have q56 : s51 268 8 = s0 268 8 := (show s51 268 8 = s32 268 8 from by rw [es51, xU_j _ _ (by decide)]).trans q37
        have q57 : s51 268 58 = s0 268 58 := (show s51 268 58 = s32 268 58 from by rw [es51, xU_j _ _ (by decide)]).trans q38
        have q58 : s51 268 10 = s0 268 10 := (show s51 268 10 = s32 268 10 from by rw [es51, xU_j _ _ (by decide)]).trans q39
        have q59 : s51 268 14 = s0 268 14 := (show s51 268 14 = s32 268 14 from by rw [es51, xU_j _ _ (by decide)]).trans q40
        have q60 : s51 268 15 = s0 268 15 := (show s51 268 15 = s32 268 15 from by rw [es51, xU_j _ _ (by decide)]).trans q41
        have q61 : s51 268 16 = s0 268 16 := (show s51 268 16 = s32 268 16 from by rw [es51, xU_j _ _ (by decide)]).trans q42
        have q62 : s51 268 34 = s0 268 34 := (show s51 268 34 = s32 268 34 from by rw [es51, xU_j _ _ (by decide)]).trans q43
        have q63 : s51 268 35 = s0 268 35 := (show s51 268 35 = s32 268 35 from by rw [es51, xU_j _ _ (by decide)]).trans q44
        have q64 : s51 268 36 = s0 268 36 := (show s51 268 36 = s32 268 36 from by rw [es51, xU_j _ _ (by decide)]).trans q45
        have q65 : s51 268 37 = s0 268 37 := (show s51 268 37 = s32 268 37 from by rw [es51, xU_j _ _ (by decide)]).trans q46
        have q66 : s51 268 9 = (x50 + 1) := by rw [es51, xU_s]
        have q67 : s51 268 12 = (((10 * x27) + x29) - 48) := (show s51 268 12 = s32 268 12 from by rw [es51, xU_j _ _ (by decide)]).trans q48
        have hF68 := hF49.put es51 (by omega)
        refine lv_goto (tgt := 10) hx hb dX11_readsNumber_66 (by decide) ?_
        exact ih10 s51 H locs ls hF68 q52 q53 q54 q55 q56 q57 q58 q59 q60 q61 q62 q63 q64 q65 (zNB_s v10_0 (by omega) (by omega) (by omega)) (by omega) hW (lv_sub hl [0, 1] rfl)
      refine x_aload_n hx hb hl 0 rfl dX11_readsNumber_27 rfl ?_
      refine x_iconst hx hb dX11_readsNumber_28 ?_
      refine x_aload_n hx hb hl 0 rfl dX11_readsNumber_29 rfl ?_
      refine x_get (j := 9) (v := .int (xJ (s_10 268 9))) hx hb hown hT hE hW cls_X11 (Or.inl (by decide)) (so_268 h0 g _) (by decide) rfl wq1194 dX11_readsNumber_30 ?_
      refine x_rd hW (fun x69 ex69 rx69 => ?_)
      have bx69 : 0 ≤ x69 ∧ x69 ≤ s_10 268 10 ∧ s_10 268 10 ≤ 240 := by rw [ex69]; exact q10_3
      have fx69 : x69 = x24 := ex69.trans q25
      refine x_goi (x_runV (As := [.int (xJ 2), .int (xJ x69)]) hx hb hml hown hT hE hW hl.1 (Or.inl (by decide)) (so_268 h0 g _) rfl cf_X11_wrongAt wq1401 wq107 wq1399 (c_X11_wrongAt l D g T h0 s_10 hW.2.1 2 (by decide) x69 rx69 q10_0 q10_1 q10_2 q10_3) ⟨rfl, rfl, ⟨by decide, by decide⟩, ⟨by decide, by decide⟩⟩ rfl rfl (Nat.le_of_ble_eq_true rfl) dX11_readsNumber_33) hW (fun x70 s71 H locs rx70 hp72 hW => ?_)
      obtain ⟨fs71, hp72⟩ := hp72
      have hF73 := hF_10.call fs71 (fun k h => by omega)
      have ghp72 := hp72.2
      rw [eQ]
      exact x_zret hx hb hr hlk hW (by omega) ⟨hF73, ⟨hp72.1.1, hp72.1.2.1, hp72.1.2.2.1, hp72.1.2.2.2.1, (hp72.1.2.2.2.2.1.trans q10_4), (hp72.1.2.2.2.2.2.1.trans q10_5), (hp72.1.2.2.2.2.2.2.2.1.trans q10_6), (hp72.1.2.2.2.2.2.2.2.2.1.trans q10_7), (hp72.1.2.2.2.2.2.2.2.2.2.1.trans q10_8), (hp72.1.2.2.2.2.2.2.2.2.2.2.1.trans q10_9), (hp72.1.2.2.2.2.2.2.2.2.2.2.2.1.trans q10_10), (hp72.1.2.2.2.2.2.2.2.2.2.2.2.2.1.trans q10_11), (hp72.1.2.2.2.2.2.2.2.2.2.2.2.2.2.1.trans q10_12), (hp72.1.2.2.2.2.2.2.2.2.2.2.2.2.2.2.1.trans q10_13), trivial⟩, by omega⟩ dX11_readsNumber_36
  exact L10 ((x1 + 6 - s2 268 9 : Int).toNat + 1) s2 H locs ls hF19 q3 q4 q5 q6 q7 q8 q9 q10 q11 q12 q13 q14 q15 q16 (zNB_0 (by omega) (by omega)) (Nat.lt_succ_self _) hW (lv_sub hl [1, 0] rfl)
set_option maxHeartbeats 4000000 in
set_option maxRecDepth 100000 in
theorem c_X11_notes (l : Launch) (D : va_G) (g : xG) (T : Nat × Nat × Nat) (h0 : Nat) (s0 : xS) (hσ : xRR s0) (o : Int) (ro : xR o) (v : Int) (rv : xR v) (hn : 0 ≤ s0 268 14 ∧ s0 268 14 ≤ 259) (ho : 0 ≤ o ∧ o ≤ 14) (hv : 0 ≤ v ∧ v < 1048576) (p0 : IMn s0) (p1 : IMk s0) (p2 : IMo s0) (p3 : IR s0) : Met l yX11_notes (xws yX11_notes cX11_notes 3 none) { frames := 0, cells := 0, slots := 0, locals := 0 } (xP [.ref (h0 + 268), .int (xJ o), .int (xJ v)] D g T h0 s0) (xQv D g h0 (fun τ => xFr (fun k => k = 268 ∨ k = 277) s0 τ ∧ (((IMn τ) ∧ (IMk τ) ∧ (IMo τ) ∧ (IR τ) ∧ (τ 277 = xud (s0 277) (s0 268 14) (1048576 * o + v)) ∧ (τ 268 8 = s0 268 8) ∧ (τ 268 58 = s0 268 58) ∧ (τ 268 9 = s0 268 9) ∧ (τ 268 10 = s0 268 10) ∧ (τ 268 15 = s0 268 15) ∧ (τ 268 16 = s0 268 16) ∧ (τ 268 34 = s0 268 34) ∧ (τ 268 35 = s0 268 35) ∧ (τ 268 36 = s0 268 36) ∧ (τ 268 37 = s0 268 37) ∧ True) ∧ (τ 268 14 = s0 268 14 + 1)))) 0 0 (xA h0) := by
  refine x_met hσ (by decide) (Nat.le_of_ble_eq_true rfl) ?_
  intro p e s m args below meth c hx hb hr hml hown hT hlk hnm hE hW ls hl
  have hl : lv_has ls 3 [(0, .ref (h0 + 268)), (1, .int (xJ o)), (2, .int (xJ v))] := hl
  obtain ⟨Q, eQ⟩ : ∃ Q, Q = MQ below (xQv D g h0 (fun τ => xFr (fun k => k = 268 ∨ k = 277) s0 τ ∧ (((IMn τ) ∧ (IMk τ) ∧ (IMo τ) ∧ (IR τ) ∧ (τ 277 = xud (s0 277) (s0 268 14) (1048576 * o + v)) ∧ (τ 268 8 = s0 268 8) ∧ (τ 268 58 = s0 268 58) ∧ (τ 268 9 = s0 268 9) ∧ (τ 268 10 = s0 268 10) ∧ (τ 268 15 = s0 268 15) ∧ (τ 268 16 = s0 268 16) ∧ (τ 268 34 = s0 268 34) ∧ (τ 268 35 = s0 268 35) ∧ (τ 268 36 = s0 268 36) ∧ (τ 268 37 = s0 268 37) ∧ True) ∧ (τ 268 14 = s0 268 14 + 1)))) args s 0 0 (xA h0) := ⟨_, rfl⟩
  rw [← eQ]
  generalize hHe : ([] : List Loc) = locs at hW ⊢
  obtain ⟨H, eH⟩ : ∃ H, H = s.heap := ⟨_, rfl⟩
  rw [← eH] at hW ⊢
  have hF : xFr (fun k => k = 268 ∨ k = 277) s0 s0 := xFr.rf
  have k268_8 : s0 268 8 = s0 268 8 := rfl
  have k268_58 : s0 268 58 = s0 268 58 := rfl
  have k268_9 : s0 268 9 = s0 268 9 := rfl
  have k268_10 : s0 268 10 = s0 268 10 := rfl
  have k268_15 : s0 268 15 = s0 268 15 := rfl
  have k268_16 : s0 268 16 = s0 268 16 := rfl
  have k268_34 : s0 268 34 = s0 268 34 := rfl
  have k268_35 : s0 268 35 = s0 268 35 := rfl
  have k268_36 : s0 268 36 = s0 268 36 := rfl
  have k268_37 : s0 268 37 = s0 268 37 := rfl
  have k268_14 : s0 268 14 = s0 268 14 := rfl
  have ku_277 : s0 277 = s0 277 := rfl
  refine x_aload_n hx hb hl 0 rfl dX11_notes_0 rfl ?_
  refine x_get (j := 18) (v := .ref (h0 + 277)) hx hb hown hT hE hW cls_X11 (Or.inl (by decide)) (so_268 h0 g _) (by decide) rfl wq1203 dX11_notes_1 ?_
  refine x_aload_n hx hb hl 0 rfl dX11_notes_4 rfl ?_
  refine x_get (j := 14) (v := .int (xJ (s0 268 14))) hx hb hown hT hE hW cls_X11 (Or.inl (by decide)) (so_268 h0 g _) (by decide) rfl wq1199 dX11_notes_5 ?_
  refine x_rd hW (fun x1 ex1 rx1 => ?_)
  have fx1 : x1 = s0 268 14 := ex1.trans k268_14
  refine lv_ldc (v := xJ 1048576) hx hb hown (hT _ wq1482) dX11_notes_8 ?_
  refine x_iload_n hx hb hl 1 rfl dX11_notes_10 rfl ?_
  refine x_imul hx hb dX11_notes_11 ?_
  refine x_iload_n hx hb hl 2 rfl dX11_notes_12 rfl ?_
  refine x_iadd hx hb dX11_notes_13 ?_
  refine x_iast hx hb hE hW (by decide) (fun σ => sa_277 h0 g σ) (by omega) (by decide) (by omega) dX11_notes_14 (fun H locs s2 es2 hW => ?_)
  have q3 : IMn s2 := by rw [es2]; exact IMn_o (by unfold suIMn; omega) p0
  have q4 : IMk s2 := by rw [es2]; exact IMk_o (by unfold suIMk; omega) p1
  have q5 : IMo s2 := by rw [es2]; exact IMo_o (by unfold suIMo; omega) p2
  have q6 : IR s2 := by rw [es2]; exact IR_o (by unfold suIR; omega) p3
  have q7 : s2 268 8 = s0 268 8 := (show s2 268 8 = s0 268 8 from by rw [es2, xU_k _ _ _ (by omega)]).trans k268_8
  have q8 : s2 268 58 = s0 268 58 := (show s2 268 58 = s0 268 58 from by rw [es2, xU_k _ _ _ (by omega)]).trans k268_58
  have q9 : s2 268 9 = s0 268 9 := (show s2 268 9 = s0 268 9 from by rw [es2, xU_k _ _ _ (by omega)]).trans k268_9
  have q10 : s2 268 10 = s0 268 10 := (show s2 268 10 = s0 268 10 from by rw [es2, xU_k _ _ _ (by omega)]).trans k268_10
  have q11 : s2 268 15 = s0 268 15 := (show s2 268 15 = s0 268 15 from by rw [es2, xU_k _ _ _ (by omega)]).trans k268_15
  have q12 : s2 268 16 = s0 268 16 := (show s2 268 16 = s0 268 16 from by rw [es2, xU_k _ _ _ (by omega)]).trans k268_16
  have q13 : s2 268 34 = s0 268 34 := (show s2 268 34 = s0 268 34 from by rw [es2, xU_k _ _ _ (by omega)]).trans k268_34
  have q14 : s2 268 35 = s0 268 35 := (show s2 268 35 = s0 268 35 from by rw [es2, xU_k _ _ _ (by omega)]).trans k268_35
  have q15 : s2 268 36 = s0 268 36 := (show s2 268 36 = s0 268 36 from by rw [es2, xU_k _ _ _ (by omega)]).trans k268_36
  have q16 : s2 268 37 = s0 268 37 := (show s2 268 37 = s0 268 37 from by rw [es2, xU_k _ _ _ (by omega)]).trans k268_37
  have q17 : s2 268 14 = s0 268 14 := (show s2 268 14 = s0 268 14 from by rw [es2, xU_k _ _ _ (by omega)]).trans k268_14
  have hF18 := hF.put es2 (by omega)
  have q19 : s2 277 = xud (s0 277) (s0 268 14) (1048576 * o + v) := by rw [es2, xU_xud, show x1 = s0 268 14 from by omega]
  refine x_aload_n hx hb hl 0 rfl dX11_notes_15 rfl ?_
  refine x_aload_n hx hb hl 0 rfl dX11_notes_16 rfl ?_
  refine x_get (j := 14) (v := .int (xJ (s2 268 14))) hx hb hown hT hE hW cls_X11 (Or.inl (by decide)) (so_268 h0 g _) (by decide) rfl wq1199 dX11_notes_17 ?_
  refine x_rd hW (fun x20 ex20 rx20 => ?_)
  have fx20 : x20 = s0 268 14 := ex20.trans q17
  refine x_iconst hx hb dX11_notes_20 ?_
  refine x_iadd hx hb dX11_notes_21 ?_
  refine x_put (j := 14) hx hb hown hT hE hW cls_X11 (by decide) (fun σ => so_268 h0 g σ) (by decide) (st_X11_14 h0 s2 268 (x20 + 1)) (ln_X11_14 h0 _ _) wq1199 rfl rfl rfl (by omega) dX11_notes_22 (fun H locs s21 es21 hW => ?_)
  have q22 : IMn s21 := by rw [es21]; exact IMn_268 q3 (by omega)
  have q23 : IMk s21 := by rw [es21]; exact IMk_268 q4 (by omega)
  have q24 : IMo s21 := by rw [es21]; exact IMo_o (by unfold suIMo; omega) q5
  have q25 : IR s21 := by rw [es21]; exact IR_268 q6 (by omega)
  have q26 : s21 268 8 = s0 268 8 := (show s21 268 8 = s2 268 8 from by rw [es21, xU_j _ _ (by decide)]).trans q7
  have q27 : s21 268 58 = s0 268 58 := (show s21 268 58 = s2 268 58 from by rw [es21, xU_j _ _ (by decide)]).trans q8
  have q28 : s21 268 9 = s0 268 9 := (show s21 268 9 = s2 268 9 from by rw [es21, xU_j _ _ (by decide)]).trans q9
  have q29 : s21 268 10 = s0 268 10 := (show s21 268 10 = s2 268 10 from by rw [es21, xU_j _ _ (by decide)]).trans q10
  have q30 : s21 268 15 = s0 268 15 := (show s21 268 15 = s2 268 15 from by rw [es21, xU_j _ _ (by decide)]).trans q11
  have q31 : s21 268 16 = s0 268 16 := (show s21 268 16 = s2 268 16 from by rw [es21, xU_j _ _ (by decide)]).trans q12
  have q32 : s21 268 34 = s0 268 34 := (show s21 268 34 = s2 268 34 from by rw [es21, xU_j _ _ (by decide)]).trans q13
  have q33 : s21 268 35 = s0 268 35 := (show s21 268 35 = s2 268 35 from by rw [es21, xU_j _ _ (by decide)]).trans q14
  have q34 : s21 268 36 = s0 268 36 := (show s21 268 36 = s2 268 36 from by rw [es21, xU_j _ _ (by decide)]).trans q15
  have q35 : s21 268 37 = s0 268 37 := (show s21 268 37 = s2 268 37 from by rw [es21, xU_j _ _ (by decide)]).trans q16
  have q36 : s21 268 14 = (x20 + 1) := by rw [es21, xU_s]
  have q37 : s21 277 = xud (s0 277) (s0 268 14) (1048576 * o + v) := (show s21 277 = s2 277 from by rw [es21, xU_k _ _ _ (by omega)]).trans q19
  have hF38 := hF18.put es21 (by omega)
  rw [eQ]
  exact x_vret hx hb hr hlk hW ⟨hF38, ⟨q22, q23, q24, q25, q37, q26, q27, q28, q29, q30, q31, q32, q33, q34, q35, trivial⟩, by omega⟩ dX11_notes_25
set_option maxHeartbeats 4000000 in
set_option maxRecDepth 100000 in
theorem c_X11_opens (l : Launch) (D : va_G) (g : xG) (T : Nat × Nat × Nat) (h0 : Nat) (s0 : xS) (hσ : xRR s0) (o : Int) (ro : xR o) (hp : s0 268 9 < s0 268 10) (hw : 0 ≤ s0 268 15 ∧ s0 268 15 ≤ 259) (ho : 0 ≤ o ∧ o ≤ 14) (p0 : IMn s0) (p1 : IMk s0) (p2 : IMo s0) (p3 : IR s0) : Met l yX11_opens (xws yX11_opens cX11_opens 2 (some .boolean)) { frames := 1, cells := 0, slots := 0, locals := 22 } (xP [.ref (h0 + 268), .int (xJ o)] D g T h0 s0) (xQi D g h0 (fun r τ => xFr (fun k => k = 268 ∨ k = 278) s0 τ ∧ (((IMn τ) ∧ (IMk τ) ∧ (IMo τ) ∧ (IR τ) ∧ (τ 268 8 = s0 268 8) ∧ (τ 268 58 = s0 268 58) ∧ (τ 268 10 = s0 268 10) ∧ (τ 268 14 = s0 268 14) ∧ (τ 268 16 = s0 268 16) ∧ (τ 268 34 = s0 268 34) ∧ (τ 268 35 = s0 268 35) ∧ (τ 268 36 = s0 268 36) ∧ (τ 268 37 = s0 268 37) ∧ True) ∧ ((r = 0 ∧ τ 268 9 = s0 268 9) ∨ (r = 1 ∧ τ 268 9 = s0 268 9 + 1 ∧ τ 268 15 = s0 268 15 + 1 ∧ τ 278 = xud (s0 278) (s0 268 15) (1048576 * o)))))) 0 0 (xA h0) := by
  refine x_met hσ (by decide) (Nat.le_of_ble_eq_true rfl) ?_
  intro p e s m args below meth c hx hb hr hml hown hT hlk hnm hE hW ls hl
  have hl : lv_has ls 2 [(0, .ref (h0 + 268)), (1, .int (xJ o))] := hl
  obtain ⟨Q, eQ⟩ : ∃ Q, Q = MQ below (xQi D g h0 (fun r τ => xFr (fun k => k = 268 ∨ k = 278) s0 τ ∧ (((IMn τ) ∧ (IMk τ) ∧ (IMo τ) ∧ (IR τ) ∧ (τ 268 8 = s0 268 8) ∧ (τ 268 58 = s0 268 58) ∧ (τ 268 10 = s0 268 10) ∧ (τ 268 14 = s0 268 14) ∧ (τ 268 16 = s0 268 16) ∧ (τ 268 34 = s0 268 34) ∧ (τ 268 35 = s0 268 35) ∧ (τ 268 36 = s0 268 36) ∧ (τ 268 37 = s0 268 37) ∧ True) ∧ ((r = 0 ∧ τ 268 9 = s0 268 9) ∨ (r = 1 ∧ τ 268 9 = s0 268 9 + 1 ∧ τ 268 15 = s0 268 15 + 1 ∧ τ 278 = xud (s0 278) (s0 268 15) (1048576 * o)))))) args s 0 0 (xA h0) := ⟨_, rfl⟩
  rw [← eQ]
  generalize hHe : ([] : List Loc) = locs at hW ⊢
  obtain ⟨H, eH⟩ : ∃ H, H = s.heap := ⟨_, rfl⟩
  rw [← eH] at hW ⊢
  have hF : xFr (fun k => k = 268 ∨ k = 278) s0 s0 := xFr.rf
  have k268_8 : s0 268 8 = s0 268 8 := rfl
  have k268_58 : s0 268 58 = s0 268 58 := rfl
  have k268_10 : s0 268 10 = s0 268 10 := rfl
  have k268_14 : s0 268 14 = s0 268 14 := rfl
  have k268_16 : s0 268 16 = s0 268 16 := rfl
  have k268_34 : s0 268 34 = s0 268 34 := rfl
  have k268_35 : s0 268 35 = s0 268 35 := rfl
  have k268_36 : s0 268 36 = s0 268 36 := rfl
  have k268_37 : s0 268 37 = s0 268 37 := rfl
  have k268_9 : s0 268 9 = s0 268 9 := rfl
  have k268_15 : s0 268 15 = s0 268 15 := rfl
  refine x_aload_n hx hb hl 0 rfl dX11_opens_0 rfl ?_
  refine x_get (j := 13) (v := .int (xJ (s0 268 13))) hx hb hown hT hE hW cls_X11 (Or.inl (by decide)) (so_268 h0 g _) (by decide) rfl wq1198 dX11_opens_1 ?_
  refine x_rd hW (fun x1 ex1 rx1 => ?_)
  refine x_bipush hx hb dX11_opens_4 (by decide) ?_
  refine x_icmp_ne (tgt := 19) hx hb rx1 (by decide) dX11_opens_6 (by decide) (fun c2 => ?_) (fun c2 => ?_)
  · skip
    refine x_aload_n hx hb hl 0 rfl dX11_opens_19 rfl ?_
    refine x_aload_n hx hb hl 0 rfl dX11_opens_20 rfl ?_
    refine x_get (j := 13) (v := .int (xJ (s0 268 13))) hx hb hown hT hE hW cls_X11 (Or.inl (by decide)) (so_268 h0 g _) (by decide) rfl wq1198 dX11_opens_21 ?_
    refine x_rd hW (fun x3 ex3 rx3 => ?_)
    refine x_iconst hx hb dX11_opens_24 ?_
    refine x_iadd hx hb dX11_opens_25 ?_
    refine x_any (fun x4 rx4 => ?_)
    refine x_put (j := 13) hx hb hown hT hE hW cls_X11 (by decide) (fun σ => so_268 h0 g σ) (by decide) (st_X11_13 h0 s0 268 x4) (ln_X11_13 h0 _ _) wq1198 rfl rfl rfl rx4 dX11_opens_26 (fun H locs s5 es5 hW => ?_)
    have q6 : IMn s5 := by rw [es5]; exact IMn_268 p0 (by omega)
    have q7 : IMk s5 := by rw [es5]; exact IMk_268 p1 (by omega)
    have q8 : IMo s5 := by rw [es5]; exact IMo_o (by unfold suIMo; omega) p2
    have q9 : IR s5 := by rw [es5]; exact IR_268 p3 (by omega)
    have q10 : s5 268 8 = s0 268 8 := (show s5 268 8 = s0 268 8 from by rw [es5, xU_j _ _ (by decide)]).trans k268_8
    have q11 : s5 268 58 = s0 268 58 := (show s5 268 58 = s0 268 58 from by rw [es5, xU_j _ _ (by decide)]).trans k268_58
    have q12 : s5 268 10 = s0 268 10 := (show s5 268 10 = s0 268 10 from by rw [es5, xU_j _ _ (by decide)]).trans k268_10
    have q13 : s5 268 14 = s0 268 14 := (show s5 268 14 = s0 268 14 from by rw [es5, xU_j _ _ (by decide)]).trans k268_14
    have q14 : s5 268 16 = s0 268 16 := (show s5 268 16 = s0 268 16 from by rw [es5, xU_j _ _ (by decide)]).trans k268_16
    have q15 : s5 268 34 = s0 268 34 := (show s5 268 34 = s0 268 34 from by rw [es5, xU_j _ _ (by decide)]).trans k268_34
    have q16 : s5 268 35 = s0 268 35 := (show s5 268 35 = s0 268 35 from by rw [es5, xU_j _ _ (by decide)]).trans k268_35
    have q17 : s5 268 36 = s0 268 36 := (show s5 268 36 = s0 268 36 from by rw [es5, xU_j _ _ (by decide)]).trans k268_36
    have q18 : s5 268 37 = s0 268 37 := (show s5 268 37 = s0 268 37 from by rw [es5, xU_j _ _ (by decide)]).trans k268_37
    have q19 : s5 268 9 = s0 268 9 := (show s5 268 9 = s0 268 9 from by rw [es5, xU_j _ _ (by decide)]).trans k268_9
    have q20 : s5 268 15 = s0 268 15 := (show s5 268 15 = s0 268 15 from by rw [es5, xU_j _ _ (by decide)]).trans k268_15
    have hF21 := hF.put es5 (by omega)
    have E26 := es5
    refine x_aload_n hx hb hl 0 rfl dX11_opens_29 rfl ?_
    refine x_get (j := 19) (v := .ref (h0 + 278)) hx hb hown hT hE hW cls_X11 (Or.inl (by decide)) (so_268 h0 g _) (by decide) rfl wq1204 dX11_opens_30 ?_
    refine x_aload_n hx hb hl 0 rfl dX11_opens_33 rfl ?_
    refine x_get (j := 15) (v := .int (xJ (s5 268 15))) hx hb hown hT hE hW cls_X11 (Or.inl (by decide)) (so_268 h0 g _) (by decide) rfl wq1200 dX11_opens_34 ?_
    refine x_rd hW (fun x22 ex22 rx22 => ?_)
    have fx22 : x22 = s0 268 15 := ex22.trans q20
    refine lv_ldc (v := xJ 1048576) hx hb hown (hT _ wq1482) dX11_opens_37 ?_
    refine x_iload_n hx hb hl 1 rfl dX11_opens_39 rfl ?_
    refine x_imul hx hb dX11_opens_40 ?_
    refine x_iast hx hb hE hW (by decide) (fun σ => sa_278 h0 g σ) (by omega) (by decide) (by omega) dX11_opens_41 (fun H locs s23 es23 hW => ?_)
    have q24 : IMn s23 := by rw [es23]; exact IMn_o (by unfold suIMn; omega) q6
    have q25 : IMk s23 := by rw [es23]; exact IMk_o (by unfold suIMk; omega) q7
    have q26 : IMo s23 := by rw [es23]; exact IMo_o (by unfold suIMo; omega) q8
    have q27 : IR s23 := by rw [es23]; exact IR_o (by unfold suIR; omega) q9
    have q28 : s23 268 8 = s0 268 8 := (show s23 268 8 = s5 268 8 from by rw [es23, xU_k _ _ _ (by omega)]).trans q10
    have q29 : s23 268 58 = s0 268 58 := (show s23 268 58 = s5 268 58 from by rw [es23, xU_k _ _ _ (by omega)]).trans q11
    have q30 : s23 268 10 = s0 268 10 := (show s23 268 10 = s5 268 10 from by rw [es23, xU_k _ _ _ (by omega)]).trans q12
    have q31 : s23 268 14 = s0 268 14 := (show s23 268 14 = s5 268 14 from by rw [es23, xU_k _ _ _ (by omega)]).trans q13
    have q32 : s23 268 16 = s0 268 16 := (show s23 268 16 = s5 268 16 from by rw [es23, xU_k _ _ _ (by omega)]).trans q14
    have q33 : s23 268 34 = s0 268 34 := (show s23 268 34 = s5 268 34 from by rw [es23, xU_k _ _ _ (by omega)]).trans q15
    have q34 : s23 268 35 = s0 268 35 := (show s23 268 35 = s5 268 35 from by rw [es23, xU_k _ _ _ (by omega)]).trans q16
    have q35 : s23 268 36 = s0 268 36 := (show s23 268 36 = s5 268 36 from by rw [es23, xU_k _ _ _ (by omega)]).trans q17
    have q36 : s23 268 37 = s0 268 37 := (show s23 268 37 = s5 268 37 from by rw [es23, xU_k _ _ _ (by omega)]).trans q18
    have q37 : s23 268 9 = s0 268 9 := (show s23 268 9 = s5 268 9 from by rw [es23, xU_k _ _ _ (by omega)]).trans q19
    have q38 : s23 268 15 = s0 268 15 := (show s23 268 15 = s5 268 15 from by rw [es23, xU_k _ _ _ (by omega)]).trans q20
    have hF39 := hF21.put es23 (by omega)
    have q40 : s23 278 = xud (s0 278) (s0 268 15) (1048576 * o) := by rw [es23, xU_xud, show x22 = s0 268 15 from by omega, E26, xU_k _ _ _ (by omega)]
    refine x_aload_n hx hb hl 0 rfl dX11_opens_42 rfl ?_
    refine x_aload_n hx hb hl 0 rfl dX11_opens_43 rfl ?_
    refine x_get (j := 15) (v := .int (xJ (s23 268 15))) hx hb hown hT hE hW cls_X11 (Or.inl (by decide)) (so_268 h0 g _) (by decide) rfl wq1200 dX11_opens_44 ?_
    refine x_rd hW (fun x41 ex41 rx41 => ?_)
    have fx41 : x41 = s0 268 15 := ex41.trans q38
    refine x_iconst hx hb dX11_opens_47 ?_
    refine x_iadd hx hb dX11_opens_48 ?_
    refine x_put (j := 15) hx hb hown hT hE hW cls_X11 (by decide) (fun σ => so_268 h0 g σ) (by decide) (st_X11_15 h0 s23 268 (x41 + 1)) (ln_X11_15 h0 _ _) wq1200 rfl rfl rfl (by omega) dX11_opens_49 (fun H locs s42 es42 hW => ?_)
    have q43 : IMn s42 := by rw [es42]; exact IMn_268 q24 (by omega)
    have q44 : IMk s42 := by rw [es42]; exact IMk_268 q25 (by omega)
    have q45 : IMo s42 := by rw [es42]; exact IMo_o (by unfold suIMo; omega) q26
    have q46 : IR s42 := by rw [es42]; exact IR_268 q27 (by omega)
    have q47 : s42 268 8 = s0 268 8 := (show s42 268 8 = s23 268 8 from by rw [es42, xU_j _ _ (by decide)]).trans q28
    have q48 : s42 268 58 = s0 268 58 := (show s42 268 58 = s23 268 58 from by rw [es42, xU_j _ _ (by decide)]).trans q29
    have q49 : s42 268 10 = s0 268 10 := (show s42 268 10 = s23 268 10 from by rw [es42, xU_j _ _ (by decide)]).trans q30
    have q50 : s42 268 14 = s0 268 14 := (show s42 268 14 = s23 268 14 from by rw [es42, xU_j _ _ (by decide)]).trans q31
    have q51 : s42 268 16 = s0 268 16 := (show s42 268 16 = s23 268 16 from by rw [es42, xU_j _ _ (by decide)]).trans q32
    have q52 : s42 268 34 = s0 268 34 := (show s42 268 34 = s23 268 34 from by rw [es42, xU_j _ _ (by decide)]).trans q33
    have q53 : s42 268 35 = s0 268 35 := (show s42 268 35 = s23 268 35 from by rw [es42, xU_j _ _ (by decide)]).trans q34
    have q54 : s42 268 36 = s0 268 36 := (show s42 268 36 = s23 268 36 from by rw [es42, xU_j _ _ (by decide)]).trans q35
    have q55 : s42 268 37 = s0 268 37 := (show s42 268 37 = s23 268 37 from by rw [es42, xU_j _ _ (by decide)]).trans q36
    have q56 : s42 268 9 = s0 268 9 := (show s42 268 9 = s23 268 9 from by rw [es42, xU_j _ _ (by decide)]).trans q37
    have q57 : s42 268 15 = (x41 + 1) := by rw [es42, xU_s]
    have q58 : s42 278 = xud (s0 278) (s0 268 15) (1048576 * o) := (show s42 278 = s23 278 from by rw [es42, xU_k _ _ _ (by omega)]).trans q40
    have hF59 := hF39.put es42 (by omega)
    refine x_aload_n hx hb hl 0 rfl dX11_opens_52 rfl ?_
    refine x_aload_n hx hb hl 0 rfl dX11_opens_53 rfl ?_
    refine x_get (j := 9) (v := .int (xJ (s42 268 9))) hx hb hown hT hE hW cls_X11 (Or.inl (by decide)) (so_268 h0 g _) (by decide) rfl wq1194 dX11_opens_54 ?_
    refine x_rd hW (fun x60 ex60 rx60 => ?_)
    have bx60 : 0 ≤ x60 ∧ x60 ≤ s42 268 10 ∧ s42 268 10 ≤ 240 := by rw [ex60]; exact q46
    have fx60 : x60 = s0 268 9 := ex60.trans q56
    refine x_iconst hx hb dX11_opens_57 ?_
    refine x_iadd hx hb dX11_opens_58 ?_
    refine x_put (j := 9) hx hb hown hT hE hW cls_X11 (by decide) (fun σ => so_268 h0 g σ) (by decide) (st_X11_9 h0 s42 268 (x60 + 1)) (ln_X11_9 h0 _ _) wq1194 rfl rfl rfl (by omega) dX11_opens_59 (fun H locs s61 es61 hW => ?_)
    have q62 : IMn s61 := by rw [es61]; exact IMn_268 q43 (by omega)
    have q63 : IMk s61 := by rw [es61]; exact IMk_268 q44 (by omega)
    have q64 : IMo s61 := by rw [es61]; exact IMo_o (by unfold suIMo; omega) q45
    have q65 : IR s61 := by rw [es61]; exact IR_268 q46 (by omega)
    have q66 : s61 268 8 = s0 268 8 := (show s61 268 8 = s42 268 8 from by rw [es61, xU_j _ _ (by decide)]).trans q47
    have q67 : s61 268 58 = s0 268 58 := (show s61 268 58 = s42 268 58 from by rw [es61, xU_j _ _ (by decide)]).trans q48
    have q68 : s61 268 10 = s0 268 10 := (show s61 268 10 = s42 268 10 from by rw [es61, xU_j _ _ (by decide)]).trans q49
    have q69 : s61 268 14 = s0 268 14 := (show s61 268 14 = s42 268 14 from by rw [es61, xU_j _ _ (by decide)]).trans q50
    have q70 : s61 268 16 = s0 268 16 := (show s61 268 16 = s42 268 16 from by rw [es61, xU_j _ _ (by decide)]).trans q51
    have q71 : s61 268 34 = s0 268 34 := (show s61 268 34 = s42 268 34 from by rw [es61, xU_j _ _ (by decide)]).trans q52
    have q72 : s61 268 35 = s0 268 35 := (show s61 268 35 = s42 268 35 from by rw [es61, xU_j _ _ (by decide)]).trans q53
    have q73 : s61 268 36 = s0 268 36 := (show s61 268 36 = s42 268 36 from by rw [es61, xU_j _ _ (by decide)]).trans q54
    have q74 : s61 268 37 = s0 268 37 := (show s61 268 37 = s42 268 37 from by rw [es61, xU_j _ _ (by decide)]).trans q55
    have q75 : s61 268 9 = (x60 + 1) := by rw [es61, xU_s]
    have q76 : s61 268 15 = (x41 + 1) := (show s61 268 15 = s42 268 15 from by rw [es61, xU_j _ _ (by decide)]).trans q57
    have q77 : s61 278 = xud (s0 278) (s0 268 15) (1048576 * o) := (show s61 278 = s42 278 from by rw [es61, xU_k _ _ _ (by omega)]).trans q58
    have hF78 := hF59.put es61 (by omega)
    refine x_iconst hx hb dX11_opens_62 ?_
    have U62 := q77
    rw [eQ]
    exact x_zret hx hb hr hlk hW (by omega) ⟨hF78, ⟨q62, q63, q64, q65, q66, q67, q68, q69, q70, q71, q72, q73, q74, trivial⟩, by first | exact Or.inl ⟨by omega, by omega⟩ | exact Or.inr ⟨rfl, by omega, by omega, U62⟩⟩ dX11_opens_63
  refine x_aload_n hx hb hl 0 rfl dX11_opens_9 rfl ?_
  refine x_iconst hx hb dX11_opens_10 ?_
  refine x_aload_n hx hb hl 0 rfl dX11_opens_11 rfl ?_
  refine x_get (j := 9) (v := .int (xJ (s0 268 9))) hx hb hown hT hE hW cls_X11 (Or.inl (by decide)) (so_268 h0 g _) (by decide) rfl wq1194 dX11_opens_12 ?_
  refine x_rd hW (fun x79 ex79 rx79 => ?_)
  have bx79 : 0 ≤ x79 ∧ x79 ≤ s0 268 10 ∧ s0 268 10 ≤ 240 := by rw [ex79]; exact p3
  have fx79 : x79 = s0 268 9 := ex79.trans k268_9
  refine x_goi (x_runV (As := [.int (xJ 5), .int (xJ x79)]) hx hb hml hown hT hE hW hl.1 (Or.inl (by decide)) (so_268 h0 g _) rfl cf_X11_wrongAt wq1401 wq107 wq1399 (c_X11_wrongAt l D g T h0 s0 hW.2.1 5 (by decide) x79 rx79 p0 p1 p2 p3) ⟨rfl, rfl, ⟨by decide, by decide⟩, ⟨by decide, by decide⟩⟩ rfl rfl (Nat.le_of_ble_eq_true rfl) dX11_opens_15) hW (fun x80 s81 H locs rx80 hp82 hW => ?_)
  obtain ⟨fs81, hp82⟩ := hp82
  have hF83 := hF.call fs81 (fun k h => by omega)
  have ghp82 := hp82.2
  rw [eQ]
  exact x_zret hx hb hr hlk hW (by omega) ⟨hF83, ⟨hp82.1.1, hp82.1.2.1, hp82.1.2.2.1, hp82.1.2.2.2.1, (hp82.1.2.2.2.2.1.trans k268_8), (hp82.1.2.2.2.2.2.1.trans k268_58), (hp82.1.2.2.2.2.2.2.2.1.trans k268_10), (hp82.1.2.2.2.2.2.2.2.2.1.trans k268_14), (hp82.1.2.2.2.2.2.2.2.2.2.2.1.trans k268_16), (hp82.1.2.2.2.2.2.2.2.2.2.2.2.1.trans k268_34), (hp82.1.2.2.2.2.2.2.2.2.2.2.2.2.1.trans k268_35), (hp82.1.2.2.2.2.2.2.2.2.2.2.2.2.2.1.trans k268_36), (hp82.1.2.2.2.2.2.2.2.2.2.2.2.2.2.2.1.trans k268_37), trivial⟩, by first | exact Or.inl ⟨by omega, by omega⟩ | exact Or.inr ⟨rfl, by omega, by omega, U62⟩⟩ dX11_opens_18
set_option maxHeartbeats 4000000 in
set_option maxRecDepth 100000 in
theorem c_X11_waitTop (l : Launch) (D : va_G) (g : xG) (T : Nat × Nat × Nat) (h0 : Nat) (s0 : xS) (hσ : xRR s0) (hw : 0 ≤ s0 268 15 ∧ s0 268 15 ≤ 260 ∧ (s0 268 15 = 0 ∨ 0 ≤ s0 278 (s0 268 15 - 1))) (p0 : IMn s0) (p1 : IMk s0) (p2 : IMo s0) (p3 : IR s0) : Met l yX11_waitTop (xws yX11_waitTop cX11_waitTop 1 (some .int)) { frames := 0, cells := 0, slots := 0, locals := 0 } (xP [.ref (h0 + 268)] D g T h0 s0) (xQi D g h0 (fun r τ => s0 = τ ∧ (r = ztW s0))) 0 0 (xA h0) := by
  refine x_met hσ (by decide) (Nat.le_of_ble_eq_true rfl) ?_
  intro p e s m args below meth c hx hb hr hml hown hT hlk hnm hE hW ls hl
  have hl : lv_has ls 1 [(0, .ref (h0 + 268))] := hl
  obtain ⟨Q, eQ⟩ : ∃ Q, Q = MQ below (xQi D g h0 (fun r τ => s0 = τ ∧ (r = ztW s0))) args s 0 0 (xA h0) := ⟨_, rfl⟩
  rw [← eQ]
  generalize hHe : ([] : List Loc) = locs at hW ⊢
  obtain ⟨H, eH⟩ : ∃ H, H = s.heap := ⟨_, rfl⟩
  rw [← eH] at hW ⊢
  have k268_8 : s0 268 8 = s0 268 8 := rfl
  have k268_58 : s0 268 58 = s0 268 58 := rfl
  have k268_15 : s0 268 15 = s0 268 15 := rfl
  refine x_aload_n hx hb hl 0 rfl dX11_waitTop_0 rfl ?_
  refine x_get (j := 15) (v := .int (xJ (s0 268 15))) hx hb hown hT hE hW cls_X11 (Or.inl (by decide)) (so_268 h0 g _) (by decide) rfl wq1200 dX11_waitTop_1 ?_
  refine x_rd hW (fun x1 ex1 rx1 => ?_)
  have fx1 : x1 = s0 268 15 := ex1.trans k268_15
  refine x_if_ne (tgt := 11) hx hb rx1 dX11_waitTop_4 (by decide) (fun c2 => ?_) (fun c2 => ?_)
  · skip
    refine x_aload_n hx hb hl 0 rfl dX11_waitTop_11 rfl ?_
    refine x_get (j := 19) (v := .ref (h0 + 278)) hx hb hown hT hE hW cls_X11 (Or.inl (by decide)) (so_268 h0 g _) (by decide) rfl wq1204 dX11_waitTop_12 ?_
    refine x_aload_n hx hb hl 0 rfl dX11_waitTop_15 rfl ?_
    refine x_get (j := 15) (v := .int (xJ (s0 268 15))) hx hb hown hT hE hW cls_X11 (Or.inl (by decide)) (so_268 h0 g _) (by decide) rfl wq1200 dX11_waitTop_16 ?_
    refine x_rd hW (fun x3 ex3 rx3 => ?_)
    have fx3 : x3 = s0 268 15 := ex3.trans k268_15
    refine x_iconst hx hb dX11_waitTop_19 ?_
    refine x_isub hx hb dX11_waitTop_20 ?_
    refine x_iald hx hb hE hW (Or.inl (by decide)) (sa_278 h0 g _) (by omega) (by decide) dX11_waitTop_21 ?_
    refine x_rd hW (fun x4 ex4 rx4 => ?_)
    have zx4 : x4 = s0 278 (s0 268 15 - 1) := by rw [ex4, show (x3 - 1) = s0 268 15 - 1 from by omega]
    refine lv_ldc (v := xJ 1048576) hx hb hown (hT _ wq1482) dX11_waitTop_22 ?_
    refine x_idiv hx hb rx4 (by decide) (by omega) (by decide) dX11_waitTop_24 ?_
    rw [eQ]
    exact x_iret hx hb hr hlk hW (by omega) ⟨rfl, by first | (have := ztW_0 (σ := s0) (by omega); omega) | (have := ztW_1 (σ := s0) (by omega); omega)⟩ dX11_waitTop_25
  refine x_iconst hx hb dX11_waitTop_7 ?_
  refine lv_goto (tgt := 25) hx hb dX11_waitTop_8 (by decide) ?_
  rw [eQ]
  exact x_iret hx hb hr hlk hW (by decide) ⟨rfl, by first | (have := ztW_0 (σ := s0) (by omega); omega) | (have := ztW_1 (σ := s0) (by omega); omega)⟩ dX11_waitTop_25
set_option maxHeartbeats 4000000 in
set_option maxRecDepth 100000 in
theorem c_X11_factOf (l : Launch) (D : va_G) (g : xG) (T : Nat × Nat × Nat) (h0 : Nat) (s0 : xS) (hσ : xRR s0) (x : Int) (rx : xR x) : Met l yX11_factOf (xws yX11_factOf cX11_factOf 1 (some .int)) { frames := 0, cells := 0, slots := 0, locals := 0 } (xP [.int (xJ x)] D g T h0 s0) (xQi D g h0 (fun r τ => s0 = τ ∧ (r = -1 ∨ (0 ≤ r ∧ r ≤ 6 ∧ 98 ≤ x)))) 0 0 (xA h0) := by
  refine x_met hσ (by decide) (Nat.le_of_ble_eq_true rfl) ?_
  intro p e s m args below meth c hx hb hr hml hown hT hlk hnm hE hW ls hl
  have hl : lv_has ls 1 [(0, .int (xJ x))] := hl
  obtain ⟨Q, eQ⟩ : ∃ Q, Q = MQ below (xQi D g h0 (fun r τ => s0 = τ ∧ (r = -1 ∨ (0 ≤ r ∧ r ≤ 6 ∧ 98 ≤ x)))) args s 0 0 (xA h0) := ⟨_, rfl⟩
  rw [← eQ]
  generalize hHe : ([] : List Loc) = locs at hW ⊢
  obtain ⟨H, eH⟩ : ∃ H, H = s.heap := ⟨_, rfl⟩
  rw [← eH] at hW ⊢
  refine x_iload_n hx hb hl 0 rfl dX11_factOf_0 rfl ?_
  rcases (show (x < 98 ∨ 119 < x) ∨ x = 98 ∨ x = 99 ∨ x = 100 ∨ x = 101 ∨ x = 102 ∨ x = 103 ∨ x = 104 ∨ x = 105 ∨ x = 106 ∨ x = 107 ∨ x = 108 ∨ x = 109 ∨ x = 110 ∨ x = 111 ∨ x = 112 ∨ x = 113 ∨ x = 114 ∨ x = 115 ∨ x = 116 ∨ x = 117 ∨ x = 118 ∨ x = 119 from by omega) with c1 | c1 | c1 | c1 | c1 | c1 | c1 | c1 | c1 | c1 | c1 | c1 | c1 | c1 | c1 | c1 | c1 | c1 | c1 | c1 | c1 | c1 | c1
  · refine x_tabOut (tgt := 119) hx hb rx dX11_factOf_1 c1 (by decide) ?_
    refine x_iconst hx hb dX11_factOf_119 ?_
    rw [eQ]
    exact x_iret hx hb hr hlk hW (by decide) ⟨rfl, by omega⟩ dX11_factOf_120
  · refine x_tabIn (v := 98) (tgt := 114) hx hb rx c1 dX11_factOf_1 (by decide) rfl (by decide) ?_
    refine x_iconst hx hb dX11_factOf_114 ?_
    rw [eQ]
    exact x_iret hx hb hr hlk hW (by decide) ⟨rfl, by omega⟩ dX11_factOf_115
  · refine x_tabIn (v := 99) (tgt := 119) hx hb rx c1 dX11_factOf_1 (by decide) rfl (by decide) ?_
    refine x_iconst hx hb dX11_factOf_119 ?_
    rw [eQ]
    exact x_iret hx hb hr hlk hW (by decide) ⟨rfl, by omega⟩ dX11_factOf_120
  · refine x_tabIn (v := 100) (tgt := 119) hx hb rx c1 dX11_factOf_1 (by decide) rfl (by decide) ?_
    refine x_iconst hx hb dX11_factOf_119 ?_
    rw [eQ]
    exact x_iret hx hb hr hlk hW (by decide) ⟨rfl, by omega⟩ dX11_factOf_120
  · refine x_tabIn (v := 101) (tgt := 119) hx hb rx c1 dX11_factOf_1 (by decide) rfl (by decide) ?_
    refine x_iconst hx hb dX11_factOf_119 ?_
    rw [eQ]
    exact x_iret hx hb hr hlk hW (by decide) ⟨rfl, by omega⟩ dX11_factOf_120
  · refine x_tabIn (v := 102) (tgt := 110) hx hb rx c1 dX11_factOf_1 (by decide) rfl (by decide) ?_
    refine x_iconst hx hb dX11_factOf_110 ?_
    rw [eQ]
    exact x_iret hx hb hr hlk hW (by decide) ⟨rfl, by omega⟩ dX11_factOf_111
  · refine x_tabIn (v := 103) (tgt := 119) hx hb rx c1 dX11_factOf_1 (by decide) rfl (by decide) ?_
    refine x_iconst hx hb dX11_factOf_119 ?_
    rw [eQ]
    exact x_iret hx hb hr hlk hW (by decide) ⟨rfl, by omega⟩ dX11_factOf_120
  · refine x_tabIn (v := 104) (tgt := 106) hx hb rx c1 dX11_factOf_1 (by decide) rfl (by decide) ?_
    refine x_iconst hx hb dX11_factOf_106 ?_
    rw [eQ]
    exact x_iret hx hb hr hlk hW (by decide) ⟨rfl, by omega⟩ dX11_factOf_107
  · refine x_tabIn (v := 105) (tgt := 119) hx hb rx c1 dX11_factOf_1 (by decide) rfl (by decide) ?_
    refine x_iconst hx hb dX11_factOf_119 ?_
    rw [eQ]
    exact x_iret hx hb hr hlk hW (by decide) ⟨rfl, by omega⟩ dX11_factOf_120
  · refine x_tabIn (v := 106) (tgt := 108) hx hb rx c1 dX11_factOf_1 (by decide) rfl (by decide) ?_
    refine x_iconst hx hb dX11_factOf_108 ?_
    rw [eQ]
    exact x_iret hx hb hr hlk hW (by decide) ⟨rfl, by omega⟩ dX11_factOf_109
  · refine x_tabIn (v := 107) (tgt := 119) hx hb rx c1 dX11_factOf_1 (by decide) rfl (by decide) ?_
    refine x_iconst hx hb dX11_factOf_119 ?_
    rw [eQ]
    exact x_iret hx hb hr hlk hW (by decide) ⟨rfl, by omega⟩ dX11_factOf_120
  · refine x_tabIn (v := 108) (tgt := 119) hx hb rx c1 dX11_factOf_1 (by decide) rfl (by decide) ?_
    refine x_iconst hx hb dX11_factOf_119 ?_
    rw [eQ]
    exact x_iret hx hb hr hlk hW (by decide) ⟨rfl, by omega⟩ dX11_factOf_120
  · refine x_tabIn (v := 109) (tgt := 119) hx hb rx c1 dX11_factOf_1 (by decide) rfl (by decide) ?_
    refine x_iconst hx hb dX11_factOf_119 ?_
    rw [eQ]
    exact x_iret hx hb hr hlk hW (by decide) ⟨rfl, by omega⟩ dX11_factOf_120
  · refine x_tabIn (v := 110) (tgt := 119) hx hb rx c1 dX11_factOf_1 (by decide) rfl (by decide) ?_
    refine x_iconst hx hb dX11_factOf_119 ?_
    rw [eQ]
    exact x_iret hx hb hr hlk hW (by decide) ⟨rfl, by omega⟩ dX11_factOf_120
  · refine x_tabIn (v := 111) (tgt := 119) hx hb rx c1 dX11_factOf_1 (by decide) rfl (by decide) ?_
    refine x_iconst hx hb dX11_factOf_119 ?_
    rw [eQ]
    exact x_iret hx hb hr hlk hW (by decide) ⟨rfl, by omega⟩ dX11_factOf_120
  · refine x_tabIn (v := 112) (tgt := 119) hx hb rx c1 dX11_factOf_1 (by decide) rfl (by decide) ?_
    refine x_iconst hx hb dX11_factOf_119 ?_
    rw [eQ]
    exact x_iret hx hb hr hlk hW (by decide) ⟨rfl, by omega⟩ dX11_factOf_120
  · refine x_tabIn (v := 113) (tgt := 119) hx hb rx c1 dX11_factOf_1 (by decide) rfl (by decide) ?_
    refine x_iconst hx hb dX11_factOf_119 ?_
    rw [eQ]
    exact x_iret hx hb hr hlk hW (by decide) ⟨rfl, by omega⟩ dX11_factOf_120
  · refine x_tabIn (v := 114) (tgt := 119) hx hb rx c1 dX11_factOf_1 (by decide) rfl (by decide) ?_
    refine x_iconst hx hb dX11_factOf_119 ?_
    rw [eQ]
    exact x_iret hx hb hr hlk hW (by decide) ⟨rfl, by omega⟩ dX11_factOf_120
  · refine x_tabIn (v := 115) (tgt := 116) hx hb rx c1 dX11_factOf_1 (by decide) rfl (by decide) ?_
    refine x_bipush hx hb dX11_factOf_116 (by decide) ?_
    rw [eQ]
    exact x_iret hx hb hr hlk hW (by decide) ⟨rfl, by omega⟩ dX11_factOf_118
  · refine x_tabIn (v := 116) (tgt := 104) hx hb rx c1 dX11_factOf_1 (by decide) rfl (by decide) ?_
    refine x_iconst hx hb dX11_factOf_104 ?_
    rw [eQ]
    exact x_iret hx hb hr hlk hW (by decide) ⟨rfl, by omega⟩ dX11_factOf_105
  · refine x_tabIn (v := 117) (tgt := 119) hx hb rx c1 dX11_factOf_1 (by decide) rfl (by decide) ?_
    refine x_iconst hx hb dX11_factOf_119 ?_
    rw [eQ]
    exact x_iret hx hb hr hlk hW (by decide) ⟨rfl, by omega⟩ dX11_factOf_120
  · refine x_tabIn (v := 118) (tgt := 119) hx hb rx c1 dX11_factOf_1 (by decide) rfl (by decide) ?_
    refine x_iconst hx hb dX11_factOf_119 ?_
    rw [eQ]
    exact x_iret hx hb hr hlk hW (by decide) ⟨rfl, by omega⟩ dX11_factOf_120
  · refine x_tabIn (v := 119) (tgt := 112) hx hb rx c1 dX11_factOf_1 (by decide) rfl (by decide) ?_
    refine x_iconst hx hb dX11_factOf_112 ?_
    rw [eQ]
    exact x_iret hx hb hr hlk hW (by decide) ⟨rfl, by omega⟩ dX11_factOf_113
set_option maxHeartbeats 4000000 in
set_option maxRecDepth 100000 in
theorem c_X11_sumSign (l : Launch) (D : va_G) (g : xG) (T : Nat × Nat × Nat) (h0 : Nat) (s0 : xS) (hσ : xRR s0) (x : Int) (rx : xR x) : Met l yX11_sumSign (xws yX11_sumSign cX11_sumSign 1 (some .int)) { frames := 0, cells := 0, slots := 0, locals := 0 } (xP [.int (xJ x)] D g T h0 s0) (xQi D g h0 (fun r τ => s0 = τ ∧ (r = -1 ∨ (2 ≤ r ∧ r ≤ 6 ∧ 37 ≤ x)))) 0 0 (xA h0) := by
  refine x_met hσ (by decide) (Nat.le_of_ble_eq_true rfl) ?_
  intro p e s m args below meth c hx hb hr hml hown hT hlk hnm hE hW ls hl
  have hl : lv_has ls 1 [(0, .int (xJ x))] := hl
  obtain ⟨Q, eQ⟩ : ∃ Q, Q = MQ below (xQi D g h0 (fun r τ => s0 = τ ∧ (r = -1 ∨ (2 ≤ r ∧ r ≤ 6 ∧ 37 ≤ x)))) args s 0 0 (xA h0) := ⟨_, rfl⟩
  rw [← eQ]
  generalize hHe : ([] : List Loc) = locs at hW ⊢
  obtain ⟨H, eH⟩ : ∃ H, H = s.heap := ⟨_, rfl⟩
  rw [← eH] at hW ⊢
  refine x_iload_n hx hb hl 0 rfl dX11_sumSign_0 rfl ?_
  refine x_bipush hx hb dX11_sumSign_1 (by decide) ?_
  refine x_icmp_ne (tgt := 10) hx hb rx (by decide) dX11_sumSign_3 (by decide) (fun c1 => ?_) (fun c1 => ?_)
  · skip
    refine x_iload_n hx hb hl 0 rfl dX11_sumSign_10 rfl ?_
    refine x_bipush hx hb dX11_sumSign_11 (by decide) ?_
    refine x_icmp_ne (tgt := 20) hx hb rx (by decide) dX11_sumSign_13 (by decide) (fun c2 => ?_) (fun c2 => ?_)
    · skip
      refine x_iload_n hx hb hl 0 rfl dX11_sumSign_20 rfl ?_
      refine x_bipush hx hb dX11_sumSign_21 (by decide) ?_
      refine x_icmp_ne (tgt := 30) hx hb rx (by decide) dX11_sumSign_23 (by decide) (fun c3 => ?_) (fun c3 => ?_)
      · skip
        refine x_iload_n hx hb hl 0 rfl dX11_sumSign_30 rfl ?_
        refine x_bipush hx hb dX11_sumSign_31 (by decide) ?_
        refine x_icmp_ne (tgt := 40) hx hb rx (by decide) dX11_sumSign_33 (by decide) (fun c4 => ?_) (fun c4 => ?_)
        · skip
          refine x_iload_n hx hb hl 0 rfl dX11_sumSign_40 rfl ?_
          refine x_bipush hx hb dX11_sumSign_41 (by decide) ?_
          refine x_icmp_ne (tgt := 51) hx hb rx (by decide) dX11_sumSign_43 (by decide) (fun c5 => ?_) (fun c5 => ?_)
          · skip
            refine x_iconst hx hb dX11_sumSign_51 ?_
            rw [eQ]
            exact x_iret hx hb hr hlk hW (by decide) ⟨rfl, by omega⟩ dX11_sumSign_52
          refine x_bipush hx hb dX11_sumSign_46 (by decide) ?_
          refine lv_goto (tgt := 52) hx hb dX11_sumSign_48 (by decide) ?_
          rw [eQ]
          exact x_iret hx hb hr hlk hW (by decide) ⟨rfl, by omega⟩ dX11_sumSign_52
        refine x_iconst hx hb dX11_sumSign_36 ?_
        refine lv_goto (tgt := 52) hx hb dX11_sumSign_37 (by decide) ?_
        rw [eQ]
        exact x_iret hx hb hr hlk hW (by decide) ⟨rfl, by omega⟩ dX11_sumSign_52
      refine x_iconst hx hb dX11_sumSign_26 ?_
      refine lv_goto (tgt := 52) hx hb dX11_sumSign_27 (by decide) ?_
      rw [eQ]
      exact x_iret hx hb hr hlk hW (by decide) ⟨rfl, by omega⟩ dX11_sumSign_52
    refine x_iconst hx hb dX11_sumSign_16 ?_
    refine lv_goto (tgt := 52) hx hb dX11_sumSign_17 (by decide) ?_
    rw [eQ]
    exact x_iret hx hb hr hlk hW (by decide) ⟨rfl, by omega⟩ dX11_sumSign_52
  refine x_iconst hx hb dX11_sumSign_6 ?_
  refine lv_goto (tgt := 52) hx hb dX11_sumSign_7 (by decide) ?_
  rw [eQ]
  exact x_iret hx hb hr hlk hW (by decide) ⟨rfl, by omega⟩ dX11_sumSign_52
set_option maxHeartbeats 4000000 in
set_option maxRecDepth 100000 in
theorem c_X11_isClause (l : Launch) (D : va_G) (g : xG) (T : Nat × Nat × Nat) (h0 : Nat) (s0 : xS) (hσ : xRR s0) (x : Int) (rx : xR x) : Met l yX11_isClause (xws yX11_isClause cX11_isClause 1 (some .boolean)) { frames := 0, cells := 0, slots := 0, locals := 0 } (xP [.int (xJ x)] D g T h0 s0) (xQi D g h0 (fun r τ => s0 = τ ∧ (r = 0 ∨ (r = 1 ∧ 97 ≤ x)))) 0 0 (xA h0) := by
  refine x_met hσ (by decide) (Nat.le_of_ble_eq_true rfl) ?_
  intro p e s m args below meth c hx hb hr hml hown hT hlk hnm hE hW ls hl
  have hl : lv_has ls 1 [(0, .int (xJ x))] := hl
  obtain ⟨Q, eQ⟩ : ∃ Q, Q = MQ below (xQi D g h0 (fun r τ => s0 = τ ∧ (r = 0 ∨ (r = 1 ∧ 97 ≤ x)))) args s 0 0 (xA h0) := ⟨_, rfl⟩
  rw [← eQ]
  generalize hHe : ([] : List Loc) = locs at hW ⊢
  obtain ⟨H, eH⟩ : ∃ H, H = s.heap := ⟨_, rfl⟩
  rw [← eH] at hW ⊢
  refine x_iload_n hx hb hl 0 rfl dX11_isClause_0 rfl ?_
  refine x_bipush hx hb dX11_isClause_1 (by decide) ?_
  refine x_icmp_eq (tgt := 36) hx hb rx (by decide) dX11_isClause_3 (by decide) (fun c1 => ?_) (fun c1 => ?_)
  · skip
    refine x_iconst hx hb dX11_isClause_36 ?_
    refine lv_goto (tgt := 41) hx hb dX11_isClause_37 (by decide) ?_
    rw [eQ]
    exact x_zret hx hb hr hlk hW (by omega) ⟨rfl, by omega⟩ dX11_isClause_41
  refine x_iload_n hx hb hl 0 rfl dX11_isClause_6 rfl ?_
  refine x_bipush hx hb dX11_isClause_7 (by decide) ?_
  refine x_icmp_eq (tgt := 36) hx hb rx (by decide) dX11_isClause_9 (by decide) (fun c2 => ?_) (fun c2 => ?_)
  · skip
    refine x_iconst hx hb dX11_isClause_36 ?_
    refine lv_goto (tgt := 41) hx hb dX11_isClause_37 (by decide) ?_
    rw [eQ]
    exact x_zret hx hb hr hlk hW (by omega) ⟨rfl, by omega⟩ dX11_isClause_41
  refine x_iload_n hx hb hl 0 rfl dX11_isClause_12 rfl ?_
  refine x_bipush hx hb dX11_isClause_13 (by decide) ?_
  refine x_icmp_eq (tgt := 36) hx hb rx (by decide) dX11_isClause_15 (by decide) (fun c3 => ?_) (fun c3 => ?_)
  · skip
    refine x_iconst hx hb dX11_isClause_36 ?_
    refine lv_goto (tgt := 41) hx hb dX11_isClause_37 (by decide) ?_
    rw [eQ]
    exact x_zret hx hb hr hlk hW (by omega) ⟨rfl, by omega⟩ dX11_isClause_41
  refine x_iload_n hx hb hl 0 rfl dX11_isClause_18 rfl ?_
  refine x_bipush hx hb dX11_isClause_19 (by decide) ?_
  refine x_icmp_eq (tgt := 36) hx hb rx (by decide) dX11_isClause_21 (by decide) (fun c4 => ?_) (fun c4 => ?_)
  · skip
    refine x_iconst hx hb dX11_isClause_36 ?_
    refine lv_goto (tgt := 41) hx hb dX11_isClause_37 (by decide) ?_
    rw [eQ]
    exact x_zret hx hb hr hlk hW (by omega) ⟨rfl, by omega⟩ dX11_isClause_41
  refine x_iload_n hx hb hl 0 rfl dX11_isClause_24 rfl ?_
  refine x_bipush hx hb dX11_isClause_25 (by decide) ?_
  refine x_icmp_eq (tgt := 36) hx hb rx (by decide) dX11_isClause_27 (by decide) (fun c5 => ?_) (fun c5 => ?_)
  · skip
    refine x_iconst hx hb dX11_isClause_36 ?_
    refine lv_goto (tgt := 41) hx hb dX11_isClause_37 (by decide) ?_
    rw [eQ]
    exact x_zret hx hb hr hlk hW (by omega) ⟨rfl, by omega⟩ dX11_isClause_41
  refine x_iload_n hx hb hl 0 rfl dX11_isClause_30 rfl ?_
  refine x_bipush hx hb dX11_isClause_31 (by decide) ?_
  refine x_icmp_ne (tgt := 40) hx hb rx (by decide) dX11_isClause_33 (by decide) (fun c6 => ?_) (fun c6 => ?_)
  · skip
    refine x_iconst hx hb dX11_isClause_40 ?_
    rw [eQ]
    exact x_zret hx hb hr hlk hW (by omega) ⟨rfl, by omega⟩ dX11_isClause_41
  refine x_iconst hx hb dX11_isClause_36 ?_
  refine lv_goto (tgt := 41) hx hb dX11_isClause_37 (by decide) ?_
  rw [eQ]
  exact x_zret hx hb hr hlk hW (by omega) ⟨rfl, by omega⟩ dX11_isClause_41
set_option maxHeartbeats 4000000 in
set_option maxRecDepth 100000 in
theorem c_X11_wayOf (l : Launch) (D : va_G) (g : xG) (T : Nat × Nat × Nat) (h0 : Nat) (s0 : xS) (hσ : xRR s0) (x : Int) (rx : xR x) : Met l yX11_wayOf (xws yX11_wayOf cX11_wayOf 1 (some .int)) { frames := 0, cells := 0, slots := 0, locals := 0 } (xP [.int (xJ x)] D g T h0 s0) (xQi D g h0 (fun r τ => s0 = τ ∧ (r = -1 ∨ (0 ≤ r ∧ r ≤ 8 ∧ 46 ≤ x)))) 0 0 (xA h0) := by
  refine x_met hσ (by decide) (Nat.le_of_ble_eq_true rfl) ?_
  intro p e s m args below meth c hx hb hr hml hown hT hlk hnm hE hW ls hl
  have hl : lv_has ls 1 [(0, .int (xJ x))] := hl
  obtain ⟨Q, eQ⟩ : ∃ Q, Q = MQ below (xQi D g h0 (fun r τ => s0 = τ ∧ (r = -1 ∨ (0 ≤ r ∧ r ≤ 8 ∧ 46 ≤ x)))) args s 0 0 (xA h0) := ⟨_, rfl⟩
  rw [← eQ]
  generalize hHe : ([] : List Loc) = locs at hW ⊢
  obtain ⟨H, eH⟩ : ∃ H, H = s.heap := ⟨_, rfl⟩
  rw [← eH] at hW ⊢
  refine x_iload_n hx hb hl 0 rfl dX11_wayOf_0 rfl ?_
  rcases (show (x ≠ 46 ∧ x ≠ 101 ∧ x ≠ 110 ∧ x ≠ 115 ∧ x ≠ 119) ∨ x = 46 ∨ x = 101 ∨ x = 110 ∨ x = 115 ∨ x = 119 from by omega) with c1 | c1 | c1 | c1 | c1 | c1
  · refine x_look (tgt := 64) (off := 63) hx hb rx dX11_wayOf_1 rfl (xlk_n (by simp; omega)) (by decide) ?_
    refine x_iconst hx hb dX11_wayOf_64 ?_
    rw [eQ]
    exact x_iret hx hb hr hlk hW (by decide) ⟨rfl, by omega⟩ dX11_wayOf_65
  · refine x_look (tgt := 61) (off := 60) hx hb rx dX11_wayOf_1 rfl (by rw [c1]; rfl) (by decide) ?_
    refine x_bipush hx hb dX11_wayOf_61 (by decide) ?_
    rw [eQ]
    exact x_iret hx hb hr hlk hW (by decide) ⟨rfl, by omega⟩ dX11_wayOf_63
  · refine x_look (tgt := 54) (off := 53) hx hb rx dX11_wayOf_1 rfl (by rw [c1]; rfl) (by decide) ?_
    refine x_iconst hx hb dX11_wayOf_54 ?_
    rw [eQ]
    exact x_iret hx hb hr hlk hW (by decide) ⟨rfl, by omega⟩ dX11_wayOf_55
  · refine x_look (tgt := 52) (off := 51) hx hb rx dX11_wayOf_1 rfl (by rw [c1]; rfl) (by decide) ?_
    refine x_iconst hx hb dX11_wayOf_52 ?_
    rw [eQ]
    exact x_iret hx hb hr hlk hW (by decide) ⟨rfl, by omega⟩ dX11_wayOf_53
  · refine x_look (tgt := 56) (off := 55) hx hb rx dX11_wayOf_1 rfl (by rw [c1]; rfl) (by decide) ?_
    refine x_iconst hx hb dX11_wayOf_56 ?_
    rw [eQ]
    exact x_iret hx hb hr hlk hW (by decide) ⟨rfl, by omega⟩ dX11_wayOf_57
  · refine x_look (tgt := 58) (off := 57) hx hb rx dX11_wayOf_1 rfl (by rw [c1]; rfl) (by decide) ?_
    refine x_bipush hx hb dX11_wayOf_58 (by decide) ?_
    rw [eQ]
    exact x_iret hx hb hr hlk hW (by decide) ⟨rfl, by omega⟩ dX11_wayOf_60


theorem st_X11_10 (h0 : Nat) (σ : xS) (k : Nat) (a : Int) : xobj h0 (xU σ k 10 a) k 11 = (xobj h0 σ k 11).set 10 (.int (xJ a)) := by simp [xobj, xU]
theorem ln_X11_10 (h0 : Nat) (σ : xS) (k : Nat) : 10 < (xobj h0 σ k 11).length := by simp [xobj]
theorem cf_X11_isSpotSign : xCF yX11_isSpotSign cX11_isSpotSign 1 (some .boolean) 1 := ⟨xq 1395 (by decide +kernel) rfl, xq 179 (by decide +kernel) rfl, by decide +kernel⟩
theorem cf_X11_isTimes : xCF yX11_isTimes cX11_isTimes 1 (some .boolean) 1 := ⟨xq 1398 (by decide +kernel) rfl, xq 179 (by decide +kernel) rfl, by decide +kernel⟩
theorem cf_X11_readsRow : xCF yX11_readsRow cX11_readsRow 6 (some .boolean) 1 := ⟨xq 1388 (by decide +kernel) rfl, xq 179 (by decide +kernel) rfl, by decide +kernel⟩
theorem cf_X11_takes : xCF yX11_takes cX11_takes 2 (some .boolean) 1 := ⟨xq 1406 (by decide +kernel) rfl, xq 179 (by decide +kernel) rfl, by decide +kernel⟩
theorem wq105 : Cond.selects yX11_readsRow.cls yX11_readsRow yX11_readsRow ∈ xTB := xq 105 (by decide +kernel) rfl
theorem wq108 : Cond.selects yX11_takes.cls yX11_takes yX11_takes ∈ xTB := xq 108 (by decide +kernel) rfl
theorem wq1214 : Cond.fieldLink "ShadowCourtModel" (68) "ShadowCourtModel" "newKind" "[I" ∈ xTB := xq 1214 (by decide +kernel) rfl
theorem wq1385 : Cond.methodLink "ShadowCourtModel" (254) yX11_readsRow ∈ xTB := xq 1385 (by decide +kernel) rfl
theorem wq1387 : Cond.instanceMethod yX11_readsRow ∈ xTB := xq 1387 (by decide +kernel) rfl
theorem wq1393 : Cond.methodLink "ShadowCourtModel" (248) yX11_isSpotSign ∈ xTB := xq 1393 (by decide +kernel) rfl
theorem wq1394 : Cond.static yX11_isSpotSign ∈ xTB := xq 1394 (by decide +kernel) rfl
theorem wq1396 : Cond.methodLink "ShadowCourtModel" (251) yX11_isTimes ∈ xTB := xq 1396 (by decide +kernel) rfl
theorem wq1397 : Cond.static yX11_isTimes ∈ xTB := xq 1397 (by decide +kernel) rfl
theorem wq1403 : Cond.methodLink "ShadowCourtModel" (257) yX11_takes ∈ xTB := xq 1403 (by decide +kernel) rfl
theorem wq1405 : Cond.instanceMethod yX11_takes ∈ xTB := xq 1405 (by decide +kernel) rfl
theorem dX11_market_0 : decode cX11_market 0 = .ok (.iload_n 1, 1) := by decide +kernel
theorem dX11_market_1 : decode cX11_market 1 = .ok (.iconst 1, 1) := by decide +kernel
theorem dX11_market_2 : decode cX11_market 2 = .ok (.sipush 140, 3) := by decide +kernel
theorem dX11_market_5 : decode cX11_market 5 = .ok (.invokestatic 150, 3) := by decide +kernel
theorem dX11_market_8 : decode cX11_market 8 = .ok (.ifCond .eq 11, 3) := by decide +kernel
theorem dX11_market_11 : decode cX11_market 11 = .ok (.iload_n 1, 1) := by decide +kernel
theorem dX11_market_12 : decode cX11_market 12 = .ok (.aload_n 0, 1) := by decide +kernel
theorem dX11_market_13 : decode cX11_market 13 = .ok (.getfield 164, 3) := by decide +kernel
theorem dX11_market_16 : decode cX11_market 16 = .ok (.if_icmp .le 5, 3) := by decide +kernel
theorem dX11_market_19 : decode cX11_market 19 = .ok (.iconst (-1), 1) := by decide +kernel
theorem dX11_market_20 : decode cX11_market 20 = .ok (.ireturn, 1) := by decide +kernel
theorem dX11_market_21 : decode cX11_market 21 = .ok (.aload_n 0, 1) := by decide +kernel
theorem dX11_market_22 : decode cX11_market 22 = .ok (.iconst 0, 1) := by decide +kernel
theorem dX11_market_23 : decode cX11_market 23 = .ok (.putfield 171, 3) := by decide +kernel
theorem dX11_market_26 : decode cX11_market 26 = .ok (.aload_n 0, 1) := by decide +kernel
theorem dX11_market_27 : decode cX11_market 27 = .ok (.iload_n 1, 1) := by decide +kernel
theorem dX11_market_28 : decode cX11_market 28 = .ok (.putfield 174, 3) := by decide +kernel
theorem dX11_market_31 : decode cX11_market 31 = .ok (.aload_n 0, 1) := by decide +kernel
theorem dX11_market_32 : decode cX11_market 32 = .ok (.iconst 0, 1) := by decide +kernel
theorem dX11_market_33 : decode cX11_market 33 = .ok (.invokevirtual 254, 3) := by decide +kernel
theorem dX11_market_36 : decode cX11_market 36 = .ok (.istore_n 2, 1) := by decide +kernel
theorem dX11_market_37 : decode cX11_market 37 = .ok (.iconst 1, 1) := by decide +kernel
theorem dX11_market_38 : decode cX11_market 38 = .ok (.istore_n 3, 1) := by decide +kernel
theorem dX11_market_39 : decode cX11_market 39 = .ok (.iload_n 3, 1) := by decide +kernel
theorem dX11_market_40 : decode cX11_market 40 = .ok (.bipush 10, 2) := by decide +kernel
theorem dX11_market_42 : decode cX11_market 42 = .ok (.if_icmp .ge 36, 3) := by decide +kernel
theorem dX11_market_45 : decode cX11_market 45 = .ok (.iload_n 2, 1) := by decide +kernel
theorem dX11_market_46 : decode cX11_market 46 = .ok (.ifCond .eq 32, 3) := by decide +kernel
theorem dX11_market_49 : decode cX11_market 49 = .ok (.aload_n 0, 1) := by decide +kernel
theorem dX11_market_50 : decode cX11_market 50 = .ok (.bipush 47, 2) := by decide +kernel
theorem dX11_market_52 : decode cX11_market 52 = .ok (.invokevirtual 257, 3) := by decide +kernel
theorem dX11_market_55 : decode cX11_market 55 = .ok (.ifCond .eq 15, 3) := by decide +kernel
theorem dX11_market_58 : decode cX11_market 58 = .ok (.aload_n 0, 1) := by decide +kernel
theorem dX11_market_59 : decode cX11_market 59 = .ok (.iload_n 3, 1) := by decide +kernel
theorem dX11_market_60 : decode cX11_market 60 = .ok (.invokevirtual 254, 3) := by decide +kernel
theorem dX11_market_63 : decode cX11_market 63 = .ok (.ifCond .eq 7, 3) := by decide +kernel
theorem dX11_market_66 : decode cX11_market 66 = .ok (.iconst 1, 1) := by decide +kernel
theorem dX11_market_67 : decode cX11_market 67 = .ok (.goto 4, 3) := by decide +kernel
theorem dX11_market_70 : decode cX11_market 70 = .ok (.iconst 0, 1) := by decide +kernel
theorem dX11_market_71 : decode cX11_market 71 = .ok (.istore_n 2, 1) := by decide +kernel
theorem dX11_market_72 : decode cX11_market 72 = .ok (.iinc 3 1, 3) := by decide +kernel
theorem dX11_market_75 : decode cX11_market 75 = .ok (.goto (-36), 3) := by decide +kernel
theorem dX11_market_78 : decode cX11_market 78 = .ok (.iload_n 2, 1) := by decide +kernel
theorem dX11_market_79 : decode cX11_market 79 = .ok (.ifCond .eq 24, 3) := by decide +kernel
theorem dX11_market_82 : decode cX11_market 82 = .ok (.aload_n 0, 1) := by decide +kernel
theorem dX11_market_83 : decode cX11_market 83 = .ok (.getfield 171, 3) := by decide +kernel
theorem dX11_market_86 : decode cX11_market 86 = .ok (.aload_n 0, 1) := by decide +kernel
theorem dX11_market_87 : decode cX11_market 87 = .ok (.getfield 174, 3) := by decide +kernel
theorem dX11_market_90 : decode cX11_market 90 = .ok (.if_icmp .ge 13, 3) := by decide +kernel
theorem dX11_market_93 : decode cX11_market 93 = .ok (.aload_n 0, 1) := by decide +kernel
theorem dX11_market_94 : decode cX11_market 94 = .ok (.iconst 1, 1) := by decide +kernel
theorem dX11_market_95 : decode cX11_market 95 = .ok (.aload_n 0, 1) := by decide +kernel
theorem dX11_market_96 : decode cX11_market 96 = .ok (.getfield 171, 3) := by decide +kernel
theorem dX11_market_99 : decode cX11_market 99 = .ok (.invokevirtual 184, 3) := by decide +kernel
theorem dX11_market_102 : decode cX11_market 102 = .ok (.istore_n 2, 1) := by decide +kernel
theorem dX11_market_103 : decode cX11_market 103 = .ok (.aload_n 0, 1) := by decide +kernel
theorem dX11_market_104 : decode cX11_market 104 = .ok (.iconst 0, 1) := by decide +kernel
theorem dX11_market_105 : decode cX11_market 105 = .ok (.putfield 164, 3) := by decide +kernel
theorem dX11_market_108 : decode cX11_market 108 = .ok (.iload_n 2, 1) := by decide +kernel
theorem dX11_market_109 : decode cX11_market 109 = .ok (.ifCond .ne 8, 3) := by decide +kernel
theorem dX11_market_112 : decode cX11_market 112 = .ok (.aload_n 0, 1) := by decide +kernel
theorem dX11_market_113 : decode cX11_market 113 = .ok (.getfield 181, 3) := by decide +kernel
theorem dX11_market_116 : decode cX11_market 116 = .ok (.ireturn, 1) := by decide +kernel
theorem dX11_market_117 : decode cX11_market 117 = .ok (.iconst 0, 1) := by decide +kernel
theorem dX11_market_118 : decode cX11_market 118 = .ok (.istore_n 3, 1) := by decide +kernel
theorem dX11_market_119 : decode cX11_market 119 = .ok (.iconst 0, 1) := by decide +kernel
theorem dX11_market_120 : decode cX11_market 120 = .ok (.istore 4, 2) := by decide +kernel
theorem dX11_market_122 : decode cX11_market 122 = .ok (.iload 4, 2) := by decide +kernel
theorem dX11_market_124 : decode cX11_market 124 = .ok (.bipush 100, 2) := by decide +kernel
theorem dX11_market_126 : decode cX11_market 126 = .ok (.if_icmp .ge 41, 3) := by decide +kernel
theorem dX11_market_129 : decode cX11_market 129 = .ok (.aload_n 0, 1) := by decide +kernel
theorem dX11_market_130 : decode cX11_market 130 = .ok (.getfield 19, 3) := by decide +kernel
theorem dX11_market_133 : decode cX11_market 133 = .ok (.iload 4, 2) := by decide +kernel
theorem dX11_market_135 : decode cX11_market 135 = .ok (.aload_n 0, 1) := by decide +kernel
theorem dX11_market_136 : decode cX11_market 136 = .ok (.getfield 68, 3) := by decide +kernel
theorem dX11_market_139 : decode cX11_market 139 = .ok (.iload 4, 2) := by decide +kernel
theorem dX11_market_141 : decode cX11_market 141 = .ok (.iaload, 1) := by decide +kernel
theorem dX11_market_142 : decode cX11_market 142 = .ok (.iastore, 1) := by decide +kernel
theorem dX11_market_143 : decode cX11_market 143 = .ok (.iload_n 3, 1) := by decide +kernel
theorem dX11_market_144 : decode cX11_market 144 = .ok (.aload_n 0, 1) := by decide +kernel
theorem dX11_market_145 : decode cX11_market 145 = .ok (.getfield 19, 3) := by decide +kernel
theorem dX11_market_148 : decode cX11_market 148 = .ok (.iload 4, 2) := by decide +kernel
theorem dX11_market_150 : decode cX11_market 150 = .ok (.iaload, 1) := by decide +kernel
theorem dX11_market_151 : decode cX11_market 151 = .ok (.ifCond .ne 7, 3) := by decide +kernel
theorem dX11_market_154 : decode cX11_market 154 = .ok (.iconst 0, 1) := by decide +kernel
theorem dX11_market_155 : decode cX11_market 155 = .ok (.goto 4, 3) := by decide +kernel
theorem dX11_market_158 : decode cX11_market 158 = .ok (.iconst 1, 1) := by decide +kernel
theorem dX11_market_159 : decode cX11_market 159 = .ok (.iadd, 1) := by decide +kernel
theorem dX11_market_160 : decode cX11_market 160 = .ok (.istore_n 3, 1) := by decide +kernel
theorem dX11_market_161 : decode cX11_market 161 = .ok (.iinc 4 1, 3) := by decide +kernel
theorem dX11_market_164 : decode cX11_market 164 = .ok (.goto (-42), 3) := by decide +kernel
theorem dX11_market_167 : decode cX11_market 167 = .ok (.iconst 0, 1) := by decide +kernel
theorem dX11_market_168 : decode cX11_market 168 = .ok (.istore 4, 2) := by decide +kernel
theorem dX11_market_170 : decode cX11_market 170 = .ok (.iload 4, 2) := by decide +kernel
theorem dX11_market_172 : decode cX11_market 172 = .ok (.iconst 2, 1) := by decide +kernel
theorem dX11_market_173 : decode cX11_market 173 = .ok (.if_icmp .ge 55, 3) := by decide +kernel
theorem dX11_market_176 : decode cX11_market 176 = .ok (.aload_n 0, 1) := by decide +kernel
theorem dX11_market_177 : decode cX11_market 177 = .ok (.iload 4, 2) := by decide +kernel
theorem dX11_market_179 : decode cX11_market 179 = .ok (.invokevirtual 260, 3) := by decide +kernel
theorem dX11_market_182 : decode cX11_market 182 = .ok (.ifCond .eq 40, 3) := by decide +kernel
theorem dX11_market_185 : decode cX11_market 185 = .ok (.aload_n 0, 1) := by decide +kernel
theorem dX11_market_186 : decode cX11_market 186 = .ok (.aload_n 0, 1) := by decide +kernel
theorem dX11_market_187 : decode cX11_market 187 = .ok (.getfield 7, 3) := by decide +kernel
theorem dX11_market_190 : decode cX11_market 190 = .ok (.iconst 0, 1) := by decide +kernel
theorem dX11_market_191 : decode cX11_market 191 = .ok (.iload 4, 2) := by decide +kernel
theorem dX11_market_193 : decode cX11_market 193 = .ok (.iadd, 1) := by decide +kernel
theorem dX11_market_194 : decode cX11_market 194 = .ok (.iaload, 1) := by decide +kernel
theorem dX11_market_195 : decode cX11_market 195 = .ok (.invokevirtual 263, 3) := by decide +kernel
theorem dX11_market_198 : decode cX11_market 198 = .ok (.ifCond .ne 24, 3) := by decide +kernel
theorem dX11_market_201 : decode cX11_market 201 = .ok (.aload_n 0, 1) := by decide +kernel
theorem dX11_market_202 : decode cX11_market 202 = .ok (.getfield 7, 3) := by decide +kernel
theorem dX11_market_205 : decode cX11_market 205 = .ok (.bipush 34, 2) := by decide +kernel
theorem dX11_market_207 : decode cX11_market 207 = .ok (.aload_n 0, 1) := by decide +kernel
theorem dX11_market_208 : decode cX11_market 208 = .ok (.getfield 7, 3) := by decide +kernel
theorem dX11_market_211 : decode cX11_market 211 = .ok (.bipush 34, 2) := by decide +kernel
theorem dX11_market_213 : decode cX11_market 213 = .ok (.iaload, 1) := by decide +kernel
theorem dX11_market_214 : decode cX11_market 214 = .ok (.iconst 1, 1) := by decide +kernel
theorem dX11_market_215 : decode cX11_market 215 = .ok (.iload 4, 2) := by decide +kernel
theorem dX11_market_217 : decode cX11_market 217 = .ok (.ishl, 1) := by decide +kernel
theorem dX11_market_218 : decode cX11_market 218 = .ok (.iconst (-1), 1) := by decide +kernel
theorem dX11_market_219 : decode cX11_market 219 = .ok (.ixor, 1) := by decide +kernel
theorem dX11_market_220 : decode cX11_market 220 = .ok (.iand, 1) := by decide +kernel
theorem dX11_market_221 : decode cX11_market 221 = .ok (.iastore, 1) := by decide +kernel
theorem dX11_market_222 : decode cX11_market 222 = .ok (.iinc 4 1, 3) := by decide +kernel
theorem dX11_market_225 : decode cX11_market 225 = .ok (.goto (-55), 3) := by decide +kernel
theorem dX11_market_228 : decode cX11_market 228 = .ok (.iconst 0, 1) := by decide +kernel
theorem dX11_market_229 : decode cX11_market 229 = .ok (.istore 4, 2) := by decide +kernel
theorem dX11_market_231 : decode cX11_market 231 = .ok (.iload 4, 2) := by decide +kernel
theorem dX11_market_233 : decode cX11_market 233 = .ok (.bipush 10, 2) := by decide +kernel
theorem dX11_market_235 : decode cX11_market 235 = .ok (.if_icmp .ge 55, 3) := by decide +kernel
theorem dX11_market_238 : decode cX11_market 238 = .ok (.aload_n 0, 1) := by decide +kernel
theorem dX11_market_239 : decode cX11_market 239 = .ok (.iload 4, 2) := by decide +kernel
theorem dX11_market_241 : decode cX11_market 241 = .ok (.invokevirtual 146, 3) := by decide +kernel
theorem dX11_market_244 : decode cX11_market 244 = .ok (.ifCond .eq 40, 3) := by decide +kernel
theorem dX11_market_247 : decode cX11_market 247 = .ok (.aload_n 0, 1) := by decide +kernel
theorem dX11_market_248 : decode cX11_market 248 = .ok (.aload_n 0, 1) := by decide +kernel
theorem dX11_market_249 : decode cX11_market 249 = .ok (.getfield 7, 3) := by decide +kernel
theorem dX11_market_252 : decode cX11_market 252 = .ok (.iconst 4, 1) := by decide +kernel
theorem dX11_market_253 : decode cX11_market 253 = .ok (.iload 4, 2) := by decide +kernel
theorem dX11_market_255 : decode cX11_market 255 = .ok (.iadd, 1) := by decide +kernel
theorem dX11_market_256 : decode cX11_market 256 = .ok (.iaload, 1) := by decide +kernel
theorem dX11_market_257 : decode cX11_market 257 = .ok (.invokevirtual 263, 3) := by decide +kernel
theorem dX11_market_260 : decode cX11_market 260 = .ok (.ifCond .ne 24, 3) := by decide +kernel
theorem dX11_market_263 : decode cX11_market 263 = .ok (.aload_n 0, 1) := by decide +kernel
theorem dX11_market_264 : decode cX11_market 264 = .ok (.getfield 7, 3) := by decide +kernel
theorem dX11_market_267 : decode cX11_market 267 = .ok (.bipush 35, 2) := by decide +kernel
theorem dX11_market_269 : decode cX11_market 269 = .ok (.aload_n 0, 1) := by decide +kernel
theorem dX11_market_270 : decode cX11_market 270 = .ok (.getfield 7, 3) := by decide +kernel
theorem dX11_market_273 : decode cX11_market 273 = .ok (.bipush 35, 2) := by decide +kernel
theorem dX11_market_275 : decode cX11_market 275 = .ok (.iaload, 1) := by decide +kernel
theorem dX11_market_276 : decode cX11_market 276 = .ok (.iconst 1, 1) := by decide +kernel
theorem dX11_market_277 : decode cX11_market 277 = .ok (.iload 4, 2) := by decide +kernel
theorem dX11_market_279 : decode cX11_market 279 = .ok (.ishl, 1) := by decide +kernel
theorem dX11_market_280 : decode cX11_market 280 = .ok (.iconst (-1), 1) := by decide +kernel
theorem dX11_market_281 : decode cX11_market 281 = .ok (.ixor, 1) := by decide +kernel
theorem dX11_market_282 : decode cX11_market 282 = .ok (.iand, 1) := by decide +kernel
theorem dX11_market_283 : decode cX11_market 283 = .ok (.iastore, 1) := by decide +kernel
theorem dX11_market_284 : decode cX11_market 284 = .ok (.iinc 4 1, 3) := by decide +kernel
theorem dX11_market_287 : decode cX11_market 287 = .ok (.goto (-56), 3) := by decide +kernel
theorem dX11_market_290 : decode cX11_market 290 = .ok (.aload_n 0, 1) := by decide +kernel
theorem dX11_market_291 : decode cX11_market 291 = .ok (.iconst 0, 1) := by decide +kernel
theorem dX11_market_292 : decode cX11_market 292 = .ok (.putfield 266, 3) := by decide +kernel
theorem dX11_market_295 : decode cX11_market 295 = .ok (.iconst 0, 1) := by decide +kernel
theorem dX11_market_296 : decode cX11_market 296 = .ok (.istore 4, 2) := by decide +kernel
theorem dX11_market_298 : decode cX11_market 298 = .ok (.iload 4, 2) := by decide +kernel
theorem dX11_market_300 : decode cX11_market 300 = .ok (.iconst 4, 1) := by decide +kernel
theorem dX11_market_301 : decode cX11_market 301 = .ok (.if_icmp .ge 42, 3) := by decide +kernel
theorem dX11_market_304 : decode cX11_market 304 = .ok (.aload_n 0, 1) := by decide +kernel
theorem dX11_market_305 : decode cX11_market 305 = .ok (.getfield 22, 3) := by decide +kernel
theorem dX11_market_308 : decode cX11_market 308 = .ok (.iload 4, 2) := by decide +kernel
theorem dX11_market_310 : decode cX11_market 310 = .ok (.iaload, 1) := by decide +kernel
theorem dX11_market_311 : decode cX11_market 311 = .ok (.iconst (-1), 1) := by decide +kernel
theorem dX11_market_312 : decode cX11_market 312 = .ok (.if_icmp .eq 25, 3) := by decide +kernel
theorem dX11_market_315 : decode cX11_market 315 = .ok (.aload_n 0, 1) := by decide +kernel
theorem dX11_market_316 : decode cX11_market 316 = .ok (.aload_n 0, 1) := by decide +kernel
theorem dX11_market_317 : decode cX11_market 317 = .ok (.getfield 22, 3) := by decide +kernel
theorem dX11_market_320 : decode cX11_market 320 = .ok (.iload 4, 2) := by decide +kernel
theorem dX11_market_322 : decode cX11_market 322 = .ok (.iaload, 1) := by decide +kernel
theorem dX11_market_323 : decode cX11_market 323 = .ok (.invokevirtual 263, 3) := by decide +kernel
theorem dX11_market_326 : decode cX11_market 326 = .ok (.ifCond .ne 11, 3) := by decide +kernel
theorem dX11_market_329 : decode cX11_market 329 = .ok (.aload_n 0, 1) := by decide +kernel
theorem dX11_market_330 : decode cX11_market 330 = .ok (.getfield 22, 3) := by decide +kernel
theorem dX11_market_333 : decode cX11_market 333 = .ok (.iload 4, 2) := by decide +kernel
theorem dX11_market_335 : decode cX11_market 335 = .ok (.iconst (-1), 1) := by decide +kernel
theorem dX11_market_336 : decode cX11_market 336 = .ok (.iastore, 1) := by decide +kernel
theorem dX11_market_337 : decode cX11_market 337 = .ok (.iinc 4 1, 3) := by decide +kernel
theorem dX11_market_340 : decode cX11_market 340 = .ok (.goto (-42), 3) := by decide +kernel
theorem dX11_market_343 : decode cX11_market 343 = .ok (.iload_n 3, 1) := by decide +kernel
theorem dX11_market_344 : decode cX11_market 344 = .ok (.ireturn, 1) := by decide +kernel
theorem dX11_readsRow_0 : decode cX11_readsRow 0 = .ok (.iconst 0, 1) := by decide +kernel
theorem dX11_readsRow_1 : decode cX11_readsRow 1 = .ok (.istore_n 2, 1) := by decide +kernel
theorem dX11_readsRow_2 : decode cX11_readsRow 2 = .ok (.iload_n 2, 1) := by decide +kernel
theorem dX11_readsRow_3 : decode cX11_readsRow 3 = .ok (.bipush 10, 2) := by decide +kernel
theorem dX11_readsRow_5 : decode cX11_readsRow 5 = .ok (.if_icmp .ge 197, 3) := by decide +kernel
theorem dX11_readsRow_8 : decode cX11_readsRow 8 = .ok (.aload_n 0, 1) := by decide +kernel
theorem dX11_readsRow_9 : decode cX11_readsRow 9 = .ok (.invokevirtual 177, 3) := by decide +kernel
theorem dX11_readsRow_12 : decode cX11_readsRow 12 = .ok (.istore_n 3, 1) := by decide +kernel
theorem dX11_readsRow_13 : decode cX11_readsRow 13 = .ok (.iload_n 3, 1) := by decide +kernel
theorem dX11_readsRow_14 : decode cX11_readsRow 14 = .ok (.invokestatic 248, 3) := by decide +kernel
theorem dX11_readsRow_17 : decode cX11_readsRow 17 = .ok (.ifCond .ne 20, 3) := by decide +kernel
theorem dX11_readsRow_20 : decode cX11_readsRow 20 = .ok (.iload_n 3, 1) := by decide +kernel
theorem dX11_readsRow_21 : decode cX11_readsRow 21 = .ok (.invokestatic 251, 3) := by decide +kernel
theorem dX11_readsRow_24 : decode cX11_readsRow 24 = .ok (.ifCond .ne 13, 3) := by decide +kernel
theorem dX11_readsRow_27 : decode cX11_readsRow 27 = .ok (.aload_n 0, 1) := by decide +kernel
theorem dX11_readsRow_28 : decode cX11_readsRow 28 = .ok (.iconst 1, 1) := by decide +kernel
theorem dX11_readsRow_29 : decode cX11_readsRow 29 = .ok (.aload_n 0, 1) := by decide +kernel
theorem dX11_readsRow_30 : decode cX11_readsRow 30 = .ok (.getfield 171, 3) := by decide +kernel
theorem dX11_readsRow_33 : decode cX11_readsRow 33 = .ok (.invokevirtual 184, 3) := by decide +kernel
theorem dX11_readsRow_36 : decode cX11_readsRow 36 = .ok (.ireturn, 1) := by decide +kernel
theorem dX11_readsRow_37 : decode cX11_readsRow 37 = .ok (.iload_n 3, 1) := by decide +kernel
theorem dX11_readsRow_38 : decode cX11_readsRow 38 = .ok (.bipush 48, 2) := by decide +kernel
theorem dX11_readsRow_40 : decode cX11_readsRow 40 = .ok (.if_icmp .ne 8, 3) := by decide +kernel
theorem dX11_readsRow_43 : decode cX11_readsRow 43 = .ok (.bipush 10, 2) := by decide +kernel
theorem dX11_readsRow_45 : decode cX11_readsRow 45 = .ok (.goto 18, 3) := by decide +kernel
theorem dX11_readsRow_48 : decode cX11_readsRow 48 = .ok (.iload_n 3, 1) := by decide +kernel
theorem dX11_readsRow_49 : decode cX11_readsRow 49 = .ok (.invokestatic 251, 3) := by decide +kernel
theorem dX11_readsRow_52 : decode cX11_readsRow 52 = .ok (.ifCond .eq 10, 3) := by decide +kernel
theorem dX11_readsRow_55 : decode cX11_readsRow 55 = .ok (.iload_n 3, 1) := by decide +kernel
theorem dX11_readsRow_56 : decode cX11_readsRow 56 = .ok (.bipush 48, 2) := by decide +kernel
theorem dX11_readsRow_58 : decode cX11_readsRow 58 = .ok (.isub, 1) := by decide +kernel
theorem dX11_readsRow_59 : decode cX11_readsRow 59 = .ok (.goto 4, 3) := by decide +kernel
theorem dX11_readsRow_62 : decode cX11_readsRow 62 = .ok (.iconst 1, 1) := by decide +kernel
theorem dX11_readsRow_63 : decode cX11_readsRow 63 = .ok (.istore 4, 2) := by decide +kernel
theorem dX11_readsRow_65 : decode cX11_readsRow 65 = .ok (.iload_n 2, 1) := by decide +kernel
theorem dX11_readsRow_66 : decode cX11_readsRow 66 = .ok (.iload 4, 2) := by decide +kernel
theorem dX11_readsRow_68 : decode cX11_readsRow 68 = .ok (.iadd, 1) := by decide +kernel
theorem dX11_readsRow_69 : decode cX11_readsRow 69 = .ok (.bipush 10, 2) := by decide +kernel
theorem dX11_readsRow_71 : decode cX11_readsRow 71 = .ok (.if_icmp .le 14, 3) := by decide +kernel
theorem dX11_readsRow_74 : decode cX11_readsRow 74 = .ok (.aload_n 0, 1) := by decide +kernel
theorem dX11_readsRow_75 : decode cX11_readsRow 75 = .ok (.bipush 6, 2) := by decide +kernel
theorem dX11_readsRow_77 : decode cX11_readsRow 77 = .ok (.aload_n 0, 1) := by decide +kernel
theorem dX11_readsRow_78 : decode cX11_readsRow 78 = .ok (.getfield 171, 3) := by decide +kernel
theorem dX11_readsRow_81 : decode cX11_readsRow 81 = .ok (.invokevirtual 184, 3) := by decide +kernel
theorem dX11_readsRow_84 : decode cX11_readsRow 84 = .ok (.ireturn, 1) := by decide +kernel
theorem dX11_readsRow_85 : decode cX11_readsRow 85 = .ok (.iload 4, 2) := by decide +kernel
theorem dX11_readsRow_87 : decode cX11_readsRow 87 = .ok (.iconst 1, 1) := by decide +kernel
theorem dX11_readsRow_88 : decode cX11_readsRow 88 = .ok (.if_icmp .le 13, 3) := by decide +kernel
theorem dX11_readsRow_91 : decode cX11_readsRow 91 = .ok (.aload_n 0, 1) := by decide +kernel
theorem dX11_readsRow_92 : decode cX11_readsRow 92 = .ok (.aload_n 0, 1) := by decide +kernel
theorem dX11_readsRow_93 : decode cX11_readsRow 93 = .ok (.getfield 171, 3) := by decide +kernel
theorem dX11_readsRow_96 : decode cX11_readsRow 96 = .ok (.iconst 1, 1) := by decide +kernel
theorem dX11_readsRow_97 : decode cX11_readsRow 97 = .ok (.iadd, 1) := by decide +kernel
theorem dX11_readsRow_98 : decode cX11_readsRow 98 = .ok (.putfield 171, 3) := by decide +kernel
theorem dX11_readsRow_101 : decode cX11_readsRow 101 = .ok (.aload_n 0, 1) := by decide +kernel
theorem dX11_readsRow_102 : decode cX11_readsRow 102 = .ok (.invokevirtual 177, 3) := by decide +kernel
theorem dX11_readsRow_105 : decode cX11_readsRow 105 = .ok (.istore_n 3, 1) := by decide +kernel
theorem dX11_readsRow_106 : decode cX11_readsRow 106 = .ok (.iload_n 3, 1) := by decide +kernel
theorem dX11_readsRow_107 : decode cX11_readsRow 107 = .ok (.invokestatic 248, 3) := by decide +kernel
theorem dX11_readsRow_110 : decode cX11_readsRow 110 = .ok (.ifCond .ne 13, 3) := by decide +kernel
theorem dX11_readsRow_113 : decode cX11_readsRow 113 = .ok (.aload_n 0, 1) := by decide +kernel
theorem dX11_readsRow_114 : decode cX11_readsRow 114 = .ok (.iconst 1, 1) := by decide +kernel
theorem dX11_readsRow_115 : decode cX11_readsRow 115 = .ok (.aload_n 0, 1) := by decide +kernel
theorem dX11_readsRow_116 : decode cX11_readsRow 116 = .ok (.getfield 171, 3) := by decide +kernel
theorem dX11_readsRow_119 : decode cX11_readsRow 119 = .ok (.invokevirtual 184, 3) := by decide +kernel
theorem dX11_readsRow_122 : decode cX11_readsRow 122 = .ok (.ireturn, 1) := by decide +kernel
theorem dX11_readsRow_123 : decode cX11_readsRow 123 = .ok (.iconst 0, 1) := by decide +kernel
theorem dX11_readsRow_124 : decode cX11_readsRow 124 = .ok (.istore 5, 2) := by decide +kernel
theorem dX11_readsRow_126 : decode cX11_readsRow 126 = .ok (.iload 5, 2) := by decide +kernel
theorem dX11_readsRow_128 : decode cX11_readsRow 128 = .ok (.iload 4, 2) := by decide +kernel
theorem dX11_readsRow_130 : decode cX11_readsRow 130 = .ok (.if_icmp .ge 54, 3) := by decide +kernel
theorem dX11_readsRow_133 : decode cX11_readsRow 133 = .ok (.aload_n 0, 1) := by decide +kernel
theorem dX11_readsRow_134 : decode cX11_readsRow 134 = .ok (.getfield 68, 3) := by decide +kernel
theorem dX11_readsRow_137 : decode cX11_readsRow 137 = .ok (.bipush 10, 2) := by decide +kernel
theorem dX11_readsRow_139 : decode cX11_readsRow 139 = .ok (.iload_n 1, 1) := by decide +kernel
theorem dX11_readsRow_140 : decode cX11_readsRow 140 = .ok (.imul, 1) := by decide +kernel
theorem dX11_readsRow_141 : decode cX11_readsRow 141 = .ok (.iload_n 2, 1) := by decide +kernel
theorem dX11_readsRow_142 : decode cX11_readsRow 142 = .ok (.iadd, 1) := by decide +kernel
theorem dX11_readsRow_143 : decode cX11_readsRow 143 = .ok (.iload 5, 2) := by decide +kernel
theorem dX11_readsRow_145 : decode cX11_readsRow 145 = .ok (.iadd, 1) := by decide +kernel
theorem dX11_readsRow_146 : decode cX11_readsRow 146 = .ok (.iload_n 3, 1) := by decide +kernel
theorem dX11_readsRow_147 : decode cX11_readsRow 147 = .ok (.bipush 46, 2) := by decide +kernel
theorem dX11_readsRow_149 : decode cX11_readsRow 149 = .ok (.if_icmp .ne 7, 3) := by decide +kernel
theorem dX11_readsRow_152 : decode cX11_readsRow 152 = .ok (.iconst 0, 1) := by decide +kernel
theorem dX11_readsRow_153 : decode cX11_readsRow 153 = .ok (.goto 24, 3) := by decide +kernel
theorem dX11_readsRow_156 : decode cX11_readsRow 156 = .ok (.iload_n 3, 1) := by decide +kernel
theorem dX11_readsRow_157 : decode cX11_readsRow 157 = .ok (.bipush 35, 2) := by decide +kernel
theorem dX11_readsRow_159 : decode cX11_readsRow 159 = .ok (.if_icmp .ne 7, 3) := by decide +kernel
theorem dX11_readsRow_162 : decode cX11_readsRow 162 = .ok (.iconst 1, 1) := by decide +kernel
theorem dX11_readsRow_163 : decode cX11_readsRow 163 = .ok (.goto 14, 3) := by decide +kernel
theorem dX11_readsRow_166 : decode cX11_readsRow 166 = .ok (.iload_n 3, 1) := by decide +kernel
theorem dX11_readsRow_167 : decode cX11_readsRow 167 = .ok (.bipush 115, 2) := by decide +kernel
theorem dX11_readsRow_169 : decode cX11_readsRow 169 = .ok (.if_icmp .ne 7, 3) := by decide +kernel
theorem dX11_readsRow_172 : decode cX11_readsRow 172 = .ok (.iconst 2, 1) := by decide +kernel
theorem dX11_readsRow_173 : decode cX11_readsRow 173 = .ok (.goto 4, 3) := by decide +kernel
theorem dX11_readsRow_176 : decode cX11_readsRow 176 = .ok (.iconst 3, 1) := by decide +kernel
theorem dX11_readsRow_177 : decode cX11_readsRow 177 = .ok (.iastore, 1) := by decide +kernel
theorem dX11_readsRow_178 : decode cX11_readsRow 178 = .ok (.iinc 5 1, 3) := by decide +kernel
theorem dX11_readsRow_181 : decode cX11_readsRow 181 = .ok (.goto (-55), 3) := by decide +kernel
theorem dX11_readsRow_184 : decode cX11_readsRow 184 = .ok (.iload_n 2, 1) := by decide +kernel
theorem dX11_readsRow_185 : decode cX11_readsRow 185 = .ok (.iload 4, 2) := by decide +kernel
theorem dX11_readsRow_187 : decode cX11_readsRow 187 = .ok (.iadd, 1) := by decide +kernel
theorem dX11_readsRow_188 : decode cX11_readsRow 188 = .ok (.istore_n 2, 1) := by decide +kernel
theorem dX11_readsRow_189 : decode cX11_readsRow 189 = .ok (.aload_n 0, 1) := by decide +kernel
theorem dX11_readsRow_190 : decode cX11_readsRow 190 = .ok (.aload_n 0, 1) := by decide +kernel
theorem dX11_readsRow_191 : decode cX11_readsRow 191 = .ok (.getfield 171, 3) := by decide +kernel
theorem dX11_readsRow_194 : decode cX11_readsRow 194 = .ok (.iconst 1, 1) := by decide +kernel
theorem dX11_readsRow_195 : decode cX11_readsRow 195 = .ok (.iadd, 1) := by decide +kernel
theorem dX11_readsRow_196 : decode cX11_readsRow 196 = .ok (.putfield 171, 3) := by decide +kernel
theorem dX11_readsRow_199 : decode cX11_readsRow 199 = .ok (.goto (-197), 3) := by decide +kernel
theorem dX11_readsRow_202 : decode cX11_readsRow 202 = .ok (.aload_n 0, 1) := by decide +kernel
theorem dX11_readsRow_203 : decode cX11_readsRow 203 = .ok (.invokevirtual 177, 3) := by decide +kernel
theorem dX11_readsRow_206 : decode cX11_readsRow 206 = .ok (.invokestatic 248, 3) := by decide +kernel
theorem dX11_readsRow_209 : decode cX11_readsRow 209 = .ok (.ifCond .ne 13, 3) := by decide +kernel
theorem dX11_readsRow_212 : decode cX11_readsRow 212 = .ok (.aload_n 0, 1) := by decide +kernel
theorem dX11_readsRow_213 : decode cX11_readsRow 213 = .ok (.invokevirtual 177, 3) := by decide +kernel
theorem dX11_readsRow_216 : decode cX11_readsRow 216 = .ok (.invokestatic 251, 3) := by decide +kernel
theorem dX11_readsRow_219 : decode cX11_readsRow 219 = .ok (.ifCond .eq 16, 3) := by decide +kernel
theorem dX11_readsRow_222 : decode cX11_readsRow 222 = .ok (.aload_n 0, 1) := by decide +kernel
theorem dX11_readsRow_223 : decode cX11_readsRow 223 = .ok (.bipush 6, 2) := by decide +kernel
theorem dX11_readsRow_225 : decode cX11_readsRow 225 = .ok (.aload_n 0, 1) := by decide +kernel
theorem dX11_readsRow_226 : decode cX11_readsRow 226 = .ok (.getfield 171, 3) := by decide +kernel
theorem dX11_readsRow_229 : decode cX11_readsRow 229 = .ok (.invokevirtual 184, 3) := by decide +kernel
theorem dX11_readsRow_232 : decode cX11_readsRow 232 = .ok (.ifCond .eq 7, 3) := by decide +kernel
theorem dX11_readsRow_235 : decode cX11_readsRow 235 = .ok (.iconst 1, 1) := by decide +kernel
theorem dX11_readsRow_236 : decode cX11_readsRow 236 = .ok (.goto 4, 3) := by decide +kernel
theorem dX11_readsRow_239 : decode cX11_readsRow 239 = .ok (.iconst 0, 1) := by decide +kernel
theorem dX11_readsRow_240 : decode cX11_readsRow 240 = .ok (.ireturn, 1) := by decide +kernel


theorem xmulr {a b : Int} (ha : 0 ≤ a) (hb : 1 ≤ b ∧ b ≤ 9) : a ≤ a * b ∧ a * b ≤ 9 * a := by
  rcases (by omega : b = 1 ∨ b = 2 ∨ b = 3 ∨ b = 4 ∨ b = 5 ∨ b = 6 ∨ b = 7 ∨ b = 8 ∨ b = 9) with rfl | rfl | rfl | rfl | rfl | rfl | rfl | rfl | rfl <;> omega
/-- the reader of a walk's text -/
def zRW (σ : xS) : Prop := (0 ≤ σ 268 34 ∧ σ 268 34 ≤ 60) ∧ (0 ≤ σ 268 35 ∧ σ 268 35 ≤ 2) ∧ ∀ j, 0 ≤ j → j < σ 268 35 → (0 ≤ σ 291 j ∧ σ 291 j ≤ σ 268 34) ∧ (1 ≤ σ 292 j ∧ σ 292 j ≤ 9)
theorem zRW.new {σ : xS} (h4 : σ 268 34 = 0) (h5 : σ 268 35 = 0) : zRW σ := ⟨by omega, by omega, fun j j1 j2 => by omega⟩
theorem zRW.push {σ τ : xS} {v : Int} (h : zRW σ) (h5 : τ 268 35 = σ 268 35 + 1 ∧ σ 268 35 < 2) (h4 : τ 268 34 = σ 268 34) (h1 : τ 291 = xud (σ 291) (σ 268 35) (σ 268 34)) (h2 : τ 292 = xud (σ 292) (σ 268 35) v) (hv : 1 ≤ v ∧ v ≤ 9) : zRW τ := by
  obtain ⟨q1, q2, q3⟩ := h
  refine ⟨by omega, by omega, fun j j1 j2 => ?_⟩
  rw [h1, h2, h4]
  by_cases e : j = σ 268 35
  · rw [e, xud_s, xud_s]; omega
  · rw [xud_o _ _ e, xud_o _ _ e]; exact q3 j j1 (by omega)
theorem zRW.f {σ τ : xS} (h : zRW σ) (h5 : 0 ≤ τ 268 35 ∧ τ 268 35 ≤ σ 268 35) (h4 : σ 268 34 ≤ τ 268 34 ∧ τ 268 34 ≤ 60) (h1 : τ 291 = σ 291) (h2 : τ 292 = σ 292) : zRW τ := by
  obtain ⟨q1, q2, q3⟩ := h
  refine ⟨by omega, by omega, fun j j1 j2 => ?_⟩
  rw [h1, h2]
  have := q3 j j1 (by omega)
  omega

theorem st_X11_34 (h0 : Nat) (σ : xS) (k : Nat) (a : Int) : xobj h0 (xU σ k 34 a) k 11 = (xobj h0 σ k 11).set 34 (.int (xJ a)) := by simp [xobj, xU]
theorem ln_X11_34 (h0 : Nat) (σ : xS) (k : Nat) : 34 < (xobj h0 σ k 11).length := by simp [xobj]
theorem st_X11_35 (h0 : Nat) (σ : xS) (k : Nat) (a : Int) : xobj h0 (xU σ k 35 a) k 11 = (xobj h0 σ k 11).set 35 (.int (xJ a)) := by simp [xobj, xU]
theorem ln_X11_35 (h0 : Nat) (σ : xS) (k : Nat) : 35 < (xobj h0 σ k 11).length := by simp [xobj]
theorem st_X11_36 (h0 : Nat) (σ : xS) (k : Nat) (a : Int) : xobj h0 (xU σ k 36 a) k 11 = (xobj h0 σ k 11).set 36 (.int (xJ a)) := by simp [xobj, xU]
theorem ln_X11_36 (h0 : Nat) (σ : xS) (k : Nat) : 36 < (xobj h0 σ k 11).length := by simp [xobj]
theorem st_X11_37 (h0 : Nat) (σ : xS) (k : Nat) (a : Int) : xobj h0 (xU σ k 37 a) k 11 = (xobj h0 σ k 11).set 37 (.int (xJ a)) := by simp [xobj, xU]
theorem ln_X11_37 (h0 : Nat) (σ : xS) (k : Nat) : 37 < (xobj h0 σ k 11).length := by simp [xobj]
theorem cf_X11_readsStep : xCF yX11_readsStep cX11_readsStep 4 (some .boolean) 0 := ⟨xq 1447 (by decide +kernel) rfl, xq 179 (by decide +kernel) rfl, by decide +kernel⟩
theorem cf_X11_readsTimes : xCF yX11_readsTimes cX11_readsTimes 1 none 0 := ⟨xq 1451 (by decide +kernel) rfl, xq 179 (by decide +kernel) rfl, by decide +kernel⟩
theorem cf_X11_repeats : xCF yX11_repeats cX11_repeats 6 (some .boolean) 3 := ⟨xq 1458 (by decide +kernel) rfl, xq 179 (by decide +kernel) rfl, by decide +kernel⟩
theorem cf_X11_wayOf : xCF yX11_wayOf cX11_wayOf 1 (some .int) 1 := ⟨xq 1454 (by decide +kernel) rfl, xq 179 (by decide +kernel) rfl, by decide +kernel⟩
theorem wq112 : Cond.selects yX11_readsStep.cls yX11_readsStep yX11_readsStep ∈ xTB := xq 112 (by decide +kernel) rfl
theorem wq113 : Cond.selects yX11_readsTimes.cls yX11_readsTimes yX11_readsTimes ∈ xTB := xq 113 (by decide +kernel) rfl
theorem wq114 : Cond.selects yX11_repeats.cls yX11_repeats yX11_repeats ∈ xTB := xq 114 (by decide +kernel) rfl
theorem wq1215 : Cond.fieldLink "ShadowCourtModel" (71) "ShadowCourtModel" "newStep" "[B" ∈ xTB := xq 1215 (by decide +kernel) rfl
theorem wq1216 : Cond.fieldLink "ShadowCourtModel" (74) "ShadowCourtModel" "roundFrom" "[I" ∈ xTB := xq 1216 (by decide +kernel) rfl
theorem wq1217 : Cond.fieldLink "ShadowCourtModel" (77) "ShadowCourtModel" "roundAt" "[I" ∈ xTB := xq 1217 (by decide +kernel) rfl
theorem wq1218 : Cond.fieldLink "ShadowCourtModel" (80) "ShadowCourtModel" "roundTimes" "[I" ∈ xTB := xq 1218 (by decide +kernel) rfl
theorem wq1219 : Cond.fieldLink "ShadowCourtModel" (270) "ShadowCourtModel" "newMany" "I" ∈ xTB := xq 1219 (by decide +kernel) rfl
theorem wq1220 : Cond.fieldLink "ShadowCourtModel" (282) "ShadowCourtModel" "rounds" "I" ∈ xTB := xq 1220 (by decide +kernel) rfl
theorem wq1221 : Cond.fieldLink "ShadowCourtModel" (273) "ShadowCourtModel" "stepFrom" "I" ∈ xTB := xq 1221 (by decide +kernel) rfl
theorem wq1222 : Cond.fieldLink "ShadowCourtModel" (276) "ShadowCourtModel" "stepTimes" "I" ∈ xTB := xq 1222 (by decide +kernel) rfl
theorem wq1444 : Cond.methodLink "ShadowCourtModel" (291) yX11_readsStep ∈ xTB := xq 1444 (by decide +kernel) rfl
theorem wq1446 : Cond.instanceMethod yX11_readsStep ∈ xTB := xq 1446 (by decide +kernel) rfl
theorem wq1448 : Cond.methodLink "ShadowCourtModel" (279) yX11_readsTimes ∈ xTB := xq 1448 (by decide +kernel) rfl
theorem wq1450 : Cond.instanceMethod yX11_readsTimes ∈ xTB := xq 1450 (by decide +kernel) rfl
theorem wq1452 : Cond.methodLink "ShadowCourtModel" (285) yX11_wayOf ∈ xTB := xq 1452 (by decide +kernel) rfl
theorem wq1453 : Cond.static yX11_wayOf ∈ xTB := xq 1453 (by decide +kernel) rfl
theorem wq1455 : Cond.methodLink "ShadowCourtModel" (288) yX11_repeats ∈ xTB := xq 1455 (by decide +kernel) rfl
theorem wq1457 : Cond.instanceMethod yX11_repeats ∈ xTB := xq 1457 (by decide +kernel) rfl
theorem dX11_readsStep_0 : decode cX11_readsStep 0 = .ok (.aload_n 0, 1) := by decide +kernel
theorem dX11_readsStep_1 : decode cX11_readsStep 1 = .ok (.invokevirtual 279, 3) := by decide +kernel
theorem dX11_readsStep_4 : decode cX11_readsStep 4 = .ok (.aload_n 0, 1) := by decide +kernel
theorem dX11_readsStep_5 : decode cX11_readsStep 5 = .ok (.invokevirtual 177, 3) := by decide +kernel
theorem dX11_readsStep_8 : decode cX11_readsStep 8 = .ok (.bipush 40, 2) := by decide +kernel
theorem dX11_readsStep_10 : decode cX11_readsStep 10 = .ok (.if_icmp .ne 87, 3) := by decide +kernel
theorem dX11_readsStep_13 : decode cX11_readsStep 13 = .ok (.aload_n 0, 1) := by decide +kernel
theorem dX11_readsStep_14 : decode cX11_readsStep 14 = .ok (.getfield 282, 3) := by decide +kernel
theorem dX11_readsStep_17 : decode cX11_readsStep 17 = .ok (.iconst 2, 1) := by decide +kernel
theorem dX11_readsStep_18 : decode cX11_readsStep 18 = .ok (.if_icmp .ne 13, 3) := by decide +kernel
theorem dX11_readsStep_21 : decode cX11_readsStep 21 = .ok (.aload_n 0, 1) := by decide +kernel
theorem dX11_readsStep_22 : decode cX11_readsStep 22 = .ok (.iconst 5, 1) := by decide +kernel
theorem dX11_readsStep_23 : decode cX11_readsStep 23 = .ok (.aload_n 0, 1) := by decide +kernel
theorem dX11_readsStep_24 : decode cX11_readsStep 24 = .ok (.getfield 171, 3) := by decide +kernel
theorem dX11_readsStep_27 : decode cX11_readsStep 27 = .ok (.invokevirtual 184, 3) := by decide +kernel
theorem dX11_readsStep_30 : decode cX11_readsStep 30 = .ok (.ireturn, 1) := by decide +kernel
theorem dX11_readsStep_31 : decode cX11_readsStep 31 = .ok (.aload_n 0, 1) := by decide +kernel
theorem dX11_readsStep_32 : decode cX11_readsStep 32 = .ok (.getfield 74, 3) := by decide +kernel
theorem dX11_readsStep_35 : decode cX11_readsStep 35 = .ok (.aload_n 0, 1) := by decide +kernel
theorem dX11_readsStep_36 : decode cX11_readsStep 36 = .ok (.getfield 282, 3) := by decide +kernel
theorem dX11_readsStep_39 : decode cX11_readsStep 39 = .ok (.aload_n 0, 1) := by decide +kernel
theorem dX11_readsStep_40 : decode cX11_readsStep 40 = .ok (.getfield 273, 3) := by decide +kernel
theorem dX11_readsStep_43 : decode cX11_readsStep 43 = .ok (.iastore, 1) := by decide +kernel
theorem dX11_readsStep_44 : decode cX11_readsStep 44 = .ok (.aload_n 0, 1) := by decide +kernel
theorem dX11_readsStep_45 : decode cX11_readsStep 45 = .ok (.getfield 77, 3) := by decide +kernel
theorem dX11_readsStep_48 : decode cX11_readsStep 48 = .ok (.aload_n 0, 1) := by decide +kernel
theorem dX11_readsStep_49 : decode cX11_readsStep 49 = .ok (.getfield 282, 3) := by decide +kernel
theorem dX11_readsStep_52 : decode cX11_readsStep 52 = .ok (.aload_n 0, 1) := by decide +kernel
theorem dX11_readsStep_53 : decode cX11_readsStep 53 = .ok (.getfield 270, 3) := by decide +kernel
theorem dX11_readsStep_56 : decode cX11_readsStep 56 = .ok (.iastore, 1) := by decide +kernel
theorem dX11_readsStep_57 : decode cX11_readsStep 57 = .ok (.aload_n 0, 1) := by decide +kernel
theorem dX11_readsStep_58 : decode cX11_readsStep 58 = .ok (.getfield 80, 3) := by decide +kernel
theorem dX11_readsStep_61 : decode cX11_readsStep 61 = .ok (.aload_n 0, 1) := by decide +kernel
theorem dX11_readsStep_62 : decode cX11_readsStep 62 = .ok (.getfield 282, 3) := by decide +kernel
theorem dX11_readsStep_65 : decode cX11_readsStep 65 = .ok (.aload_n 0, 1) := by decide +kernel
theorem dX11_readsStep_66 : decode cX11_readsStep 66 = .ok (.getfield 276, 3) := by decide +kernel
theorem dX11_readsStep_69 : decode cX11_readsStep 69 = .ok (.iastore, 1) := by decide +kernel
theorem dX11_readsStep_70 : decode cX11_readsStep 70 = .ok (.aload_n 0, 1) := by decide +kernel
theorem dX11_readsStep_71 : decode cX11_readsStep 71 = .ok (.aload_n 0, 1) := by decide +kernel
theorem dX11_readsStep_72 : decode cX11_readsStep 72 = .ok (.getfield 282, 3) := by decide +kernel
theorem dX11_readsStep_75 : decode cX11_readsStep 75 = .ok (.iconst 1, 1) := by decide +kernel
theorem dX11_readsStep_76 : decode cX11_readsStep 76 = .ok (.iadd, 1) := by decide +kernel
theorem dX11_readsStep_77 : decode cX11_readsStep 77 = .ok (.putfield 282, 3) := by decide +kernel
theorem dX11_readsStep_80 : decode cX11_readsStep 80 = .ok (.aload_n 0, 1) := by decide +kernel
theorem dX11_readsStep_81 : decode cX11_readsStep 81 = .ok (.aload_n 0, 1) := by decide +kernel
theorem dX11_readsStep_82 : decode cX11_readsStep 82 = .ok (.getfield 171, 3) := by decide +kernel
theorem dX11_readsStep_85 : decode cX11_readsStep 85 = .ok (.iconst 1, 1) := by decide +kernel
theorem dX11_readsStep_86 : decode cX11_readsStep 86 = .ok (.iadd, 1) := by decide +kernel
theorem dX11_readsStep_87 : decode cX11_readsStep 87 = .ok (.putfield 171, 3) := by decide +kernel
theorem dX11_readsStep_90 : decode cX11_readsStep 90 = .ok (.aload_n 0, 1) := by decide +kernel
theorem dX11_readsStep_91 : decode cX11_readsStep 91 = .ok (.invokevirtual 279, 3) := by decide +kernel
theorem dX11_readsStep_94 : decode cX11_readsStep 94 = .ok (.goto (-90), 3) := by decide +kernel
theorem dX11_readsStep_97 : decode cX11_readsStep 97 = .ok (.aload_n 0, 1) := by decide +kernel
theorem dX11_readsStep_98 : decode cX11_readsStep 98 = .ok (.getfield 273, 3) := by decide +kernel
theorem dX11_readsStep_101 : decode cX11_readsStep 101 = .ok (.istore_n 1, 1) := by decide +kernel
theorem dX11_readsStep_102 : decode cX11_readsStep 102 = .ok (.aload_n 0, 1) := by decide +kernel
theorem dX11_readsStep_103 : decode cX11_readsStep 103 = .ok (.getfield 276, 3) := by decide +kernel
theorem dX11_readsStep_106 : decode cX11_readsStep 106 = .ok (.istore_n 2, 1) := by decide +kernel
theorem dX11_readsStep_107 : decode cX11_readsStep 107 = .ok (.aload_n 0, 1) := by decide +kernel
theorem dX11_readsStep_108 : decode cX11_readsStep 108 = .ok (.invokevirtual 177, 3) := by decide +kernel
theorem dX11_readsStep_111 : decode cX11_readsStep 111 = .ok (.invokestatic 285, 3) := by decide +kernel
theorem dX11_readsStep_114 : decode cX11_readsStep 114 = .ok (.istore_n 3, 1) := by decide +kernel
theorem dX11_readsStep_115 : decode cX11_readsStep 115 = .ok (.iload_n 3, 1) := by decide +kernel
theorem dX11_readsStep_116 : decode cX11_readsStep 116 = .ok (.iconst (-1), 1) := by decide +kernel
theorem dX11_readsStep_117 : decode cX11_readsStep 117 = .ok (.if_icmp .ne 13, 3) := by decide +kernel
theorem dX11_readsStep_120 : decode cX11_readsStep 120 = .ok (.aload_n 0, 1) := by decide +kernel
theorem dX11_readsStep_121 : decode cX11_readsStep 121 = .ok (.iconst 1, 1) := by decide +kernel
theorem dX11_readsStep_122 : decode cX11_readsStep 122 = .ok (.aload_n 0, 1) := by decide +kernel
theorem dX11_readsStep_123 : decode cX11_readsStep 123 = .ok (.getfield 171, 3) := by decide +kernel
theorem dX11_readsStep_126 : decode cX11_readsStep 126 = .ok (.invokevirtual 184, 3) := by decide +kernel
theorem dX11_readsStep_129 : decode cX11_readsStep 129 = .ok (.ireturn, 1) := by decide +kernel
theorem dX11_readsStep_130 : decode cX11_readsStep 130 = .ok (.aload_n 0, 1) := by decide +kernel
theorem dX11_readsStep_131 : decode cX11_readsStep 131 = .ok (.aload_n 0, 1) := by decide +kernel
theorem dX11_readsStep_132 : decode cX11_readsStep 132 = .ok (.getfield 171, 3) := by decide +kernel
theorem dX11_readsStep_135 : decode cX11_readsStep 135 = .ok (.iconst 1, 1) := by decide +kernel
theorem dX11_readsStep_136 : decode cX11_readsStep 136 = .ok (.iadd, 1) := by decide +kernel
theorem dX11_readsStep_137 : decode cX11_readsStep 137 = .ok (.putfield 171, 3) := by decide +kernel
theorem dX11_readsStep_140 : decode cX11_readsStep 140 = .ok (.aload_n 0, 1) := by decide +kernel
theorem dX11_readsStep_141 : decode cX11_readsStep 141 = .ok (.getfield 270, 3) := by decide +kernel
theorem dX11_readsStep_144 : decode cX11_readsStep 144 = .ok (.iload_n 2, 1) := by decide +kernel
theorem dX11_readsStep_145 : decode cX11_readsStep 145 = .ok (.iadd, 1) := by decide +kernel
theorem dX11_readsStep_146 : decode cX11_readsStep 146 = .ok (.bipush 60, 2) := by decide +kernel
theorem dX11_readsStep_148 : decode cX11_readsStep 148 = .ok (.if_icmp .le 11, 3) := by decide +kernel
theorem dX11_readsStep_151 : decode cX11_readsStep 151 = .ok (.aload_n 0, 1) := by decide +kernel
theorem dX11_readsStep_152 : decode cX11_readsStep 152 = .ok (.bipush 6, 2) := by decide +kernel
theorem dX11_readsStep_154 : decode cX11_readsStep 154 = .ok (.iload_n 1, 1) := by decide +kernel
theorem dX11_readsStep_155 : decode cX11_readsStep 155 = .ok (.invokevirtual 184, 3) := by decide +kernel
theorem dX11_readsStep_158 : decode cX11_readsStep 158 = .ok (.ireturn, 1) := by decide +kernel
theorem dX11_readsStep_159 : decode cX11_readsStep 159 = .ok (.aload_n 0, 1) := by decide +kernel
theorem dX11_readsStep_160 : decode cX11_readsStep 160 = .ok (.getfield 71, 3) := by decide +kernel
theorem dX11_readsStep_163 : decode cX11_readsStep 163 = .ok (.aload_n 0, 1) := by decide +kernel
theorem dX11_readsStep_164 : decode cX11_readsStep 164 = .ok (.getfield 270, 3) := by decide +kernel
theorem dX11_readsStep_167 : decode cX11_readsStep 167 = .ok (.iload_n 3, 1) := by decide +kernel
theorem dX11_readsStep_168 : decode cX11_readsStep 168 = .ok (.i2b, 1) := by decide +kernel
theorem dX11_readsStep_169 : decode cX11_readsStep 169 = .ok (.bastore, 1) := by decide +kernel
theorem dX11_readsStep_170 : decode cX11_readsStep 170 = .ok (.aload_n 0, 1) := by decide +kernel
theorem dX11_readsStep_171 : decode cX11_readsStep 171 = .ok (.aload_n 0, 1) := by decide +kernel
theorem dX11_readsStep_172 : decode cX11_readsStep 172 = .ok (.getfield 270, 3) := by decide +kernel
theorem dX11_readsStep_175 : decode cX11_readsStep 175 = .ok (.iconst 1, 1) := by decide +kernel
theorem dX11_readsStep_176 : decode cX11_readsStep 176 = .ok (.iadd, 1) := by decide +kernel
theorem dX11_readsStep_177 : decode cX11_readsStep 177 = .ok (.putfield 270, 3) := by decide +kernel
theorem dX11_readsStep_180 : decode cX11_readsStep 180 = .ok (.aload_n 0, 1) := by decide +kernel
theorem dX11_readsStep_181 : decode cX11_readsStep 181 = .ok (.aload_n 0, 1) := by decide +kernel
theorem dX11_readsStep_182 : decode cX11_readsStep 182 = .ok (.getfield 270, 3) := by decide +kernel
theorem dX11_readsStep_185 : decode cX11_readsStep 185 = .ok (.iconst 1, 1) := by decide +kernel
theorem dX11_readsStep_186 : decode cX11_readsStep 186 = .ok (.isub, 1) := by decide +kernel
theorem dX11_readsStep_187 : decode cX11_readsStep 187 = .ok (.iload_n 2, 1) := by decide +kernel
theorem dX11_readsStep_188 : decode cX11_readsStep 188 = .ok (.iload_n 1, 1) := by decide +kernel
theorem dX11_readsStep_189 : decode cX11_readsStep 189 = .ok (.invokevirtual 288, 3) := by decide +kernel
theorem dX11_readsStep_192 : decode cX11_readsStep 192 = .ok (.ifCond .ne 5, 3) := by decide +kernel
theorem dX11_readsStep_195 : decode cX11_readsStep 195 = .ok (.iconst 0, 1) := by decide +kernel
theorem dX11_readsStep_196 : decode cX11_readsStep 196 = .ok (.ireturn, 1) := by decide +kernel
theorem dX11_readsStep_197 : decode cX11_readsStep 197 = .ok (.aload_n 0, 1) := by decide +kernel
theorem dX11_readsStep_198 : decode cX11_readsStep 198 = .ok (.invokevirtual 177, 3) := by decide +kernel
theorem dX11_readsStep_201 : decode cX11_readsStep 201 = .ok (.bipush 41, 2) := by decide +kernel
theorem dX11_readsStep_203 : decode cX11_readsStep 203 = .ok (.if_icmp .ne 66, 3) := by decide +kernel
theorem dX11_readsStep_206 : decode cX11_readsStep 206 = .ok (.aload_n 0, 1) := by decide +kernel
theorem dX11_readsStep_207 : decode cX11_readsStep 207 = .ok (.getfield 282, 3) := by decide +kernel
theorem dX11_readsStep_210 : decode cX11_readsStep 210 = .ok (.ifCond .le 59, 3) := by decide +kernel
theorem dX11_readsStep_213 : decode cX11_readsStep 213 = .ok (.aload_n 0, 1) := by decide +kernel
theorem dX11_readsStep_214 : decode cX11_readsStep 214 = .ok (.aload_n 0, 1) := by decide +kernel
theorem dX11_readsStep_215 : decode cX11_readsStep 215 = .ok (.getfield 171, 3) := by decide +kernel
theorem dX11_readsStep_218 : decode cX11_readsStep 218 = .ok (.iconst 1, 1) := by decide +kernel
theorem dX11_readsStep_219 : decode cX11_readsStep 219 = .ok (.iadd, 1) := by decide +kernel
theorem dX11_readsStep_220 : decode cX11_readsStep 220 = .ok (.putfield 171, 3) := by decide +kernel
theorem dX11_readsStep_223 : decode cX11_readsStep 223 = .ok (.aload_n 0, 1) := by decide +kernel
theorem dX11_readsStep_224 : decode cX11_readsStep 224 = .ok (.aload_n 0, 1) := by decide +kernel
theorem dX11_readsStep_225 : decode cX11_readsStep 225 = .ok (.getfield 282, 3) := by decide +kernel
theorem dX11_readsStep_228 : decode cX11_readsStep 228 = .ok (.iconst 1, 1) := by decide +kernel
theorem dX11_readsStep_229 : decode cX11_readsStep 229 = .ok (.isub, 1) := by decide +kernel
theorem dX11_readsStep_230 : decode cX11_readsStep 230 = .ok (.putfield 282, 3) := by decide +kernel
theorem dX11_readsStep_233 : decode cX11_readsStep 233 = .ok (.aload_n 0, 1) := by decide +kernel
theorem dX11_readsStep_234 : decode cX11_readsStep 234 = .ok (.aload_n 0, 1) := by decide +kernel
theorem dX11_readsStep_235 : decode cX11_readsStep 235 = .ok (.getfield 77, 3) := by decide +kernel
theorem dX11_readsStep_238 : decode cX11_readsStep 238 = .ok (.aload_n 0, 1) := by decide +kernel
theorem dX11_readsStep_239 : decode cX11_readsStep 239 = .ok (.getfield 282, 3) := by decide +kernel
theorem dX11_readsStep_242 : decode cX11_readsStep 242 = .ok (.iaload, 1) := by decide +kernel
theorem dX11_readsStep_243 : decode cX11_readsStep 243 = .ok (.aload_n 0, 1) := by decide +kernel
theorem dX11_readsStep_244 : decode cX11_readsStep 244 = .ok (.getfield 80, 3) := by decide +kernel
theorem dX11_readsStep_247 : decode cX11_readsStep 247 = .ok (.aload_n 0, 1) := by decide +kernel
theorem dX11_readsStep_248 : decode cX11_readsStep 248 = .ok (.getfield 282, 3) := by decide +kernel
theorem dX11_readsStep_251 : decode cX11_readsStep 251 = .ok (.iaload, 1) := by decide +kernel
theorem dX11_readsStep_252 : decode cX11_readsStep 252 = .ok (.aload_n 0, 1) := by decide +kernel
theorem dX11_readsStep_253 : decode cX11_readsStep 253 = .ok (.getfield 74, 3) := by decide +kernel
theorem dX11_readsStep_256 : decode cX11_readsStep 256 = .ok (.aload_n 0, 1) := by decide +kernel
theorem dX11_readsStep_257 : decode cX11_readsStep 257 = .ok (.getfield 282, 3) := by decide +kernel
theorem dX11_readsStep_260 : decode cX11_readsStep 260 = .ok (.iaload, 1) := by decide +kernel
theorem dX11_readsStep_261 : decode cX11_readsStep 261 = .ok (.invokevirtual 288, 3) := by decide +kernel
theorem dX11_readsStep_264 : decode cX11_readsStep 264 = .ok (.ifCond .ne (-67), 3) := by decide +kernel
theorem dX11_readsStep_267 : decode cX11_readsStep 267 = .ok (.iconst 0, 1) := by decide +kernel
theorem dX11_readsStep_268 : decode cX11_readsStep 268 = .ok (.ireturn, 1) := by decide +kernel
theorem dX11_readsStep_269 : decode cX11_readsStep 269 = .ok (.iconst 1, 1) := by decide +kernel
theorem dX11_readsStep_270 : decode cX11_readsStep 270 = .ok (.ireturn, 1) := by decide +kernel
theorem dX11_readsTimes_0 : decode cX11_readsTimes 0 = .ok (.aload_n 0, 1) := by decide +kernel
theorem dX11_readsTimes_1 : decode cX11_readsTimes 1 = .ok (.aload_n 0, 1) := by decide +kernel
theorem dX11_readsTimes_2 : decode cX11_readsTimes 2 = .ok (.getfield 171, 3) := by decide +kernel
theorem dX11_readsTimes_5 : decode cX11_readsTimes 5 = .ok (.putfield 273, 3) := by decide +kernel
theorem dX11_readsTimes_8 : decode cX11_readsTimes 8 = .ok (.aload_n 0, 1) := by decide +kernel
theorem dX11_readsTimes_9 : decode cX11_readsTimes 9 = .ok (.iconst 1, 1) := by decide +kernel
theorem dX11_readsTimes_10 : decode cX11_readsTimes 10 = .ok (.putfield 276, 3) := by decide +kernel
theorem dX11_readsTimes_13 : decode cX11_readsTimes 13 = .ok (.aload_n 0, 1) := by decide +kernel
theorem dX11_readsTimes_14 : decode cX11_readsTimes 14 = .ok (.invokevirtual 177, 3) := by decide +kernel
theorem dX11_readsTimes_17 : decode cX11_readsTimes 17 = .ok (.bipush 50, 2) := by decide +kernel
theorem dX11_readsTimes_19 : decode cX11_readsTimes 19 = .ok (.bipush 57, 2) := by decide +kernel
theorem dX11_readsTimes_21 : decode cX11_readsTimes 21 = .ok (.invokestatic 150, 3) := by decide +kernel
theorem dX11_readsTimes_24 : decode cX11_readsTimes 24 = .ok (.ifCond .ne 4, 3) := by decide +kernel
theorem dX11_readsTimes_27 : decode cX11_readsTimes 27 = .ok (.return_, 1) := by decide +kernel
theorem dX11_readsTimes_28 : decode cX11_readsTimes 28 = .ok (.aload_n 0, 1) := by decide +kernel
theorem dX11_readsTimes_29 : decode cX11_readsTimes 29 = .ok (.aload_n 0, 1) := by decide +kernel
theorem dX11_readsTimes_30 : decode cX11_readsTimes 30 = .ok (.invokevirtual 177, 3) := by decide +kernel
theorem dX11_readsTimes_33 : decode cX11_readsTimes 33 = .ok (.bipush 48, 2) := by decide +kernel
theorem dX11_readsTimes_35 : decode cX11_readsTimes 35 = .ok (.isub, 1) := by decide +kernel
theorem dX11_readsTimes_36 : decode cX11_readsTimes 36 = .ok (.putfield 276, 3) := by decide +kernel
theorem dX11_readsTimes_39 : decode cX11_readsTimes 39 = .ok (.aload_n 0, 1) := by decide +kernel
theorem dX11_readsTimes_40 : decode cX11_readsTimes 40 = .ok (.aload_n 0, 1) := by decide +kernel
theorem dX11_readsTimes_41 : decode cX11_readsTimes 41 = .ok (.getfield 171, 3) := by decide +kernel
theorem dX11_readsTimes_44 : decode cX11_readsTimes 44 = .ok (.iconst 1, 1) := by decide +kernel
theorem dX11_readsTimes_45 : decode cX11_readsTimes 45 = .ok (.iadd, 1) := by decide +kernel
theorem dX11_readsTimes_46 : decode cX11_readsTimes 46 = .ok (.putfield 171, 3) := by decide +kernel
theorem dX11_readsTimes_49 : decode cX11_readsTimes 49 = .ok (.return_, 1) := by decide +kernel
theorem dX11_repeats_0 : decode cX11_repeats 0 = .ok (.aload_n 0, 1) := by decide +kernel
theorem dX11_repeats_1 : decode cX11_repeats 1 = .ok (.getfield 270, 3) := by decide +kernel
theorem dX11_repeats_4 : decode cX11_repeats 4 = .ok (.iload_n 1, 1) := by decide +kernel
theorem dX11_repeats_5 : decode cX11_repeats 5 = .ok (.isub, 1) := by decide +kernel
theorem dX11_repeats_6 : decode cX11_repeats 6 = .ok (.istore 4, 2) := by decide +kernel
theorem dX11_repeats_8 : decode cX11_repeats 8 = .ok (.iload_n 1, 1) := by decide +kernel
theorem dX11_repeats_9 : decode cX11_repeats 9 = .ok (.iload 4, 2) := by decide +kernel
theorem dX11_repeats_11 : decode cX11_repeats 11 = .ok (.iload_n 2, 1) := by decide +kernel
theorem dX11_repeats_12 : decode cX11_repeats 12 = .ok (.imul, 1) := by decide +kernel
theorem dX11_repeats_13 : decode cX11_repeats 13 = .ok (.iadd, 1) := by decide +kernel
theorem dX11_repeats_14 : decode cX11_repeats 14 = .ok (.bipush 60, 2) := by decide +kernel
theorem dX11_repeats_16 : decode cX11_repeats 16 = .ok (.if_icmp .le 11, 3) := by decide +kernel
theorem dX11_repeats_19 : decode cX11_repeats 19 = .ok (.aload_n 0, 1) := by decide +kernel
theorem dX11_repeats_20 : decode cX11_repeats 20 = .ok (.bipush 6, 2) := by decide +kernel
theorem dX11_repeats_22 : decode cX11_repeats 22 = .ok (.iload_n 3, 1) := by decide +kernel
theorem dX11_repeats_23 : decode cX11_repeats 23 = .ok (.invokevirtual 184, 3) := by decide +kernel
theorem dX11_repeats_26 : decode cX11_repeats 26 = .ok (.ireturn, 1) := by decide +kernel
theorem dX11_repeats_27 : decode cX11_repeats 27 = .ok (.iload 4, 2) := by decide +kernel
theorem dX11_repeats_29 : decode cX11_repeats 29 = .ok (.istore 5, 2) := by decide +kernel
theorem dX11_repeats_31 : decode cX11_repeats 31 = .ok (.iload 5, 2) := by decide +kernel
theorem dX11_repeats_33 : decode cX11_repeats 33 = .ok (.iload 4, 2) := by decide +kernel
theorem dX11_repeats_35 : decode cX11_repeats 35 = .ok (.iload_n 2, 1) := by decide +kernel
theorem dX11_repeats_36 : decode cX11_repeats 36 = .ok (.imul, 1) := by decide +kernel
theorem dX11_repeats_37 : decode cX11_repeats 37 = .ok (.if_icmp .ge 30, 3) := by decide +kernel
theorem dX11_repeats_40 : decode cX11_repeats 40 = .ok (.aload_n 0, 1) := by decide +kernel
theorem dX11_repeats_41 : decode cX11_repeats 41 = .ok (.getfield 71, 3) := by decide +kernel
theorem dX11_repeats_44 : decode cX11_repeats 44 = .ok (.iload_n 1, 1) := by decide +kernel
theorem dX11_repeats_45 : decode cX11_repeats 45 = .ok (.iload 5, 2) := by decide +kernel
theorem dX11_repeats_47 : decode cX11_repeats 47 = .ok (.iadd, 1) := by decide +kernel
theorem dX11_repeats_48 : decode cX11_repeats 48 = .ok (.aload_n 0, 1) := by decide +kernel
theorem dX11_repeats_49 : decode cX11_repeats 49 = .ok (.getfield 71, 3) := by decide +kernel
theorem dX11_repeats_52 : decode cX11_repeats 52 = .ok (.iload_n 1, 1) := by decide +kernel
theorem dX11_repeats_53 : decode cX11_repeats 53 = .ok (.iload 5, 2) := by decide +kernel
theorem dX11_repeats_55 : decode cX11_repeats 55 = .ok (.iadd, 1) := by decide +kernel
theorem dX11_repeats_56 : decode cX11_repeats 56 = .ok (.iload 4, 2) := by decide +kernel
theorem dX11_repeats_58 : decode cX11_repeats 58 = .ok (.isub, 1) := by decide +kernel
theorem dX11_repeats_59 : decode cX11_repeats 59 = .ok (.baload, 1) := by decide +kernel
theorem dX11_repeats_60 : decode cX11_repeats 60 = .ok (.bastore, 1) := by decide +kernel
theorem dX11_repeats_61 : decode cX11_repeats 61 = .ok (.iinc 5 1, 3) := by decide +kernel
theorem dX11_repeats_64 : decode cX11_repeats 64 = .ok (.goto (-33), 3) := by decide +kernel
theorem dX11_repeats_67 : decode cX11_repeats 67 = .ok (.aload_n 0, 1) := by decide +kernel
theorem dX11_repeats_68 : decode cX11_repeats 68 = .ok (.iload_n 1, 1) := by decide +kernel
theorem dX11_repeats_69 : decode cX11_repeats 69 = .ok (.iload 4, 2) := by decide +kernel
theorem dX11_repeats_71 : decode cX11_repeats 71 = .ok (.iload_n 2, 1) := by decide +kernel
theorem dX11_repeats_72 : decode cX11_repeats 72 = .ok (.imul, 1) := by decide +kernel
theorem dX11_repeats_73 : decode cX11_repeats 73 = .ok (.iadd, 1) := by decide +kernel
theorem dX11_repeats_74 : decode cX11_repeats 74 = .ok (.putfield 270, 3) := by decide +kernel
theorem dX11_repeats_77 : decode cX11_repeats 77 = .ok (.iconst 1, 1) := by decide +kernel
theorem dX11_repeats_78 : decode cX11_repeats 78 = .ok (.ireturn, 1) := by decide +kernel
theorem dX11_walk_0 : decode cX11_walk 0 = .ok (.iload_n 1, 1) := by decide +kernel
theorem dX11_walk_1 : decode cX11_walk 1 = .ok (.iconst 2, 1) := by decide +kernel
theorem dX11_walk_2 : decode cX11_walk 2 = .ok (.invokestatic 139, 3) := by decide +kernel
theorem dX11_walk_5 : decode cX11_walk 5 = .ok (.ifCond .eq 21, 3) := by decide +kernel
theorem dX11_walk_8 : decode cX11_walk 8 = .ok (.iload_n 2, 1) := by decide +kernel
theorem dX11_walk_9 : decode cX11_walk 9 = .ok (.iconst 1, 1) := by decide +kernel
theorem dX11_walk_10 : decode cX11_walk 10 = .ok (.bipush 80, 2) := by decide +kernel
theorem dX11_walk_12 : decode cX11_walk 12 = .ok (.invokestatic 150, 3) := by decide +kernel
theorem dX11_walk_15 : decode cX11_walk 15 = .ok (.ifCond .eq 11, 3) := by decide +kernel
theorem dX11_walk_18 : decode cX11_walk 18 = .ok (.iload_n 2, 1) := by decide +kernel
theorem dX11_walk_19 : decode cX11_walk 19 = .ok (.aload_n 0, 1) := by decide +kernel
theorem dX11_walk_20 : decode cX11_walk 20 = .ok (.getfield 164, 3) := by decide +kernel
theorem dX11_walk_23 : decode cX11_walk 23 = .ok (.if_icmp .le 5, 3) := by decide +kernel
theorem dX11_walk_26 : decode cX11_walk 26 = .ok (.iconst (-1), 1) := by decide +kernel
theorem dX11_walk_27 : decode cX11_walk 27 = .ok (.ireturn, 1) := by decide +kernel
theorem dX11_walk_28 : decode cX11_walk 28 = .ok (.aload_n 0, 1) := by decide +kernel
theorem dX11_walk_29 : decode cX11_walk 29 = .ok (.iconst 0, 1) := by decide +kernel
theorem dX11_walk_30 : decode cX11_walk 30 = .ok (.putfield 171, 3) := by decide +kernel
theorem dX11_walk_33 : decode cX11_walk 33 = .ok (.aload_n 0, 1) := by decide +kernel
theorem dX11_walk_34 : decode cX11_walk 34 = .ok (.iload_n 2, 1) := by decide +kernel
theorem dX11_walk_35 : decode cX11_walk 35 = .ok (.putfield 174, 3) := by decide +kernel
theorem dX11_walk_38 : decode cX11_walk 38 = .ok (.aload_n 0, 1) := by decide +kernel
theorem dX11_walk_39 : decode cX11_walk 39 = .ok (.iconst 0, 1) := by decide +kernel
theorem dX11_walk_40 : decode cX11_walk 40 = .ok (.putfield 270, 3) := by decide +kernel
theorem dX11_walk_43 : decode cX11_walk 43 = .ok (.aload_n 0, 1) := by decide +kernel
theorem dX11_walk_44 : decode cX11_walk 44 = .ok (.iconst 0, 1) := by decide +kernel
theorem dX11_walk_45 : decode cX11_walk 45 = .ok (.putfield 282, 3) := by decide +kernel
theorem dX11_walk_48 : decode cX11_walk 48 = .ok (.aload_n 0, 1) := by decide +kernel
theorem dX11_walk_49 : decode cX11_walk 49 = .ok (.invokevirtual 291, 3) := by decide +kernel
theorem dX11_walk_52 : decode cX11_walk 52 = .ok (.istore_n 3, 1) := by decide +kernel
theorem dX11_walk_53 : decode cX11_walk 53 = .ok (.iload_n 3, 1) := by decide +kernel
theorem dX11_walk_54 : decode cX11_walk 54 = .ok (.ifCond .eq 29, 3) := by decide +kernel
theorem dX11_walk_57 : decode cX11_walk 57 = .ok (.aload_n 0, 1) := by decide +kernel
theorem dX11_walk_58 : decode cX11_walk 58 = .ok (.getfield 171, 3) := by decide +kernel
theorem dX11_walk_61 : decode cX11_walk 61 = .ok (.aload_n 0, 1) := by decide +kernel
theorem dX11_walk_62 : decode cX11_walk 62 = .ok (.getfield 174, 3) := by decide +kernel
theorem dX11_walk_65 : decode cX11_walk 65 = .ok (.if_icmp .lt 10, 3) := by decide +kernel
theorem dX11_walk_68 : decode cX11_walk 68 = .ok (.aload_n 0, 1) := by decide +kernel
theorem dX11_walk_69 : decode cX11_walk 69 = .ok (.getfield 282, 3) := by decide +kernel
theorem dX11_walk_72 : decode cX11_walk 72 = .ok (.ifCond .le 11, 3) := by decide +kernel
theorem dX11_walk_75 : decode cX11_walk 75 = .ok (.aload_n 0, 1) := by decide +kernel
theorem dX11_walk_76 : decode cX11_walk 76 = .ok (.invokevirtual 291, 3) := by decide +kernel
theorem dX11_walk_79 : decode cX11_walk 79 = .ok (.istore_n 3, 1) := by decide +kernel
theorem dX11_walk_80 : decode cX11_walk 80 = .ok (.goto (-27), 3) := by decide +kernel
theorem dX11_walk_83 : decode cX11_walk 83 = .ok (.aload_n 0, 1) := by decide +kernel
theorem dX11_walk_84 : decode cX11_walk 84 = .ok (.iconst 0, 1) := by decide +kernel
theorem dX11_walk_85 : decode cX11_walk 85 = .ok (.putfield 164, 3) := by decide +kernel
theorem dX11_walk_88 : decode cX11_walk 88 = .ok (.iload_n 3, 1) := by decide +kernel
theorem dX11_walk_89 : decode cX11_walk 89 = .ok (.ifCond .ne 8, 3) := by decide +kernel
theorem dX11_walk_92 : decode cX11_walk 92 = .ok (.aload_n 0, 1) := by decide +kernel
theorem dX11_walk_93 : decode cX11_walk 93 = .ok (.getfield 181, 3) := by decide +kernel
theorem dX11_walk_96 : decode cX11_walk 96 = .ok (.ireturn, 1) := by decide +kernel
theorem dX11_walk_97 : decode cX11_walk 97 = .ok (.aload_n 0, 1) := by decide +kernel
theorem dX11_walk_98 : decode cX11_walk 98 = .ok (.getfield 25, 3) := by decide +kernel
theorem dX11_walk_101 : decode cX11_walk 101 = .ok (.iload_n 1, 1) := by decide +kernel
theorem dX11_walk_102 : decode cX11_walk 102 = .ok (.aload_n 0, 1) := by decide +kernel
theorem dX11_walk_103 : decode cX11_walk 103 = .ok (.getfield 270, 3) := by decide +kernel
theorem dX11_walk_106 : decode cX11_walk 106 = .ok (.iastore, 1) := by decide +kernel
theorem dX11_walk_107 : decode cX11_walk 107 = .ok (.aload_n 0, 1) := by decide +kernel
theorem dX11_walk_108 : decode cX11_walk 108 = .ok (.getfield 7, 3) := by decide +kernel
theorem dX11_walk_111 : decode cX11_walk 111 = .ok (.iconst 2, 1) := by decide +kernel
theorem dX11_walk_112 : decode cX11_walk 112 = .ok (.iload_n 1, 1) := by decide +kernel
theorem dX11_walk_113 : decode cX11_walk 113 = .ok (.iadd, 1) := by decide +kernel
theorem dX11_walk_114 : decode cX11_walk 114 = .ok (.iconst 0, 1) := by decide +kernel
theorem dX11_walk_115 : decode cX11_walk 115 = .ok (.iastore, 1) := by decide +kernel
theorem dX11_walk_116 : decode cX11_walk 116 = .ok (.iconst 0, 1) := by decide +kernel
theorem dX11_walk_117 : decode cX11_walk 117 = .ok (.istore 4, 2) := by decide +kernel
theorem dX11_walk_119 : decode cX11_walk 119 = .ok (.iload 4, 2) := by decide +kernel
theorem dX11_walk_121 : decode cX11_walk 121 = .ok (.aload_n 0, 1) := by decide +kernel
theorem dX11_walk_122 : decode cX11_walk 122 = .ok (.getfield 270, 3) := by decide +kernel
theorem dX11_walk_125 : decode cX11_walk 125 = .ok (.if_icmp .ge 28, 3) := by decide +kernel
theorem dX11_walk_128 : decode cX11_walk 128 = .ok (.aload_n 0, 1) := by decide +kernel
theorem dX11_walk_129 : decode cX11_walk 129 = .ok (.getfield 28, 3) := by decide +kernel
theorem dX11_walk_132 : decode cX11_walk 132 = .ok (.bipush 60, 2) := by decide +kernel
theorem dX11_walk_134 : decode cX11_walk 134 = .ok (.iload_n 1, 1) := by decide +kernel
theorem dX11_walk_135 : decode cX11_walk 135 = .ok (.imul, 1) := by decide +kernel
theorem dX11_walk_136 : decode cX11_walk 136 = .ok (.iload 4, 2) := by decide +kernel
theorem dX11_walk_138 : decode cX11_walk 138 = .ok (.iadd, 1) := by decide +kernel
theorem dX11_walk_139 : decode cX11_walk 139 = .ok (.aload_n 0, 1) := by decide +kernel
theorem dX11_walk_140 : decode cX11_walk 140 = .ok (.getfield 71, 3) := by decide +kernel
theorem dX11_walk_143 : decode cX11_walk 143 = .ok (.iload 4, 2) := by decide +kernel
theorem dX11_walk_145 : decode cX11_walk 145 = .ok (.baload, 1) := by decide +kernel
theorem dX11_walk_146 : decode cX11_walk 146 = .ok (.bastore, 1) := by decide +kernel
theorem dX11_walk_147 : decode cX11_walk 147 = .ok (.iinc 4 1, 3) := by decide +kernel
theorem dX11_walk_150 : decode cX11_walk 150 = .ok (.goto (-31), 3) := by decide +kernel
theorem dX11_walk_153 : decode cX11_walk 153 = .ok (.aload_n 0, 1) := by decide +kernel
theorem dX11_walk_154 : decode cX11_walk 154 = .ok (.getfield 270, 3) := by decide +kernel
theorem dX11_walk_157 : decode cX11_walk 157 = .ok (.ireturn, 1) := by decide +kernel


set_option maxHeartbeats 4000000 in
set_option maxRecDepth 100000 in
theorem c_X11_repeats (l : Launch) (D : va_G) (g : xG) (T : Nat × Nat × Nat) (h0 : Nat) (s0 : xS) (hσ : xRR s0) (a : Int) (ra : xR a) (b : Int) (rb : xR b) (q : Int) (rq : xR q) (ha0 : 0 ≤ a ∧ a ≤ s0 268 34 ∧ s0 268 34 ≤ 60) (hb0 : 1 ≤ b ∧ b ≤ 9) (p0 : IMn s0) (p1 : IMk s0) (p2 : IMo s0) (p3 : IR s0) : Met l yX11_repeats (xws yX11_repeats cX11_repeats 6 (some .boolean)) { frames := 1, cells := 0, slots := 0, locals := 22 } (xP [.ref (h0 + 268), .int (xJ a), .int (xJ b), .int (xJ q)] D g T h0 s0) (xQi D g h0 (fun r τ => xFr (fun k => k = 268 ∨ k = 289) s0 τ ∧ (((IMn τ) ∧ (IMk τ) ∧ (IMo τ) ∧ (IR τ) ∧ (τ 268 8 = s0 268 8) ∧ (τ 268 58 = s0 268 58) ∧ (τ 268 9 = s0 268 9) ∧ (τ 268 10 = s0 268 10) ∧ (τ 268 14 = s0 268 14) ∧ (τ 268 15 = s0 268 15) ∧ (τ 268 16 = s0 268 16) ∧ (τ 268 35 = s0 268 35) ∧ (τ 268 36 = s0 268 36) ∧ (τ 268 37 = s0 268 37) ∧ True) ∧ (r = 0 ∨ (r = 1 ∧ s0 268 34 ≤ τ 268 34 ∧ τ 268 34 ≤ 60))))) 0 0 (xA h0) := by
  refine x_met hσ (by decide) (Nat.le_of_ble_eq_true rfl) ?_
  intro p e s m args below meth c hx hb hr hml hown hT hlk hnm hE hW ls hl
  have hl : lv_has ls 6 [(0, .ref (h0 + 268)), (1, .int (xJ a)), (2, .int (xJ b)), (3, .int (xJ q))] := hl
  obtain ⟨Q, eQ⟩ : ∃ Q, Q = MQ below (xQi D g h0 (fun r τ => xFr (fun k => k = 268 ∨ k = 289) s0 τ ∧ (((IMn τ) ∧ (IMk τ) ∧ (IMo τ) ∧ (IR τ) ∧ (τ 268 8 = s0 268 8) ∧ (τ 268 58 = s0 268 58) ∧ (τ 268 9 = s0 268 9) ∧ (τ 268 10 = s0 268 10) ∧ (τ 268 14 = s0 268 14) ∧ (τ 268 15 = s0 268 15) ∧ (τ 268 16 = s0 268 16) ∧ (τ 268 35 = s0 268 35) ∧ (τ 268 36 = s0 268 36) ∧ (τ 268 37 = s0 268 37) ∧ True) ∧ (r = 0 ∨ (r = 1 ∧ s0 268 34 ≤ τ 268 34 ∧ τ 268 34 ≤ 60))))) args s 0 0 (xA h0) := ⟨_, rfl⟩
  rw [← eQ]
  generalize hHe : ([] : List Loc) = locs at hW ⊢
  obtain ⟨H, eH⟩ : ∃ H, H = s.heap := ⟨_, rfl⟩
  rw [← eH] at hW ⊢
  have hF : xFr (fun k => k = 268 ∨ k = 289) s0 s0 := xFr.rf
  have k268_8 : s0 268 8 = s0 268 8 := rfl
  have k268_58 : s0 268 58 = s0 268 58 := rfl
  have k268_9 : s0 268 9 = s0 268 9 := rfl
  have k268_10 : s0 268 10 = s0 268 10 := rfl
  have k268_14 : s0 268 14 = s0 268 14 := rfl
  have k268_15 : s0 268 15 = s0 268 15 := rfl
  have k268_16 : s0 268 16 = s0 268 16 := rfl
  have k268_35 : s0 268 35 = s0 268 35 := rfl
  have k268_36 : s0 268 36 = s0 268 36 := rfl
  have k268_37 : s0 268 37 = s0 268 37 := rfl
  have k268_34 : s0 268 34 = s0 268 34 := rfl
  refine x_aload_n hx hb hl 0 rfl dX11_repeats_0 rfl ?_
  refine x_get (j := 34) (v := .int (xJ (s0 268 34))) hx hb hown hT hE hW cls_X11 (Or.inl (by decide)) (so_268 h0 g _) (by decide) rfl wq1219 dX11_repeats_1 ?_
  refine x_rd hW (fun x1 ex1 rx1 => ?_)
  have fx1 : x1 = s0 268 34 := ex1.trans k268_34
  refine x_iload_n hx hb hl 1 rfl dX11_repeats_4 rfl ?_
  refine x_isub hx hb dX11_repeats_5 ?_
  refine x_nm (fun x2 ex2 => ?_)
  refine lv_istore (lv' := [(4, .int (xJ x2)), (0, .ref (h0 + 268)), (1, .int (xJ a)), (2, .int (xJ b)), (3, .int (xJ q))]) hx hb dX11_repeats_6 hl (by decide) rfl (fun ls hl => ?_)
  have mb := xmulr (by omega : 0 ≤ x2) hb0
  refine x_iload_n hx hb hl 2 rfl dX11_repeats_8 rfl ?_
  refine x_iload hx hb hl 0 rfl dX11_repeats_9 ?_
  refine x_iload_n hx hb hl 3 rfl dX11_repeats_11 rfl ?_
  refine x_imul hx hb dX11_repeats_12 ?_
  refine x_iadd hx hb dX11_repeats_13 ?_
  refine x_bipush hx hb dX11_repeats_14 (by decide) ?_
  refine x_icmp_le (tgt := 27) hx hb (by omega) (by decide) dX11_repeats_16 (by decide) (fun c3 => ?_) (fun c3 => ?_)
  · skip
    refine x_iload hx hb hl 0 rfl dX11_repeats_27 ?_
    refine lv_istore (lv' := [(5, .int (xJ x2)), (4, .int (xJ x2)), (0, .ref (h0 + 268)), (1, .int (xJ a)), (2, .int (xJ b)), (3, .int (xJ q))]) hx hb dX11_repeats_29 hl (by decide) rfl (fun ls hl => ?_)
    have L31 : ∀ (fu : Nat) (i5_31 : Int) (s_31 : xS) (H : Heap) (locs : List Loc) (ls : Array Slot), (xR i5_31) → (xFr (fun k => k = 268 ∨ k = 289) s0 s_31) → (IMn s_31) → (IMk s_31) → (IMo s_31) → (IR s_31) → (s_31 268 8 = s0 268 8) → (s_31 268 58 = s0 268 58) → (s_31 268 9 = s0 268 9) → (s_31 268 10 = s0 268 10) → (s_31 268 14 = s0 268 14) → (s_31 268 15 = s0 268 15) → (s_31 268 16 = s0 268 16) → (s_31 268 35 = s0 268 35) → (s_31 268 36 = s0 268 36) → (s_31 268 37 = s0 268 37) → (s_31 268 34 = s0 268 34) → (x2 ≤ i5_31) → (x2 * b - i5_31).toNat < fu → xW D g h0 s H locs s_31 → lv_has ls 6 [(0, .ref (h0 + 268)), (1, .int (xJ a)), (2, .int (xJ b)), (4, .int (xJ x2)), (5, .int (xJ i5_31))] → W p l e { frames := 1, cells := 0, slots := 0, locals := 22 } s m args below meth c H locs 0 0 Q (F0 m 31 ls []) := by
      intro fu
      induction fu with
      | zero => intro i5_31 s_31 H locs ls ri5_31 hF_31 q31_0 q31_1 q31_2 q31_3 q31_4 q31_5 q31_6 q31_7 q31_8 q31_9 q31_10 q31_11 q31_12 q31_13 q31_14 v31_0 hm; exact absurd hm (Nat.not_lt_zero _)
      | succ fu ih31 =>
        intro i5_31 s_31 H locs ls ri5_31 hF_31 q31_0 q31_1 q31_2 q31_3 q31_4 q31_5 q31_6 q31_7 q31_8 q31_9 q31_10 q31_11 q31_12 q31_13 q31_14 v31_0 hm hW hl
        refine x_iload hx hb hl 4 rfl dX11_repeats_31 ?_
        refine x_iload hx hb hl 3 rfl dX11_repeats_33 ?_
        refine x_iload_n hx hb hl 2 rfl dX11_repeats_35 rfl ?_
        refine x_imul hx hb dX11_repeats_36 ?_
        refine x_icmp_ge (tgt := 67) hx hb ri5_31 (by omega) dX11_repeats_37 (by decide) (fun c4 => ?_) (fun c4 => ?_)
        · skip
          refine x_aload_n hx hb hl 0 rfl dX11_repeats_67 rfl ?_
          refine x_iload_n hx hb hl 1 rfl dX11_repeats_68 rfl ?_
          refine x_iload hx hb hl 3 rfl dX11_repeats_69 ?_
          refine x_iload_n hx hb hl 2 rfl dX11_repeats_71 rfl ?_
          refine x_imul hx hb dX11_repeats_72 ?_
          refine x_iadd hx hb dX11_repeats_73 ?_
          refine x_put (j := 34) hx hb hown hT hE hW cls_X11 (by decide) (fun σ => so_268 h0 g σ) (by decide) (st_X11_34 h0 s_31 268 (a + (x2 * b))) (ln_X11_34 h0 _ _) wq1219 rfl rfl rfl (by omega) dX11_repeats_74 (fun H locs s5 es5 hW => ?_)
          have q6 : IMn s5 := by rw [es5]; exact IMn_268 q31_0 (by omega)
          have q7 : IMk s5 := by rw [es5]; exact IMk_268 q31_1 (by omega)
          have q8 : IMo s5 := by rw [es5]; exact IMo_o (by unfold suIMo; omega) q31_2
          have q9 : IR s5 := by rw [es5]; exact IR_268 q31_3 (by omega)
          have q10 : s5 268 8 = s0 268 8 := (show s5 268 8 = s_31 268 8 from by rw [es5, xU_j _ _ (by decide)]).trans q31_4
          have q11 : s5 268 58 = s0 268 58 := (show s5 268 58 = s_31 268 58 from by rw [es5, xU_j _ _ (by decide)]).trans q31_5
          have q12 : s5 268 9 = s0 268 9 := (show s5 268 9 = s_31 268 9 from by rw [es5, xU_j _ _ (by decide)]).trans q31_6
          have q13 : s5 268 10 = s0 268 10 := (show s5 268 10 = s_31 268 10 from by rw [es5, xU_j _ _ (by decide)]).trans q31_7
          have q14 : s5 268 14 = s0 268 14 := (show s5 268 14 = s_31 268 14 from by rw [es5, xU_j _ _ (by decide)]).trans q31_8
          have q15 : s5 268 15 = s0 268 15 := (show s5 268 15 = s_31 268 15 from by rw [es5, xU_j _ _ (by decide)]).trans q31_9
          have q16 : s5 268 16 = s0 268 16 := (show s5 268 16 = s_31 268 16 from by rw [es5, xU_j _ _ (by decide)]).trans q31_10
          have q17 : s5 268 35 = s0 268 35 := (show s5 268 35 = s_31 268 35 from by rw [es5, xU_j _ _ (by decide)]).trans q31_11
          have q18 : s5 268 36 = s0 268 36 := (show s5 268 36 = s_31 268 36 from by rw [es5, xU_j _ _ (by decide)]).trans q31_12
          have q19 : s5 268 37 = s0 268 37 := (show s5 268 37 = s_31 268 37 from by rw [es5, xU_j _ _ (by decide)]).trans q31_13
          have q20 : s5 268 34 = (a + (x2 * b)) := by rw [es5, xU_s]
          have hF21 := hF_31.put es5 (by omega)
          refine x_iconst hx hb dX11_repeats_77 ?_
          rw [eQ]
          exact x_zret hx hb hr hlk hW (by omega) ⟨hF21, ⟨q6, q7, q8, q9, q10, q11, q12, q13, q14, q15, q16, q17, q18, q19, trivial⟩, by omega⟩ dX11_repeats_78
        refine x_aload_n hx hb hl 0 rfl dX11_repeats_40 rfl ?_
        refine x_get (j := 30) (v := .ref (h0 + 289)) hx hb hown hT hE hW cls_X11 (Or.inl (by decide)) (so_268 h0 g _) (by decide) rfl wq1215 dX11_repeats_41 ?_
        refine x_iload_n hx hb hl 1 rfl dX11_repeats_44 rfl ?_
        refine x_iload hx hb hl 4 rfl dX11_repeats_45 ?_
        refine x_iadd hx hb dX11_repeats_47 ?_
        refine x_aload_n hx hb hl 0 rfl dX11_repeats_48 rfl ?_
        refine x_get (j := 30) (v := .ref (h0 + 289)) hx hb hown hT hE hW cls_X11 (Or.inl (by decide)) (so_268 h0 g _) (by decide) rfl wq1215 dX11_repeats_49 ?_
        refine x_iload_n hx hb hl 1 rfl dX11_repeats_52 rfl ?_
        refine x_iload hx hb hl 4 rfl dX11_repeats_53 ?_
        refine x_iadd hx hb dX11_repeats_55 ?_
        refine x_iload hx hb hl 3 rfl dX11_repeats_56 ?_
        refine x_isub hx hb dX11_repeats_58 ?_
        refine x_bald hx hb hE hW (Or.inl (by decide)) (sa_289 h0 g _) (by omega) (by decide) dX11_repeats_59 ?_
        refine x_rd hW (fun x22 ex22 rx22 => ?_)
        obtain ⟨y24, ey24, ry24⟩ := xnb x22
        refine x_bast (w := y24) hx hb hE hW (by decide) (fun σ => sa_289 h0 g σ) (by omega) (by decide) ey24 ry24 dX11_repeats_60 (fun H locs s23 es23 hW => ?_)
        have q25 : IMn s23 := by rw [es23]; exact IMn_o (by unfold suIMn; omega) q31_0
        have q26 : IMk s23 := by rw [es23]; exact IMk_o (by unfold suIMk; omega) q31_1
        have q27 : IMo s23 := by rw [es23]; exact IMo_o (by unfold suIMo; omega) q31_2
        have q28 : IR s23 := by rw [es23]; exact IR_o (by unfold suIR; omega) q31_3
        have q29 : s23 268 8 = s0 268 8 := (show s23 268 8 = s_31 268 8 from by rw [es23, xU_k _ _ _ (by omega)]).trans q31_4
        have q30 : s23 268 58 = s0 268 58 := (show s23 268 58 = s_31 268 58 from by rw [es23, xU_k _ _ _ (by omega)]).trans q31_5
        have q31 : s23 268 9 = s0 268 9 := (show s23 268 9 = s_31 268 9 from by rw [es23, xU_k _ _ _ (by omega)]).trans q31_6
        have q32 : s23 268 10 = s0 268 10 := (show s23 268 10 = s_31 268 10 from by rw [es23, xU_k _ _ _ (by omega)]).trans q31_7
        have q33 : s23 268 14 = s0 268 14 := (show s23 268 14 = s_31 268 14 from by rw [es23, xU_k _ _ _ (by omega)]).trans q31_8
        have q34 : s23 268 15 = s0 268 15 := (show s23 268 15 = s_31 268 15 from by rw [es23, xU_k _ _ _ (by omega)]).trans q31_9
        have q35 : s23 268 16 = s0 268 16 := (show s23 268 16 = s_31 268 16 from by rw [es23, xU_k _ _ _ (by omega)]).trans q31_10
        have q36 : s23 268 35 = s0 268 35 := (show s23 268 35 = s_31 268 35 from by rw [es23, xU_k _ _ _ (by omega)]).trans q31_11
        have q37 : s23 268 36 = s0 268 36 := (show s23 268 36 = s_31 268 36 from by rw [es23, xU_k _ _ _ (by omega)]).trans q31_12
        have q38 : s23 268 37 = s0 268 37 := (show s23 268 37 = s_31 268 37 from by rw [es23, xU_k _ _ _ (by omega)]).trans q31_13
        have q39 : s23 268 34 = s0 268 34 := (show s23 268 34 = s_31 268 34 from by rw [es23, xU_k _ _ _ (by omega)]).trans q31_14
        have hF40 := hF_31.put es23 (by omega)
        refine x_iinc (lv' := [(5, .int (xJ (i5_31 + 1))), (0, .ref (h0 + 268)), (1, .int (xJ a)), (2, .int (xJ b)), (4, .int (xJ x2))]) hx hb hl 4 rfl dX11_repeats_61 (by decide) rfl (fun ls hl => ?_)
        refine lv_goto (tgt := 31) hx hb dX11_repeats_64 (by decide) ?_
        exact ih31 (i5_31 + 1) s23 H locs ls (by omega) hF40 q25 q26 q27 q28 q29 q30 q31 q32 q33 q34 q35 q36 q37 q38 q39 (by omega) (by omega) hW (lv_sub hl [1, 2, 3, 4, 0] rfl)
    exact L31 ((x2 * b - x2 : Int).toNat + 1) x2 s0 H locs ls (by omega) hF p0 p1 p2 p3 k268_8 k268_58 k268_9 k268_10 k268_14 k268_15 k268_16 k268_35 k268_36 k268_37 k268_34 (by omega) (Nat.lt_succ_self _) hW (lv_sub hl [2, 3, 4, 1, 0] rfl)
  refine x_aload_n hx hb hl 1 rfl dX11_repeats_19 rfl ?_
  refine x_bipush hx hb dX11_repeats_20 (by decide) ?_
  refine x_iload_n hx hb hl 4 rfl dX11_repeats_22 rfl ?_
  refine x_goi (x_runV (As := [.int (xJ 6), .int (xJ q)]) hx hb hml hown hT hE hW hl.1 (Or.inl (by decide)) (so_268 h0 g _) rfl cf_X11_wrongAt wq1401 wq107 wq1399 (c_X11_wrongAt l D g T h0 s0 hW.2.1 6 (by decide) q rq p0 p1 p2 p3) ⟨rfl, rfl, ⟨by decide, by decide⟩, ⟨by decide, by decide⟩⟩ rfl rfl (Nat.le_of_ble_eq_true rfl) dX11_repeats_23) hW (fun x41 s42 H locs rx41 hp43 hW => ?_)
  obtain ⟨fs42, hp43⟩ := hp43
  have hF44 := hF.call fs42 (fun k h => by omega)
  have ghp43 := hp43.2
  rw [eQ]
  exact x_zret hx hb hr hlk hW (by omega) ⟨hF44, ⟨hp43.1.1, hp43.1.2.1, hp43.1.2.2.1, hp43.1.2.2.2.1, (hp43.1.2.2.2.2.1.trans k268_8), (hp43.1.2.2.2.2.2.1.trans k268_58), (hp43.1.2.2.2.2.2.2.1.trans k268_9), (hp43.1.2.2.2.2.2.2.2.1.trans k268_10), (hp43.1.2.2.2.2.2.2.2.2.1.trans k268_14), (hp43.1.2.2.2.2.2.2.2.2.2.1.trans k268_15), (hp43.1.2.2.2.2.2.2.2.2.2.2.1.trans k268_16), (hp43.1.2.2.2.2.2.2.2.2.2.2.2.2.1.trans k268_35), (hp43.1.2.2.2.2.2.2.2.2.2.2.2.2.2.1.trans k268_36), (hp43.1.2.2.2.2.2.2.2.2.2.2.2.2.2.2.1.trans k268_37), trivial⟩, by omega⟩ dX11_repeats_26
set_option maxHeartbeats 4000000 in
set_option maxRecDepth 100000 in
theorem c_X11_readsTimes (l : Launch) (D : va_G) (g : xG) (T : Nat × Nat × Nat) (h0 : Nat) (s0 : xS) (hσ : xRR s0) (p0 : IMn s0) (p1 : IMk s0) (p2 : IMo s0) (p3 : IR s0) : Met l yX11_readsTimes (xws yX11_readsTimes cX11_readsTimes 1 none) { frames := 1, cells := 0, slots := 0, locals := 22 } (xP [.ref (h0 + 268)] D g T h0 s0) (xQv D g h0 (fun τ => xFr (fun k => k = 268) s0 τ ∧ (((IMn τ) ∧ (IMk τ) ∧ (IMo τ) ∧ (IR τ) ∧ (τ 268 8 = s0 268 8) ∧ (τ 268 58 = s0 268 58) ∧ (τ 268 10 = s0 268 10) ∧ (τ 268 14 = s0 268 14) ∧ (τ 268 15 = s0 268 15) ∧ (τ 268 16 = s0 268 16) ∧ (τ 268 34 = s0 268 34) ∧ (τ 268 35 = s0 268 35) ∧ True) ∧ ((1 ≤ τ 268 37 ∧ τ 268 37 ≤ 9) ∧ s0 268 9 ≤ τ 268 9)))) 0 0 (xA h0) := by
  refine x_met hσ (by decide) (Nat.le_of_ble_eq_true rfl) ?_
  intro p e s m args below meth c hx hb hr hml hown hT hlk hnm hE hW ls hl
  have hl : lv_has ls 1 [(0, .ref (h0 + 268))] := hl
  obtain ⟨Q, eQ⟩ : ∃ Q, Q = MQ below (xQv D g h0 (fun τ => xFr (fun k => k = 268) s0 τ ∧ (((IMn τ) ∧ (IMk τ) ∧ (IMo τ) ∧ (IR τ) ∧ (τ 268 8 = s0 268 8) ∧ (τ 268 58 = s0 268 58) ∧ (τ 268 10 = s0 268 10) ∧ (τ 268 14 = s0 268 14) ∧ (τ 268 15 = s0 268 15) ∧ (τ 268 16 = s0 268 16) ∧ (τ 268 34 = s0 268 34) ∧ (τ 268 35 = s0 268 35) ∧ True) ∧ ((1 ≤ τ 268 37 ∧ τ 268 37 ≤ 9) ∧ s0 268 9 ≤ τ 268 9)))) args s 0 0 (xA h0) := ⟨_, rfl⟩
  rw [← eQ]
  generalize hHe : ([] : List Loc) = locs at hW ⊢
  obtain ⟨H, eH⟩ : ∃ H, H = s.heap := ⟨_, rfl⟩
  rw [← eH] at hW ⊢
  have hF : xFr (fun k => k = 268) s0 s0 := xFr.rf
  have k268_8 : s0 268 8 = s0 268 8 := rfl
  have k268_58 : s0 268 58 = s0 268 58 := rfl
  have k268_10 : s0 268 10 = s0 268 10 := rfl
  have k268_14 : s0 268 14 = s0 268 14 := rfl
  have k268_15 : s0 268 15 = s0 268 15 := rfl
  have k268_16 : s0 268 16 = s0 268 16 := rfl
  have k268_34 : s0 268 34 = s0 268 34 := rfl
  have k268_35 : s0 268 35 = s0 268 35 := rfl
  have k268_9 : s0 268 9 = s0 268 9 := rfl
  refine x_aload_n hx hb hl 0 rfl dX11_readsTimes_0 rfl ?_
  refine x_aload_n hx hb hl 0 rfl dX11_readsTimes_1 rfl ?_
  refine x_get (j := 9) (v := .int (xJ (s0 268 9))) hx hb hown hT hE hW cls_X11 (Or.inl (by decide)) (so_268 h0 g _) (by decide) rfl wq1194 dX11_readsTimes_2 ?_
  refine x_rd hW (fun x1 ex1 rx1 => ?_)
  have bx1 : 0 ≤ x1 ∧ x1 ≤ s0 268 10 ∧ s0 268 10 ≤ 240 := by rw [ex1]; exact p3
  have fx1 : x1 = s0 268 9 := ex1.trans k268_9
  refine x_put (j := 36) hx hb hown hT hE hW cls_X11 (by decide) (fun σ => so_268 h0 g σ) (by decide) (st_X11_36 h0 s0 268 x1) (ln_X11_36 h0 _ _) wq1221 rfl rfl rfl rx1 dX11_readsTimes_5 (fun H locs s2 es2 hW => ?_)
  have q3 : IMn s2 := by rw [es2]; exact IMn_268 p0 (by omega)
  have q4 : IMk s2 := by rw [es2]; exact IMk_268 p1 (by omega)
  have q5 : IMo s2 := by rw [es2]; exact IMo_o (by unfold suIMo; omega) p2
  have q6 : IR s2 := by rw [es2]; exact IR_268 p3 (by omega)
  have q7 : s2 268 8 = s0 268 8 := (show s2 268 8 = s0 268 8 from by rw [es2, xU_j _ _ (by decide)]).trans k268_8
  have q8 : s2 268 58 = s0 268 58 := (show s2 268 58 = s0 268 58 from by rw [es2, xU_j _ _ (by decide)]).trans k268_58
  have q9 : s2 268 10 = s0 268 10 := (show s2 268 10 = s0 268 10 from by rw [es2, xU_j _ _ (by decide)]).trans k268_10
  have q10 : s2 268 14 = s0 268 14 := (show s2 268 14 = s0 268 14 from by rw [es2, xU_j _ _ (by decide)]).trans k268_14
  have q11 : s2 268 15 = s0 268 15 := (show s2 268 15 = s0 268 15 from by rw [es2, xU_j _ _ (by decide)]).trans k268_15
  have q12 : s2 268 16 = s0 268 16 := (show s2 268 16 = s0 268 16 from by rw [es2, xU_j _ _ (by decide)]).trans k268_16
  have q13 : s2 268 34 = s0 268 34 := (show s2 268 34 = s0 268 34 from by rw [es2, xU_j _ _ (by decide)]).trans k268_34
  have q14 : s2 268 35 = s0 268 35 := (show s2 268 35 = s0 268 35 from by rw [es2, xU_j _ _ (by decide)]).trans k268_35
  have q15 : s2 268 9 = s0 268 9 := (show s2 268 9 = s0 268 9 from by rw [es2, xU_j _ _ (by decide)]).trans k268_9
  have hF16 := hF.put es2 (by omega)
  refine x_aload_n hx hb hl 0 rfl dX11_readsTimes_8 rfl ?_
  refine x_iconst hx hb dX11_readsTimes_9 ?_
  refine x_put (j := 37) hx hb hown hT hE hW cls_X11 (by decide) (fun σ => so_268 h0 g σ) (by decide) (st_X11_37 h0 s2 268 1) (ln_X11_37 h0 _ _) wq1222 rfl rfl rfl (by decide) dX11_readsTimes_10 (fun H locs s17 es17 hW => ?_)
  have q18 : IMn s17 := by rw [es17]; exact IMn_268 q3 (by omega)
  have q19 : IMk s17 := by rw [es17]; exact IMk_268 q4 (by omega)
  have q20 : IMo s17 := by rw [es17]; exact IMo_o (by unfold suIMo; omega) q5
  have q21 : IR s17 := by rw [es17]; exact IR_268 q6 (by omega)
  have q22 : s17 268 8 = s0 268 8 := (show s17 268 8 = s2 268 8 from by rw [es17, xU_j _ _ (by decide)]).trans q7
  have q23 : s17 268 58 = s0 268 58 := (show s17 268 58 = s2 268 58 from by rw [es17, xU_j _ _ (by decide)]).trans q8
  have q24 : s17 268 10 = s0 268 10 := (show s17 268 10 = s2 268 10 from by rw [es17, xU_j _ _ (by decide)]).trans q9
  have q25 : s17 268 14 = s0 268 14 := (show s17 268 14 = s2 268 14 from by rw [es17, xU_j _ _ (by decide)]).trans q10
  have q26 : s17 268 15 = s0 268 15 := (show s17 268 15 = s2 268 15 from by rw [es17, xU_j _ _ (by decide)]).trans q11
  have q27 : s17 268 16 = s0 268 16 := (show s17 268 16 = s2 268 16 from by rw [es17, xU_j _ _ (by decide)]).trans q12
  have q28 : s17 268 34 = s0 268 34 := (show s17 268 34 = s2 268 34 from by rw [es17, xU_j _ _ (by decide)]).trans q13
  have q29 : s17 268 35 = s0 268 35 := (show s17 268 35 = s2 268 35 from by rw [es17, xU_j _ _ (by decide)]).trans q14
  have q30 : s17 268 9 = s0 268 9 := (show s17 268 9 = s2 268 9 from by rw [es17, xU_j _ _ (by decide)]).trans q15
  have q31 : s17 268 37 = 1 := by rw [es17, xU_s]
  have hF32 := hF16.put es17 (by omega)
  refine x_aload_n hx hb hl 0 rfl dX11_readsTimes_13 rfl ?_
  refine x_goi (x_runV (As := []) hx hb hml hown hT hE hW hl.1 (Or.inl (by decide)) (so_268 h0 g _) rfl cf_X11_here wq1391 wq106 wq1389 (c_X11_here l D g T h0 s17 hW.2.1 q18 q19 q20 q21) ⟨rfl, rfl, ⟨by decide, by decide⟩, ⟨by decide, by decide⟩⟩ rfl rfl (Nat.le_of_ble_eq_true rfl) dX11_readsTimes_14) hW (fun x33 s34 H locs rx33 hp35 hW => ?_)
  obtain ⟨es34, hp35⟩ := hp35
  subst es34
  have ghp35 := hp35
  refine x_bipush hx hb dX11_readsTimes_17 (by decide) ?_
  refine x_bipush hx hb dX11_readsTimes_19 (by decide) ?_
  refine x_goi (x_runS (As := [.int (xJ x33), .int (xJ 50), .int (xJ 57)]) hx hb hml hown hT hE hW hl.1 cf_X11_in wq1383 wq1382 (c_X11_in l D g T h0 s17 hW.2.1 x33 rx33 50 (by decide) 57 (by decide)) ⟨rfl, rfl, ⟨by decide, by decide⟩, ⟨by decide, by decide⟩⟩ rfl rfl (Nat.le_of_ble_eq_true rfl) dX11_readsTimes_21) hW (fun x36 s37 H locs rx36 hp38 hW => ?_)
  obtain ⟨es37, hp38⟩ := hp38
  subst es37
  have ghp38 := hp38
  refine x_if_ne (tgt := 28) hx hb rx36 dX11_readsTimes_24 (by decide) (fun c39 => ?_) (fun c39 => ?_)
  · skip
    refine x_aload_n hx hb hl 0 rfl dX11_readsTimes_28 rfl ?_
    refine x_aload_n hx hb hl 0 rfl dX11_readsTimes_29 rfl ?_
    refine x_goi (x_runV (As := []) hx hb hml hown hT hE hW hl.1 (Or.inl (by decide)) (so_268 h0 g _) rfl cf_X11_here wq1391 wq106 wq1389 (c_X11_here l D g T h0 s17 hW.2.1 q18 q19 q20 q21) ⟨rfl, rfl, ⟨by decide, by decide⟩, ⟨by decide, by decide⟩⟩ rfl rfl (Nat.le_of_ble_eq_true rfl) dX11_readsTimes_30) hW (fun x40 s41 H locs rx40 hp42 hW => ?_)
    obtain ⟨es41, hp42⟩ := hp42
    subst es41
    have ghp42 := hp42
    refine x_bipush hx hb dX11_readsTimes_33 (by decide) ?_
    refine x_isub hx hb dX11_readsTimes_35 ?_
    refine x_put (j := 37) hx hb hown hT hE hW cls_X11 (by decide) (fun σ => so_268 h0 g σ) (by decide) (st_X11_37 h0 s17 268 (x40 - 48)) (ln_X11_37 h0 _ _) wq1222 rfl rfl rfl (by omega) dX11_readsTimes_36 (fun H locs s43 es43 hW => ?_)
    have q44 : IMn s43 := by rw [es43]; exact IMn_268 q18 (by omega)
    have q45 : IMk s43 := by rw [es43]; exact IMk_268 q19 (by omega)
    have q46 : IMo s43 := by rw [es43]; exact IMo_o (by unfold suIMo; omega) q20
    have q47 : IR s43 := by rw [es43]; exact IR_268 q21 (by omega)
    have q48 : s43 268 8 = s0 268 8 := (show s43 268 8 = s17 268 8 from by rw [es43, xU_j _ _ (by decide)]).trans q22
    have q49 : s43 268 58 = s0 268 58 := (show s43 268 58 = s17 268 58 from by rw [es43, xU_j _ _ (by decide)]).trans q23
    have q50 : s43 268 10 = s0 268 10 := (show s43 268 10 = s17 268 10 from by rw [es43, xU_j _ _ (by decide)]).trans q24
    have q51 : s43 268 14 = s0 268 14 := (show s43 268 14 = s17 268 14 from by rw [es43, xU_j _ _ (by decide)]).trans q25
    have q52 : s43 268 15 = s0 268 15 := (show s43 268 15 = s17 268 15 from by rw [es43, xU_j _ _ (by decide)]).trans q26
    have q53 : s43 268 16 = s0 268 16 := (show s43 268 16 = s17 268 16 from by rw [es43, xU_j _ _ (by decide)]).trans q27
    have q54 : s43 268 34 = s0 268 34 := (show s43 268 34 = s17 268 34 from by rw [es43, xU_j _ _ (by decide)]).trans q28
    have q55 : s43 268 35 = s0 268 35 := (show s43 268 35 = s17 268 35 from by rw [es43, xU_j _ _ (by decide)]).trans q29
    have q56 : s43 268 9 = s0 268 9 := (show s43 268 9 = s17 268 9 from by rw [es43, xU_j _ _ (by decide)]).trans q30
    have q57 : s43 268 37 = (x40 - 48) := by rw [es43, xU_s]
    have hF58 := hF32.put es43 (by omega)
    refine x_aload_n hx hb hl 0 rfl dX11_readsTimes_39 rfl ?_
    refine x_aload_n hx hb hl 0 rfl dX11_readsTimes_40 rfl ?_
    refine x_get (j := 9) (v := .int (xJ (s43 268 9))) hx hb hown hT hE hW cls_X11 (Or.inl (by decide)) (so_268 h0 g _) (by decide) rfl wq1194 dX11_readsTimes_41 ?_
    refine x_rd hW (fun x59 ex59 rx59 => ?_)
    have bx59 : 0 ≤ x59 ∧ x59 ≤ s43 268 10 ∧ s43 268 10 ≤ 240 := by rw [ex59]; exact q47
    have fx59 : x59 = s0 268 9 := ex59.trans q56
    refine x_iconst hx hb dX11_readsTimes_44 ?_
    refine x_iadd hx hb dX11_readsTimes_45 ?_
    refine x_put (j := 9) hx hb hown hT hE hW cls_X11 (by decide) (fun σ => so_268 h0 g σ) (by decide) (st_X11_9 h0 s43 268 (x59 + 1)) (ln_X11_9 h0 _ _) wq1194 rfl rfl rfl (by omega) dX11_readsTimes_46 (fun H locs s60 es60 hW => ?_)
    have q61 : IMn s60 := by rw [es60]; exact IMn_268 q44 (by omega)
    have q62 : IMk s60 := by rw [es60]; exact IMk_268 q45 (by omega)
    have q63 : IMo s60 := by rw [es60]; exact IMo_o (by unfold suIMo; omega) q46
    have q64 : IR s60 := by rw [es60]; exact IR_268 q47 (by omega)
    have q65 : s60 268 8 = s0 268 8 := (show s60 268 8 = s43 268 8 from by rw [es60, xU_j _ _ (by decide)]).trans q48
    have q66 : s60 268 58 = s0 268 58 := (show s60 268 58 = s43 268 58 from by rw [es60, xU_j _ _ (by decide)]).trans q49
    have q67 : s60 268 10 = s0 268 10 := (show s60 268 10 = s43 268 10 from by rw [es60, xU_j _ _ (by decide)]).trans q50
    have q68 : s60 268 14 = s0 268 14 := (show s60 268 14 = s43 268 14 from by rw [es60, xU_j _ _ (by decide)]).trans q51
    have q69 : s60 268 15 = s0 268 15 := (show s60 268 15 = s43 268 15 from by rw [es60, xU_j _ _ (by decide)]).trans q52
    have q70 : s60 268 16 = s0 268 16 := (show s60 268 16 = s43 268 16 from by rw [es60, xU_j _ _ (by decide)]).trans q53
    have q71 : s60 268 34 = s0 268 34 := (show s60 268 34 = s43 268 34 from by rw [es60, xU_j _ _ (by decide)]).trans q54
    have q72 : s60 268 35 = s0 268 35 := (show s60 268 35 = s43 268 35 from by rw [es60, xU_j _ _ (by decide)]).trans q55
    have q73 : s60 268 9 = (x59 + 1) := by rw [es60, xU_s]
    have q74 : s60 268 37 = (x40 - 48) := (show s60 268 37 = s43 268 37 from by rw [es60, xU_j _ _ (by decide)]).trans q57
    have hF75 := hF58.put es60 (by omega)
    rw [eQ]
    exact x_vret hx hb hr hlk hW ⟨hF75, ⟨q61, q62, q63, q64, q65, q66, q67, q68, q69, q70, q71, q72, trivial⟩, by omega⟩ dX11_readsTimes_49
  rw [eQ]
  exact x_vret hx hb hr hlk hW ⟨hF32, ⟨q18, q19, q20, q21, q22, q23, q24, q25, q26, q27, q28, q29, trivial⟩, by omega⟩ dX11_readsTimes_27
set_option maxHeartbeats 4000000 in
set_option maxRecDepth 100000 in
theorem c_X11_readsStep (l : Launch) (D : va_G) (g : xG) (T : Nat × Nat × Nat) (h0 : Nat) (s0 : xS) (hσ : xRR s0) (hrw : zRW s0) (p0 : IMn s0) (p1 : IMk s0) (p2 : IMo s0) (p3 : IR s0) : Met l yX11_readsStep (xws yX11_readsStep cX11_readsStep 4 (some .boolean)) { frames := 2, cells := 0, slots := 0, locals := 47 } (xP [.ref (h0 + 268)] D g T h0 s0) (xQi D g h0 (fun r τ => xFr (fun k => k = 268 ∨ k = 289 ∨ k = 290 ∨ k = 291 ∨ k = 292) s0 τ ∧ (((IMn τ) ∧ (IMk τ) ∧ (IMo τ) ∧ (IR τ) ∧ (τ 268 8 = s0 268 8) ∧ (τ 268 58 = s0 268 58) ∧ (τ 268 10 = s0 268 10) ∧ (τ 268 14 = s0 268 14) ∧ (τ 268 15 = s0 268 15) ∧ (τ 268 16 = s0 268 16) ∧ True) ∧ ((r = 0 ∧ s0 268 9 ≤ τ 268 9) ∨ (r = 1 ∧ zRW τ ∧ s0 268 9 + 1 ≤ τ 268 9))))) 0 0 (xA h0) := by
  refine x_met hσ (by decide) (Nat.le_of_ble_eq_true rfl) ?_
  intro p e s m args below meth c hx hb hr hml hown hT hlk hnm hE hW ls hl
  have hl : lv_has ls 4 [(0, .ref (h0 + 268))] := hl
  obtain ⟨Q, eQ⟩ : ∃ Q, Q = MQ below (xQi D g h0 (fun r τ => xFr (fun k => k = 268 ∨ k = 289 ∨ k = 290 ∨ k = 291 ∨ k = 292) s0 τ ∧ (((IMn τ) ∧ (IMk τ) ∧ (IMo τ) ∧ (IR τ) ∧ (τ 268 8 = s0 268 8) ∧ (τ 268 58 = s0 268 58) ∧ (τ 268 10 = s0 268 10) ∧ (τ 268 14 = s0 268 14) ∧ (τ 268 15 = s0 268 15) ∧ (τ 268 16 = s0 268 16) ∧ True) ∧ ((r = 0 ∧ s0 268 9 ≤ τ 268 9) ∨ (r = 1 ∧ zRW τ ∧ s0 268 9 + 1 ≤ τ 268 9))))) args s 0 0 (xA h0) := ⟨_, rfl⟩
  rw [← eQ]
  generalize hHe : ([] : List Loc) = locs at hW ⊢
  obtain ⟨H, eH⟩ : ∃ H, H = s.heap := ⟨_, rfl⟩
  rw [← eH] at hW ⊢
  have hF : xFr (fun k => k = 268 ∨ k = 289 ∨ k = 290 ∨ k = 291 ∨ k = 292) s0 s0 := xFr.rf
  have k268_8 : s0 268 8 = s0 268 8 := rfl
  have k268_58 : s0 268 58 = s0 268 58 := rfl
  have k268_10 : s0 268 10 = s0 268 10 := rfl
  have k268_14 : s0 268 14 = s0 268 14 := rfl
  have k268_15 : s0 268 15 = s0 268 15 := rfl
  have k268_16 : s0 268 16 = s0 268 16 := rfl
  have k268_9 : s0 268 9 = s0 268 9 := rfl
  have k268_34 : s0 268 34 = s0 268 34 := rfl
  have k268_35 : s0 268 35 = s0 268 35 := rfl
  refine x_aload_n hx hb hl 0 rfl dX11_readsStep_0 rfl ?_
  refine x_gov (x_runV (As := []) hx hb hml hown hT hE hW hl.1 (Or.inl (by decide)) (so_268 h0 g _) rfl cf_X11_readsTimes wq1450 wq113 wq1448 (c_X11_readsTimes l D g T h0 s0 hW.2.1 p0 p1 p2 p3) ⟨rfl, rfl, ⟨by decide, by decide⟩, ⟨by decide, by decide⟩⟩ rfl rfl (Nat.le_of_ble_eq_true rfl) dX11_readsStep_1) hW (fun s2 H locs hp3 hW => ?_)
  obtain ⟨fs2, hp3⟩ := hp3
  have hF4 := hF.call fs2 (fun k h => by omega)
  have ghp3 := hp3.2
  have A1 := And.intro True.intro (hrw.f (τ := s2) (by have := hrw.2.1; omega) (by have := hrw.1; omega) (fs2 291 (by omega)) (fs2 292 (by omega)))
  have L4 : ∀ (fu : Nat) (s_4 : xS) (H : Heap) (locs : List Loc) (ls : Array Slot), (xFr (fun k => k = 268 ∨ k = 289 ∨ k = 290 ∨ k = 291 ∨ k = 292) s0 s_4) → (IMn s_4) → (IMk s_4) → (IMo s_4) → (IR s_4) → (s_4 268 8 = s0 268 8) → (s_4 268 58 = s0 268 58) → (s_4 268 10 = s0 268 10) → (s_4 268 14 = s0 268 14) → (s_4 268 15 = s0 268 15) → (s_4 268 16 = s0 268 16) → (s_4 268 34 = s0 268 34) → (zRW s_4) → (1 ≤ s_4 268 37 ∧ s_4 268 37 ≤ 9) → (s0 268 9 ≤ s_4 268 9) → (241 - s_4 268 9).toNat < fu → xW D g h0 s H locs s_4 → lv_has ls 4 [(0, .ref (h0 + 268))] → W p l e { frames := 2, cells := 0, slots := 0, locals := 47 } s m args below meth c H locs 0 0 Q (F0 m 4 ls []) := by
    intro fu
    induction fu with
    | zero => intro s_4 H locs ls hF_4 q4_0 q4_1 q4_2 q4_3 q4_4 q4_5 q4_6 q4_7 q4_8 q4_9 q4_10 v4_0 v4_1 v4_2 hm; exact absurd hm (Nat.not_lt_zero _)
    | succ fu ih4 =>
      intro s_4 H locs ls hF_4 q4_0 q4_1 q4_2 q4_3 q4_4 q4_5 q4_6 q4_7 q4_8 q4_9 q4_10 v4_0 v4_1 v4_2 hm hW hl
      have Y4 := q4_3
      unfold IR at Y4
      have w4 := v4_0.2.1
      have u4 := v4_0.1
      refine x_aload_n hx hb hl 0 rfl dX11_readsStep_4 rfl ?_
      refine x_goi (x_runV (As := []) hx hb hml hown hT hE hW hl.1 (Or.inl (by decide)) (so_268 h0 g _) rfl cf_X11_here wq1391 wq106 wq1389 (c_X11_here l D g T h0 s_4 hW.2.1 q4_0 q4_1 q4_2 q4_3) ⟨rfl, rfl, ⟨by decide, by decide⟩, ⟨by decide, by decide⟩⟩ rfl rfl (Nat.le_of_ble_eq_true rfl) dX11_readsStep_5) hW (fun x5 s6 H locs rx5 hp7 hW => ?_)
      obtain ⟨es6, hp7⟩ := hp7
      subst es6
      have ghp7 := hp7
      have q8 : s_4 268 9 = s_4 268 9 := rfl
      have q9 : s_4 268 37 = s_4 268 37 := rfl
      have q10 : s_4 268 35 = s_4 268 35 := rfl
      refine x_bipush hx hb dX11_readsStep_8 (by decide) ?_
      refine x_icmp_ne (tgt := 97) hx hb rx5 (by decide) dX11_readsStep_10 (by decide) (fun c11 => ?_) (fun c11 => ?_)
      · skip
        refine x_aload_n hx hb hl 0 rfl dX11_readsStep_97 rfl ?_
        refine x_get (j := 36) (v := .int (xJ (s_4 268 36))) hx hb hown hT hE hW cls_X11 (Or.inl (by decide)) (so_268 h0 g _) (by decide) rfl wq1221 dX11_readsStep_98 ?_
        refine x_rd hW (fun x12 ex12 rx12 => ?_)
        have q13 : s_4 291 = s_4 291 := rfl
        have q14 : s_4 292 = s_4 292 := rfl
        refine lv_istore_n (lv' := [(1, .int (xJ x12)), (0, .ref (h0 + 268))]) hx hb dX11_readsStep_101 rfl hl (by decide) rfl (fun ls hl => ?_)
        refine x_aload_n hx hb hl 1 rfl dX11_readsStep_102 rfl ?_
        refine x_get (j := 37) (v := .int (xJ (s_4 268 37))) hx hb hown hT hE hW cls_X11 (Or.inl (by decide)) (so_268 h0 g _) (by decide) rfl wq1222 dX11_readsStep_103 ?_
        refine x_rd hW (fun x15 ex15 rx15 => ?_)
        have fx15 : x15 = s_4 268 37 := ex15.trans q9
        refine lv_istore_n (lv' := [(2, .int (xJ x15)), (1, .int (xJ x12)), (0, .ref (h0 + 268))]) hx hb dX11_readsStep_106 rfl hl (by decide) rfl (fun ls hl => ?_)
        refine x_aload_n hx hb hl 2 rfl dX11_readsStep_107 rfl ?_
        refine x_goi (x_runV (As := []) hx hb hml hown hT hE hW hl.1 (Or.inl (by decide)) (so_268 h0 g _) rfl cf_X11_here wq1391 wq106 wq1389 (c_X11_here l D g T h0 s_4 hW.2.1 q4_0 q4_1 q4_2 q4_3) ⟨rfl, rfl, ⟨by decide, by decide⟩, ⟨by decide, by decide⟩⟩ rfl rfl (Nat.le_of_ble_eq_true rfl) dX11_readsStep_108) hW (fun x16 s17 H locs rx16 hp18 hW => ?_)
        obtain ⟨es17, hp18⟩ := hp18
        subst es17
        have ghp18 := hp18
        refine x_goi (x_runS (As := [.int (xJ x16)]) hx hb hml hown hT hE hW hl.1 cf_X11_wayOf wq1453 wq1452 (c_X11_wayOf l D g T h0 s_4 hW.2.1 x16 rx16) ⟨rfl, rfl, ⟨by decide, by decide⟩, ⟨by decide, by decide⟩⟩ rfl rfl (Nat.le_of_ble_eq_true rfl) dX11_readsStep_111) hW (fun x19 s20 H locs rx19 hp21 hW => ?_)
        obtain ⟨es20, hp21⟩ := hp21
        subst es20
        have ghp21 := hp21
        refine lv_istore_n (lv' := [(3, .int (xJ x19)), (2, .int (xJ x15)), (1, .int (xJ x12)), (0, .ref (h0 + 268))]) hx hb dX11_readsStep_114 rfl hl (by decide) rfl (fun ls hl => ?_)
        refine x_iload_n hx hb hl 0 rfl dX11_readsStep_115 rfl ?_
        refine x_iconst hx hb dX11_readsStep_116 ?_
        refine x_icmp_ne (tgt := 130) hx hb rx19 (by decide) dX11_readsStep_117 (by decide) (fun c22 => ?_) (fun c22 => ?_)
        · skip
          refine x_aload_n hx hb hl 3 rfl dX11_readsStep_130 rfl ?_
          refine x_aload_n hx hb hl 3 rfl dX11_readsStep_131 rfl ?_
          refine x_get (j := 9) (v := .int (xJ (s_4 268 9))) hx hb hown hT hE hW cls_X11 (Or.inl (by decide)) (so_268 h0 g _) (by decide) rfl wq1194 dX11_readsStep_132 ?_
          refine x_rd hW (fun x23 ex23 rx23 => ?_)
          have bx23 : 0 ≤ x23 ∧ x23 ≤ s_4 268 10 ∧ s_4 268 10 ≤ 240 := by rw [ex23]; exact q4_3
          have fx23 : x23 = s_4 268 9 := ex23.trans q8
          refine x_iconst hx hb dX11_readsStep_135 ?_
          refine x_iadd hx hb dX11_readsStep_136 ?_
          refine x_put (j := 9) hx hb hown hT hE hW cls_X11 (by decide) (fun σ => so_268 h0 g σ) (by decide) (st_X11_9 h0 s_4 268 (x23 + 1)) (ln_X11_9 h0 _ _) wq1194 rfl rfl rfl (by omega) dX11_readsStep_137 (fun H locs s24 es24 hW => ?_)
          have q25 : IMn s24 := by rw [es24]; exact IMn_268 q4_0 (by omega)
          have q26 : IMk s24 := by rw [es24]; exact IMk_268 q4_1 (by omega)
          have q27 : IMo s24 := by rw [es24]; exact IMo_o (by unfold suIMo; omega) q4_2
          have q28 : IR s24 := by rw [es24]; exact IR_268 q4_3 (by omega)
          have q29 : s24 268 8 = s0 268 8 := (show s24 268 8 = s_4 268 8 from by rw [es24, xU_j _ _ (by decide)]).trans q4_4
          have q30 : s24 268 58 = s0 268 58 := (show s24 268 58 = s_4 268 58 from by rw [es24, xU_j _ _ (by decide)]).trans q4_5
          have q31 : s24 268 10 = s0 268 10 := (show s24 268 10 = s_4 268 10 from by rw [es24, xU_j _ _ (by decide)]).trans q4_6
          have q32 : s24 268 14 = s0 268 14 := (show s24 268 14 = s_4 268 14 from by rw [es24, xU_j _ _ (by decide)]).trans q4_7
          have q33 : s24 268 15 = s0 268 15 := (show s24 268 15 = s_4 268 15 from by rw [es24, xU_j _ _ (by decide)]).trans q4_8
          have q34 : s24 268 16 = s0 268 16 := (show s24 268 16 = s_4 268 16 from by rw [es24, xU_j _ _ (by decide)]).trans q4_9
          have q35 : s24 268 34 = s0 268 34 := (show s24 268 34 = s_4 268 34 from by rw [es24, xU_j _ _ (by decide)]).trans q4_10
          have q36 : s24 268 9 = (x23 + 1) := by rw [es24, xU_s]
          have q37 : s24 268 37 = s_4 268 37 := (show s24 268 37 = s_4 268 37 from by rw [es24, xU_j _ _ (by decide)]).trans q9
          have q38 : s24 268 35 = s_4 268 35 := (show s24 268 35 = s_4 268 35 from by rw [es24, xU_j _ _ (by decide)]).trans q10
          have q39 : s24 291 = s_4 291 := (show s24 291 = s_4 291 from by rw [es24, xU_k _ _ _ (by omega)]).trans q13
          have q40 : s24 292 = s_4 292 := (show s24 292 = s_4 292 from by rw [es24, xU_k _ _ _ (by omega)]).trans q14
          have hF41 := hF_4.put es24 (by omega)
          refine x_aload_n hx hb hl 3 rfl dX11_readsStep_140 rfl ?_
          refine x_get (j := 34) (v := .int (xJ (s24 268 34))) hx hb hown hT hE hW cls_X11 (Or.inl (by decide)) (so_268 h0 g _) (by decide) rfl wq1219 dX11_readsStep_141 ?_
          refine x_rd hW (fun x42 ex42 rx42 => ?_)
          have fx42 : x42 = s0 268 34 := ex42.trans q35
          refine x_iload_n hx hb hl 1 rfl dX11_readsStep_144 rfl ?_
          refine x_iadd hx hb dX11_readsStep_145 ?_
          refine x_bipush hx hb dX11_readsStep_146 (by decide) ?_
          refine x_icmp_le (tgt := 159) hx hb (by omega) (by decide) dX11_readsStep_148 (by decide) (fun c43 => ?_) (fun c43 => ?_)
          · skip
            refine x_aload_n hx hb hl 3 rfl dX11_readsStep_159 rfl ?_
            refine x_get (j := 30) (v := .ref (h0 + 289)) hx hb hown hT hE hW cls_X11 (Or.inl (by decide)) (so_268 h0 g _) (by decide) rfl wq1215 dX11_readsStep_160 ?_
            refine x_aload_n hx hb hl 3 rfl dX11_readsStep_163 rfl ?_
            refine x_get (j := 34) (v := .int (xJ (s24 268 34))) hx hb hown hT hE hW cls_X11 (Or.inl (by decide)) (so_268 h0 g _) (by decide) rfl wq1219 dX11_readsStep_164 ?_
            refine x_rd hW (fun x44 ex44 rx44 => ?_)
            have fx44 : x44 = s0 268 34 := ex44.trans q35
            refine x_iload_n hx hb hl 0 rfl dX11_readsStep_167 rfl ?_
            refine lv_i2b hx hb dX11_readsStep_168 rfl ?_
            refine x_any (fun x45 rx45 => ?_)
            obtain ⟨y47, ey47, ry47⟩ := xnb x45
            refine x_bast (w := y47) hx hb hE hW (by decide) (fun σ => sa_289 h0 g σ) (by omega) (by decide) ey47 ry47 dX11_readsStep_169 (fun H locs s46 es46 hW => ?_)
            have q48 : IMn s46 := by rw [es46]; exact IMn_o (by unfold suIMn; omega) q25
            have q49 : IMk s46 := by rw [es46]; exact IMk_o (by unfold suIMk; omega) q26
            have q50 : IMo s46 := by rw [es46]; exact IMo_o (by unfold suIMo; omega) q27
            have q51 : IR s46 := by rw [es46]; exact IR_o (by unfold suIR; omega) q28
            have q52 : s46 268 8 = s0 268 8 := (show s46 268 8 = s24 268 8 from by rw [es46, xU_k _ _ _ (by omega)]).trans q29
            have q53 : s46 268 58 = s0 268 58 := (show s46 268 58 = s24 268 58 from by rw [es46, xU_k _ _ _ (by omega)]).trans q30
            have q54 : s46 268 10 = s0 268 10 := (show s46 268 10 = s24 268 10 from by rw [es46, xU_k _ _ _ (by omega)]).trans q31
            have q55 : s46 268 14 = s0 268 14 := (show s46 268 14 = s24 268 14 from by rw [es46, xU_k _ _ _ (by omega)]).trans q32
            have q56 : s46 268 15 = s0 268 15 := (show s46 268 15 = s24 268 15 from by rw [es46, xU_k _ _ _ (by omega)]).trans q33
            have q57 : s46 268 16 = s0 268 16 := (show s46 268 16 = s24 268 16 from by rw [es46, xU_k _ _ _ (by omega)]).trans q34
            have q58 : s46 268 34 = s0 268 34 := (show s46 268 34 = s24 268 34 from by rw [es46, xU_k _ _ _ (by omega)]).trans q35
            have q59 : s46 268 9 = (x23 + 1) := (show s46 268 9 = s24 268 9 from by rw [es46, xU_k _ _ _ (by omega)]).trans q36
            have q60 : s46 268 37 = s_4 268 37 := (show s46 268 37 = s24 268 37 from by rw [es46, xU_k _ _ _ (by omega)]).trans q37
            have q61 : s46 268 35 = s_4 268 35 := (show s46 268 35 = s24 268 35 from by rw [es46, xU_k _ _ _ (by omega)]).trans q38
            have q62 : s46 291 = s_4 291 := (show s46 291 = s24 291 from by rw [es46, xU_k _ _ _ (by omega)]).trans q39
            have q63 : s46 292 = s_4 292 := (show s46 292 = s24 292 from by rw [es46, xU_k _ _ _ (by omega)]).trans q40
            have hF64 := hF41.put es46 (by omega)
            refine x_aload_n hx hb hl 3 rfl dX11_readsStep_170 rfl ?_
            refine x_aload_n hx hb hl 3 rfl dX11_readsStep_171 rfl ?_
            refine x_get (j := 34) (v := .int (xJ (s46 268 34))) hx hb hown hT hE hW cls_X11 (Or.inl (by decide)) (so_268 h0 g _) (by decide) rfl wq1219 dX11_readsStep_172 ?_
            refine x_rd hW (fun x65 ex65 rx65 => ?_)
            have fx65 : x65 = s0 268 34 := ex65.trans q58
            refine x_iconst hx hb dX11_readsStep_175 ?_
            refine x_iadd hx hb dX11_readsStep_176 ?_
            refine x_put (j := 34) hx hb hown hT hE hW cls_X11 (by decide) (fun σ => so_268 h0 g σ) (by decide) (st_X11_34 h0 s46 268 (x65 + 1)) (ln_X11_34 h0 _ _) wq1219 rfl rfl rfl (by omega) dX11_readsStep_177 (fun H locs s66 es66 hW => ?_)
            have q67 : IMn s66 := by rw [es66]; exact IMn_268 q48 (by omega)
            have q68 : IMk s66 := by rw [es66]; exact IMk_268 q49 (by omega)
            have q69 : IMo s66 := by rw [es66]; exact IMo_o (by unfold suIMo; omega) q50
            have q70 : IR s66 := by rw [es66]; exact IR_268 q51 (by omega)
            have q71 : s66 268 8 = s0 268 8 := (show s66 268 8 = s46 268 8 from by rw [es66, xU_j _ _ (by decide)]).trans q52
            have q72 : s66 268 58 = s0 268 58 := (show s66 268 58 = s46 268 58 from by rw [es66, xU_j _ _ (by decide)]).trans q53
            have q73 : s66 268 10 = s0 268 10 := (show s66 268 10 = s46 268 10 from by rw [es66, xU_j _ _ (by decide)]).trans q54
            have q74 : s66 268 14 = s0 268 14 := (show s66 268 14 = s46 268 14 from by rw [es66, xU_j _ _ (by decide)]).trans q55
            have q75 : s66 268 15 = s0 268 15 := (show s66 268 15 = s46 268 15 from by rw [es66, xU_j _ _ (by decide)]).trans q56
            have q76 : s66 268 16 = s0 268 16 := (show s66 268 16 = s46 268 16 from by rw [es66, xU_j _ _ (by decide)]).trans q57
            have q77 : s66 268 34 = (x65 + 1) := by rw [es66, xU_s]
            have q78 : s66 268 9 = (x23 + 1) := (show s66 268 9 = s46 268 9 from by rw [es66, xU_j _ _ (by decide)]).trans q59
            have q79 : s66 268 37 = s_4 268 37 := (show s66 268 37 = s46 268 37 from by rw [es66, xU_j _ _ (by decide)]).trans q60
            have q80 : s66 268 35 = s_4 268 35 := (show s66 268 35 = s46 268 35 from by rw [es66, xU_j _ _ (by decide)]).trans q61
            have q81 : s66 291 = s_4 291 := (show s66 291 = s46 291 from by rw [es66, xU_k _ _ _ (by omega)]).trans q62
            have q82 : s66 292 = s_4 292 := (show s66 292 = s46 292 from by rw [es66, xU_k _ _ _ (by omega)]).trans q63
            have hF83 := hF64.put es66 (by omega)
            refine x_aload_n hx hb hl 3 rfl dX11_readsStep_180 rfl ?_
            refine x_aload_n hx hb hl 3 rfl dX11_readsStep_181 rfl ?_
            refine x_get (j := 34) (v := .int (xJ (s66 268 34))) hx hb hown hT hE hW cls_X11 (Or.inl (by decide)) (so_268 h0 g _) (by decide) rfl wq1219 dX11_readsStep_182 ?_
            refine x_rd hW (fun x84 ex84 rx84 => ?_)
            have fx84 : x84 = (x65 + 1) := ex84.trans q77
            refine x_iconst hx hb dX11_readsStep_185 ?_
            refine x_isub hx hb dX11_readsStep_186 ?_
            refine x_iload_n hx hb hl 1 rfl dX11_readsStep_187 rfl ?_
            refine x_iload_n hx hb hl 2 rfl dX11_readsStep_188 rfl ?_
            refine x_goi (x_runV (As := [.int (xJ (x84 - 1)), .int (xJ x15), .int (xJ x12)]) hx hb hml hown hT hE hW hl.1 (Or.inl (by decide)) (so_268 h0 g _) rfl cf_X11_repeats wq1457 wq114 wq1455 (c_X11_repeats l D g T h0 s66 hW.2.1 (x84 - 1) (by omega) x15 rx15 x12 rx12 (by omega) (by omega) q67 q68 q69 q70) ⟨rfl, rfl, ⟨by decide, by decide⟩, ⟨by decide, by decide⟩⟩ rfl rfl (Nat.le_of_ble_eq_true rfl) dX11_readsStep_189) hW (fun x85 s86 H locs rx85 hp87 hW => ?_)
            obtain ⟨fs86, hp87⟩ := hp87
            have hF88 := hF83.call fs86 (fun k h => by omega)
            have q89 : s86 291 = s_4 291 := (fs86 _ (by omega)).trans q81
            have q90 : s86 292 = s_4 292 := (fs86 _ (by omega)).trans q82
            have ghp87 := hp87.2
            refine x_if_ne (tgt := 197) hx hb rx85 dX11_readsStep_192 (by decide) (fun c91 => ?_) (fun c91 => ?_)
            · skip
              have L197 : ∀ (fu : Nat) (s_197 : xS) (H : Heap) (locs : List Loc) (ls : Array Slot), (xFr (fun k => k = 268 ∨ k = 289 ∨ k = 290 ∨ k = 291 ∨ k = 292) s0 s_197) → (IMn s_197) → (IMk s_197) → (IMo s_197) → (IR s_197) → (s_197 268 8 = s0 268 8) → (s_197 268 58 = s0 268 58) → (s_197 268 10 = s0 268 10) → (s_197 268 14 = s0 268 14) → (s_197 268 15 = s0 268 15) → (s_197 268 16 = s0 268 16) → (s_197 268 36 = s66 268 36) → (s_197 268 37 = s_4 268 37) → (zRW s_197) → (s0 268 9 + 1 ≤ s_197 268 9) → (241 - s_197 268 9).toNat < fu → xW D g h0 s H locs s_197 → lv_has ls 4 [(0, .ref (h0 + 268))] → W p l e { frames := 2, cells := 0, slots := 0, locals := 47 } s m args below meth c H locs 0 0 Q (F0 m 197 ls []) := by
                intro fu
                induction fu with
                | zero => intro s_197 H locs ls hF_197 q197_2 q197_3 q197_4 q197_5 q197_6 q197_7 q197_9 q197_10 q197_11 q197_12 q197_14 q197_15 v197_0 v197_1 hm; exact absurd hm (Nat.not_lt_zero _)
                | succ fu ih197 =>
                  intro s_197 H locs ls hF_197 q197_2 q197_3 q197_4 q197_5 q197_6 q197_7 q197_9 q197_10 q197_11 q197_12 q197_14 q197_15 v197_0 v197_1 hm hW hl
                  have Y197 := q197_5
                  unfold IR at Y197
                  have w197 := v197_0.2.1
                  have u197 := v197_0.1
                  refine x_aload_n hx hb hl 0 rfl dX11_readsStep_197 rfl ?_
                  refine x_goi (x_runV (As := []) hx hb hml hown hT hE hW hl.1 (Or.inl (by decide)) (so_268 h0 g _) rfl cf_X11_here wq1391 wq106 wq1389 (c_X11_here l D g T h0 s_197 hW.2.1 q197_2 q197_3 q197_4 q197_5) ⟨rfl, rfl, ⟨by decide, by decide⟩, ⟨by decide, by decide⟩⟩ rfl rfl (Nat.le_of_ble_eq_true rfl) dX11_readsStep_198) hW (fun x92 s93 H locs rx92 hp94 hW => ?_)
                  obtain ⟨es93, hp94⟩ := hp94
                  subst es93
                  have ghp94 := hp94
                  have q95 : s_197 268 9 = s_197 268 9 := rfl
                  have q96 : s_197 291 = s_197 291 := rfl
                  have q97 : s_197 292 = s_197 292 := rfl
                  have q98 : s_197 268 35 = s_197 268 35 := rfl
                  have q99 : s_197 268 34 = s_197 268 34 := rfl
                  refine x_bipush hx hb dX11_readsStep_201 (by decide) ?_
                  refine x_icmp_ne (tgt := 269) hx hb rx92 (by decide) dX11_readsStep_203 (by decide) (fun c100 => ?_) (fun c100 => ?_)
                  · skip
                    refine x_iconst hx hb dX11_readsStep_269 ?_
                    rw [eQ]
                    exact x_zret hx hb hr hlk hW (by omega) ⟨hF_197, ⟨q197_2, q197_3, q197_4, q197_5, q197_6, q197_7, q197_9, q197_10, q197_11, q197_12, trivial⟩, by first | exact Or.inl ⟨by omega, by omega⟩ | exact Or.inr ⟨rfl, v197_0, by omega⟩⟩ dX11_readsStep_270
                  refine x_aload_n hx hb hl 0 rfl dX11_readsStep_206 rfl ?_
                  refine x_get (j := 35) (v := .int (xJ (s_197 268 35))) hx hb hown hT hE hW cls_X11 (Or.inl (by decide)) (so_268 h0 g _) (by decide) rfl wq1220 dX11_readsStep_207 ?_
                  refine x_rd hW (fun x101 ex101 rx101 => ?_)
                  have fx101 : x101 = s_197 268 35 := ex101.trans q98
                  refine x_if_le (tgt := 269) hx hb rx101 dX11_readsStep_210 (by decide) (fun c102 => ?_) (fun c102 => ?_)
                  · skip
                    refine x_iconst hx hb dX11_readsStep_269 ?_
                    rw [eQ]
                    exact x_zret hx hb hr hlk hW (by omega) ⟨hF_197, ⟨q197_2, q197_3, q197_4, q197_5, q197_6, q197_7, q197_9, q197_10, q197_11, q197_12, trivial⟩, by first | exact Or.inl ⟨by omega, by omega⟩ | exact Or.inr ⟨rfl, v197_0, by omega⟩⟩ dX11_readsStep_270
                  refine x_aload_n hx hb hl 0 rfl dX11_readsStep_213 rfl ?_
                  refine x_aload_n hx hb hl 0 rfl dX11_readsStep_214 rfl ?_
                  refine x_get (j := 9) (v := .int (xJ (s_197 268 9))) hx hb hown hT hE hW cls_X11 (Or.inl (by decide)) (so_268 h0 g _) (by decide) rfl wq1194 dX11_readsStep_215 ?_
                  refine x_rd hW (fun x103 ex103 rx103 => ?_)
                  have bx103 : 0 ≤ x103 ∧ x103 ≤ s_197 268 10 ∧ s_197 268 10 ≤ 240 := by rw [ex103]; exact q197_5
                  have fx103 : x103 = s_197 268 9 := ex103.trans q95
                  refine x_iconst hx hb dX11_readsStep_218 ?_
                  refine x_iadd hx hb dX11_readsStep_219 ?_
                  refine x_put (j := 9) hx hb hown hT hE hW cls_X11 (by decide) (fun σ => so_268 h0 g σ) (by decide) (st_X11_9 h0 s_197 268 (x103 + 1)) (ln_X11_9 h0 _ _) wq1194 rfl rfl rfl (by omega) dX11_readsStep_220 (fun H locs s104 es104 hW => ?_)
                  have q105 : IMn s104 := by rw [es104]; exact IMn_268 q197_2 (by omega)
                  have q106 : IMk s104 := by rw [es104]; exact IMk_268 q197_3 (by omega)
                  have q107 : IMo s104 := by rw [es104]; exact IMo_o (by unfold suIMo; omega) q197_4
                  have q108 : IR s104 := by rw [es104]; exact IR_268 q197_5 (by omega)
                  have q109 : s104 268 8 = s0 268 8 := (show s104 268 8 = s_197 268 8 from by rw [es104, xU_j _ _ (by decide)]).trans q197_6
                  have q110 : s104 268 58 = s0 268 58 := (show s104 268 58 = s_197 268 58 from by rw [es104, xU_j _ _ (by decide)]).trans q197_7
                  have q111 : s104 268 10 = s0 268 10 := (show s104 268 10 = s_197 268 10 from by rw [es104, xU_j _ _ (by decide)]).trans q197_9
                  have q112 : s104 268 14 = s0 268 14 := (show s104 268 14 = s_197 268 14 from by rw [es104, xU_j _ _ (by decide)]).trans q197_10
                  have q113 : s104 268 15 = s0 268 15 := (show s104 268 15 = s_197 268 15 from by rw [es104, xU_j _ _ (by decide)]).trans q197_11
                  have q114 : s104 268 16 = s0 268 16 := (show s104 268 16 = s_197 268 16 from by rw [es104, xU_j _ _ (by decide)]).trans q197_12
                  have q115 : s104 268 36 = s66 268 36 := (show s104 268 36 = s_197 268 36 from by rw [es104, xU_j _ _ (by decide)]).trans q197_14
                  have q116 : s104 268 37 = s_4 268 37 := (show s104 268 37 = s_197 268 37 from by rw [es104, xU_j _ _ (by decide)]).trans q197_15
                  have q117 : s104 268 9 = (x103 + 1) := by rw [es104, xU_s]
                  have q118 : s104 291 = s_197 291 := (show s104 291 = s_197 291 from by rw [es104, xU_k _ _ _ (by omega)]).trans q96
                  have q119 : s104 292 = s_197 292 := (show s104 292 = s_197 292 from by rw [es104, xU_k _ _ _ (by omega)]).trans q97
                  have q120 : s104 268 35 = s_197 268 35 := (show s104 268 35 = s_197 268 35 from by rw [es104, xU_j _ _ (by decide)]).trans q98
                  have q121 : s104 268 34 = s_197 268 34 := (show s104 268 34 = s_197 268 34 from by rw [es104, xU_j _ _ (by decide)]).trans q99
                  have hF122 := hF_197.put es104 (by omega)
                  refine x_aload_n hx hb hl 0 rfl dX11_readsStep_223 rfl ?_
                  refine x_aload_n hx hb hl 0 rfl dX11_readsStep_224 rfl ?_
                  refine x_get (j := 35) (v := .int (xJ (s104 268 35))) hx hb hown hT hE hW cls_X11 (Or.inl (by decide)) (so_268 h0 g _) (by decide) rfl wq1220 dX11_readsStep_225 ?_
                  refine x_rd hW (fun x123 ex123 rx123 => ?_)
                  have fx123 : x123 = s_197 268 35 := ex123.trans q120
                  refine x_iconst hx hb dX11_readsStep_228 ?_
                  refine x_isub hx hb dX11_readsStep_229 ?_
                  refine x_put (j := 35) hx hb hown hT hE hW cls_X11 (by decide) (fun σ => so_268 h0 g σ) (by decide) (st_X11_35 h0 s104 268 (x123 - 1)) (ln_X11_35 h0 _ _) wq1220 rfl rfl rfl (by omega) dX11_readsStep_230 (fun H locs s124 es124 hW => ?_)
                  have q125 : IMn s124 := by rw [es124]; exact IMn_268 q105 (by omega)
                  have q126 : IMk s124 := by rw [es124]; exact IMk_268 q106 (by omega)
                  have q127 : IMo s124 := by rw [es124]; exact IMo_o (by unfold suIMo; omega) q107
                  have q128 : IR s124 := by rw [es124]; exact IR_268 q108 (by omega)
                  have q129 : s124 268 8 = s0 268 8 := (show s124 268 8 = s104 268 8 from by rw [es124, xU_j _ _ (by decide)]).trans q109
                  have q130 : s124 268 58 = s0 268 58 := (show s124 268 58 = s104 268 58 from by rw [es124, xU_j _ _ (by decide)]).trans q110
                  have q131 : s124 268 10 = s0 268 10 := (show s124 268 10 = s104 268 10 from by rw [es124, xU_j _ _ (by decide)]).trans q111
                  have q132 : s124 268 14 = s0 268 14 := (show s124 268 14 = s104 268 14 from by rw [es124, xU_j _ _ (by decide)]).trans q112
                  have q133 : s124 268 15 = s0 268 15 := (show s124 268 15 = s104 268 15 from by rw [es124, xU_j _ _ (by decide)]).trans q113
                  have q134 : s124 268 16 = s0 268 16 := (show s124 268 16 = s104 268 16 from by rw [es124, xU_j _ _ (by decide)]).trans q114
                  have q135 : s124 268 36 = s66 268 36 := (show s124 268 36 = s104 268 36 from by rw [es124, xU_j _ _ (by decide)]).trans q115
                  have q136 : s124 268 37 = s_4 268 37 := (show s124 268 37 = s104 268 37 from by rw [es124, xU_j _ _ (by decide)]).trans q116
                  have q137 : s124 268 9 = (x103 + 1) := (show s124 268 9 = s104 268 9 from by rw [es124, xU_j _ _ (by decide)]).trans q117
                  have q138 : s124 291 = s_197 291 := (show s124 291 = s104 291 from by rw [es124, xU_k _ _ _ (by omega)]).trans q118
                  have q139 : s124 292 = s_197 292 := (show s124 292 = s104 292 from by rw [es124, xU_k _ _ _ (by omega)]).trans q119
                  have q140 : s124 268 35 = (x123 - 1) := by rw [es124, xU_s]
                  have q141 : s124 268 34 = s_197 268 34 := (show s124 268 34 = s104 268 34 from by rw [es124, xU_j _ _ (by decide)]).trans q121
                  have hF142 := hF122.put es124 (by omega)
                  refine x_aload_n hx hb hl 0 rfl dX11_readsStep_233 rfl ?_
                  refine x_aload_n hx hb hl 0 rfl dX11_readsStep_234 rfl ?_
                  refine x_get (j := 32) (v := .ref (h0 + 291)) hx hb hown hT hE hW cls_X11 (Or.inl (by decide)) (so_268 h0 g _) (by decide) rfl wq1217 dX11_readsStep_235 ?_
                  refine x_aload_n hx hb hl 0 rfl dX11_readsStep_238 rfl ?_
                  refine x_get (j := 35) (v := .int (xJ (s124 268 35))) hx hb hown hT hE hW cls_X11 (Or.inl (by decide)) (so_268 h0 g _) (by decide) rfl wq1220 dX11_readsStep_239 ?_
                  refine x_rd hW (fun x143 ex143 rx143 => ?_)
                  have fx143 : x143 = (x123 - 1) := ex143.trans q140
                  refine x_iald hx hb hE hW (Or.inl (by decide)) (sa_291 h0 g _) (by omega) (by decide) dX11_readsStep_242 ?_
                  refine x_rd hW (fun x144 ex144 rx144 => ?_)
                  have gx144 := v197_0.2.2 x143 (by omega) (by omega)
                  have hx144 : x144 = s_197 291 x143 := ex144.trans (congrFun q138 _)
                  refine x_aload_n hx hb hl 0 rfl dX11_readsStep_243 rfl ?_
                  refine x_get (j := 33) (v := .ref (h0 + 292)) hx hb hown hT hE hW cls_X11 (Or.inl (by decide)) (so_268 h0 g _) (by decide) rfl wq1218 dX11_readsStep_244 ?_
                  refine x_aload_n hx hb hl 0 rfl dX11_readsStep_247 rfl ?_
                  refine x_get (j := 35) (v := .int (xJ (s124 268 35))) hx hb hown hT hE hW cls_X11 (Or.inl (by decide)) (so_268 h0 g _) (by decide) rfl wq1220 dX11_readsStep_248 ?_
                  refine x_rd hW (fun x145 ex145 rx145 => ?_)
                  have fx145 : x145 = (x123 - 1) := ex145.trans q140
                  refine x_iald hx hb hE hW (Or.inl (by decide)) (sa_292 h0 g _) (by omega) (by decide) dX11_readsStep_251 ?_
                  refine x_rd hW (fun x146 ex146 rx146 => ?_)
                  have gx146 := v197_0.2.2 x145 (by omega) (by omega)
                  have hx146 : x146 = s_197 292 x145 := ex146.trans (congrFun q139 _)
                  refine x_aload_n hx hb hl 0 rfl dX11_readsStep_252 rfl ?_
                  refine x_get (j := 31) (v := .ref (h0 + 290)) hx hb hown hT hE hW cls_X11 (Or.inl (by decide)) (so_268 h0 g _) (by decide) rfl wq1216 dX11_readsStep_253 ?_
                  refine x_aload_n hx hb hl 0 rfl dX11_readsStep_256 rfl ?_
                  refine x_get (j := 35) (v := .int (xJ (s124 268 35))) hx hb hown hT hE hW cls_X11 (Or.inl (by decide)) (so_268 h0 g _) (by decide) rfl wq1220 dX11_readsStep_257 ?_
                  refine x_rd hW (fun x147 ex147 rx147 => ?_)
                  have fx147 : x147 = (x123 - 1) := ex147.trans q140
                  refine x_iald hx hb hE hW (Or.inl (by decide)) (sa_290 h0 g _) (by omega) (by decide) dX11_readsStep_260 ?_
                  refine x_rd hW (fun x148 ex148 rx148 => ?_)
                  refine x_goi (x_runV (As := [.int (xJ x144), .int (xJ x146), .int (xJ x148)]) hx hb hml hown hT hE hW hl.1 (Or.inl (by decide)) (so_268 h0 g _) rfl cf_X11_repeats wq1457 wq114 wq1455 (c_X11_repeats l D g T h0 s124 hW.2.1 x144 rx144 x146 rx146 x148 rx148 (by omega) (by omega) q125 q126 q127 q128) ⟨rfl, rfl, ⟨by decide, by decide⟩, ⟨by decide, by decide⟩⟩ rfl rfl (Nat.le_of_ble_eq_true rfl) dX11_readsStep_261) hW (fun x149 s150 H locs rx149 hp151 hW => ?_)
                  obtain ⟨fs150, hp151⟩ := hp151
                  have hF152 := hF142.call fs150 (fun k h => by omega)
                  have q153 : s150 291 = s_197 291 := (fs150 _ (by omega)).trans q138
                  have q154 : s150 292 = s_197 292 := (fs150 _ (by omega)).trans q139
                  have ghp151 := hp151.2
                  refine x_if_ne (tgt := 197) hx hb rx149 dX11_readsStep_264 (by decide) (fun c155 => ?_) (fun c155 => ?_)
                  · skip
                    exact ih197 s150 H locs ls hF152 hp151.1.1 hp151.1.2.1 hp151.1.2.2.1 hp151.1.2.2.2.1 (hp151.1.2.2.2.2.1.trans q129) (hp151.1.2.2.2.2.2.1.trans q130) (hp151.1.2.2.2.2.2.2.2.1.trans q131) (hp151.1.2.2.2.2.2.2.2.2.1.trans q132) (hp151.1.2.2.2.2.2.2.2.2.2.1.trans q133) (hp151.1.2.2.2.2.2.2.2.2.2.2.1.trans q134) (hp151.1.2.2.2.2.2.2.2.2.2.2.2.2.1.trans q135) (hp151.1.2.2.2.2.2.2.2.2.2.2.2.2.2.1.trans q136) (v197_0.f (by omega) (by omega) q153 q154) (by omega) (by omega) hW (lv_sub hl [0] rfl)
                  refine x_iconst hx hb dX11_readsStep_267 ?_
                  rw [eQ]
                  exact x_zret hx hb hr hlk hW (by omega) ⟨hF152, ⟨hp151.1.1, hp151.1.2.1, hp151.1.2.2.1, hp151.1.2.2.2.1, (hp151.1.2.2.2.2.1.trans q129), (hp151.1.2.2.2.2.2.1.trans q130), (hp151.1.2.2.2.2.2.2.2.1.trans q131), (hp151.1.2.2.2.2.2.2.2.2.1.trans q132), (hp151.1.2.2.2.2.2.2.2.2.2.1.trans q133), (hp151.1.2.2.2.2.2.2.2.2.2.2.1.trans q134), trivial⟩, by first | exact Or.inl ⟨by omega, by omega⟩ | exact Or.inr ⟨rfl, v197_0, by omega⟩⟩ dX11_readsStep_268
              exact L197 ((241 - s86 268 9 : Int).toNat + 1) s86 H locs ls hF88 hp87.1.1 hp87.1.2.1 hp87.1.2.2.1 hp87.1.2.2.2.1 (hp87.1.2.2.2.2.1.trans q71) (hp87.1.2.2.2.2.2.1.trans q72) (hp87.1.2.2.2.2.2.2.2.1.trans q73) (hp87.1.2.2.2.2.2.2.2.2.1.trans q74) (hp87.1.2.2.2.2.2.2.2.2.2.1.trans q75) (hp87.1.2.2.2.2.2.2.2.2.2.2.1.trans q76) hp87.1.2.2.2.2.2.2.2.2.2.2.2.2.1 (hp87.1.2.2.2.2.2.2.2.2.2.2.2.2.2.1.trans q79) (v4_0.f (by omega) (by omega) q89 q90) (by omega) (Nat.lt_succ_self _) hW (lv_sub hl [3] rfl)
            refine x_iconst hx hb dX11_readsStep_195 ?_
            rw [eQ]
            exact x_zret hx hb hr hlk hW (by omega) ⟨hF88, ⟨hp87.1.1, hp87.1.2.1, hp87.1.2.2.1, hp87.1.2.2.2.1, (hp87.1.2.2.2.2.1.trans q71), (hp87.1.2.2.2.2.2.1.trans q72), (hp87.1.2.2.2.2.2.2.2.1.trans q73), (hp87.1.2.2.2.2.2.2.2.2.1.trans q74), (hp87.1.2.2.2.2.2.2.2.2.2.1.trans q75), (hp87.1.2.2.2.2.2.2.2.2.2.2.1.trans q76), trivial⟩, by first | exact Or.inl ⟨by omega, by omega⟩ | exact Or.inr ⟨rfl, v197_0, by omega⟩⟩ dX11_readsStep_196
          refine x_aload_n hx hb hl 3 rfl dX11_readsStep_151 rfl ?_
          refine x_bipush hx hb dX11_readsStep_152 (by decide) ?_
          refine x_iload_n hx hb hl 2 rfl dX11_readsStep_154 rfl ?_
          refine x_goi (x_runV (As := [.int (xJ 6), .int (xJ x12)]) hx hb hml hown hT hE hW hl.1 (Or.inl (by decide)) (so_268 h0 g _) rfl cf_X11_wrongAt wq1401 wq107 wq1399 (c_X11_wrongAt l D g T h0 s24 hW.2.1 6 (by decide) x12 rx12 q25 q26 q27 q28) ⟨rfl, rfl, ⟨by decide, by decide⟩, ⟨by decide, by decide⟩⟩ rfl rfl (Nat.le_of_ble_eq_true rfl) dX11_readsStep_155) hW (fun x156 s157 H locs rx156 hp158 hW => ?_)
          obtain ⟨fs157, hp158⟩ := hp158
          have hF159 := hF41.call fs157 (fun k h => by omega)
          have q160 : s157 291 = s_4 291 := (fs157 _ (by omega)).trans q39
          have q161 : s157 292 = s_4 292 := (fs157 _ (by omega)).trans q40
          have ghp158 := hp158.2
          rw [eQ]
          exact x_zret hx hb hr hlk hW (by omega) ⟨hF159, ⟨hp158.1.1, hp158.1.2.1, hp158.1.2.2.1, hp158.1.2.2.2.1, (hp158.1.2.2.2.2.1.trans q29), (hp158.1.2.2.2.2.2.1.trans q30), (hp158.1.2.2.2.2.2.2.2.1.trans q31), (hp158.1.2.2.2.2.2.2.2.2.1.trans q32), (hp158.1.2.2.2.2.2.2.2.2.2.1.trans q33), (hp158.1.2.2.2.2.2.2.2.2.2.2.1.trans q34), trivial⟩, by first | exact Or.inl ⟨by omega, by omega⟩ | exact Or.inr ⟨rfl, v197_0, by omega⟩⟩ dX11_readsStep_158
        refine x_aload_n hx hb hl 3 rfl dX11_readsStep_120 rfl ?_
        refine x_iconst hx hb dX11_readsStep_121 ?_
        refine x_aload_n hx hb hl 3 rfl dX11_readsStep_122 rfl ?_
        refine x_get (j := 9) (v := .int (xJ (s_4 268 9))) hx hb hown hT hE hW cls_X11 (Or.inl (by decide)) (so_268 h0 g _) (by decide) rfl wq1194 dX11_readsStep_123 ?_
        refine x_rd hW (fun x162 ex162 rx162 => ?_)
        have bx162 : 0 ≤ x162 ∧ x162 ≤ s_4 268 10 ∧ s_4 268 10 ≤ 240 := by rw [ex162]; exact q4_3
        have fx162 : x162 = s_4 268 9 := ex162.trans q8
        refine x_goi (x_runV (As := [.int (xJ 1), .int (xJ x162)]) hx hb hml hown hT hE hW hl.1 (Or.inl (by decide)) (so_268 h0 g _) rfl cf_X11_wrongAt wq1401 wq107 wq1399 (c_X11_wrongAt l D g T h0 s_4 hW.2.1 1 (by decide) x162 rx162 q4_0 q4_1 q4_2 q4_3) ⟨rfl, rfl, ⟨by decide, by decide⟩, ⟨by decide, by decide⟩⟩ rfl rfl (Nat.le_of_ble_eq_true rfl) dX11_readsStep_126) hW (fun x163 s164 H locs rx163 hp165 hW => ?_)
        obtain ⟨fs164, hp165⟩ := hp165
        have hF166 := hF_4.call fs164 (fun k h => by omega)
        have q167 : s164 291 = s_4 291 := (fs164 _ (by omega)).trans q13
        have q168 : s164 292 = s_4 292 := (fs164 _ (by omega)).trans q14
        have ghp165 := hp165.2
        rw [eQ]
        exact x_zret hx hb hr hlk hW (by omega) ⟨hF166, ⟨hp165.1.1, hp165.1.2.1, hp165.1.2.2.1, hp165.1.2.2.2.1, (hp165.1.2.2.2.2.1.trans q4_4), (hp165.1.2.2.2.2.2.1.trans q4_5), (hp165.1.2.2.2.2.2.2.2.1.trans q4_6), (hp165.1.2.2.2.2.2.2.2.2.1.trans q4_7), (hp165.1.2.2.2.2.2.2.2.2.2.1.trans q4_8), (hp165.1.2.2.2.2.2.2.2.2.2.2.1.trans q4_9), trivial⟩, by first | exact Or.inl ⟨by omega, by omega⟩ | exact Or.inr ⟨rfl, v197_0, by omega⟩⟩ dX11_readsStep_129
      refine x_aload_n hx hb hl 0 rfl dX11_readsStep_13 rfl ?_
      refine x_get (j := 35) (v := .int (xJ (s_4 268 35))) hx hb hown hT hE hW cls_X11 (Or.inl (by decide)) (so_268 h0 g _) (by decide) rfl wq1220 dX11_readsStep_14 ?_
      refine x_rd hW (fun x169 ex169 rx169 => ?_)
      have fx169 : x169 = s_4 268 35 := ex169.trans q10
      refine x_iconst hx hb dX11_readsStep_17 ?_
      refine x_icmp_ne (tgt := 31) hx hb rx169 (by decide) dX11_readsStep_18 (by decide) (fun c170 => ?_) (fun c170 => ?_)
      · skip
        refine x_aload_n hx hb hl 0 rfl dX11_readsStep_31 rfl ?_
        refine x_get (j := 31) (v := .ref (h0 + 290)) hx hb hown hT hE hW cls_X11 (Or.inl (by decide)) (so_268 h0 g _) (by decide) rfl wq1216 dX11_readsStep_32 ?_
        refine x_aload_n hx hb hl 0 rfl dX11_readsStep_35 rfl ?_
        refine x_get (j := 35) (v := .int (xJ (s_4 268 35))) hx hb hown hT hE hW cls_X11 (Or.inl (by decide)) (so_268 h0 g _) (by decide) rfl wq1220 dX11_readsStep_36 ?_
        refine x_rd hW (fun x171 ex171 rx171 => ?_)
        have fx171 : x171 = s_4 268 35 := ex171.trans q10
        refine x_aload_n hx hb hl 0 rfl dX11_readsStep_39 rfl ?_
        refine x_get (j := 36) (v := .int (xJ (s_4 268 36))) hx hb hown hT hE hW cls_X11 (Or.inl (by decide)) (so_268 h0 g _) (by decide) rfl wq1221 dX11_readsStep_40 ?_
        refine x_rd hW (fun x172 ex172 rx172 => ?_)
        refine x_iast hx hb hE hW (by decide) (fun σ => sa_290 h0 g σ) (by omega) (by decide) rx172 dX11_readsStep_43 (fun H locs s173 es173 hW => ?_)
        have q174 : IMn s173 := by rw [es173]; exact IMn_o (by unfold suIMn; omega) q4_0
        have q175 : IMk s173 := by rw [es173]; exact IMk_o (by unfold suIMk; omega) q4_1
        have q176 : IMo s173 := by rw [es173]; exact IMo_o (by unfold suIMo; omega) q4_2
        have q177 : IR s173 := by rw [es173]; exact IR_o (by unfold suIR; omega) q4_3
        have q178 : s173 268 8 = s0 268 8 := (show s173 268 8 = s_4 268 8 from by rw [es173, xU_k _ _ _ (by omega)]).trans q4_4
        have q179 : s173 268 58 = s0 268 58 := (show s173 268 58 = s_4 268 58 from by rw [es173, xU_k _ _ _ (by omega)]).trans q4_5
        have q180 : s173 268 10 = s0 268 10 := (show s173 268 10 = s_4 268 10 from by rw [es173, xU_k _ _ _ (by omega)]).trans q4_6
        have q181 : s173 268 14 = s0 268 14 := (show s173 268 14 = s_4 268 14 from by rw [es173, xU_k _ _ _ (by omega)]).trans q4_7
        have q182 : s173 268 15 = s0 268 15 := (show s173 268 15 = s_4 268 15 from by rw [es173, xU_k _ _ _ (by omega)]).trans q4_8
        have q183 : s173 268 16 = s0 268 16 := (show s173 268 16 = s_4 268 16 from by rw [es173, xU_k _ _ _ (by omega)]).trans q4_9
        have q184 : s173 268 34 = s0 268 34 := (show s173 268 34 = s_4 268 34 from by rw [es173, xU_k _ _ _ (by omega)]).trans q4_10
        have q185 : s173 268 9 = s_4 268 9 := (show s173 268 9 = s_4 268 9 from by rw [es173, xU_k _ _ _ (by omega)]).trans q8
        have q186 : s173 268 37 = s_4 268 37 := (show s173 268 37 = s_4 268 37 from by rw [es173, xU_k _ _ _ (by omega)]).trans q9
        have q187 : s173 268 35 = s_4 268 35 := (show s173 268 35 = s_4 268 35 from by rw [es173, xU_k _ _ _ (by omega)]).trans q10
        have hF188 := hF_4.put es173 (by omega)
        have E43 := es173
        refine x_aload_n hx hb hl 0 rfl dX11_readsStep_44 rfl ?_
        refine x_get (j := 32) (v := .ref (h0 + 291)) hx hb hown hT hE hW cls_X11 (Or.inl (by decide)) (so_268 h0 g _) (by decide) rfl wq1217 dX11_readsStep_45 ?_
        refine x_aload_n hx hb hl 0 rfl dX11_readsStep_48 rfl ?_
        refine x_get (j := 35) (v := .int (xJ (s173 268 35))) hx hb hown hT hE hW cls_X11 (Or.inl (by decide)) (so_268 h0 g _) (by decide) rfl wq1220 dX11_readsStep_49 ?_
        refine x_rd hW (fun x189 ex189 rx189 => ?_)
        have fx189 : x189 = s_4 268 35 := ex189.trans q187
        refine x_aload_n hx hb hl 0 rfl dX11_readsStep_52 rfl ?_
        refine x_get (j := 34) (v := .int (xJ (s173 268 34))) hx hb hown hT hE hW cls_X11 (Or.inl (by decide)) (so_268 h0 g _) (by decide) rfl wq1219 dX11_readsStep_53 ?_
        refine x_rd hW (fun x190 ex190 rx190 => ?_)
        have fx190 : x190 = s0 268 34 := ex190.trans q184
        refine x_iast hx hb hE hW (by decide) (fun σ => sa_291 h0 g σ) (by omega) (by decide) rx190 dX11_readsStep_56 (fun H locs s191 es191 hW => ?_)
        have q192 : IMn s191 := by rw [es191]; exact IMn_o (by unfold suIMn; omega) q174
        have q193 : IMk s191 := by rw [es191]; exact IMk_o (by unfold suIMk; omega) q175
        have q194 : IMo s191 := by rw [es191]; exact IMo_o (by unfold suIMo; omega) q176
        have q195 : IR s191 := by rw [es191]; exact IR_o (by unfold suIR; omega) q177
        have q196 : s191 268 8 = s0 268 8 := (show s191 268 8 = s173 268 8 from by rw [es191, xU_k _ _ _ (by omega)]).trans q178
        have q197 : s191 268 58 = s0 268 58 := (show s191 268 58 = s173 268 58 from by rw [es191, xU_k _ _ _ (by omega)]).trans q179
        have q198 : s191 268 10 = s0 268 10 := (show s191 268 10 = s173 268 10 from by rw [es191, xU_k _ _ _ (by omega)]).trans q180
        have q199 : s191 268 14 = s0 268 14 := (show s191 268 14 = s173 268 14 from by rw [es191, xU_k _ _ _ (by omega)]).trans q181
        have q200 : s191 268 15 = s0 268 15 := (show s191 268 15 = s173 268 15 from by rw [es191, xU_k _ _ _ (by omega)]).trans q182
        have q201 : s191 268 16 = s0 268 16 := (show s191 268 16 = s173 268 16 from by rw [es191, xU_k _ _ _ (by omega)]).trans q183
        have q202 : s191 268 34 = s0 268 34 := (show s191 268 34 = s173 268 34 from by rw [es191, xU_k _ _ _ (by omega)]).trans q184
        have q203 : s191 268 9 = s_4 268 9 := (show s191 268 9 = s173 268 9 from by rw [es191, xU_k _ _ _ (by omega)]).trans q185
        have q204 : s191 268 37 = s_4 268 37 := (show s191 268 37 = s173 268 37 from by rw [es191, xU_k _ _ _ (by omega)]).trans q186
        have q205 : s191 268 35 = s_4 268 35 := (show s191 268 35 = s173 268 35 from by rw [es191, xU_k _ _ _ (by omega)]).trans q187
        have hF206 := hF188.put es191 (by omega)
        have q207 : s191 291 = xud (s_4 291) (s_4 268 35) (s_4 268 34) := by rw [es191, xU_xud, E43, xU_k _ _ _ (by omega), show x189 = s_4 268 35 from by omega, show x190 = s_4 268 34 from by omega]
        have E56 := es191
        refine x_aload_n hx hb hl 0 rfl dX11_readsStep_57 rfl ?_
        refine x_get (j := 33) (v := .ref (h0 + 292)) hx hb hown hT hE hW cls_X11 (Or.inl (by decide)) (so_268 h0 g _) (by decide) rfl wq1218 dX11_readsStep_58 ?_
        refine x_aload_n hx hb hl 0 rfl dX11_readsStep_61 rfl ?_
        refine x_get (j := 35) (v := .int (xJ (s191 268 35))) hx hb hown hT hE hW cls_X11 (Or.inl (by decide)) (so_268 h0 g _) (by decide) rfl wq1220 dX11_readsStep_62 ?_
        refine x_rd hW (fun x208 ex208 rx208 => ?_)
        have fx208 : x208 = s_4 268 35 := ex208.trans q205
        refine x_aload_n hx hb hl 0 rfl dX11_readsStep_65 rfl ?_
        refine x_get (j := 37) (v := .int (xJ (s191 268 37))) hx hb hown hT hE hW cls_X11 (Or.inl (by decide)) (so_268 h0 g _) (by decide) rfl wq1222 dX11_readsStep_66 ?_
        refine x_rd hW (fun x209 ex209 rx209 => ?_)
        have fx209 : x209 = s_4 268 37 := ex209.trans q204
        refine x_iast hx hb hE hW (by decide) (fun σ => sa_292 h0 g σ) (by omega) (by decide) rx209 dX11_readsStep_69 (fun H locs s210 es210 hW => ?_)
        have q211 : IMn s210 := by rw [es210]; exact IMn_o (by unfold suIMn; omega) q192
        have q212 : IMk s210 := by rw [es210]; exact IMk_o (by unfold suIMk; omega) q193
        have q213 : IMo s210 := by rw [es210]; exact IMo_o (by unfold suIMo; omega) q194
        have q214 : IR s210 := by rw [es210]; exact IR_o (by unfold suIR; omega) q195
        have q215 : s210 268 8 = s0 268 8 := (show s210 268 8 = s191 268 8 from by rw [es210, xU_k _ _ _ (by omega)]).trans q196
        have q216 : s210 268 58 = s0 268 58 := (show s210 268 58 = s191 268 58 from by rw [es210, xU_k _ _ _ (by omega)]).trans q197
        have q217 : s210 268 10 = s0 268 10 := (show s210 268 10 = s191 268 10 from by rw [es210, xU_k _ _ _ (by omega)]).trans q198
        have q218 : s210 268 14 = s0 268 14 := (show s210 268 14 = s191 268 14 from by rw [es210, xU_k _ _ _ (by omega)]).trans q199
        have q219 : s210 268 15 = s0 268 15 := (show s210 268 15 = s191 268 15 from by rw [es210, xU_k _ _ _ (by omega)]).trans q200
        have q220 : s210 268 16 = s0 268 16 := (show s210 268 16 = s191 268 16 from by rw [es210, xU_k _ _ _ (by omega)]).trans q201
        have q221 : s210 268 34 = s0 268 34 := (show s210 268 34 = s191 268 34 from by rw [es210, xU_k _ _ _ (by omega)]).trans q202
        have q222 : s210 268 9 = s_4 268 9 := (show s210 268 9 = s191 268 9 from by rw [es210, xU_k _ _ _ (by omega)]).trans q203
        have q223 : s210 268 37 = s_4 268 37 := (show s210 268 37 = s191 268 37 from by rw [es210, xU_k _ _ _ (by omega)]).trans q204
        have q224 : s210 268 35 = s_4 268 35 := (show s210 268 35 = s191 268 35 from by rw [es210, xU_k _ _ _ (by omega)]).trans q205
        have q225 : s210 291 = xud (s_4 291) (s_4 268 35) (s_4 268 34) := (show s210 291 = s191 291 from by rw [es210, xU_k _ _ _ (by omega)]).trans q207
        have hF226 := hF206.put es210 (by omega)
        have q227 : s210 292 = xud (s_4 292) (s_4 268 35) (s_4 268 37) := by rw [es210, xU_xud, E56, xU_k _ _ _ (by omega), E43, xU_k _ _ _ (by omega), show x208 = s_4 268 35 from by omega, show x209 = s_4 268 37 from by omega]
        refine x_aload_n hx hb hl 0 rfl dX11_readsStep_70 rfl ?_
        refine x_aload_n hx hb hl 0 rfl dX11_readsStep_71 rfl ?_
        refine x_get (j := 35) (v := .int (xJ (s210 268 35))) hx hb hown hT hE hW cls_X11 (Or.inl (by decide)) (so_268 h0 g _) (by decide) rfl wq1220 dX11_readsStep_72 ?_
        refine x_rd hW (fun x228 ex228 rx228 => ?_)
        have fx228 : x228 = s_4 268 35 := ex228.trans q224
        refine x_iconst hx hb dX11_readsStep_75 ?_
        refine x_iadd hx hb dX11_readsStep_76 ?_
        refine x_put (j := 35) hx hb hown hT hE hW cls_X11 (by decide) (fun σ => so_268 h0 g σ) (by decide) (st_X11_35 h0 s210 268 (x228 + 1)) (ln_X11_35 h0 _ _) wq1220 rfl rfl rfl (by omega) dX11_readsStep_77 (fun H locs s229 es229 hW => ?_)
        have q230 : IMn s229 := by rw [es229]; exact IMn_268 q211 (by omega)
        have q231 : IMk s229 := by rw [es229]; exact IMk_268 q212 (by omega)
        have q232 : IMo s229 := by rw [es229]; exact IMo_o (by unfold suIMo; omega) q213
        have q233 : IR s229 := by rw [es229]; exact IR_268 q214 (by omega)
        have q234 : s229 268 8 = s0 268 8 := (show s229 268 8 = s210 268 8 from by rw [es229, xU_j _ _ (by decide)]).trans q215
        have q235 : s229 268 58 = s0 268 58 := (show s229 268 58 = s210 268 58 from by rw [es229, xU_j _ _ (by decide)]).trans q216
        have q236 : s229 268 10 = s0 268 10 := (show s229 268 10 = s210 268 10 from by rw [es229, xU_j _ _ (by decide)]).trans q217
        have q237 : s229 268 14 = s0 268 14 := (show s229 268 14 = s210 268 14 from by rw [es229, xU_j _ _ (by decide)]).trans q218
        have q238 : s229 268 15 = s0 268 15 := (show s229 268 15 = s210 268 15 from by rw [es229, xU_j _ _ (by decide)]).trans q219
        have q239 : s229 268 16 = s0 268 16 := (show s229 268 16 = s210 268 16 from by rw [es229, xU_j _ _ (by decide)]).trans q220
        have q240 : s229 268 34 = s0 268 34 := (show s229 268 34 = s210 268 34 from by rw [es229, xU_j _ _ (by decide)]).trans q221
        have q241 : s229 268 9 = s_4 268 9 := (show s229 268 9 = s210 268 9 from by rw [es229, xU_j _ _ (by decide)]).trans q222
        have q242 : s229 268 37 = s_4 268 37 := (show s229 268 37 = s210 268 37 from by rw [es229, xU_j _ _ (by decide)]).trans q223
        have q243 : s229 268 35 = (x228 + 1) := by rw [es229, xU_s]
        have q244 : s229 291 = xud (s_4 291) (s_4 268 35) (s_4 268 34) := (show s229 291 = s210 291 from by rw [es229, xU_k _ _ _ (by omega)]).trans q225
        have q245 : s229 292 = xud (s_4 292) (s_4 268 35) (s_4 268 37) := (show s229 292 = s210 292 from by rw [es229, xU_k _ _ _ (by omega)]).trans q227
        have hF246 := hF226.put es229 (by omega)
        refine x_aload_n hx hb hl 0 rfl dX11_readsStep_80 rfl ?_
        refine x_aload_n hx hb hl 0 rfl dX11_readsStep_81 rfl ?_
        refine x_get (j := 9) (v := .int (xJ (s229 268 9))) hx hb hown hT hE hW cls_X11 (Or.inl (by decide)) (so_268 h0 g _) (by decide) rfl wq1194 dX11_readsStep_82 ?_
        refine x_rd hW (fun x247 ex247 rx247 => ?_)
        have bx247 : 0 ≤ x247 ∧ x247 ≤ s229 268 10 ∧ s229 268 10 ≤ 240 := by rw [ex247]; exact q233
        have fx247 : x247 = s_4 268 9 := ex247.trans q241
        refine x_iconst hx hb dX11_readsStep_85 ?_
        refine x_iadd hx hb dX11_readsStep_86 ?_
        refine x_put (j := 9) hx hb hown hT hE hW cls_X11 (by decide) (fun σ => so_268 h0 g σ) (by decide) (st_X11_9 h0 s229 268 (x247 + 1)) (ln_X11_9 h0 _ _) wq1194 rfl rfl rfl (by omega) dX11_readsStep_87 (fun H locs s248 es248 hW => ?_)
        have q249 : IMn s248 := by rw [es248]; exact IMn_268 q230 (by omega)
        have q250 : IMk s248 := by rw [es248]; exact IMk_268 q231 (by omega)
        have q251 : IMo s248 := by rw [es248]; exact IMo_o (by unfold suIMo; omega) q232
        have q252 : IR s248 := by rw [es248]; exact IR_268 q233 (by omega)
        have q253 : s248 268 8 = s0 268 8 := (show s248 268 8 = s229 268 8 from by rw [es248, xU_j _ _ (by decide)]).trans q234
        have q254 : s248 268 58 = s0 268 58 := (show s248 268 58 = s229 268 58 from by rw [es248, xU_j _ _ (by decide)]).trans q235
        have q255 : s248 268 10 = s0 268 10 := (show s248 268 10 = s229 268 10 from by rw [es248, xU_j _ _ (by decide)]).trans q236
        have q256 : s248 268 14 = s0 268 14 := (show s248 268 14 = s229 268 14 from by rw [es248, xU_j _ _ (by decide)]).trans q237
        have q257 : s248 268 15 = s0 268 15 := (show s248 268 15 = s229 268 15 from by rw [es248, xU_j _ _ (by decide)]).trans q238
        have q258 : s248 268 16 = s0 268 16 := (show s248 268 16 = s229 268 16 from by rw [es248, xU_j _ _ (by decide)]).trans q239
        have q259 : s248 268 34 = s0 268 34 := (show s248 268 34 = s229 268 34 from by rw [es248, xU_j _ _ (by decide)]).trans q240
        have q260 : s248 268 9 = (x247 + 1) := by rw [es248, xU_s]
        have q261 : s248 268 37 = s_4 268 37 := (show s248 268 37 = s229 268 37 from by rw [es248, xU_j _ _ (by decide)]).trans q242
        have q262 : s248 268 35 = (x228 + 1) := (show s248 268 35 = s229 268 35 from by rw [es248, xU_j _ _ (by decide)]).trans q243
        have q263 : s248 291 = xud (s_4 291) (s_4 268 35) (s_4 268 34) := (show s248 291 = s229 291 from by rw [es248, xU_k _ _ _ (by omega)]).trans q244
        have q264 : s248 292 = xud (s_4 292) (s_4 268 35) (s_4 268 37) := (show s248 292 = s229 292 from by rw [es248, xU_k _ _ _ (by omega)]).trans q245
        have hF265 := hF246.put es248 (by omega)
        refine x_aload_n hx hb hl 0 rfl dX11_readsStep_90 rfl ?_
        refine x_gov (x_runV (As := []) hx hb hml hown hT hE hW hl.1 (Or.inl (by decide)) (so_268 h0 g _) rfl cf_X11_readsTimes wq1450 wq113 wq1448 (c_X11_readsTimes l D g T h0 s248 hW.2.1 q249 q250 q251 q252) ⟨rfl, rfl, ⟨by decide, by decide⟩, ⟨by decide, by decide⟩⟩ rfl rfl (Nat.le_of_ble_eq_true rfl) dX11_readsStep_91) hW (fun s267 H locs hp268 hW => ?_)
        obtain ⟨fs267, hp268⟩ := hp268
        have hF269 := hF265.call fs267 (fun k h => by omega)
        have q270 : s267 291 = xud (s_4 291) (s_4 268 35) (s_4 268 34) := (fs267 _ (by omega)).trans q263
        have q271 : s267 292 = xud (s_4 292) (s_4 268 35) (s_4 268 37) := (fs267 _ (by omega)).trans q264
        have ghp268 := hp268.2
        refine lv_goto (tgt := 4) hx hb dX11_readsStep_94 (by decide) ?_
        exact ih4 s267 H locs ls hF269 hp268.1.1 hp268.1.2.1 hp268.1.2.2.1 hp268.1.2.2.2.1 (hp268.1.2.2.2.2.1.trans q253) (hp268.1.2.2.2.2.2.1.trans q254) (hp268.1.2.2.2.2.2.2.1.trans q255) (hp268.1.2.2.2.2.2.2.2.1.trans q256) (hp268.1.2.2.2.2.2.2.2.2.1.trans q257) (hp268.1.2.2.2.2.2.2.2.2.2.1.trans q258) (hp268.1.2.2.2.2.2.2.2.2.2.2.1.trans q259) (v4_0.push (by omega) (by omega) q270 q271 (by omega)) (by omega) (by omega) (by omega) hW (lv_sub hl [0] rfl)
      refine x_aload_n hx hb hl 0 rfl dX11_readsStep_21 rfl ?_
      refine x_iconst hx hb dX11_readsStep_22 ?_
      refine x_aload_n hx hb hl 0 rfl dX11_readsStep_23 rfl ?_
      refine x_get (j := 9) (v := .int (xJ (s_4 268 9))) hx hb hown hT hE hW cls_X11 (Or.inl (by decide)) (so_268 h0 g _) (by decide) rfl wq1194 dX11_readsStep_24 ?_
      refine x_rd hW (fun x272 ex272 rx272 => ?_)
      have bx272 : 0 ≤ x272 ∧ x272 ≤ s_4 268 10 ∧ s_4 268 10 ≤ 240 := by rw [ex272]; exact q4_3
      have fx272 : x272 = s_4 268 9 := ex272.trans q8
      refine x_goi (x_runV (As := [.int (xJ 5), .int (xJ x272)]) hx hb hml hown hT hE hW hl.1 (Or.inl (by decide)) (so_268 h0 g _) rfl cf_X11_wrongAt wq1401 wq107 wq1399 (c_X11_wrongAt l D g T h0 s_4 hW.2.1 5 (by decide) x272 rx272 q4_0 q4_1 q4_2 q4_3) ⟨rfl, rfl, ⟨by decide, by decide⟩, ⟨by decide, by decide⟩⟩ rfl rfl (Nat.le_of_ble_eq_true rfl) dX11_readsStep_27) hW (fun x273 s274 H locs rx273 hp275 hW => ?_)
      obtain ⟨fs274, hp275⟩ := hp275
      have hF276 := hF_4.call fs274 (fun k h => by omega)
      have ghp275 := hp275.2
      rw [eQ]
      exact x_zret hx hb hr hlk hW (by omega) ⟨hF276, ⟨hp275.1.1, hp275.1.2.1, hp275.1.2.2.1, hp275.1.2.2.2.1, (hp275.1.2.2.2.2.1.trans q4_4), (hp275.1.2.2.2.2.2.1.trans q4_5), (hp275.1.2.2.2.2.2.2.2.1.trans q4_6), (hp275.1.2.2.2.2.2.2.2.2.1.trans q4_7), (hp275.1.2.2.2.2.2.2.2.2.2.1.trans q4_8), (hp275.1.2.2.2.2.2.2.2.2.2.2.1.trans q4_9), trivial⟩, by first | exact Or.inl ⟨by omega, by omega⟩ | exact Or.inr ⟨rfl, v197_0, by omega⟩⟩ dX11_readsStep_30
  exact L4 ((241 - s2 268 9 : Int).toNat + 1) s2 H locs ls hF4 hp3.1.1 hp3.1.2.1 hp3.1.2.2.1 hp3.1.2.2.2.1 (hp3.1.2.2.2.2.1.trans k268_8) (hp3.1.2.2.2.2.2.1.trans k268_58) (hp3.1.2.2.2.2.2.2.1.trans k268_10) (hp3.1.2.2.2.2.2.2.2.1.trans k268_14) (hp3.1.2.2.2.2.2.2.2.2.1.trans k268_15) (hp3.1.2.2.2.2.2.2.2.2.2.1.trans k268_16) (hp3.1.2.2.2.2.2.2.2.2.2.2.1.trans k268_34) (A1.2) (by omega) (by omega) (Nat.lt_succ_self _) hW (lv_sub hl [0] rfl)
