set_option maxHeartbeats 4000000 in
set_option maxRecDepth 100000 in
theorem c_X7_layersAt (l : Launch) (D : va_G) (g : xG) (T : Nat × Nat × Nat) (h0 : Nat) (s0 : xS) (hσ : xRR s0) (x : Int) (rx : xR x) (p0 : s0 131 = fun _ => 0) : Met l yX7_layersAt (xws yX7_layersAt cX7_layersAt 2 (some .int)) { frames := 1, cells := 0, slots := 0, locals := 20 } (xP [.ref (h0 + 130), .int (xJ x)] D g T h0 s0) (xQi D g h0 (fun r τ => s0 = τ ∧ (r = 0))) 0 0 (xA h0) := by
  refine x_met hσ (by decide) (Nat.le_of_ble_eq_true rfl) ?_
  intro p e s m args below meth c hx hb hr hml hown hT hlk hnm hE hW ls hl
  have hl : lv_has ls 2 [(0, .ref (h0 + 130)), (1, .int (xJ x))] := hl
  obtain ⟨Q, eQ⟩ : ∃ Q, Q = MQ below (xQi D g h0 (fun r τ => s0 = τ ∧ (r = 0))) args s 0 0 (xA h0) := ⟨_, rfl⟩
  rw [← eQ]
  generalize hHe : ([] : List Loc) = locs at hW ⊢
  obtain ⟨H, eH⟩ : ∃ H, H = s.heap := ⟨_, rfl⟩
  rw [← eH] at hW ⊢
  refine x_iload_n hx hb hl 1 rfl dX7_layersAt_0 rfl ?_
  refine x_goi (x_runSN (As := [.int (xJ x)]) hx hb hml hown hT hE hW hl.1 cf_X6_isSpot wq831 wn830 (c_X6_isSpot l D g T h0 s0 hW.2.1 x rx) ⟨rfl, rfl, ⟨by decide, by decide⟩, ⟨by decide, by decide⟩⟩ rfl rfl (Nat.le_of_ble_eq_true rfl) dX7_layersAt_1) hW (fun x1 s2 H locs rx1 hp3 hW => ?_)
  obtain ⟨es2, hp3⟩ := hp3
  subst es2
  have ghp3 := hp3
  refine x_if_eq (tgt := 16) hx hb rx1 dX7_layersAt_4 (by decide) (fun c4 => ?_) (fun c4 => ?_)
  · skip
    refine x_iconst hx hb dX7_layersAt_16 ?_
    rw [eQ]
    exact x_iret hx hb hr hlk hW (by decide) ⟨rfl, by omega⟩ dX7_layersAt_17
  refine x_aload_n hx hb hl 0 rfl dX7_layersAt_7 rfl ?_
  refine x_get (j := 0) (v := .ref (h0 + 131)) hx hb hown hT hE hW cls_X7 (Or.inl (by decide)) (so_130 h0 g _) (by decide) rfl wq330 dX7_layersAt_8 ?_
  refine x_iload_n hx hb hl 1 rfl dX7_layersAt_11 rfl ?_
  refine x_iald hx hb hE hW (Or.inl (by decide)) (sa_131 h0 g _) (by omega) (by decide) dX7_layersAt_12 ?_
  refine x_rd hW (fun x5 ex5 rx5 => ?_)
  have fx5 : x5 = 0 := by rw [ex5, p0]
  refine lv_goto (tgt := 17) hx hb dX7_layersAt_13 (by decide) ?_
  rw [eQ]
  exact x_iret hx hb hr hlk hW rx5 ⟨rfl, by omega⟩ dX7_layersAt_17
set_option maxHeartbeats 4000000 in
set_option maxRecDepth 100000 in
theorem c_X7_clear (l : Launch) (D : va_G) (g : xG) (T : Nat × Nat × Nat) (h0 : Nat) (s0 : xS) (hσ : xRR s0) (p0 : s0 130 3 = 0) : Met l yX7_clear (xws yX7_clear cX7_clear 3 none) { frames := 0, cells := 0, slots := 0, locals := 0 } (xP [.ref (h0 + 130)] D g T h0 s0) (xQv D g h0 (fun τ => xFr (fun k => k = 130) s0 τ ∧ (((τ 130 3 = 0) ∧ True) ∧ (True)))) 0 0 (xA h0) := by
  refine x_met hσ (by decide) (Nat.le_of_ble_eq_true rfl) ?_
  intro p e s m args below meth c hx hb hr hml hown hT hlk hnm hE hW ls hl
  have hl : lv_has ls 3 [(0, .ref (h0 + 130))] := hl
  obtain ⟨Q, eQ⟩ : ∃ Q, Q = MQ below (xQv D g h0 (fun τ => xFr (fun k => k = 130) s0 τ ∧ (((τ 130 3 = 0) ∧ True) ∧ (True)))) args s 0 0 (xA h0) := ⟨_, rfl⟩
  rw [← eQ]
  generalize hHe : ([] : List Loc) = locs at hW ⊢
  obtain ⟨H, eH⟩ : ∃ H, H = s.heap := ⟨_, rfl⟩
  rw [← eH] at hW ⊢
  have hF : xFr (fun k => k = 130) s0 s0 := xFr.rf
  refine x_iconst hx hb dX7_clear_0 ?_
  refine lv_istore_n (lv' := [(1, .int (xJ 0)), (0, .ref (h0 + 130))]) hx hb dX7_clear_1 rfl hl (by decide) rfl (fun ls hl => ?_)
  refine x_iload_n hx hb hl 0 rfl dX7_clear_2 rfl ?_
  refine x_aload_n hx hb hl 1 rfl dX7_clear_3 rfl ?_
  refine x_get (j := 3) (v := .int (xJ (s0 130 3))) hx hb hown hT hE hW cls_X7 (Or.inl (by decide)) (so_130 h0 g _) (by decide) rfl wq337 dX7_clear_4 ?_
  refine x_rd hW (fun x1 ex1 rx1 => ?_)
  have fx1 : x1 = 0 := by rw [ex1, p0]
  refine x_icmp_ge (tgt := 50) hx hb (by decide) rx1 dX7_clear_7 (by decide) (fun c2 => ?_) (fun c2 => False.elim (by omega))
  refine x_aload_n hx hb hl 1 rfl dX7_clear_50 rfl ?_
  refine x_iconst hx hb dX7_clear_51 ?_
  refine x_put (j := 3) hx hb hown hT hE hW cls_X7 (by decide) (fun σ => so_130 h0 g σ) (by decide) (st_X7_3 h0 s0 130 0) (ln_X7_3 h0 _ _) wq337 rfl rfl rfl (by decide) dX7_clear_52 (fun H locs s3 es3 hW => ?_)
  have q4 : s3 130 3 = 0 := by rw [es3, xU_s]
  have hF5 := hF.put es3 (by omega)
  rw [eQ]
  exact x_vret hx hb hr hlk hW ⟨hF5, ⟨q4, trivial⟩, trivial⟩ dX7_clear_55
set_option maxHeartbeats 4000000 in
set_option maxRecDepth 100000 in
theorem c_X7_howManyInMore (l : Launch) (D : va_G) (g : xG) (T : Nat × Nat × Nat) (h0 : Nat) (s0 : xS) (hσ : xRR s0) (p0 : s0 130 3 = 0) : Met l yX7_howManyInMore (xws yX7_howManyInMore cX7_howManyInMore 3 (some .int)) { frames := 0, cells := 0, slots := 0, locals := 0 } (xP [.ref (h0 + 130)] D g T h0 s0) (xQi D g h0 (fun r τ => s0 = τ ∧ (r = 0))) 0 0 (xA h0) := by
  refine x_met hσ (by decide) (Nat.le_of_ble_eq_true rfl) ?_
  intro p e s m args below meth c hx hb hr hml hown hT hlk hnm hE hW ls hl
  have hl : lv_has ls 3 [(0, .ref (h0 + 130))] := hl
  obtain ⟨Q, eQ⟩ : ∃ Q, Q = MQ below (xQi D g h0 (fun r τ => s0 = τ ∧ (r = 0))) args s 0 0 (xA h0) := ⟨_, rfl⟩
  rw [← eQ]
  generalize hHe : ([] : List Loc) = locs at hW ⊢
  obtain ⟨H, eH⟩ : ∃ H, H = s.heap := ⟨_, rfl⟩
  rw [← eH] at hW ⊢
  refine x_iconst hx hb dX7_howManyInMore_0 ?_
  refine lv_istore_n (lv' := [(1, .int (xJ 0)), (0, .ref (h0 + 130))]) hx hb dX7_howManyInMore_1 rfl hl (by decide) rfl (fun ls hl => ?_)
  refine x_iconst hx hb dX7_howManyInMore_2 ?_
  refine lv_istore_n (lv' := [(2, .int (xJ 0)), (1, .int (xJ 0)), (0, .ref (h0 + 130))]) hx hb dX7_howManyInMore_3 rfl hl (by decide) rfl (fun ls hl => ?_)
  refine x_iload_n hx hb hl 0 rfl dX7_howManyInMore_4 rfl ?_
  refine x_aload_n hx hb hl 2 rfl dX7_howManyInMore_5 rfl ?_
  refine x_get (j := 3) (v := .int (xJ (s0 130 3))) hx hb hown hT hE hW cls_X7 (Or.inl (by decide)) (so_130 h0 g _) (by decide) rfl wq337 dX7_howManyInMore_6 ?_
  refine x_rd hW (fun x1 ex1 rx1 => ?_)
  have fx1 : x1 = 0 := by rw [ex1, p0]
  refine x_icmp_ge (tgt := 46) hx hb (by decide) rx1 dX7_howManyInMore_9 (by decide) (fun c2 => ?_) (fun c2 => False.elim (by omega))
  refine x_iload_n hx hb hl 1 rfl dX7_howManyInMore_46 rfl ?_
  rw [eQ]
  exact x_iret hx hb hr hlk hW (by decide) ⟨rfl, by omega⟩ dX7_howManyInMore_47
set_option maxHeartbeats 4000000 in
set_option maxRecDepth 100000 in
theorem c_X0_judgesStep (l : Launch) (D : va_G) (g : xG) (T : Nat × Nat × Nat) (h0 : Nat) (s0 : xS) (hσ : xRR s0) (d : Nat) (hd : xDay d) (p0 : s0 (d + 1) = fun _ => (-1)) : Met l yX0_judgesStep (xws yX0_judgesStep cX0_judgesStep 5 none) { frames := 1, cells := 0, slots := 0, locals := 21 } (xP [.ref (h0 + 128), .ref (h0 + d)] D g T h0 s0) (xQv D g h0 (fun τ => s0 = τ ∧ (True))) 0 0 (xA h0) := by
  refine x_met hσ (by decide) (Nat.le_of_ble_eq_true rfl) ?_
  intro p e s m args below meth c hx hb hr hml hown hT hlk hnm hE hW ls hl
  have hl : lv_has ls 5 [(0, .ref (h0 + 128)), (1, .ref (h0 + d))] := hl
  obtain ⟨Q, eQ⟩ : ∃ Q, Q = MQ below (xQv D g h0 (fun τ => s0 = τ ∧ (True))) args s 0 0 (xA h0) := ⟨_, rfl⟩
  rw [← eQ]
  generalize hHe : ([] : List Loc) = locs at hW ⊢
  obtain ⟨H, eH⟩ : ∃ H, H = s.heap := ⟨_, rfl⟩
  rw [← eH] at hW ⊢
  have hbd : (136 ≤ d ∧ d < 209) ∧ (d ≤ 146 ∨ 158 ≤ d) := by unfold xDay at hd; omega
  refine x_iconst hx hb dX0_judgesStep_0 ?_
  refine lv_istore_n (lv' := [(2, .int (xJ 0)), (0, .ref (h0 + 128)), (1, .ref (h0 + d))]) hx hb dX0_judgesStep_1 rfl hl (by decide) rfl (fun ls hl => ?_)
  have L2 : ∀ (fu : Nat) (i2_2 : Int) (H : Heap) (locs : List Loc) (ls : Array Slot), (xR i2_2) → (0 ≤ i2_2) → (2 - i2_2).toNat < fu → xW D g h0 s H locs s0 → lv_has ls 5 [(1, .ref (h0 + d)), (2, .int (xJ i2_2))] → W p l e { frames := 1, cells := 0, slots := 0, locals := 21 } s m args below meth c H locs 0 0 Q (F0 m 2 ls []) := by
    intro fu
    induction fu with
    | zero => intro i2_2 H locs ls ri2_2 v2_0 hm; exact absurd hm (Nat.not_lt_zero _)
    | succ fu ih2 =>
      intro i2_2 H locs ls ri2_2 v2_0 hm hW hl
      refine x_iload_n hx hb hl 1 rfl dX0_judgesStep_2 rfl ?_
      refine x_iconst hx hb dX0_judgesStep_3 ?_
      refine x_icmp_ge (tgt := 85) hx hb ri2_2 (by decide) dX0_judgesStep_4 (by decide) (fun c1 => ?_) (fun c1 => ?_)
      · skip
        rw [eQ]
        exact x_vret hx hb hr hlk hW ⟨rfl, trivial⟩ dX0_judgesStep_85
      refine x_aload_n hx hb hl 0 rfl dX0_judgesStep_7 rfl ?_
      refine x_iload_n hx hb hl 1 rfl dX0_judgesStep_8 rfl ?_
      refine x_goi (x_runVN (As := [.int (xJ i2_2)]) hx hb hml hown hT hE hW hl.1 (Or.inl (by omega)) (so_day0 h0 g hd _) rfl cf_X2_hasJudge wq773 wq37 wn771 (c_X2_hasJudge l D g T h0 s0 hW.2.1 d hd i2_2 ri2_2 p0) ⟨rfl, rfl, ⟨by decide, by decide⟩, ⟨by decide, by decide⟩⟩ rfl rfl (Nat.le_of_ble_eq_true rfl) dX0_judgesStep_9) hW (fun x2 s3 H locs rx2 hp4 hW => ?_)
      obtain ⟨es3, hp4⟩ := hp4
      subst es3
      have ghp4 := hp4
      refine x_if_ne (tgt := 18) hx hb rx2 dX0_judgesStep_12 (by decide) (fun c5 => False.elim (by omega)) (fun c5 => ?_)
      refine lv_goto (tgt := 79) hx hb dX0_judgesStep_15 (by decide) ?_
      refine x_iinc (lv' := [(2, .int (xJ (i2_2 + 1))), (1, .ref (h0 + d))]) hx hb hl 1 rfl dX0_judgesStep_79 (by decide) rfl (fun ls hl => ?_)
      refine lv_goto (tgt := 2) hx hb dX0_judgesStep_82 (by decide) ?_
      exact ih2 (i2_2 + 1) H locs ls (by omega) (by omega) (by omega) hW (lv_sub hl [1, 0] rfl)
  exact L2 ((2 - 0 : Int).toNat + 1) 0 H locs ls (by decide) (by omega) (Nat.lt_succ_self _) hW (lv_sub hl [2, 0] rfl)
set_option maxHeartbeats 4000000 in
set_option maxRecDepth 100000 in
theorem c_X0_castOfLamp (l : Launch) (D : va_G) (g : xG) (T : Nat × Nat × Nat) (h0 : Nat) (s0 : xS) (hσ : xRR s0) (d : Nat) (hd : xDay d) (a : Int) (ra : xR a) (p0 : s0 (d + 1) = fun _ => (-1)) (p1 : s0 4 = fun _ => 0) : Met l yX0_castOfLamp (xws yX0_castOfLamp cX0_castOfLamp 6 none) { frames := 1, cells := 0, slots := 0, locals := 23 } (xP [.ref (h0 + 128), .ref (h0 + d), .int (xJ a)] D g T h0 s0) (xQv D g h0 (fun τ => s0 = τ ∧ (True))) 0 0 (xA h0) := by
  refine x_met hσ (by decide) (Nat.le_of_ble_eq_true rfl) ?_
  intro p e s m args below meth c hx hb hr hml hown hT hlk hnm hE hW ls hl
  have hl : lv_has ls 6 [(0, .ref (h0 + 128)), (1, .ref (h0 + d)), (2, .int (xJ a))] := hl
  obtain ⟨Q, eQ⟩ : ∃ Q, Q = MQ below (xQv D g h0 (fun τ => s0 = τ ∧ (True))) args s 0 0 (xA h0) := ⟨_, rfl⟩
  rw [← eQ]
  generalize hHe : ([] : List Loc) = locs at hW ⊢
  obtain ⟨H, eH⟩ : ∃ H, H = s.heap := ⟨_, rfl⟩
  rw [← eH] at hW ⊢
  have hbd : (136 ≤ d ∧ d < 209) ∧ (d ≤ 146 ∨ 158 ≤ d) := by unfold xDay at hd; omega
  refine x_iconst hx hb dX0_castOfLamp_0 ?_
  refine lv_istore_n (lv' := [(3, .int (xJ 0)), (0, .ref (h0 + 128)), (1, .ref (h0 + d)), (2, .int (xJ a))]) hx hb dX0_castOfLamp_1 rfl hl (by decide) rfl (fun ls hl => ?_)
  have L2 : ∀ (fu : Nat) (i3_2 : Int) (H : Heap) (locs : List Loc) (ls : Array Slot), (xR i3_2) → (0 ≤ i3_2) → (8 - i3_2).toNat < fu → xW D g h0 s H locs s0 → lv_has ls 6 [(0, .ref (h0 + 128)), (1, .ref (h0 + d)), (2, .int (xJ a)), (3, .int (xJ i3_2))] → W p l e { frames := 1, cells := 0, slots := 0, locals := 23 } s m args below meth c H locs 0 0 Q (F0 m 2 ls []) := by
    intro fu
    induction fu with
    | zero => intro i3_2 H locs ls ri3_2 v2_0 hm; exact absurd hm (Nat.not_lt_zero _)
    | succ fu ih2 =>
      intro i3_2 H locs ls ri3_2 v2_0 hm hW hl
      refine x_iload_n hx hb hl 3 rfl dX0_castOfLamp_2 rfl ?_
      refine va_getsN hx hb hE.2.2.1.1 hW.2.2 hown (xE_N hE wn847 rfl) (fun _ h9 => h9) dX0_castOfLamp_3 ?_
      refine va_tlen (v := xJ 8) hx hb hE.2.2.1.2 hW.2.2 rfl dX0_castOfLamp_6 ?_
      refine x_icmp_ge (tgt := 90) hx hb ri3_2 (by decide) dX0_castOfLamp_7 (by decide) (fun c1 => ?_) (fun c1 => ?_)
      · skip
        rw [eQ]
        exact x_vret hx hb hr hlk hW ⟨rfl, trivial⟩ dX0_castOfLamp_90
      refine x_iload_n hx hb hl 2 rfl dX0_castOfLamp_10 rfl ?_
      refine x_iconst hx hb dX0_castOfLamp_11 ?_
      refine x_icmp_eq (tgt := 90) hx hb ra (by decide) dX0_castOfLamp_12 (by decide) (fun c2 => ?_) (fun c2 => ?_)
      · skip
        rw [eQ]
        exact x_vret hx hb hr hlk hW ⟨rfl, trivial⟩ dX0_castOfLamp_90
      refine x_iload_n hx hb hl 2 rfl dX0_castOfLamp_15 rfl ?_
      refine lv_istore (lv' := [(4, .int (xJ a)), (0, .ref (h0 + 128)), (1, .ref (h0 + d)), (2, .int (xJ a)), (3, .int (xJ i3_2))]) hx hb dX0_castOfLamp_16 hl (by decide) rfl (fun ls hl => ?_)
      refine x_iconst hx hb dX0_castOfLamp_18 ?_
      refine lv_istore (lv' := [(5, .int (xJ 0)), (4, .int (xJ a)), (0, .ref (h0 + 128)), (1, .ref (h0 + d)), (2, .int (xJ a)), (3, .int (xJ i3_2))]) hx hb dX0_castOfLamp_19 hl (by decide) rfl (fun ls hl => ?_)
      have L21 : ∀ (fu : Nat) (i4_21 : Int) (i5_21 : Int) (H : Heap) (locs : List Loc) (ls : Array Slot), (xR i4_21) → (xR i5_21) → (0 ≤ i5_21) → (4 - i5_21).toNat < fu → xW D g h0 s H locs s0 → lv_has ls 6 [(0, .ref (h0 + 128)), (1, .ref (h0 + d)), (2, .int (xJ a)), (3, .int (xJ i3_2)), (4, .int (xJ i4_21)), (5, .int (xJ i5_21))] → W p l e { frames := 1, cells := 0, slots := 0, locals := 23 } s m args below meth c H locs 0 0 Q (F0 m 21 ls []) := by
        intro fu
        induction fu with
        | zero => intro i4_21 i5_21 H locs ls ri4_21 ri5_21 v21_0 hm; exact absurd hm (Nat.not_lt_zero _)
        | succ fu ih21 =>
          intro i4_21 i5_21 H locs ls ri4_21 ri5_21 v21_0 hm hW hl
          refine x_iload hx hb hl 5 rfl dX0_castOfLamp_21 ?_
          refine x_iconst hx hb dX0_castOfLamp_23 ?_
          refine x_icmp_ge (tgt := 84) hx hb ri5_21 (by decide) dX0_castOfLamp_24 (by decide) (fun c3 => ?_) (fun c3 => ?_)
          · skip
            refine x_iinc (lv' := [(3, .int (xJ (i3_2 + 1))), (0, .ref (h0 + 128)), (1, .ref (h0 + d)), (2, .int (xJ a)), (4, .int (xJ i4_21)), (5, .int (xJ i5_21))]) hx hb hl 3 rfl dX0_castOfLamp_84 (by decide) rfl (fun ls hl => ?_)
            refine lv_goto (tgt := 2) hx hb dX0_castOfLamp_87 (by decide) ?_
            exact ih2 (i3_2 + 1) H locs ls (by omega) (by omega) (by omega) hW (lv_sub hl [1, 2, 3, 0] rfl)
          refine x_iload hx hb hl 4 rfl dX0_castOfLamp_27 ?_
          refine x_iload_n hx hb hl 3 rfl dX0_castOfLamp_29 rfl ?_
          refine x_goi (x_runSN (As := [.int (xJ i4_21), .int (xJ i3_2)]) hx hb hml hown hT hE hW hl.1 cf_X6_beside wq784 wn783 (c_X6_beside l D g T h0 s0 hW.2.1 i4_21 ri4_21 i3_2 ri3_2) ⟨rfl, rfl, ⟨by decide, by decide⟩, ⟨by decide, by decide⟩⟩ rfl rfl (Nat.le_of_ble_eq_true rfl) dX0_castOfLamp_30) hW (fun x4 s5 H locs rx4 hp6 hW => ?_)
          obtain ⟨es5, hp6⟩ := hp6
          subst es5
          have ghp6 := hp6
          refine lv_istore (lv' := [(4, .int (xJ x4)), (0, .ref (h0 + 128)), (1, .ref (h0 + d)), (2, .int (xJ a)), (3, .int (xJ i3_2)), (5, .int (xJ i5_21))]) hx hb dX0_castOfLamp_33 hl (by decide) rfl (fun ls hl => ?_)
          refine x_aload_n hx hb hl 1 rfl dX0_castOfLamp_35 rfl ?_
          refine x_get (j := 0) (v := .ref (h0 + 3)) hx hb hown hT hE hW cls_X0 (Or.inl (by decide)) (so_128 h0 g _) (by decide) rfl wq351 dX0_castOfLamp_36 ?_
          refine x_iload hx hb hl 0 rfl dX0_castOfLamp_39 ?_
          refine x_goi (x_runVN (As := [.int (xJ x4)]) hx hb hml hown hT hE hW hl.1 (Or.inl (by decide)) (so_3 h0 g _) rfl cf_X6_kindAt wq619 wq10 wn848 (c_X6_kindAt l D g T h0 s0 hW.2.1 x4 rx4 p1) ⟨rfl, rfl, ⟨by decide, by decide⟩, ⟨by decide, by decide⟩⟩ rfl rfl (Nat.le_of_ble_eq_true rfl) dX0_castOfLamp_41) hW (fun x7 s8 H locs rx7 hp9 hW => ?_)
          obtain ⟨es8, hp9⟩ := hp9
          subst es8
          have ghp9 := hp9
          refine x_iconst hx hb dX0_castOfLamp_44 ?_
          refine x_icmp_ne (tgt := 51) hx hb rx7 (by decide) dX0_castOfLamp_45 (by decide) (fun c10 => ?_) (fun c10 => ?_)
          · skip
            refine x_aload_n hx hb hl 2 rfl dX0_castOfLamp_51 rfl ?_
            refine x_getN (j := 0) (v := .ref (h0 + (d + 1))) hx hb hown hT hE hW cls_X2 (Or.inl (by omega)) (so_day0 h0 g hd _) (by decide) rfl wn384 dX0_castOfLamp_52 ?_
            refine x_iload hx hb hl 0 rfl dX0_castOfLamp_55 ?_
            refine x_goi (x_runSN (As := [.ref (h0 + (d + 1)), .int (xJ x4)]) hx hb hml hown hT hE hW hl.1 cf_X10_holds wq850 wn849 (c_X10_holds2 l D g T h0 s0 hW.2.1 (d + 1) (by omega) (fun σ => sa_day1 h0 g hd σ) x4 rx4 (by omega) p0) ⟨rfl, rfl, ⟨by decide, by decide⟩, ⟨by decide, by decide⟩⟩ rfl rfl (Nat.le_of_ble_eq_true rfl) dX0_castOfLamp_57) hW (fun x11 s12 H locs rx11 hp13 hW => ?_)
            obtain ⟨es12, hp13⟩ := hp13
            subst es12
            have ghp13 := hp13
            refine x_if_eq (tgt := 78) hx hb rx11 dX0_castOfLamp_60 (by decide) (fun c14 => ?_) (fun c14 => False.elim (by omega))
            refine x_iinc (lv' := [(5, .int (xJ (i5_21 + 1))), (4, .int (xJ x4)), (0, .ref (h0 + 128)), (1, .ref (h0 + d)), (2, .int (xJ a)), (3, .int (xJ i3_2))]) hx hb hl 5 rfl dX0_castOfLamp_78 (by decide) rfl (fun ls hl => ?_)
            refine lv_goto (tgt := 21) hx hb dX0_castOfLamp_81 (by decide) ?_
            exact ih21 x4 (i5_21 + 1) H locs ls rx4 (by omega) (by omega) (by omega) hW (lv_sub hl [2, 3, 4, 5, 1, 0] rfl)
          refine lv_goto (tgt := 84) hx hb dX0_castOfLamp_48 (by decide) ?_
          refine x_iinc (lv' := [(3, .int (xJ (i3_2 + 1))), (4, .int (xJ x4)), (0, .ref (h0 + 128)), (1, .ref (h0 + d)), (2, .int (xJ a)), (5, .int (xJ i5_21))]) hx hb hl 4 rfl dX0_castOfLamp_84 (by decide) rfl (fun ls hl => ?_)
          refine lv_goto (tgt := 2) hx hb dX0_castOfLamp_87 (by decide) ?_
          exact ih2 (i3_2 + 1) H locs ls (by omega) (by omega) (by omega) hW (lv_sub hl [2, 3, 4, 0] rfl)
      exact L21 ((4 - 0 : Int).toNat + 1) a 0 H locs ls ra (by decide) (by omega) (Nat.lt_succ_self _) hW (lv_sub hl [2, 3, 4, 5, 1, 0] rfl)
  exact L2 ((8 - 0 : Int).toNat + 1) 0 H locs ls (by decide) (by omega) (Nat.lt_succ_self _) hW (lv_sub hl [1, 2, 3, 0] rfl)
set_option maxHeartbeats 4000000 in
set_option maxRecDepth 100000 in
theorem c_X0_cast (l : Launch) (D : va_G) (g : xG) (T : Nat × Nat × Nat) (h0 : Nat) (s0 : xS) (hσ : xRR s0) (d : Nat) (hd : xDay d) (a : Int) (ra : xR a) (b : Int) (rb : xR b) (p0 : s0 (d + 1) = fun _ => (-1)) (p1 : s0 4 = fun _ => 0) (p2 : s0 129 = fun _ => (-1)) (p3 : s0 130 3 = 0) : Met l yX0_cast (xws yX0_cast cX0_cast 6 none) { frames := 2, cells := 0, slots := 0, locals := 48 } (xP [.ref (h0 + 128), .ref (h0 + d), .int (xJ a), .int (xJ b)] D g T h0 s0) (xQv D g h0 (fun τ => xFr (fun k => k = 130) s0 τ ∧ (((τ 130 3 = 0) ∧ True) ∧ (True)))) 0 0 (xA h0) := by
  refine x_met hσ (by decide) (Nat.le_of_ble_eq_true rfl) ?_
  intro p e s m args below meth c hx hb hr hml hown hT hlk hnm hE hW ls hl
  have hl : lv_has ls 6 [(0, .ref (h0 + 128)), (1, .ref (h0 + d)), (2, .int (xJ a)), (3, .int (xJ b))] := hl
  obtain ⟨Q, eQ⟩ : ∃ Q, Q = MQ below (xQv D g h0 (fun τ => xFr (fun k => k = 130) s0 τ ∧ (((τ 130 3 = 0) ∧ True) ∧ (True)))) args s 0 0 (xA h0) := ⟨_, rfl⟩
  rw [← eQ]
  generalize hHe : ([] : List Loc) = locs at hW ⊢
  obtain ⟨H, eH⟩ : ∃ H, H = s.heap := ⟨_, rfl⟩
  rw [← eH] at hW ⊢
  have hF : xFr (fun k => k = 130) s0 s0 := xFr.rf
  have hbd : (136 ≤ d ∧ d < 209) ∧ (d ≤ 146 ∨ 158 ≤ d) := by unfold xDay at hd; omega
  refine x_aload_n hx hb hl 0 rfl dX0_cast_0 rfl ?_
  refine x_get (j := 3) (v := .ref (h0 + 130)) hx hb hown hT hE hW cls_X0 (Or.inl (by decide)) (so_128 h0 g _) (by decide) rfl wq357 dX0_cast_1 ?_
  refine x_gov (x_runVN (As := []) hx hb hml hown hT hE hW hl.1 (Or.inl (by decide)) (so_130 h0 g _) rfl cf_X7_clear wq828 wq47 wn826 (c_X7_clear l D g T h0 s0 hW.2.1 p3) ⟨rfl, rfl, ⟨by decide, by decide⟩, ⟨by decide, by decide⟩⟩ rfl rfl (Nat.le_of_ble_eq_true rfl) dX0_cast_4) hW (fun s2 H locs hp3 hW => ?_)
  obtain ⟨fs2, hp3⟩ := hp3
  have hF4 := hF.call fs2 (fun k h => by omega)
  have q5 : s2 (d + 1) = fun _ => (-1) := (fs2 _ (by omega)).trans p0
  have q6 : s2 4 = fun _ => 0 := (fs2 _ (by omega)).trans p1
  have q7 : s2 129 = fun _ => (-1) := (fs2 _ (by omega)).trans p2
  have ghp3 := hp3.2
  refine x_iconst hx hb dX0_cast_7 ?_
  refine lv_istore (lv' := [(4, .int (xJ 0)), (0, .ref (h0 + 128)), (1, .ref (h0 + d)), (2, .int (xJ a)), (3, .int (xJ b))]) hx hb dX0_cast_8 hl (by decide) rfl (fun ls hl => ?_)
  have L10 : ∀ (fu : Nat) (i4_10 : Int) (H : Heap) (locs : List Loc) (ls : Array Slot), (xR i4_10) → (0 ≤ i4_10) → (2 - i4_10).toNat < fu → xW D g h0 s H locs s2 → lv_has ls 6 [(0, .ref (h0 + 128)), (1, .ref (h0 + d)), (2, .int (xJ a)), (3, .int (xJ b)), (4, .int (xJ i4_10))] → W p l e { frames := 2, cells := 0, slots := 0, locals := 48 } s m args below meth c H locs 0 0 Q (F0 m 10 ls []) := by
    intro fu
    induction fu with
    | zero => intro i4_10 H locs ls ri4_10 v10_0 hm; exact absurd hm (Nat.not_lt_zero _)
    | succ fu ih10 =>
      intro i4_10 H locs ls ri4_10 v10_0 hm hW hl
      refine x_iload hx hb hl 4 rfl dX0_cast_10 ?_
      refine x_iconst hx hb dX0_cast_12 ?_
      refine x_icmp_ge (tgt := 97) hx hb ri4_10 (by decide) dX0_cast_13 (by decide) (fun c8 => ?_) (fun c8 => ?_)
      · skip
        refine x_iconst hx hb dX0_cast_97 ?_
        refine lv_istore (lv' := [(4, .int (xJ 0)), (0, .ref (h0 + 128)), (1, .ref (h0 + d)), (2, .int (xJ a)), (3, .int (xJ b))]) hx hb dX0_cast_98 hl (by decide) rfl (fun ls hl => ?_)
        have L100 : ∀ (fu : Nat) (i4_100 : Int) (H : Heap) (locs : List Loc) (ls : Array Slot), (xR i4_100) → (0 ≤ i4_100) → (4 - i4_100).toNat < fu → xW D g h0 s H locs s2 → lv_has ls 6 [(0, .ref (h0 + 128)), (1, .ref (h0 + d)), (3, .int (xJ b)), (4, .int (xJ i4_100))] → W p l e { frames := 2, cells := 0, slots := 0, locals := 48 } s m args below meth c H locs 0 0 Q (F0 m 100 ls []) := by
          intro fu
          induction fu with
          | zero => intro i4_100 H locs ls ri4_100 v100_0 hm; exact absurd hm (Nat.not_lt_zero _)
          | succ fu ih100 =>
            intro i4_100 H locs ls ri4_100 v100_0 hm hW hl
            refine x_iload hx hb hl 3 rfl dX0_cast_100 ?_
            refine x_iconst hx hb dX0_cast_102 ?_
            refine x_icmp_ge (tgt := 128) hx hb ri4_100 (by decide) dX0_cast_103 (by decide) (fun c9 => ?_) (fun c9 => ?_)
            · skip
              rw [eQ]
              exact x_vret hx hb hr hlk hW ⟨hF4, ⟨hp3.1.1, trivial⟩, trivial⟩ dX0_cast_128
            refine x_iload_n hx hb hl 2 rfl dX0_cast_106 rfl ?_
            refine x_if_eq (tgt := 128) hx hb rb dX0_cast_107 (by decide) (fun c10 => ?_) (fun c10 => ?_)
            · skip
              rw [eQ]
              exact x_vret hx hb hr hlk hW ⟨hF4, ⟨hp3.1.1, trivial⟩, trivial⟩ dX0_cast_128
            refine x_aload_n hx hb hl 0 rfl dX0_cast_110 rfl ?_
            refine x_aload_n hx hb hl 1 rfl dX0_cast_111 rfl ?_
            refine x_aload_n hx hb hl 0 rfl dX0_cast_112 rfl ?_
            refine x_get (j := 2) (v := .ref (h0 + 129)) hx hb hown hT hE hW cls_X0 (Or.inl (by decide)) (so_128 h0 g _) (by decide) rfl wq355 dX0_cast_113 ?_
            refine x_iload hx hb hl 3 rfl dX0_cast_116 ?_
            refine x_iald hx hb hE hW (Or.inl (by decide)) (sa_129 h0 g _) (by omega) (by decide) dX0_cast_118 ?_
            refine x_rd hW (fun x11 ex11 rx11 => ?_)
            have fx11 : x11 = (-1) := by rw [ex11, q7]
            refine x_gov (x_runV (As := [.ref (h0 + d), .int (xJ x11)]) hx hb hml hown hT hE hW hl.1 (Or.inl (by decide)) (so_128 h0 g _) rfl cf_X0_castOfLamp wq845 wq50 wq843 (c_X0_castOfLamp l D g T h0 s2 hW.2.1 d hd x11 rx11 q5 q6) ⟨rfl, rfl, ⟨by decide, by decide⟩, ⟨by decide, by decide⟩⟩ rfl rfl (Nat.le_of_ble_eq_true rfl) dX0_cast_119) hW (fun s13 H locs hp14 hW => ?_)
            obtain ⟨es13, hp14⟩ := hp14
            subst es13
            have ghp14 := hp14
            refine x_iinc (lv' := [(4, .int (xJ (i4_100 + 1))), (0, .ref (h0 + 128)), (1, .ref (h0 + d)), (3, .int (xJ b))]) hx hb hl 3 rfl dX0_cast_122 (by decide) rfl (fun ls hl => ?_)
            refine lv_goto (tgt := 100) hx hb dX0_cast_125 (by decide) ?_
            exact ih100 (i4_100 + 1) H locs ls (by omega) (by omega) (by omega) hW (lv_sub hl [1, 2, 3, 0] rfl)
        exact L100 ((4 - 0 : Int).toNat + 1) 0 H locs ls (by decide) (by omega) (Nat.lt_succ_self _) hW (lv_sub hl [1, 2, 4, 0] rfl)
      refine x_iload_n hx hb hl 2 rfl dX0_cast_16 rfl ?_
      refine x_if_eq (tgt := 97) hx hb ra dX0_cast_17 (by decide) (fun c15 => ?_) (fun c15 => ?_)
      · skip
        refine x_iconst hx hb dX0_cast_97 ?_
        refine lv_istore (lv' := [(4, .int (xJ 0)), (0, .ref (h0 + 128)), (1, .ref (h0 + d)), (2, .int (xJ a)), (3, .int (xJ b))]) hx hb dX0_cast_98 hl (by decide) rfl (fun ls hl => ?_)
        have L100 : ∀ (fu : Nat) (i4_100 : Int) (H : Heap) (locs : List Loc) (ls : Array Slot), (xR i4_100) → (0 ≤ i4_100) → (4 - i4_100).toNat < fu → xW D g h0 s H locs s2 → lv_has ls 6 [(0, .ref (h0 + 128)), (1, .ref (h0 + d)), (3, .int (xJ b)), (4, .int (xJ i4_100))] → W p l e { frames := 2, cells := 0, slots := 0, locals := 48 } s m args below meth c H locs 0 0 Q (F0 m 100 ls []) := by
          intro fu
          induction fu with
          | zero => intro i4_100 H locs ls ri4_100 v100_0 hm; exact absurd hm (Nat.not_lt_zero _)
          | succ fu ih100 =>
            intro i4_100 H locs ls ri4_100 v100_0 hm hW hl
            refine x_iload hx hb hl 3 rfl dX0_cast_100 ?_
            refine x_iconst hx hb dX0_cast_102 ?_
            refine x_icmp_ge (tgt := 128) hx hb ri4_100 (by decide) dX0_cast_103 (by decide) (fun c16 => ?_) (fun c16 => ?_)
            · skip
              rw [eQ]
              exact x_vret hx hb hr hlk hW ⟨hF4, ⟨hp3.1.1, trivial⟩, trivial⟩ dX0_cast_128
            refine x_iload_n hx hb hl 2 rfl dX0_cast_106 rfl ?_
            refine x_if_eq (tgt := 128) hx hb rb dX0_cast_107 (by decide) (fun c17 => ?_) (fun c17 => ?_)
            · skip
              rw [eQ]
              exact x_vret hx hb hr hlk hW ⟨hF4, ⟨hp3.1.1, trivial⟩, trivial⟩ dX0_cast_128
            refine x_aload_n hx hb hl 0 rfl dX0_cast_110 rfl ?_
            refine x_aload_n hx hb hl 1 rfl dX0_cast_111 rfl ?_
            refine x_aload_n hx hb hl 0 rfl dX0_cast_112 rfl ?_
            refine x_get (j := 2) (v := .ref (h0 + 129)) hx hb hown hT hE hW cls_X0 (Or.inl (by decide)) (so_128 h0 g _) (by decide) rfl wq355 dX0_cast_113 ?_
            refine x_iload hx hb hl 3 rfl dX0_cast_116 ?_
            refine x_iald hx hb hE hW (Or.inl (by decide)) (sa_129 h0 g _) (by omega) (by decide) dX0_cast_118 ?_
            refine x_rd hW (fun x18 ex18 rx18 => ?_)
            have fx18 : x18 = (-1) := by rw [ex18, q7]
            refine x_gov (x_runV (As := [.ref (h0 + d), .int (xJ x18)]) hx hb hml hown hT hE hW hl.1 (Or.inl (by decide)) (so_128 h0 g _) rfl cf_X0_castOfLamp wq845 wq50 wq843 (c_X0_castOfLamp l D g T h0 s2 hW.2.1 d hd x18 rx18 q5 q6) ⟨rfl, rfl, ⟨by decide, by decide⟩, ⟨by decide, by decide⟩⟩ rfl rfl (Nat.le_of_ble_eq_true rfl) dX0_cast_119) hW (fun s20 H locs hp21 hW => ?_)
            obtain ⟨es20, hp21⟩ := hp21
            subst es20
            have ghp21 := hp21
            refine x_iinc (lv' := [(4, .int (xJ (i4_100 + 1))), (0, .ref (h0 + 128)), (1, .ref (h0 + d)), (3, .int (xJ b))]) hx hb hl 3 rfl dX0_cast_122 (by decide) rfl (fun ls hl => ?_)
            refine lv_goto (tgt := 100) hx hb dX0_cast_125 (by decide) ?_
            exact ih100 (i4_100 + 1) H locs ls (by omega) (by omega) (by omega) hW (lv_sub hl [1, 2, 3, 0] rfl)
        exact L100 ((4 - 0 : Int).toNat + 1) 0 H locs ls (by decide) (by omega) (Nat.lt_succ_self _) hW (lv_sub hl [1, 2, 4, 0] rfl)
      refine x_aload_n hx hb hl 1 rfl dX0_cast_20 rfl ?_
      refine x_iload hx hb hl 4 rfl dX0_cast_21 ?_
      refine x_goi (x_runVN (As := [.int (xJ i4_10)]) hx hb hml hown hT hE hW hl.1 (Or.inl (by omega)) (so_day0 h0 g hd _) rfl cf_X2_hasJudge wq773 wq37 wn771 (c_X2_hasJudge l D g T h0 s2 hW.2.1 d hd i4_10 ri4_10 q5) ⟨rfl, rfl, ⟨by decide, by decide⟩, ⟨by decide, by decide⟩⟩ rfl rfl (Nat.le_of_ble_eq_true rfl) dX0_cast_23) hW (fun x22 s23 H locs rx22 hp24 hW => ?_)
      obtain ⟨es23, hp24⟩ := hp24
      subst es23
      have ghp24 := hp24
      refine x_if_eq (tgt := 91) hx hb rx22 dX0_cast_26 (by decide) (fun c25 => ?_) (fun c25 => False.elim (by omega))
      refine x_iinc (lv' := [(4, .int (xJ (i4_10 + 1))), (0, .ref (h0 + 128)), (1, .ref (h0 + d)), (2, .int (xJ a)), (3, .int (xJ b))]) hx hb hl 4 rfl dX0_cast_91 (by decide) rfl (fun ls hl => ?_)
      refine lv_goto (tgt := 10) hx hb dX0_cast_94 (by decide) ?_
      exact ih10 (i4_10 + 1) H locs ls (by omega) (by omega) (by omega) hW (lv_sub hl [1, 2, 3, 4, 0] rfl)
  exact L10 ((2 - 0 : Int).toNat + 1) 0 H locs ls (by decide) (by omega) (Nat.lt_succ_self _) hW (lv_sub hl [1, 2, 3, 4, 0] rfl)
set_option maxHeartbeats 4000000 in
set_option maxRecDepth 100000 in
theorem c_X0_castCloudless (l : Launch) (D : va_G) (g : xG) (T : Nat × Nat × Nat) (h0 : Nat) (s0 : xS) (hσ : xRR s0) (d : Nat) (hd : xDay d) (p0 : s0 (d + 1) = fun _ => (-1)) (p1 : s0 4 = fun _ => 0) (p2 : s0 129 = fun _ => (-1)) (p3 : s0 130 3 = 0) (p4 : s0 109 6 = 0) : Met l yX0_castCloudless (xws yX0_castCloudless cX0_castCloudless 2 none) { frames := 3, cells := 0, slots := 0, locals := 73 } (xP [.ref (h0 + 128), .ref (h0 + d)] D g T h0 s0) (xQv D g h0 (fun τ => xFr (fun k => k = 115 ∨ k = 130) s0 τ ∧ (((τ 130 3 = 0) ∧ True) ∧ (True)))) 0 0 (xA h0) := by
  refine x_met hσ (by decide) (Nat.le_of_ble_eq_true rfl) ?_
  intro p e s m args below meth c hx hb hr hml hown hT hlk hnm hE hW ls hl
  have hl : lv_has ls 2 [(0, .ref (h0 + 128)), (1, .ref (h0 + d))] := hl
  obtain ⟨Q, eQ⟩ : ∃ Q, Q = MQ below (xQv D g h0 (fun τ => xFr (fun k => k = 115 ∨ k = 130) s0 τ ∧ (((τ 130 3 = 0) ∧ True) ∧ (True)))) args s 0 0 (xA h0) := ⟨_, rfl⟩
  rw [← eQ]
  generalize hHe : ([] : List Loc) = locs at hW ⊢
  obtain ⟨H, eH⟩ : ∃ H, H = s.heap := ⟨_, rfl⟩
  rw [← eH] at hW ⊢
  have hF : xFr (fun k => k = 115 ∨ k = 130) s0 s0 := xFr.rf
  have hbd : (136 ≤ d ∧ d < 209) ∧ (d ≤ 146 ∨ 158 ≤ d) := by unfold xDay at hd; omega
  refine x_aload_n hx hb hl 0 rfl dX0_castCloudless_0 rfl ?_
  refine x_aload_n hx hb hl 1 rfl dX0_castCloudless_1 rfl ?_
  refine x_iconst hx hb dX0_castCloudless_2 ?_
  refine x_aload_n hx hb hl 0 rfl dX0_castCloudless_3 rfl ?_
  refine x_get (j := 1) (v := .ref (h0 + 109)) hx hb hown hT hE hW cls_X0 (Or.inl (by decide)) (so_128 h0 g _) (by decide) rfl wq354 dX0_castCloudless_4 ?_
  refine x_aload_n hx hb hl 1 rfl dX0_castCloudless_7 rfl ?_
  refine x_getN (j := 7) (v := .int (xJ (s0 d 7))) hx hb hown hT hE hW cls_X2 (Or.inl (by omega)) (so_day0 h0 g hd _) (by decide) rfl wn402 dX0_castCloudless_8 ?_
  refine x_rd hW (fun x1 ex1 rx1 => ?_)
  refine x_goi (x_runVN (As := [.int (xJ x1)]) hx hb hml hown hT hE hW hl.1 (Or.inl (by decide)) (so_109 h0 g _) rfl cf_X4_isNight wq819 wq45 wn817 (c_X4_isNight l D g T h0 s0 hW.2.1 x1 rx1 p4) ⟨rfl, rfl, ⟨by decide, by decide⟩, ⟨by decide, by decide⟩⟩ rfl rfl (Nat.le_of_ble_eq_true rfl) dX0_castCloudless_11) hW (fun x2 s3 H locs rx2 hp4 hW => ?_)
  obtain ⟨fs3, hp4⟩ := hp4
  have hF5 := hF.call fs3 (fun k h => by omega)
  have q6 : s3 (d + 1) = fun _ => (-1) := (fs3 _ (by omega)).trans p0
  have q7 : s3 4 = fun _ => 0 := (fs3 _ (by omega)).trans p1
  have q8 : s3 129 = fun _ => (-1) := (fs3 _ (by omega)).trans p2
  have q9 : s3 130 3 = 0 := (congrFun (fs3 _ (by omega)) _).trans p3
  have q10 : s3 109 6 = 0 := (congrFun (fs3 _ (by omega)) _).trans p4
  have ghp4 := hp4
  refine x_gov (x_runV (As := [.ref (h0 + d), .int (xJ 1), .int (xJ x2)]) hx hb hml hown hT hE hW hl.1 (Or.inl (by decide)) (so_128 h0 g _) rfl cf_X0_cast wq824 wq46 wq822 (c_X0_cast l D g T h0 s3 hW.2.1 d hd 1 (by decide) x2 rx2 q6 q7 q8 q9) ⟨rfl, rfl, ⟨by decide, by decide⟩, ⟨by decide, by decide⟩⟩ rfl rfl (Nat.le_of_ble_eq_true rfl) dX0_castCloudless_14) hW (fun s12 H locs hp13 hW => ?_)
  obtain ⟨fs12, hp13⟩ := hp13
  have hF14 := hF5.call fs12 (fun k h => by omega)
  have q15 : s12 (d + 1) = fun _ => (-1) := (fs12 _ (by omega)).trans q6
  have q16 : s12 4 = fun _ => 0 := (fs12 _ (by omega)).trans q7
  have q17 : s12 129 = fun _ => (-1) := (fs12 _ (by omega)).trans q8
  have q18 : s12 109 6 = 0 := (congrFun (fs12 _ (by omega)) _).trans q10
  have ghp13 := hp13.2
  rw [eQ]
  exact x_vret hx hb hr hlk hW ⟨hF14, ⟨hp13.1.1, trivial⟩, trivial⟩ dX0_castCloudless_17
set_option maxHeartbeats 4000000 in
set_option maxRecDepth 100000 in
theorem c_X0_shadowsAt (l : Launch) (D : va_G) (g : xG) (T : Nat × Nat × Nat) (h0 : Nat) (s0 : xS) (hσ : xRR s0) (d : Nat) (hd : xDay d) (x : Int) (rx : xR x) (p0 : s0 (d + 1) = fun _ => (-1)) (p1 : s0 4 = fun _ => 0) (p2 : s0 129 = fun _ => (-1)) (p3 : s0 130 3 = 0) (p4 : s0 109 6 = 0) (p5 : s0 131 = fun _ => 0) : Met l yX0_shadowsAt (xws yX0_shadowsAt cX0_shadowsAt 3 (some .int)) { frames := 4, cells := 0, slots := 0, locals := 94 } (xP [.ref (h0 + 128), .ref (h0 + d), .int (xJ x)] D g T h0 s0) (xQi D g h0 (fun r τ => xFr (fun k => k = 115 ∨ k = 130) s0 τ ∧ (((τ 130 3 = 0) ∧ True) ∧ (r = 0)))) 0 0 (xA h0) := by
  refine x_met hσ (by decide) (Nat.le_of_ble_eq_true rfl) ?_
  intro p e s m args below meth c hx hb hr hml hown hT hlk hnm hE hW ls hl
  have hl : lv_has ls 3 [(0, .ref (h0 + 128)), (1, .ref (h0 + d)), (2, .int (xJ x))] := hl
  obtain ⟨Q, eQ⟩ : ∃ Q, Q = MQ below (xQi D g h0 (fun r τ => xFr (fun k => k = 115 ∨ k = 130) s0 τ ∧ (((τ 130 3 = 0) ∧ True) ∧ (r = 0)))) args s 0 0 (xA h0) := ⟨_, rfl⟩
  rw [← eQ]
  generalize hHe : ([] : List Loc) = locs at hW ⊢
  obtain ⟨H, eH⟩ : ∃ H, H = s.heap := ⟨_, rfl⟩
  rw [← eH] at hW ⊢
  have hF : xFr (fun k => k = 115 ∨ k = 130) s0 s0 := xFr.rf
  have hbd : (136 ≤ d ∧ d < 209) ∧ (d ≤ 146 ∨ 158 ≤ d) := by unfold xDay at hd; omega
  refine x_aload_n hx hb hl 0 rfl dX0_shadowsAt_0 rfl ?_
  refine x_aload_n hx hb hl 1 rfl dX0_shadowsAt_1 rfl ?_
  refine x_gov (x_runV (As := [.ref (h0 + d)]) hx hb hml hown hT hE hW hl.1 (Or.inl (by decide)) (so_128 h0 g _) rfl cf_X0_castCloudless wq943 wq69 wq941 (c_X0_castCloudless l D g T h0 s0 hW.2.1 d hd p0 p1 p2 p3 p4) ⟨rfl, rfl, ⟨by decide, by decide⟩, ⟨by decide, by decide⟩⟩ rfl rfl (Nat.le_of_ble_eq_true rfl) dX0_shadowsAt_2) hW (fun s2 H locs hp3 hW => ?_)
  obtain ⟨fs2, hp3⟩ := hp3
  have hF4 := hF.call fs2 (fun k h => by omega)
  have q5 : s2 (d + 1) = fun _ => (-1) := (fs2 _ (by omega)).trans p0
  have q6 : s2 4 = fun _ => 0 := (fs2 _ (by omega)).trans p1
  have q7 : s2 129 = fun _ => (-1) := (fs2 _ (by omega)).trans p2
  have q8 : s2 109 6 = 0 := (congrFun (fs2 _ (by omega)) _).trans p4
  have q9 : s2 131 = fun _ => 0 := (fs2 _ (by omega)).trans p5
  have ghp3 := hp3.2
  refine x_aload_n hx hb hl 0 rfl dX0_shadowsAt_5 rfl ?_
  refine x_get (j := 3) (v := .ref (h0 + 130)) hx hb hown hT hE hW cls_X0 (Or.inl (by decide)) (so_128 h0 g _) (by decide) rfl wq357 dX0_shadowsAt_6 ?_
  refine x_iload_n hx hb hl 2 rfl dX0_shadowsAt_9 rfl ?_
  refine x_goi (x_runVN (As := [.int (xJ x)]) hx hb hml hown hT hE hW hl.1 (Or.inl (by decide)) (so_130 h0 g _) rfl cf_X7_layersAt wq899 wq61 wn897 (c_X7_layersAt l D g T h0 s2 hW.2.1 x rx q9) ⟨rfl, rfl, ⟨by decide, by decide⟩, ⟨by decide, by decide⟩⟩ rfl rfl (Nat.le_of_ble_eq_true rfl) dX0_shadowsAt_10) hW (fun x10 s11 H locs rx10 hp12 hW => ?_)
  obtain ⟨es11, hp12⟩ := hp12
  subst es11
  have ghp12 := hp12
  rw [eQ]
  exact x_iret hx hb hr hlk hW rx10 ⟨hF4, ⟨hp3.1.1, trivial⟩, by omega⟩ dX0_shadowsAt_13
set_option maxHeartbeats 4000000 in
set_option maxRecDepth 100000 in
theorem c_X0_spotsInLampShadows (l : Launch) (D : va_G) (g : xG) (T : Nat × Nat × Nat) (h0 : Nat) (s0 : xS) (hσ : xRR s0) (d : Nat) (hd : xDay d) (x : Int) (rx : xR x) (p0 : s0 (d + 1) = fun _ => (-1)) (p1 : s0 4 = fun _ => 0) (p2 : s0 129 = fun _ => (-1)) (p3 : s0 130 3 = 0) : Met l yX0_spotsInLampShadows (xws yX0_spotsInLampShadows cX0_spotsInLampShadows 3 (some .int)) { frames := 3, cells := 0, slots := 0, locals := 73 } (xP [.ref (h0 + 128), .ref (h0 + d), .int (xJ x)] D g T h0 s0) (xQi D g h0 (fun r τ => xFr (fun k => k = 130) s0 τ ∧ (((τ 130 3 = 0) ∧ True) ∧ (r = 0)))) 0 0 (xA h0) := by
  refine x_met hσ (by decide) (Nat.le_of_ble_eq_true rfl) ?_
  intro p e s m args below meth c hx hb hr hml hown hT hlk hnm hE hW ls hl
  have hl : lv_has ls 3 [(0, .ref (h0 + 128)), (1, .ref (h0 + d)), (2, .int (xJ x))] := hl
  obtain ⟨Q, eQ⟩ : ∃ Q, Q = MQ below (xQi D g h0 (fun r τ => xFr (fun k => k = 130) s0 τ ∧ (((τ 130 3 = 0) ∧ True) ∧ (r = 0)))) args s 0 0 (xA h0) := ⟨_, rfl⟩
  rw [← eQ]
  generalize hHe : ([] : List Loc) = locs at hW ⊢
  obtain ⟨H, eH⟩ : ∃ H, H = s.heap := ⟨_, rfl⟩
  rw [← eH] at hW ⊢
  have hF : xFr (fun k => k = 130) s0 s0 := xFr.rf
  have hbd : (136 ≤ d ∧ d < 209) ∧ (d ≤ 146 ∨ 158 ≤ d) := by unfold xDay at hd; omega
  refine x_aload_n hx hb hl 0 rfl dX0_spotsInLampShadows_0 rfl ?_
  refine x_aload_n hx hb hl 1 rfl dX0_spotsInLampShadows_1 rfl ?_
  refine x_iconst hx hb dX0_spotsInLampShadows_2 ?_
  refine x_iconst hx hb dX0_spotsInLampShadows_3 ?_
  refine x_gov (x_runV (As := [.ref (h0 + d), .int (xJ 0), .int (xJ 1)]) hx hb hml hown hT hE hW hl.1 (Or.inl (by decide)) (so_128 h0 g _) rfl cf_X0_cast wq824 wq46 wq822 (c_X0_cast l D g T h0 s0 hW.2.1 d hd 0 (by decide) 1 (by decide) p0 p1 p2 p3) ⟨rfl, rfl, ⟨by decide, by decide⟩, ⟨by decide, by decide⟩⟩ rfl rfl (Nat.le_of_ble_eq_true rfl) dX0_spotsInLampShadows_4) hW (fun s2 H locs hp3 hW => ?_)
  obtain ⟨fs2, hp3⟩ := hp3
  have hF4 := hF.call fs2 (fun k h => by omega)
  have q5 : s2 (d + 1) = fun _ => (-1) := (fs2 _ (by omega)).trans p0
  have q6 : s2 4 = fun _ => 0 := (fs2 _ (by omega)).trans p1
  have q7 : s2 129 = fun _ => (-1) := (fs2 _ (by omega)).trans p2
  have ghp3 := hp3.2
  refine x_aload_n hx hb hl 0 rfl dX0_spotsInLampShadows_7 rfl ?_
  refine x_aload_n hx hb hl 1 rfl dX0_spotsInLampShadows_8 rfl ?_
  refine x_iload_n hx hb hl 2 rfl dX0_spotsInLampShadows_9 rfl ?_
  refine x_gov (x_runV (As := [.ref (h0 + d), .int (xJ x)]) hx hb hml hown hT hE hW hl.1 (Or.inl (by decide)) (so_128 h0 g _) rfl cf_X0_castOfLamp wq845 wq50 wq843 (c_X0_castOfLamp l D g T h0 s2 hW.2.1 d hd x rx q5 q6) ⟨rfl, rfl, ⟨by decide, by decide⟩, ⟨by decide, by decide⟩⟩ rfl rfl (Nat.le_of_ble_eq_true rfl) dX0_spotsInLampShadows_10) hW (fun s9 H locs hp10 hW => ?_)
  obtain ⟨es9, hp10⟩ := hp10
  subst es9
  have ghp10 := hp10
  refine x_aload_n hx hb hl 0 rfl dX0_spotsInLampShadows_13 rfl ?_
  refine x_get (j := 3) (v := .ref (h0 + 130)) hx hb hown hT hE hW cls_X0 (Or.inl (by decide)) (so_128 h0 g _) (by decide) rfl wq357 dX0_spotsInLampShadows_14 ?_
  refine x_getN (j := 3) (v := .int (xJ (s2 130 3))) hx hb hown hT hE hW cls_X7 (Or.inl (by decide)) (so_130 h0 g _) (by decide) rfl wn340 dX0_spotsInLampShadows_17 ?_
  refine x_rd hW (fun x11 ex11 rx11 => ?_)
  have fx11 : x11 = 0 := by rw [ex11, hp3.1.1]
  rw [eQ]
  exact x_iret hx hb hr hlk hW rx11 ⟨hF4, ⟨hp3.1.1, trivial⟩, by omega⟩ dX0_spotsInLampShadows_20
set_option maxHeartbeats 4000000 in
set_option maxRecDepth 100000 in
theorem c_X0_lineUp (l : Launch) (D : va_G) (g : xG) (T : Nat × Nat × Nat) (h0 : Nat) (s0 : xS) (hσ : xRR s0) (d : Nat) (hd : xDay d) (a : Int) (ra : xR a) (p0 : s0 (d + 6) = fun _ => (-1)) : Met l yX0_lineUp (xws yX0_lineUp cX0_lineUp 7 (some .int)) { frames := 2, cells := 0, slots := 0, locals := 42 } (xP [.ref (h0 + 128), .ref (h0 + d), .int (xJ a)] D g T h0 s0) (xQi D g h0 (fun r τ => s0 = τ ∧ (r = 0))) 0 0 (xA h0) := by
  refine x_met hσ (by decide) (Nat.le_of_ble_eq_true rfl) ?_
  intro p e s m args below meth c hx hb hr hml hown hT hlk hnm hE hW ls hl
  have hl : lv_has ls 7 [(0, .ref (h0 + 128)), (1, .ref (h0 + d)), (2, .int (xJ a))] := hl
  obtain ⟨Q, eQ⟩ : ∃ Q, Q = MQ below (xQi D g h0 (fun r τ => s0 = τ ∧ (r = 0))) args s 0 0 (xA h0) := ⟨_, rfl⟩
  rw [← eQ]
  generalize hHe : ([] : List Loc) = locs at hW ⊢
  obtain ⟨H, eH⟩ : ∃ H, H = s.heap := ⟨_, rfl⟩
  rw [← eH] at hW ⊢
  have hbd : (136 ≤ d ∧ d < 209) ∧ (d ≤ 146 ∨ 158 ≤ d) := by unfold xDay at hd; omega
  refine x_iconst hx hb dX0_lineUp_0 ?_
  refine lv_istore_n (lv' := [(3, .int (xJ 0)), (0, .ref (h0 + 128)), (1, .ref (h0 + d)), (2, .int (xJ a))]) hx hb dX0_lineUp_1 rfl hl (by decide) rfl (fun ls hl => ?_)
  refine x_iconst hx hb dX0_lineUp_2 ?_
  refine lv_istore (lv' := [(4, .int (xJ 0)), (3, .int (xJ 0)), (0, .ref (h0 + 128)), (1, .ref (h0 + d)), (2, .int (xJ a))]) hx hb dX0_lineUp_3 hl (by decide) rfl (fun ls hl => ?_)
  have L5 : ∀ (fu : Nat) (i4_5 : Int) (H : Heap) (locs : List Loc) (ls : Array Slot), (xR i4_5) → (0 ≤ i4_5) → (0 = 0) → (10 - i4_5).toNat < fu → xW D g h0 s H locs s0 → lv_has ls 7 [(1, .ref (h0 + d)), (3, .int (xJ 0)), (4, .int (xJ i4_5))] → W p l e { frames := 2, cells := 0, slots := 0, locals := 42 } s m args below meth c H locs 0 0 Q (F0 m 5 ls []) := by
    intro fu
    induction fu with
    | zero => intro i4_5 H locs ls ri4_5 v5_0 v5_1 hm; exact absurd hm (Nat.not_lt_zero _)
    | succ fu ih5 =>
      intro i4_5 H locs ls ri4_5 v5_0 v5_1 hm hW hl
      refine x_iload hx hb hl 2 rfl dX0_lineUp_5 ?_
      refine x_bipush hx hb dX0_lineUp_7 (by decide) ?_
      refine x_icmp_ge (tgt := 144) hx hb ri4_5 (by decide) dX0_lineUp_9 (by decide) (fun c1 => ?_) (fun c1 => ?_)
      · skip
        refine x_iload_n hx hb hl 1 rfl dX0_lineUp_144 rfl ?_
        rw [eQ]
        exact x_iret hx hb hr hlk hW (by decide) ⟨rfl, by omega⟩ dX0_lineUp_145
      refine x_aload_n hx hb hl 0 rfl dX0_lineUp_12 rfl ?_
      refine x_iload hx hb hl 2 rfl dX0_lineUp_13 ?_
      refine x_goi (x_runVN (As := [.int (xJ i4_5)]) hx hb hml hown hT hE hW hl.1 (Or.inl (by omega)) (so_day0 h0 g hd _) rfl cf_X2_mustServe wq858 wq52 wn856 (c_X2_mustServe l D g T h0 s0 hW.2.1 d hd i4_5 ri4_5 p0) ⟨rfl, rfl, ⟨by decide, by decide⟩, ⟨by decide, by decide⟩⟩ rfl rfl (Nat.le_of_ble_eq_true rfl) dX0_lineUp_15) hW (fun x2 s3 H locs rx2 hp4 hW => ?_)
      obtain ⟨es3, hp4⟩ := hp4
      subst es3
      have ghp4 := hp4
      refine x_if_ne (tgt := 24) hx hb rx2 dX0_lineUp_18 (by decide) (fun c5 => False.elim (by omega)) (fun c5 => ?_)
      refine lv_goto (tgt := 138) hx hb dX0_lineUp_21 (by decide) ?_
      refine x_iinc (lv' := [(4, .int (xJ (i4_5 + 1))), (1, .ref (h0 + d)), (3, .int (xJ 0))]) hx hb hl 2 rfl dX0_lineUp_138 (by decide) rfl (fun ls hl => ?_)
      refine lv_goto (tgt := 5) hx hb dX0_lineUp_141 (by decide) ?_
      exact ih5 (i4_5 + 1) H locs ls (by omega) (by omega) (by omega) (by omega) hW (lv_sub hl [1, 2, 0] rfl)
  exact L5 ((10 - 0 : Int).toNat + 1) 0 H locs ls (by decide) (by omega) (by omega) (Nat.lt_succ_self _) hW (lv_sub hl [3, 1, 0] rfl)
set_option maxHeartbeats 4000000 in
set_option maxRecDepth 100000 in
theorem c_X0_felonsGo (l : Launch) (D : va_G) (g : xG) (T : Nat × Nat × Nat) (h0 : Nat) (s0 : xS) (hσ : xRR s0) (d : Nat) (hd : xDay d) (a : Int) (ra : xR a) (b : Int) (rb : xR b) (ha0 : a = 0) : Met l yX0_felonsGo (xws yX0_felonsGo cX0_felonsGo 8 none) { frames := 0, cells := 0, slots := 0, locals := 0 } (xP [.ref (h0 + 128), .ref (h0 + d), .int (xJ a), .int (xJ b)] D g T h0 s0) (xQv D g h0 (fun τ => s0 = τ ∧ (True))) 0 0 (xA h0) := by
  refine x_met hσ (by decide) (Nat.le_of_ble_eq_true rfl) ?_
  intro p e s m args below meth c hx hb hr hml hown hT hlk hnm hE hW ls hl
  have hl : lv_has ls 8 [(0, .ref (h0 + 128)), (1, .ref (h0 + d)), (2, .int (xJ a)), (3, .int (xJ b))] := hl
  obtain ⟨Q, eQ⟩ : ∃ Q, Q = MQ below (xQv D g h0 (fun τ => s0 = τ ∧ (True))) args s 0 0 (xA h0) := ⟨_, rfl⟩
  rw [← eQ]
  generalize hHe : ([] : List Loc) = locs at hW ⊢
  obtain ⟨H, eH⟩ : ∃ H, H = s.heap := ⟨_, rfl⟩
  rw [← eH] at hW ⊢
  have hbd : (136 ≤ d ∧ d < 209) ∧ (d ≤ 146 ∨ 158 ≤ d) := by unfold xDay at hd; omega
  refine x_iconst hx hb dX0_felonsGo_0 ?_
  refine lv_istore (lv' := [(4, .int (xJ 0)), (0, .ref (h0 + 128)), (1, .ref (h0 + d)), (2, .int (xJ a)), (3, .int (xJ b))]) hx hb dX0_felonsGo_1 hl (by decide) rfl (fun ls hl => ?_)
  refine x_iload hx hb hl 0 rfl dX0_felonsGo_3 ?_
  refine x_iload_n hx hb hl 3 rfl dX0_felonsGo_5 rfl ?_
  refine x_icmp_ge (tgt := 209) hx hb (by decide) ra dX0_felonsGo_6 (by decide) (fun c1 => ?_) (fun c1 => False.elim (by omega))
  rw [eQ]
  exact x_vret hx hb hr hlk hW ⟨rfl, trivial⟩ dX0_felonsGo_209
set_option maxHeartbeats 4000000 in
set_option maxRecDepth 100000 in
theorem c_X0_walkOn (l : Launch) (D : va_G) (g : xG) (T : Nat × Nat × Nat) (h0 : Nat) (s0 : xS) (hσ : xRR s0) (d : Nat) (hd : xDay d) (p0 : s0 (d + 1) = fun _ => (-1)) (p1 : s0 4 = fun _ => 0) (p2 : s0 129 = fun _ => (-1)) (p3 : s0 130 3 = 0) (p4 : 0 ≤ s0 d 7 ∧ s0 d 7 ≤ 9999) : Met l yX0_walkOn (xws yX0_walkOn cX0_walkOn 2 (some .boolean)) { frames := 3, cells := 0, slots := 0, locals := 73 } (xP [.ref (h0 + 128), .ref (h0 + d)] D g T h0 s0) (xQi D g h0 (fun r τ => xFr (fun k => k = 130 ∨ k = d) s0 τ ∧ (((τ 130 3 = 0) ∧ (0 ≤ τ d 7 ∧ τ d 7 ≤ 9999) ∧ True) ∧ (r = 0 ∨ r = 1)))) 0 0 (xA h0) := by
  refine x_met hσ (by decide) (Nat.le_of_ble_eq_true rfl) ?_
  intro p e s m args below meth c hx hb hr hml hown hT hlk hnm hE hW ls hl
  have hl : lv_has ls 2 [(0, .ref (h0 + 128)), (1, .ref (h0 + d))] := hl
  obtain ⟨Q, eQ⟩ : ∃ Q, Q = MQ below (xQi D g h0 (fun r τ => xFr (fun k => k = 130 ∨ k = d) s0 τ ∧ (((τ 130 3 = 0) ∧ (0 ≤ τ d 7 ∧ τ d 7 ≤ 9999) ∧ True) ∧ (r = 0 ∨ r = 1)))) args s 0 0 (xA h0) := ⟨_, rfl⟩
  rw [← eQ]
  generalize hHe : ([] : List Loc) = locs at hW ⊢
  obtain ⟨H, eH⟩ : ∃ H, H = s.heap := ⟨_, rfl⟩
  rw [← eH] at hW ⊢
  have hF : xFr (fun k => k = 130 ∨ k = d) s0 s0 := xFr.rf
  have hbd : (136 ≤ d ∧ d < 209) ∧ (d ≤ 146 ∨ 158 ≤ d) := by unfold xDay at hd; omega
  refine x_aload_n hx hb hl 1 rfl dX0_walkOn_0 rfl ?_
  refine x_getN (j := 7) (v := .int (xJ (s0 d 7))) hx hb hown hT hE hW cls_X2 (Or.inl (by omega)) (so_day0 h0 g hd _) (by decide) rfl wn402 dX0_walkOn_1 ?_
  refine x_rd hW (fun x1 ex1 rx1 => ?_)
  have qx1 : 0 ≤ x1 ∧ x1 ≤ 9999 := by rw [ex1]; exact p4
  have q2 : s0 d 7 = x1 := ex1.symm
  refine x_sipush hx hb dX0_walkOn_4 (by decide) ?_
  refine x_icmp_lt (tgt := 12) hx hb rx1 (by decide) dX0_walkOn_7 (by decide) (fun c3 => ?_) (fun c3 => ?_)
  · skip
    refine x_aload_n hx hb hl 0 rfl dX0_walkOn_12 rfl ?_
    refine x_aload_n hx hb hl 1 rfl dX0_walkOn_13 rfl ?_
    refine x_gov (x_runV (As := [.ref (h0 + d)]) hx hb hml hown hT hE hW hl.1 (Or.inl (by decide)) (so_128 h0 g _) rfl cf_X0_judgesStep wq769 wq36 wq767 (c_X0_judgesStep l D g T h0 s0 hW.2.1 d hd p0) ⟨rfl, rfl, ⟨by decide, by decide⟩, ⟨by decide, by decide⟩⟩ rfl rfl (Nat.le_of_ble_eq_true rfl) dX0_walkOn_14) hW (fun s5 H locs hp6 hW => ?_)
    obtain ⟨es5, hp6⟩ := hp6
    subst es5
    have ghp6 := hp6
    refine x_aload_n hx hb hl 0 rfl dX0_walkOn_17 rfl ?_
    refine x_aload_n hx hb hl 1 rfl dX0_walkOn_18 rfl ?_
    refine x_iconst hx hb dX0_walkOn_19 ?_
    refine x_iconst hx hb dX0_walkOn_20 ?_
    refine x_gov (x_runV (As := [.ref (h0 + d), .int (xJ 1), .int (xJ 0)]) hx hb hml hown hT hE hW hl.1 (Or.inl (by decide)) (so_128 h0 g _) rfl cf_X0_cast wq824 wq46 wq822 (c_X0_cast l D g T h0 s0 hW.2.1 d hd 1 (by decide) 0 (by decide) p0 p1 p2 p3) ⟨rfl, rfl, ⟨by decide, by decide⟩, ⟨by decide, by decide⟩⟩ rfl rfl (Nat.le_of_ble_eq_true rfl) dX0_walkOn_21) hW (fun s8 H locs hp9 hW => ?_)
    obtain ⟨fs8, hp9⟩ := hp9
    have hF10 := hF.call fs8 (fun k h => by omega)
    have q11 : s8 (d + 1) = fun _ => (-1) := (fs8 _ (by omega)).trans p0
    have q12 : s8 4 = fun _ => 0 := (fs8 _ (by omega)).trans p1
    have q13 : s8 129 = fun _ => (-1) := (fs8 _ (by omega)).trans p2
    have q14 : 0 ≤ s8 d 7 ∧ s8 d 7 ≤ 9999 := by rw [fs8 d (by omega)]; exact p4
    have q15 : s8 d 7 = x1 := (congrFun (fs8 _ (by omega)) _).trans q2
    have ghp9 := hp9.2
    refine x_aload_n hx hb hl 1 rfl dX0_walkOn_24 rfl ?_
    refine lv_dup hx hb dX0_walkOn_25 rfl ?_
    refine x_getN (j := 7) (v := .int (xJ (s8 d 7))) hx hb hown hT hE hW cls_X2 (Or.inl (by omega)) (so_day0 h0 g hd _) (by decide) rfl wn402 dX0_walkOn_26 ?_
    refine x_rd hW (fun x16 ex16 rx16 => ?_)
    have fx16 : x16 = x1 := by rw [ex16, q15]
    have qx16 : 0 ≤ x16 ∧ x16 ≤ 9999 := by rw [ex16]; exact q14
    refine x_iconst hx hb dX0_walkOn_29 ?_
    refine x_iadd hx hb dX0_walkOn_30 ?_
    refine x_putN (j := 7) hx hb hown hT hE hW cls_X2 (by omega) (fun σ => so_day0 h0 g hd σ) (by decide) (st_X2_7 h0 s8 d (x16 + 1)) (ln_X2_7 h0 _ _) wn402 rfl rfl rfl (by omega) dX0_walkOn_31 (fun H locs s17 es17 hW => ?_)
    have q18 : s17 (d + 1) = fun _ => (-1) := by rw [es17, xU_k _ _ _ (by omega)]; exact q11
    have q19 : s17 4 = fun _ => 0 := by rw [es17, xU_k _ _ _ (by omega)]; exact q12
    have q20 : s17 129 = fun _ => (-1) := by rw [es17, xU_k _ _ _ (by omega)]; exact q13
    have q21 : 0 ≤ s17 d 7 ∧ s17 d 7 ≤ 9999 := by rw [es17, xU_s]; omega
    have q22 : s17 d 7 = (x16 + 1) := by rw [es17, xU_s]
    have q23 : s17 130 3 = 0 := by rw [es17, xU_k _ _ _ (by omega)]; exact hp9.1.1
    have hF24 := hF10.put es17 (by omega)
    refine x_iconst hx hb dX0_walkOn_34 ?_
    rw [eQ]
    exact x_zret hx hb hr hlk hW (by omega) ⟨hF24, ⟨q23, q21, trivial⟩, by omega⟩ dX0_walkOn_35
  refine x_iconst hx hb dX0_walkOn_10 ?_
  rw [eQ]
  exact x_zret hx hb hr hlk hW (by omega) ⟨hF, ⟨p3, p4, trivial⟩, by omega⟩ dX0_walkOn_11
set_option maxHeartbeats 4000000 in
set_option maxRecDepth 100000 in
theorem c_X0_goOn (l : Launch) (D : va_G) (g : xG) (T : Nat × Nat × Nat) (h0 : Nat) (s0 : xS) (hσ : xRR s0) (d : Nat) (hd : xDay d) (n : Int) (rn : xR n) (a : Int) (ra : xR a) (z9 : Int) (z10 : Int) (z11 : Int) (p0 : s0 (d + 1) = fun _ => (-1)) (p1 : s0 (d + 6) = fun _ => (-1)) (p2 : s0 (d + 7) = fun _ => 0) (p3 : 0 ≤ s0 d 7 ∧ s0 d 7 ≤ 9999) (p4 : 0 ≤ s0 d 8 ∧ s0 d 8 ≤ 65535) (p5 : s0 4 = fun _ => 0) (p6 : s0 129 = fun _ => (-1)) (p7 : s0 130 3 = 0) (p8 : s0 109 6 = 0) (p9 : s0 d 9 = z9) (p10 : s0 d 10 = z10) (p11 : s0 d 11 = z11) : Met l yX0_goOn (xws yX0_goOn cX0_goOn 8 (some .int)) { frames := 3, cells := 0, slots := 0, locals := 73 } (xP [.ref (h0 + 128), .ref (h0 + d), .int (xJ n), .int (xJ a)] D g T h0 s0) (xQi D g h0 (fun r τ => xFr (fun k => k = 115 ∨ k = 130 ∨ k = d) s0 τ ∧ (((0 ≤ τ d 7 ∧ τ d 7 ≤ 9999) ∧ (0 ≤ τ d 8 ∧ τ d 8 ≤ 65535) ∧ (τ 130 3 = 0) ∧ (τ d 9 = z9) ∧ (τ d 10 = z10) ∧ (τ d 11 = z11) ∧ True) ∧ (r = 0)))) 0 0 (xA h0) := by
  refine x_met hσ (by decide) (Nat.le_of_ble_eq_true rfl) ?_
  intro p e s m args below meth c hx hb hr hml hown hT hlk hnm hE hW ls hl
  have hl : lv_has ls 8 [(0, .ref (h0 + 128)), (1, .ref (h0 + d)), (2, .int (xJ n)), (3, .int (xJ a))] := hl
  obtain ⟨Q, eQ⟩ : ∃ Q, Q = MQ below (xQi D g h0 (fun r τ => xFr (fun k => k = 115 ∨ k = 130 ∨ k = d) s0 τ ∧ (((0 ≤ τ d 7 ∧ τ d 7 ≤ 9999) ∧ (0 ≤ τ d 8 ∧ τ d 8 ≤ 65535) ∧ (τ 130 3 = 0) ∧ (τ d 9 = z9) ∧ (τ d 10 = z10) ∧ (τ d 11 = z11) ∧ True) ∧ (r = 0)))) args s 0 0 (xA h0) := ⟨_, rfl⟩
  rw [← eQ]
  generalize hHe : ([] : List Loc) = locs at hW ⊢
  obtain ⟨H, eH⟩ : ∃ H, H = s.heap := ⟨_, rfl⟩
  rw [← eH] at hW ⊢
  have hF : xFr (fun k => k = 115 ∨ k = 130 ∨ k = d) s0 s0 := xFr.rf
  have hbd : (136 ≤ d ∧ d < 209) ∧ (d ≤ 146 ∨ 158 ≤ d) := by unfold xDay at hd; omega
  refine x_aload_n hx hb hl 1 rfl dX0_goOn_0 rfl ?_
  refine x_goi (x_runVN (As := []) hx hb hml hown hT hE hW hl.1 (Or.inl (by omega)) (so_day0 h0 g hd _) rfl cf_X2_owedByAll wq765 wq35 wn763 (c_X2_owedByAll l D g T h0 s0 hW.2.1 d hd p2) ⟨rfl, rfl, ⟨by decide, by decide⟩, ⟨by decide, by decide⟩⟩ rfl rfl (Nat.le_of_ble_eq_true rfl) dX0_goOn_1) hW (fun x1 s2 H locs rx1 hp3 hW => ?_)
  obtain ⟨es2, hp3⟩ := hp3
  subst es2
  have ghp3 := hp3
  refine lv_istore (lv' := [(4, .int (xJ x1)), (0, .ref (h0 + 128)), (1, .ref (h0 + d)), (2, .int (xJ n)), (3, .int (xJ a))]) hx hb dX0_goOn_4 hl (by decide) rfl (fun ls hl => ?_)
  refine x_iconst hx hb dX0_goOn_6 ?_
  refine lv_istore (lv' := [(5, .int (xJ 0)), (4, .int (xJ x1)), (0, .ref (h0 + 128)), (1, .ref (h0 + d)), (2, .int (xJ n)), (3, .int (xJ a))]) hx hb dX0_goOn_7 hl (by decide) rfl (fun ls hl => ?_)
  have L9 : ∀ (fu : Nat) (i5_9 : Int) (s_9 : xS) (H : Heap) (locs : List Loc) (ls : Array Slot), (xR i5_9) → (xFr (fun k => k = 115 ∨ k = 130 ∨ k = d) s0 s_9) → (s_9 (d + 1) = fun _ => (-1)) → (s_9 (d + 6) = fun _ => (-1)) → (s_9 (d + 7) = fun _ => 0) → (0 ≤ s_9 d 7 ∧ s_9 d 7 ≤ 9999) → (0 ≤ s_9 d 8 ∧ s_9 d 8 ≤ 65535) → (s_9 4 = fun _ => 0) → (s_9 129 = fun _ => (-1)) → (s_9 130 3 = 0) → (s_9 109 6 = 0) → (s_9 d 9 = z9) → (s_9 d 10 = z10) → (s_9 d 11 = z11) → (0 ≤ i5_9) → (x1 = 0) → (n - i5_9).toNat < fu → xW D g h0 s H locs s_9 → lv_has ls 8 [(0, .ref (h0 + 128)), (1, .ref (h0 + d)), (2, .int (xJ n)), (3, .int (xJ a)), (4, .int (xJ x1)), (5, .int (xJ i5_9))] → W p l e { frames := 3, cells := 0, slots := 0, locals := 73 } s m args below meth c H locs 0 0 Q (F0 m 9 ls []) := by
    intro fu
    induction fu with
    | zero => intro i5_9 s_9 H locs ls ri5_9 hF_9 q9_0 q9_1 q9_2 q9_3 q9_4 q9_5 q9_6 q9_7 q9_8 q9_9 q9_10 q9_11 v9_0 v9_1 hm; exact absurd hm (Nat.not_lt_zero _)
    | succ fu ih9 =>
      intro i5_9 s_9 H locs ls ri5_9 hF_9 q9_0 q9_1 q9_2 q9_3 q9_4 q9_5 q9_6 q9_7 q9_8 q9_9 q9_10 q9_11 v9_0 v9_1 hm hW hl
      refine x_iload hx hb hl 5 rfl dX0_goOn_9 ?_
      refine x_iload_n hx hb hl 2 rfl dX0_goOn_11 rfl ?_
      have J140 : ∀ (ls : Array Slot), lv_has ls 8 [(1, .ref (h0 + d)), (4, .int (xJ x1))] → W p l e { frames := 3, cells := 0, slots := 0, locals := 73 } s m args below meth c H locs 0 0 Q (F0 m 140 ls []) := by
        intro ls   hl
        refine x_iload hx hb hl 1 rfl dX0_goOn_140 ?_
        refine x_aload_n hx hb hl 0 rfl dX0_goOn_142 rfl ?_
        refine x_goi (x_runVN (As := []) hx hb hml hown hT hE hW hl.1 (Or.inl (by omega)) (so_day0 h0 g hd _) rfl cf_X2_owedByAll wq765 wq35 wn763 (c_X2_owedByAll l D g T h0 s_9 hW.2.1 d hd q9_2) ⟨rfl, rfl, ⟨by decide, by decide⟩, ⟨by decide, by decide⟩⟩ rfl rfl (Nat.le_of_ble_eq_true rfl) dX0_goOn_143) hW (fun x4 s5 H locs rx4 hp6 hW => ?_)
        obtain ⟨es5, hp6⟩ := hp6
        subst es5
        have ghp6 := hp6
        refine x_isub hx hb dX0_goOn_146 ?_
        rw [eQ]
        exact x_iret hx hb hr hlk hW (by omega) ⟨hF_9, ⟨q9_3, q9_4, q9_7, q9_9, q9_10, q9_11, trivial⟩, by omega⟩ dX0_goOn_147
      refine x_icmp_ge (tgt := 140) hx hb ri5_9 rn dX0_goOn_12 (by decide) (fun c7 => ?_) (fun c7 => ?_)
      · skip
        exact J140 ls   (lv_sub hl [1, 4] rfl)
      refine x_aload_n hx hb hl 1 rfl dX0_goOn_15 rfl ?_
      refine x_getN (j := 7) (v := .int (xJ (s_9 d 7))) hx hb hown hT hE hW cls_X2 (Or.inl (by omega)) (so_day0 h0 g hd _) (by decide) rfl wn402 dX0_goOn_16 ?_
      refine x_rd hW (fun x8 ex8 rx8 => ?_)
      have qx8 : 0 ≤ x8 ∧ x8 ≤ 9999 := by rw [ex8]; exact q9_3
      have q9 : s_9 d 7 = x8 := ex8.symm
      refine x_sipush hx hb dX0_goOn_19 (by decide) ?_
      refine x_icmp_ge (tgt := 140) hx hb rx8 (by decide) dX0_goOn_22 (by decide) (fun c10 => ?_) (fun c10 => ?_)
      · skip
        exact J140 ls   (lv_sub hl [1, 4] rfl)
      refine x_aload_n hx hb hl 0 rfl dX0_goOn_25 rfl ?_
      refine x_aload_n hx hb hl 1 rfl dX0_goOn_26 rfl ?_
      refine x_gov (x_runV (As := [.ref (h0 + d)]) hx hb hml hown hT hE hW hl.1 (Or.inl (by decide)) (so_128 h0 g _) rfl cf_X0_judgesStep wq769 wq36 wq767 (c_X0_judgesStep l D g T h0 s_9 hW.2.1 d hd q9_0) ⟨rfl, rfl, ⟨by decide, by decide⟩, ⟨by decide, by decide⟩⟩ rfl rfl (Nat.le_of_ble_eq_true rfl) dX0_goOn_27) hW (fun s12 H locs hp13 hW => ?_)
      obtain ⟨es12, hp13⟩ := hp13
      subst es12
      have ghp13 := hp13
      refine x_aload_n hx hb hl 0 rfl dX0_goOn_30 rfl ?_
      refine x_get (j := 1) (v := .ref (h0 + 109)) hx hb hown hT hE hW cls_X0 (Or.inl (by decide)) (so_128 h0 g _) (by decide) rfl wq354 dX0_goOn_31 ?_
      refine x_aload_n hx hb hl 1 rfl dX0_goOn_34 rfl ?_
      refine x_getN (j := 7) (v := .int (xJ (s_9 d 7))) hx hb hown hT hE hW cls_X2 (Or.inl (by omega)) (so_day0 h0 g hd _) (by decide) rfl wn402 dX0_goOn_35 ?_
      refine x_rd hW (fun x14 ex14 rx14 => ?_)
      have fx14 : x14 = x8 := by rw [ex14, q9]
      have qx14 : 0 ≤ x14 ∧ x14 ≤ 9999 := by rw [ex14]; exact q9_3
      refine x_gov (x_runVN (As := [.int (xJ x14)]) hx hb hml hown hT hE hW hl.1 (Or.inl (by decide)) (so_109 h0 g _) rfl cf_X4_tellMinute wq793 wq40 wn791 (c_X4_tellMinute l D g T h0 s_9 hW.2.1 x14 rx14) ⟨rfl, rfl, ⟨by decide, by decide⟩, ⟨by decide, by decide⟩⟩ rfl rfl (Nat.le_of_ble_eq_true rfl) dX0_goOn_38) hW (fun s16 H locs hp17 hW => ?_)
      obtain ⟨fs16, hp17⟩ := hp17
      have hF18 := hF_9.call fs16 (fun k h => by omega)
      have q19 : s16 (d + 1) = fun _ => (-1) := (fs16 _ (by omega)).trans q9_0
      have q20 : s16 (d + 6) = fun _ => (-1) := (fs16 _ (by omega)).trans q9_1
      have q21 : s16 (d + 7) = fun _ => 0 := (fs16 _ (by omega)).trans q9_2
      have q22 : 0 ≤ s16 d 7 ∧ s16 d 7 ≤ 9999 := by rw [fs16 d (by omega)]; exact q9_3
      have q23 : 0 ≤ s16 d 8 ∧ s16 d 8 ≤ 65535 := by rw [fs16 d (by omega)]; exact q9_4
      have q24 : s16 4 = fun _ => 0 := (fs16 _ (by omega)).trans q9_5
      have q25 : s16 129 = fun _ => (-1) := (fs16 _ (by omega)).trans q9_6
      have q26 : s16 130 3 = 0 := (congrFun (fs16 _ (by omega)) _).trans q9_7
      have q27 : s16 109 6 = 0 := (congrFun (fs16 _ (by omega)) _).trans q9_8
      have q28 : s16 d 9 = z9 := (congrFun (fs16 _ (by omega)) _).trans q9_9
      have q29 : s16 d 10 = z10 := (congrFun (fs16 _ (by omega)) _).trans q9_10
      have q30 : s16 d 11 = z11 := (congrFun (fs16 _ (by omega)) _).trans q9_11
      have q31 : s16 d 7 = x8 := (congrFun (fs16 _ (by omega)) _).trans q9
      have ghp17 := hp17
      refine x_aload_n hx hb hl 1 rfl dX0_goOn_41 rfl ?_
      refine x_goi (x_runVN (As := []) hx hb hml hown hT hE hW hl.1 (Or.inl (by omega)) (so_day0 h0 g hd _) rfl cf_X2_draw wq797 wq41 wn795 (c_X2_draw l D g T h0 s16 hW.2.1 d hd z9 z10 z11 x8 q23 q22 q28 q29 q30 q31) ⟨rfl, rfl, ⟨by decide, by decide⟩, ⟨by decide, by decide⟩⟩ rfl rfl (Nat.le_of_ble_eq_true rfl) dX0_goOn_42) hW (fun x32 s33 H locs rx32 hp34 hW => ?_)
      obtain ⟨fs33, hp34⟩ := hp34
      have hF35 := hF18.call fs33 (fun k h => by omega)
      have q36 : s33 (d + 1) = fun _ => (-1) := (fs33 _ (by omega)).trans q19
      have q37 : s33 (d + 6) = fun _ => (-1) := (fs33 _ (by omega)).trans q20
      have q38 : s33 (d + 7) = fun _ => 0 := (fs33 _ (by omega)).trans q21
      have q39 : s33 4 = fun _ => 0 := (fs33 _ (by omega)).trans q24
      have q40 : s33 129 = fun _ => (-1) := (fs33 _ (by omega)).trans q25
      have q41 : s33 130 3 = 0 := (congrFun (fs33 _ (by omega)) _).trans q26
      have q42 : s33 109 6 = 0 := (congrFun (fs33 _ (by omega)) _).trans q27
      have ghp34 := hp34.2
      refine x_aload_n hx hb hl 0 rfl dX0_goOn_45 rfl ?_
      refine x_get (j := 1) (v := .ref (h0 + 109)) hx hb hown hT hE hW cls_X0 (Or.inl (by decide)) (so_128 h0 g _) (by decide) rfl wq354 dX0_goOn_46 ?_
      refine x_bipush hx hb dX0_goOn_49 (by decide) ?_
      refine x_bipush hx hb dX0_goOn_51 (by decide) ?_
      refine x_goi (x_runVN (As := [.int (xJ 99), .int (xJ 10)]) hx hb hml hown hT hE hW hl.1 (Or.inl (by decide)) (so_109 h0 g _) rfl cf_X4_worthOf wq802 wq42 wn800 (c_X4_worthOf l D g T h0 s33 hW.2.1 99 (by decide) 10 (by decide) q42) ⟨rfl, rfl, ⟨by decide, by decide⟩, ⟨by decide, by decide⟩⟩ rfl rfl (Nat.le_of_ble_eq_true rfl) dX0_goOn_53) hW (fun x43 s44 H locs rx43 hp45 hW => ?_)
      obtain ⟨es44, hp45⟩ := hp45
      subst es44
      have ghp45 := hp45
      refine x_icmp_ge (tgt := 63) hx hb rx32 rx43 dX0_goOn_56 (by decide) (fun c46 => ?_) (fun c46 => False.elim (by omega))
      refine x_iconst hx hb dX0_goOn_63 ?_
      refine lv_istore (lv' := [(6, .int (xJ 0)), (0, .ref (h0 + 128)), (1, .ref (h0 + d)), (2, .int (xJ n)), (3, .int (xJ a)), (4, .int (xJ x1)), (5, .int (xJ i5_9))]) hx hb dX0_goOn_64 hl (by decide) rfl (fun ls hl => ?_)
      refine x_iload hx hb hl 0 rfl dX0_goOn_66 ?_
      refine x_if_eq (tgt := 81) hx hb (by decide) dX0_goOn_68 (by decide) (fun c47 => ?_) (fun c47 => False.elim (by omega))
      refine x_aload_n hx hb hl 1 rfl dX0_goOn_81 rfl ?_
      refine x_get (j := 1) (v := .ref (h0 + 109)) hx hb hown hT hE hW cls_X0 (Or.inl (by decide)) (so_128 h0 g _) (by decide) rfl wq354 dX0_goOn_82 ?_
      refine x_aload_n hx hb hl 2 rfl dX0_goOn_85 rfl ?_
      refine x_getN (j := 7) (v := .int (xJ (s33 d 7))) hx hb hown hT hE hW cls_X2 (Or.inl (by omega)) (so_day0 h0 g hd _) (by decide) rfl wn402 dX0_goOn_86 ?_
      refine x_rd hW (fun x48 ex48 rx48 => ?_)
      have fx48 : x48 = x8 := by rw [ex48, hp34.1.2.2.2.2.2.1]
      have qx48 : 0 ≤ x48 ∧ x48 ≤ 9999 := by rw [ex48]; exact hp34.1.2.1
      refine x_goi (x_runVN (As := [.int (xJ x48)]) hx hb hml hown hT hE hW hl.1 (Or.inl (by decide)) (so_109 h0 g _) rfl cf_X4_isNight wq819 wq45 wn817 (c_X4_isNight l D g T h0 s33 hW.2.1 x48 rx48 q42) ⟨rfl, rfl, ⟨by decide, by decide⟩, ⟨by decide, by decide⟩⟩ rfl rfl (Nat.le_of_ble_eq_true rfl) dX0_goOn_89) hW (fun x49 s50 H locs rx49 hp51 hW => ?_)
      obtain ⟨fs50, hp51⟩ := hp51
      have hF52 := hF35.call fs50 (fun k h => by omega)
      have q53 : s50 (d + 1) = fun _ => (-1) := (fs50 _ (by omega)).trans q36
      have q54 : s50 (d + 6) = fun _ => (-1) := (fs50 _ (by omega)).trans q37
      have q55 : s50 (d + 7) = fun _ => 0 := (fs50 _ (by omega)).trans q38
      have q56 : s50 4 = fun _ => 0 := (fs50 _ (by omega)).trans q39
      have q57 : s50 129 = fun _ => (-1) := (fs50 _ (by omega)).trans q40
      have q58 : s50 130 3 = 0 := (congrFun (fs50 _ (by omega)) _).trans q41
      have q59 : s50 109 6 = 0 := (congrFun (fs50 _ (by omega)) _).trans q42
      have q60 : 0 ≤ s50 d 8 ∧ s50 d 8 ≤ 65535 := by rw [fs50 d (by omega)]; exact hp34.1.1
      have q61 : 0 ≤ s50 d 7 ∧ s50 d 7 ≤ 9999 := by rw [fs50 d (by omega)]; exact hp34.1.2.1
      have q62 : s50 d 9 = z9 := (congrFun (fs50 _ (by omega)) _).trans hp34.1.2.2.1
      have q63 : s50 d 10 = z10 := (congrFun (fs50 _ (by omega)) _).trans hp34.1.2.2.2.1
      have q64 : s50 d 11 = z11 := (congrFun (fs50 _ (by omega)) _).trans hp34.1.2.2.2.2.1
      have q65 : s50 d 7 = x8 := (congrFun (fs50 _ (by omega)) _).trans hp34.1.2.2.2.2.2.1
      have ghp51 := hp51
      refine lv_istore (lv' := [(7, .int (xJ x49)), (6, .int (xJ 0)), (0, .ref (h0 + 128)), (1, .ref (h0 + d)), (2, .int (xJ n)), (3, .int (xJ a)), (4, .int (xJ x1)), (5, .int (xJ i5_9))]) hx hb dX0_goOn_92 hl (by decide) rfl (fun ls hl => ?_)
      refine x_aload_n hx hb hl 2 rfl dX0_goOn_94 rfl ?_
      refine x_aload_n hx hb hl 3 rfl dX0_goOn_95 rfl ?_
      refine x_iload hx hb hl 1 rfl dX0_goOn_96 ?_
      refine x_if_ne (tgt := 105) hx hb (by decide) dX0_goOn_98 (by decide) (fun c66 => False.elim (by omega)) (fun c66 => ?_)
      refine x_iconst hx hb dX0_goOn_101 ?_
      refine lv_goto (tgt := 106) hx hb dX0_goOn_102 (by decide) ?_
      refine x_iload hx hb hl 0 rfl dX0_goOn_106 ?_
      refine x_gov (x_runV (As := [.ref (h0 + d), .int (xJ 1), .int (xJ x49)]) hx hb hml hown hT hE hW hl.1 (Or.inl (by decide)) (so_128 h0 g _) rfl cf_X0_cast wq824 wq46 wq822 (c_X0_cast l D g T h0 s50 hW.2.1 d hd 1 (by decide) x49 rx49 q53 q56 q57 q58) ⟨rfl, rfl, ⟨by decide, by decide⟩, ⟨by decide, by decide⟩⟩ rfl rfl (Nat.le_of_ble_eq_true rfl) dX0_goOn_108) hW (fun s68 H locs hp69 hW => ?_)
      obtain ⟨fs68, hp69⟩ := hp69
      have hF70 := hF52.call fs68 (fun k h => by omega)
      have q71 : s68 (d + 1) = fun _ => (-1) := (fs68 _ (by omega)).trans q53
      have q72 : s68 (d + 6) = fun _ => (-1) := (fs68 _ (by omega)).trans q54
      have q73 : s68 (d + 7) = fun _ => 0 := (fs68 _ (by omega)).trans q55
      have q74 : s68 4 = fun _ => 0 := (fs68 _ (by omega)).trans q56
      have q75 : s68 129 = fun _ => (-1) := (fs68 _ (by omega)).trans q57
      have q76 : s68 109 6 = 0 := (congrFun (fs68 _ (by omega)) _).trans q59
      have q77 : 0 ≤ s68 d 8 ∧ s68 d 8 ≤ 65535 := by rw [fs68 d (by omega)]; exact q60
      have q78 : 0 ≤ s68 d 7 ∧ s68 d 7 ≤ 9999 := by rw [fs68 d (by omega)]; exact q61
      have q79 : s68 d 9 = z9 := (congrFun (fs68 _ (by omega)) _).trans q62
      have q80 : s68 d 10 = z10 := (congrFun (fs68 _ (by omega)) _).trans q63
      have q81 : s68 d 11 = z11 := (congrFun (fs68 _ (by omega)) _).trans q64
      have q82 : s68 d 7 = x8 := (congrFun (fs68 _ (by omega)) _).trans q65
      have ghp69 := hp69.2
      refine x_aload_n hx hb hl 2 rfl dX0_goOn_111 rfl ?_
      refine x_aload_n hx hb hl 3 rfl dX0_goOn_112 rfl ?_
      refine x_aload_n hx hb hl 2 rfl dX0_goOn_113 rfl ?_
      refine x_aload_n hx hb hl 3 rfl dX0_goOn_114 rfl ?_
      refine x_iload_n hx hb hl 5 rfl dX0_goOn_115 rfl ?_
      refine x_goi (x_runV (As := [.ref (h0 + d), .int (xJ a)]) hx hb hml hown hT hE hW hl.1 (Or.inl (by decide)) (so_128 h0 g _) rfl cf_X0_lineUp wq854 wq51 wq852 (c_X0_lineUp l D g T h0 s68 hW.2.1 d hd a ra q72) ⟨rfl, rfl, ⟨by decide, by decide⟩, ⟨by decide, by decide⟩⟩ rfl rfl (Nat.le_of_ble_eq_true rfl) dX0_goOn_116) hW (fun x83 s84 H locs rx83 hp85 hW => ?_)
      obtain ⟨es84, hp85⟩ := hp85
      subst es84
      have ghp85 := hp85
      refine x_iload hx hb hl 0 rfl dX0_goOn_119 ?_
      refine x_gov (x_runV (As := [.ref (h0 + d), .int (xJ x83), .int (xJ x49)]) hx hb hml hown hT hE hW hl.1 (Or.inl (by decide)) (so_128 h0 g _) rfl cf_X0_felonsGo wq875 wq56 wq873 (c_X0_felonsGo l D g T h0 s68 hW.2.1 d hd x83 rx83 x49 rx49 (by omega)) ⟨rfl, rfl, ⟨by decide, by decide⟩, ⟨by decide, by decide⟩⟩ rfl rfl (Nat.le_of_ble_eq_true rfl) dX0_goOn_121) hW (fun s87 H locs hp88 hW => ?_)
      obtain ⟨es87, hp88⟩ := hp88
      subst es87
      have ghp88 := hp88
      refine x_aload_n hx hb hl 3 rfl dX0_goOn_124 rfl ?_
      refine lv_dup hx hb dX0_goOn_125 rfl ?_
      refine x_getN (j := 7) (v := .int (xJ (s68 d 7))) hx hb hown hT hE hW cls_X2 (Or.inl (by omega)) (so_day0 h0 g hd _) (by decide) rfl wn402 dX0_goOn_126 ?_
      refine x_rd hW (fun x89 ex89 rx89 => ?_)
      have fx89 : x89 = x8 := by rw [ex89, q82]
      have qx89 : 0 ≤ x89 ∧ x89 ≤ 9999 := by rw [ex89]; exact q78
      refine x_iconst hx hb dX0_goOn_129 ?_
      refine x_iadd hx hb dX0_goOn_130 ?_
      refine x_putN (j := 7) hx hb hown hT hE hW cls_X2 (by omega) (fun σ => so_day0 h0 g hd σ) (by decide) (st_X2_7 h0 s68 d (x89 + 1)) (ln_X2_7 h0 _ _) wn402 rfl rfl rfl (by omega) dX0_goOn_131 (fun H locs s90 es90 hW => ?_)
      have q91 : s90 (d + 1) = fun _ => (-1) := by rw [es90, xU_k _ _ _ (by omega)]; exact q71
      have q92 : s90 (d + 6) = fun _ => (-1) := by rw [es90, xU_k _ _ _ (by omega)]; exact q72
      have q93 : s90 (d + 7) = fun _ => 0 := by rw [es90, xU_k _ _ _ (by omega)]; exact q73
      have q94 : s90 4 = fun _ => 0 := by rw [es90, xU_k _ _ _ (by omega)]; exact q74
      have q95 : s90 129 = fun _ => (-1) := by rw [es90, xU_k _ _ _ (by omega)]; exact q75
      have q96 : s90 109 6 = 0 := by rw [es90, xU_k _ _ _ (by omega)]; exact q76
      have q97 : 0 ≤ s90 d 8 ∧ s90 d 8 ≤ 65535 := by rw [es90, xU_j _ _ (by decide)]; exact q77
      have q98 : 0 ≤ s90 d 7 ∧ s90 d 7 ≤ 9999 := by rw [es90, xU_s]; omega
      have q99 : s90 d 9 = z9 := by rw [es90, xU_j _ _ (by decide)]; exact q79
      have q100 : s90 d 10 = z10 := by rw [es90, xU_j _ _ (by decide)]; exact q80
      have q101 : s90 d 11 = z11 := by rw [es90, xU_j _ _ (by decide)]; exact q81
      have q102 : s90 d 7 = (x89 + 1) := by rw [es90, xU_s]
      have q103 : s90 130 3 = 0 := by rw [es90, xU_k _ _ _ (by omega)]; exact hp69.1.1
      have hF104 := hF70.put es90 (by omega)
      refine x_iinc (lv' := [(5, .int (xJ (i5_9 + 1))), (7, .int (xJ x49)), (6, .int (xJ 0)), (0, .ref (h0 + 128)), (1, .ref (h0 + d)), (2, .int (xJ n)), (3, .int (xJ a)), (4, .int (xJ x1))]) hx hb hl 7 rfl dX0_goOn_134 (by decide) rfl (fun ls hl => ?_)
      refine lv_goto (tgt := 9) hx hb dX0_goOn_137 (by decide) ?_
      exact ih9 (i5_9 + 1) s90 H locs ls (by omega) hF104 q91 q92 q93 q98 q97 q94 q95 q103 q96 q99 q100 q101 (by omega) (by omega) (by omega) hW (lv_sub hl [3, 4, 5, 6, 7, 0] rfl)
  exact L9 ((n - 0 : Int).toNat + 1) 0 s0 H locs ls (by decide) hF p0 p1 p2 p3 p4 p5 p6 p7 p8 p9 p10 p11 (by omega) (by omega) (Nat.lt_succ_self _) hW (lv_sub hl [2, 3, 4, 5, 1, 0] rfl)
