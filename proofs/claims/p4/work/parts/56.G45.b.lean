set_option maxHeartbeats 4000000 in
set_option maxRecDepth 100000 in
theorem c_X11_readsConditionK (l : Launch) (D : va_G) (g : xG) (T : Nat × Nat × Nat) (h0 : Nat) (s0 : xS) (hσ : xRR s0) (f9 : Int → Int) (n9 : Int) (hf : xm8 (s0 276) = f9 ∧ s0 268 10 = n9) (hc0 : 0 ≤ s0 268 14 ∧ s0 268 14 ≤ s0 268 9) (p0 : IMn s0) (p1 : IMk s0) (p2 : IMo s0) (p3 : IR s0) : Met l yX11_readsCondition (xws yX11_readsCondition cX11_readsCondition 1 (some .boolean)) { frames := 6, cells := 0, slots := 0, locals := 125 } (xP [.ref (h0 + 268)] D g T h0 s0) (xQi D g h0 (fun r τ => xFr (fun k => k = 268 ∨ k = 277 ∨ k = 278) s0 τ ∧ (((IMn τ) ∧ (IMk τ) ∧ (IMo τ) ∧ (IR τ) ∧ (τ 268 8 = s0 268 8) ∧ (τ 268 58 = s0 268 58) ∧ (τ 268 17 = s0 268 17) ∧ (τ 268 10 = s0 268 10) ∧ (τ 268 16 = s0 268 16) ∧ True) ∧ ((r = 0 ∧ (zc2 f9 n9 (s0 268 9) (s0 268 14) (s0 277)).1 ≠ 0 ∧ τ 268 11 = (zc2 f9 n9 (s0 268 9) (s0 268 14) (s0 277)).1) ∨ (r = 1 ∧ (zc2 f9 n9 (s0 268 9) (s0 268 14) (s0 277)) = (0, τ 268 9, τ 268 14, τ 277) ∧ s0 268 9 + 1 ≤ τ 268 9))))) 0 0 (xA h0) := by
  refine x_met hσ (by decide) (Nat.le_of_ble_eq_true rfl) ?_
  intro p e s m args below meth c hx hb hr hml hown hT hlk hnm hE hW ls hl
  have hl : lv_has ls 1 [(0, .ref (h0 + 268))] := hl
  obtain ⟨Q, eQ⟩ : ∃ Q, Q = MQ below (xQi D g h0 (fun r τ => xFr (fun k => k = 268 ∨ k = 277 ∨ k = 278) s0 τ ∧ (((IMn τ) ∧ (IMk τ) ∧ (IMo τ) ∧ (IR τ) ∧ (τ 268 8 = s0 268 8) ∧ (τ 268 58 = s0 268 58) ∧ (τ 268 17 = s0 268 17) ∧ (τ 268 10 = s0 268 10) ∧ (τ 268 16 = s0 268 16) ∧ True) ∧ ((r = 0 ∧ (zc2 f9 n9 (s0 268 9) (s0 268 14) (s0 277)).1 ≠ 0 ∧ τ 268 11 = (zc2 f9 n9 (s0 268 9) (s0 268 14) (s0 277)).1) ∨ (r = 1 ∧ (zc2 f9 n9 (s0 268 9) (s0 268 14) (s0 277)) = (0, τ 268 9, τ 268 14, τ 277) ∧ s0 268 9 + 1 ≤ τ 268 9))))) args s 0 0 (xA h0) := ⟨_, rfl⟩
  rw [← eQ]
  generalize hHe : ([] : List Loc) = locs at hW ⊢
  obtain ⟨H, eH⟩ : ∃ H, H = s.heap := ⟨_, rfl⟩
  rw [← eH] at hW ⊢
  have hF : xFr (fun k => k = 268 ∨ k = 277 ∨ k = 278) s0 s0 := xFr.rf
  have k268_8 : s0 268 8 = s0 268 8 := rfl
  have k268_58 : s0 268 58 = s0 268 58 := rfl
  have k268_17 : s0 268 17 = s0 268 17 := rfl
  have k268_10 : s0 268 10 = s0 268 10 := rfl
  have k268_16 : s0 268 16 = s0 268 16 := rfl
  have k268_9 : s0 268 9 = s0 268 9 := rfl
  have k268_13 : s0 268 13 = s0 268 13 := rfl
  have k268_14 : s0 268 14 = s0 268 14 := rfl
  have k268_15 : s0 268 15 = s0 268 15 := rfl
  have hf2 := hf.2
  have hr0 : 0 ≤ s0 268 9 ∧ s0 268 9 ≤ s0 268 10 ∧ s0 268 10 ≤ 240 := p3
  refine x_aload_n hx hb hl 0 rfl dX11_readsCondition_0 rfl ?_
  refine x_goi (x_runV (As := []) hx hb hml hown hT hE hW hl.1 (Or.inl (by decide)) (so_268 h0 g _) rfl cf_X11_here wq1391 wq106 wq1389 (c_X11_here l D g T h0 s0 hW.2.1 p0 p1 p2 p3) ⟨rfl, rfl, ⟨by decide, by decide⟩, ⟨by decide, by decide⟩⟩ rfl rfl (Nat.le_of_ble_eq_true rfl) dX11_readsCondition_1) hW (fun x1 s2 H locs rx1 hp3 hW => ?_)
  obtain ⟨es2, hp3⟩ := hp3
  subst es2
  have ghp3 := hp3
  have C1 : x1 = zch f9 n9 (s0 268 9) := by
    have q8 := ghp3.1
    rw [zhC_ch, show s0 276 = s0 276 from hF 276 (by omega), hf.1, show s0 268 10 = n9 from by omega] at q8
    exact q8
  refine x_bipush hx hb dX11_readsCondition_4 (by decide) ?_
  refine x_icmp_eq (tgt := 19) hx hb rx1 (by decide) dX11_readsCondition_6 (by decide) (fun c4 => ?_) (fun c4 => ?_)
  · skip
    refine x_aload_n hx hb hl 0 rfl dX11_readsCondition_19 rfl ?_
    refine x_iconst hx hb dX11_readsCondition_20 ?_
    refine x_put (j := 13) hx hb hown hT hE hW cls_X11 (by decide) (fun σ => so_268 h0 g σ) (by decide) (st_X11_13 h0 s0 268 0) (ln_X11_13 h0 _ _) wq1198 rfl rfl rfl (by decide) dX11_readsCondition_21 (fun H locs s5 es5 hW => ?_)
    have q6 : IMn s5 := by rw [es5]; exact IMn_268 p0 (by omega)
    have q7 : IMk s5 := by rw [es5]; exact IMk_268 p1 (by omega)
    have q8 : IMo s5 := by rw [es5]; exact IMo_o (by unfold suIMo; omega) p2
    have q9 : IR s5 := by rw [es5]; exact IR_268 p3 (by omega)
    have q10 : s5 268 8 = s0 268 8 := (show s5 268 8 = s0 268 8 from by rw [es5, xU_j _ _ (by decide)]).trans k268_8
    have q11 : s5 268 58 = s0 268 58 := (show s5 268 58 = s0 268 58 from by rw [es5, xU_j _ _ (by decide)]).trans k268_58
    have q12 : s5 268 17 = s0 268 17 := (show s5 268 17 = s0 268 17 from by rw [es5, xU_j _ _ (by decide)]).trans k268_17
    have q13 : s5 268 10 = s0 268 10 := (show s5 268 10 = s0 268 10 from by rw [es5, xU_j _ _ (by decide)]).trans k268_10
    have q14 : s5 268 16 = s0 268 16 := (show s5 268 16 = s0 268 16 from by rw [es5, xU_j _ _ (by decide)]).trans k268_16
    have q15 : s5 268 9 = s0 268 9 := (show s5 268 9 = s0 268 9 from by rw [es5, xU_j _ _ (by decide)]).trans k268_9
    have q16 : s5 268 13 = 0 := by rw [es5, xU_s]
    have q17 : s5 268 14 = s0 268 14 := (show s5 268 14 = s0 268 14 from by rw [es5, xU_j _ _ (by decide)]).trans k268_14
    have q18 : s5 268 15 = s0 268 15 := (show s5 268 15 = s0 268 15 from by rw [es5, xU_j _ _ (by decide)]).trans k268_15
    have hF19 := hF.put es5 (by omega)
    have E21 := es5
    refine x_aload_n hx hb hl 0 rfl dX11_readsCondition_24 rfl ?_
    refine x_iconst hx hb dX11_readsCondition_25 ?_
    refine x_put (j := 15) hx hb hown hT hE hW cls_X11 (by decide) (fun σ => so_268 h0 g σ) (by decide) (st_X11_15 h0 s5 268 0) (ln_X11_15 h0 _ _) wq1200 rfl rfl rfl (by decide) dX11_readsCondition_26 (fun H locs s20 es20 hW => ?_)
    have q21 : IMn s20 := by rw [es20]; exact IMn_268 q6 (by omega)
    have q22 : IMk s20 := by rw [es20]; exact IMk_268 q7 (by omega)
    have q23 : IMo s20 := by rw [es20]; exact IMo_o (by unfold suIMo; omega) q8
    have q24 : IR s20 := by rw [es20]; exact IR_268 q9 (by omega)
    have q25 : s20 268 8 = s0 268 8 := (show s20 268 8 = s5 268 8 from by rw [es20, xU_j _ _ (by decide)]).trans q10
    have q26 : s20 268 58 = s0 268 58 := (show s20 268 58 = s5 268 58 from by rw [es20, xU_j _ _ (by decide)]).trans q11
    have q27 : s20 268 17 = s0 268 17 := (show s20 268 17 = s5 268 17 from by rw [es20, xU_j _ _ (by decide)]).trans q12
    have q28 : s20 268 10 = s0 268 10 := (show s20 268 10 = s5 268 10 from by rw [es20, xU_j _ _ (by decide)]).trans q13
    have q29 : s20 268 16 = s0 268 16 := (show s20 268 16 = s5 268 16 from by rw [es20, xU_j _ _ (by decide)]).trans q14
    have q30 : s20 268 9 = s0 268 9 := (show s20 268 9 = s5 268 9 from by rw [es20, xU_j _ _ (by decide)]).trans q15
    have q31 : s20 268 13 = 0 := (show s20 268 13 = s5 268 13 from by rw [es20, xU_j _ _ (by decide)]).trans q16
    have q32 : s20 268 14 = s0 268 14 := (show s20 268 14 = s5 268 14 from by rw [es20, xU_j _ _ (by decide)]).trans q17
    have q33 : s20 268 15 = 0 := by rw [es20, xU_s]
    have hF34 := hF19.put es20 (by omega)
    have E26 := es20
    refine x_aload_n hx hb hl 0 rfl dX11_readsCondition_29 rfl ?_
    refine x_bipush hx hb dX11_readsCondition_30 (by decide) ?_
    refine x_goi (x_runV (As := [.int (xJ 13)]) hx hb hml hown hT hE hW hl.1 (Or.inl (by decide)) (so_268 h0 g _) rfl cf_X11_opens wq1480 wq118 wq1478 (c_X11_opensK l D g T h0 s20 hW.2.1 13 (by decide) (by omega) (by omega) (by omega) (by omega) q21 q22 q23 q24) ⟨rfl, rfl, ⟨by decide, by decide⟩, ⟨by decide, by decide⟩⟩ rfl rfl (Nat.le_of_ble_eq_true rfl) dX11_readsCondition_32) hW (fun x35 s36 H locs rx35 hp37 hW => ?_)
    obtain ⟨fs36, hp37⟩ := hp37
    have hF38 := hF34.call fs36 (fun k h => by omega)
    have ghp37 := hp37.2
    have H32 := ghp37
    have F32 := fs36
    have z2 : (zc2 f9 n9 (s0 268 9) (s0 268 14) (s0 277)) = (zC0 f9 n9 (s0 268 9 + 1) (s0 268 14) (s0 277)) := by unfold zc2; rw [if_neg (by omega)]
    have l32 := zch_lt (f := f9) (n := n9) (p := s0 268 9) (by omega)
    have Z32 : x35 ≠ 0 → zCQ f9 n9 (s0 268 14) (zC0 f9 n9 (s0 268 9 + 1) (s0 268 14) (s0 277)) true s36 := fun hv => by
      have e := H32.resolve_left (fun q => hv q.1)
      have ew : s36 278 = xud (s20 278) 0 13631488 := by rw [e.2.2.2.1, show s20 268 15 = 0 from by omega]; rfl
      have e15 : s36 268 15 = 1 := by omega
      have el : zls (s36 278) 0 (s36 268 15 - 0).toNat = [13631488] := by rw [e15, ew]; show [xud (s20 278) 0 13631488 (0 + ((0 : Nat) : Int))] = _; rw [show (0 : Int) + ((0 : Nat) : Int) = 0 from by decide, xud_s]
      have ek : s36 277 = s0 277 := by rw [F32 277 (by omega), E26, xU_k _ _ _ (by omega), E21, xU_k _ _ _ (by omega)]
      refine ⟨?_, by omega, ?_, by omega⟩
      · rw [el, ek, show s36 268 9 = s0 268 9 + 1 from by omega, show s36 268 14 = s0 268 14 from by omega]
        exact zCX.new (by omega)
      · rw [el]
        show s36 268 13 = 1
        omega
    refine x_if_ne (tgt := 40) hx hb rx35 dX11_readsCondition_35 (by decide) (fun c39 => ?_) (fun c39 => ?_)
    · skip
      have L40 : ∀ (fu : Nat) (s_40 : xS) (H : Heap) (locs : List Loc) (ls : Array Slot), (xFr (fun k => k = 268 ∨ k = 277 ∨ k = 278) s0 s_40) → (IMn s_40) → (IMk s_40) → (IMo s_40) → (IR s_40) → (s_40 268 8 = s0 268 8) → (s_40 268 58 = s0 268 58) → (s_40 268 17 = s0 268 17) → (s_40 268 10 = s0 268 10) → (s_40 268 16 = s0 268 16) → (zCQ f9 n9 (s0 268 14) (zC0 f9 n9 (s0 268 9 + 1) (s0 268 14) (s0 277)) true s_40) → (s0 268 9 + 1 ≤ s_40 268 9) → (241 - s_40 268 9).toNat < fu → xW D g h0 s H locs s_40 → lv_has ls 1 [(0, .ref (h0 + 268))] → W p l e { frames := 6, cells := 0, slots := 0, locals := 125 } s m args below meth c H locs 0 0 Q (F0 m 40 ls []) := by
        intro fu
        induction fu with
        | zero => intro s_40 H locs ls hF_40 q40_0 q40_1 q40_2 q40_3 q40_4 q40_5 q40_6 q40_7 q40_9 v40_0 v40_1 hm; exact absurd hm (Nat.not_lt_zero _)
        | succ fu ih40 =>
          intro s_40 H locs ls hF_40 q40_0 q40_1 q40_2 q40_3 q40_4 q40_5 q40_6 q40_7 q40_9 v40_0 v40_1 hm hW hl
          have b40 := v40_0.b
          have o40 := v40_0.o
          have r40 : 0 ≤ s_40 268 9 ∧ s_40 268 9 ≤ s_40 268 10 ∧ s_40 268 10 ≤ 240 := q40_3
          have n40 : s_40 268 10 = n9 := by omega
          refine x_aload_n hx hb hl 0 rfl dX11_readsCondition_40 rfl ?_
          refine x_goi (x_runV (As := []) hx hb hml hown hT hE hW hl.1 (Or.inl (by decide)) (so_268 h0 g _) rfl cf_X11_here wq1391 wq106 wq1389 (c_X11_here l D g T h0 s_40 hW.2.1 q40_0 q40_1 q40_2 q40_3) ⟨rfl, rfl, ⟨by decide, by decide⟩, ⟨by decide, by decide⟩⟩ rfl rfl (Nat.le_of_ble_eq_true rfl) dX11_readsCondition_41) hW (fun x40 s41 H locs rx40 hp42 hW => ?_)
          obtain ⟨es41, hp42⟩ := hp42
          subst es41
          have ghp42 := hp42
          have C41 : x40 = zch f9 n9 (s_40 268 9) := by
            have q8 := ghp42.1
            rw [zhC_ch, show s_40 276 = s0 276 from hF_40 276 (by omega), hf.1, show s_40 268 10 = n9 from by omega] at q8
            exact q8
          have L41 : zch f9 n9 (s_40 268 9) ≠ -1 → s_40 268 9 < n9 := zch_lt
          refine x_bipush hx hb dX11_readsCondition_44 (by decide) ?_
          refine x_icmp_eq (tgt := 58) hx hb rx40 (by decide) dX11_readsCondition_46 (by decide) (fun c43 => ?_) (fun c43 => ?_)
          · skip
            refine x_aload_n hx hb hl 0 rfl dX11_readsCondition_58 rfl ?_
            refine x_aload_n hx hb hl 0 rfl dX11_readsCondition_59 rfl ?_
            refine x_goi (x_runV (As := []) hx hb hml hown hT hE hW hl.1 (Or.inl (by decide)) (so_268 h0 g _) rfl cf_X11_here wq1391 wq106 wq1389 (c_X11_here l D g T h0 s_40 hW.2.1 q40_0 q40_1 q40_2 q40_3) ⟨rfl, rfl, ⟨by decide, by decide⟩, ⟨by decide, by decide⟩⟩ rfl rfl (Nat.le_of_ble_eq_true rfl) dX11_readsCondition_60) hW (fun x44 s45 H locs rx44 hp46 hW => ?_)
            obtain ⟨es45, hp46⟩ := hp46
            subst es45
            have ghp46 := hp46
            have C60 : x44 = zch f9 n9 (s_40 268 9) := by
              have q8 := ghp46.1
              rw [zhC_ch, show s_40 276 = s0 276 from hF_40 276 (by omega), hf.1, show s_40 268 10 = n9 from by omega] at q8
              exact q8
            refine x_bipush hx hb dX11_readsCondition_63 (by decide) ?_
            refine x_icmp_ne (tgt := 73) hx hb rx44 (by decide) dX11_readsCondition_65 (by decide) (fun c47 => ?_) (fun c47 => ?_)
            · skip
              refine x_bipush hx hb dX11_readsCondition_73 (by decide) ?_
              refine x_goi (x_runV (As := [.int (xJ 13)]) hx hb hml hown hT hE hW hl.1 (Or.inl (by decide)) (so_268 h0 g _) rfl cf_X11_opens wq1480 wq118 wq1478 (c_X11_opensK l D g T h0 s_40 hW.2.1 13 (by decide) (by omega) (by omega) (by omega) (by omega) q40_0 q40_1 q40_2 q40_3) ⟨rfl, rfl, ⟨by decide, by decide⟩, ⟨by decide, by decide⟩⟩ rfl rfl (Nat.le_of_ble_eq_true rfl) dX11_readsCondition_75) hW (fun x48 s49 H locs rx48 hp50 hW => ?_)
              obtain ⟨fs49, hp50⟩ := hp50
              have hF51 := hF_40.call fs49 (fun k h => by omega)
              have ghp50 := hp50.2
              have H75 := ghp50
              have F75 := fs49
              refine x_if_ne (tgt := 40) hx hb rx48 dX11_readsCondition_78 (by decide) (fun c52 => ?_) (fun c52 => ?_)
              · skip
                exact ih40 s49 H locs ls hF51 hp50.1.1 hp50.1.2.1 hp50.1.2.2.1 hp50.1.2.2.2.1 (hp50.1.2.2.2.2.1.trans q40_4) (hp50.1.2.2.2.2.2.1.trans q40_5) (hp50.1.2.2.2.2.2.2.1.trans q40_6) (hp50.1.2.2.2.2.2.2.2.1.trans q40_7) (hp50.1.2.2.2.2.2.2.2.2.2.1.trans q40_9) (by first | exact H215.1 | (have e := H75.resolve_left (fun q => by omega); exact v40_0.open_ (by omega) (by omega) (by omega) (by omega) (F75 277 (by omega)) (by omega) (by omega) e.2.2.2.1)) (by omega) (by omega) hW (lv_sub hl [0] rfl)
              refine x_iconst hx hb dX11_readsCondition_81 ?_
              rw [eQ]
              exact x_zret hx hb hr hlk hW (by omega) ⟨hF51, ⟨hp50.1.1, hp50.1.2.1, hp50.1.2.2.1, hp50.1.2.2.2.1, (hp50.1.2.2.2.2.1.trans q40_4), (hp50.1.2.2.2.2.2.1.trans q40_5), (hp50.1.2.2.2.2.2.2.1.trans q40_6), (hp50.1.2.2.2.2.2.2.2.1.trans q40_7), (hp50.1.2.2.2.2.2.2.2.2.2.1.trans q40_9), trivial⟩, by
    have e := H75.resolve_right (fun q => by omega)
    have z := v40_0.1.five (by omega) (by rw [← v40_0.2.2.1]; omega)
    rw [z2, z]
    exact Or.inl ⟨by omega, (by show (-5000 - _ : Int) ≠ 0; omega), (by show _ = (-5000 - _ : Int); omega)⟩⟩ dX11_readsCondition_82
            refine x_bipush hx hb dX11_readsCondition_68 (by decide) ?_
            refine lv_goto (tgt := 75) hx hb dX11_readsCondition_70 (by decide) ?_
            refine x_goi (x_runV (As := [.int (xJ 10)]) hx hb hml hown hT hE hW hl.1 (Or.inl (by decide)) (so_268 h0 g _) rfl cf_X11_opens wq1480 wq118 wq1478 (c_X11_opensK l D g T h0 s_40 hW.2.1 10 (by decide) (by omega) (by omega) (by omega) (by omega) q40_0 q40_1 q40_2 q40_3) ⟨rfl, rfl, ⟨by decide, by decide⟩, ⟨by decide, by decide⟩⟩ rfl rfl (Nat.le_of_ble_eq_true rfl) dX11_readsCondition_75) hW (fun x53 s54 H locs rx53 hp55 hW => ?_)
            obtain ⟨fs54, hp55⟩ := hp55
            have hF56 := hF_40.call fs54 (fun k h => by omega)
            have ghp55 := hp55.2
            have H75 := ghp55
            have F75 := fs54
            refine x_if_ne (tgt := 40) hx hb rx53 dX11_readsCondition_78 (by decide) (fun c57 => ?_) (fun c57 => ?_)
            · skip
              exact ih40 s54 H locs ls hF56 hp55.1.1 hp55.1.2.1 hp55.1.2.2.1 hp55.1.2.2.2.1 (hp55.1.2.2.2.2.1.trans q40_4) (hp55.1.2.2.2.2.2.1.trans q40_5) (hp55.1.2.2.2.2.2.2.1.trans q40_6) (hp55.1.2.2.2.2.2.2.2.1.trans q40_7) (hp55.1.2.2.2.2.2.2.2.2.2.1.trans q40_9) (by first | exact H215.1 | (have e := H75.resolve_left (fun q => by omega); exact v40_0.open_ (by omega) (by omega) (by omega) (by omega) (F75 277 (by omega)) (by omega) (by omega) e.2.2.2.1)) (by omega) (by omega) hW (lv_sub hl [0] rfl)
            refine x_iconst hx hb dX11_readsCondition_81 ?_
            rw [eQ]
            exact x_zret hx hb hr hlk hW (by omega) ⟨hF56, ⟨hp55.1.1, hp55.1.2.1, hp55.1.2.2.1, hp55.1.2.2.2.1, (hp55.1.2.2.2.2.1.trans q40_4), (hp55.1.2.2.2.2.2.1.trans q40_5), (hp55.1.2.2.2.2.2.2.1.trans q40_6), (hp55.1.2.2.2.2.2.2.2.1.trans q40_7), (hp55.1.2.2.2.2.2.2.2.2.2.1.trans q40_9), trivial⟩, by
    have e := H75.resolve_right (fun q => by omega)
    have z := v40_0.1.five (by omega) (by rw [← v40_0.2.2.1]; omega)
    rw [z2, z]
    exact Or.inl ⟨by omega, (by show (-5000 - _ : Int) ≠ 0; omega), (by show _ = (-5000 - _ : Int); omega)⟩⟩ dX11_readsCondition_82
          refine x_aload_n hx hb hl 0 rfl dX11_readsCondition_49 rfl ?_
          refine x_goi (x_runV (As := []) hx hb hml hown hT hE hW hl.1 (Or.inl (by decide)) (so_268 h0 g _) rfl cf_X11_here wq1391 wq106 wq1389 (c_X11_here l D g T h0 s_40 hW.2.1 q40_0 q40_1 q40_2 q40_3) ⟨rfl, rfl, ⟨by decide, by decide⟩, ⟨by decide, by decide⟩⟩ rfl rfl (Nat.le_of_ble_eq_true rfl) dX11_readsCondition_50) hW (fun x58 s59 H locs rx58 hp60 hW => ?_)
          obtain ⟨es59, hp60⟩ := hp60
          subst es59
          have ghp60 := hp60
          have C50 : x58 = zch f9 n9 (s_40 268 9) := by
            have q8 := ghp60.1
            rw [zhC_ch, show s_40 276 = s0 276 from hF_40 276 (by omega), hf.1, show s_40 268 10 = n9 from by omega] at q8
            exact q8
          refine x_bipush hx hb dX11_readsCondition_53 (by decide) ?_
          refine x_icmp_ne (tgt := 83) hx hb rx58 (by decide) dX11_readsCondition_55 (by decide) (fun c61 => ?_) (fun c61 => ?_)
          · skip
            refine x_aload_n hx hb hl 0 rfl dX11_readsCondition_83 rfl ?_
            refine x_goi (x_runV (As := []) hx hb hml hown hT hE hW hl.1 (Or.inl (by decide)) (so_268 h0 g _) rfl cf_X11_readsCompared wq1519 wq126 wq1517 (c_X11_readsComparedK l D g T h0 s_40 hW.2.1 f9 n9 (s0 268 14) (zC0 f9 n9 (s0 268 9 + 1) (s0 268 14) (s0 277)) (by first | exact hf | exact ⟨by rw [hF_40 276 (by omega)]; exact hf.1, by omega⟩) (v40_0) (by omega) q40_0 q40_1 q40_2 q40_3) ⟨rfl, rfl, ⟨by decide, by decide⟩, ⟨by decide, by decide⟩⟩ rfl rfl (Nat.le_of_ble_eq_true rfl) dX11_readsCondition_84) hW (fun x62 s63 H locs rx62 hp64 hW => ?_)
            obtain ⟨fs63, hp64⟩ := hp64
            have hF65 := hF_40.call fs63 (fun k h => by omega)
            have ghp64 := hp64.2
            have H84 := ghp64
            refine x_if_ne (tgt := 92) hx hb rx62 dX11_readsCondition_87 (by decide) (fun c66 => ?_) (fun c66 => ?_)
            · skip
              have L92 : ∀ (fu : Nat) (s_92 : xS) (H : Heap) (locs : List Loc) (ls : Array Slot), (xFr (fun k => k = 268 ∨ k = 277 ∨ k = 278) s0 s_92) → (IMn s_92) → (IMk s_92) → (IMo s_92) → (IR s_92) → (s_92 268 8 = s0 268 8) → (s_92 268 58 = s0 268 58) → (s_92 268 17 = s0 268 17) → (s_92 268 10 = s0 268 10) → (s_92 268 16 = s0 268 16) → (zCQ f9 n9 (s0 268 14) (zC0 f9 n9 (s0 268 9 + 1) (s0 268 14) (s0 277)) false s_92) → (ztW s_92 ≠ 10 ∧ 0 < s_92 268 15) → (s_40 268 9 + 1 ≤ s_92 268 9) → (241 - s_92 268 9).toNat < fu → xW D g h0 s H locs s_92 → lv_has ls 1 [(0, .ref (h0 + 268))] → W p l e { frames := 6, cells := 0, slots := 0, locals := 125 } s m args below meth c H locs 0 0 Q (F0 m 92 ls []) := by
                intro fu
                induction fu with
                | zero => intro s_92 H locs ls hF_92 q92_0 q92_1 q92_2 q92_3 q92_4 q92_5 q92_6 q92_7 q92_8 v92_0 v92_1 v92_2 hm; exact absurd hm (Nat.not_lt_zero _)
                | succ fu ih92 =>
                  intro s_92 H locs ls hF_92 q92_0 q92_1 q92_2 q92_3 q92_4 q92_5 q92_6 q92_7 q92_8 v92_0 v92_1 v92_2 hm hW hl
                  have b92 := v92_0.b
                  have o92 := v92_0.o
                  have r92 : 0 ≤ s_92 268 9 ∧ s_92 268 9 ≤ s_92 268 10 ∧ s_92 268 10 ≤ 240 := q92_3
                  have t92 := v92_0.top v92_1.2
                  have n92 : s_92 268 10 = n9 := by omega
                  have w92 : 11 ≤ ztW s_92 := by omega
                  refine x_aload_n hx hb hl 0 rfl dX11_readsCondition_92 rfl ?_
                  refine x_goi (x_runV (As := []) hx hb hml hown hT hE hW hl.1 (Or.inl (by decide)) (so_268 h0 g _) rfl cf_X11_here wq1391 wq106 wq1389 (c_X11_here l D g T h0 s_92 hW.2.1 q92_0 q92_1 q92_2 q92_3) ⟨rfl, rfl, ⟨by decide, by decide⟩, ⟨by decide, by decide⟩⟩ rfl rfl (Nat.le_of_ble_eq_true rfl) dX11_readsCondition_93) hW (fun x67 s68 H locs rx67 hp69 hW => ?_)
                  obtain ⟨es68, hp69⟩ := hp69
                  subst es68
                  have ghp69 := hp69
                  have C93 : x67 = zch f9 n9 (s_92 268 9) := by
                    have q8 := ghp69.1
                    rw [zhC_ch, show s_92 276 = s0 276 from hF_92 276 (by omega), hf.1, show s_92 268 10 = n9 from by omega] at q8
                    exact q8
                  have L93 : zch f9 n9 (s_92 268 9) ≠ -1 → s_92 268 9 < n9 := zch_lt
                  refine x_bipush hx hb dX11_readsCondition_96 (by decide) ?_
                  refine x_icmp_ne (tgt := 152) hx hb rx67 (by decide) dX11_readsCondition_98 (by decide) (fun c70 => ?_) (fun c70 => ?_)
                  · skip
                    refine x_aload_n hx hb hl 0 rfl dX11_readsCondition_152 rfl ?_
                    refine x_goi (x_runV (As := []) hx hb hml hown hT hE hW hl.1 (Or.inl (by decide)) (so_268 h0 g _) rfl cf_X11_here wq1391 wq106 wq1389 (c_X11_here l D g T h0 s_92 hW.2.1 q92_0 q92_1 q92_2 q92_3) ⟨rfl, rfl, ⟨by decide, by decide⟩, ⟨by decide, by decide⟩⟩ rfl rfl (Nat.le_of_ble_eq_true rfl) dX11_readsCondition_153) hW (fun x71 s72 H locs rx71 hp73 hW => ?_)
                    obtain ⟨es72, hp73⟩ := hp73
                    subst es72
                    have ghp73 := hp73
                    have C153 : x71 = zch f9 n9 (s_92 268 9) := by
                      have q8 := ghp73.1
                      rw [zhC_ch, show s_92 276 = s0 276 from hF_92 276 (by omega), hf.1, show s_92 268 10 = n9 from by omega] at q8
                      exact q8
                    refine x_bipush hx hb dX11_readsCondition_156 (by decide) ?_
                    refine x_icmp_eq (tgt := 180) hx hb rx71 (by decide) dX11_readsCondition_158 (by decide) (fun c74 => ?_) (fun c74 => ?_)
                    · skip
                      refine x_aload_n hx hb hl 0 rfl dX11_readsCondition_180 rfl ?_
                      refine x_aload_n hx hb hl 0 rfl dX11_readsCondition_181 rfl ?_
                      refine x_goi (x_runV (As := []) hx hb hml hown hT hE hW hl.1 (Or.inl (by decide)) (so_268 h0 g _) rfl cf_X11_here wq1391 wq106 wq1389 (c_X11_here l D g T h0 s_92 hW.2.1 q92_0 q92_1 q92_2 q92_3) ⟨rfl, rfl, ⟨by decide, by decide⟩, ⟨by decide, by decide⟩⟩ rfl rfl (Nat.le_of_ble_eq_true rfl) dX11_readsCondition_182) hW (fun x75 s76 H locs rx75 hp77 hW => ?_)
                      obtain ⟨es76, hp77⟩ := hp77
                      subst es76
                      have ghp77 := hp77
                      have C182 : x75 = zch f9 n9 (s_92 268 9) := by
                        have q8 := ghp77.1
                        rw [zhC_ch, show s_92 276 = s0 276 from hF_92 276 (by omega), hf.1, show s_92 268 10 = n9 from by omega] at q8
                        exact q8
                      refine x_bipush hx hb dX11_readsCondition_185 (by decide) ?_
                      refine x_icmp_ne (tgt := 194) hx hb rx75 (by decide) dX11_readsCondition_187 (by decide) (fun c78 => ?_) (fun c78 => ?_)
                      · skip
                        refine x_iconst hx hb dX11_readsCondition_194 ?_
                        refine x_gov (x_runV (As := [.int (xJ 0)]) hx hb hml hown hT hE hW hl.1 (Or.inl (by decide)) (so_268 h0 g _) rfl cf_X11_lands wq1527 wq128 wq1525 (c_X11_landsK l D g T h0 s_92 hW.2.1 0 (by decide) f9 n9 (s0 268 14) (zC0 f9 n9 (s0 268 9 + 1) (s0 268 14) (s0 277)) (by first | exact hf | exact ⟨by rw [hF_92 276 (by omega)]; exact hf.1, by omega⟩) (v92_0) (by omega) q92_0 q92_1 q92_2 q92_3) ⟨rfl, rfl, ⟨by decide, by decide⟩, ⟨by decide, by decide⟩⟩ rfl rfl (Nat.le_of_ble_eq_true rfl) dX11_readsCondition_195) hW (fun s80 H locs hp81 hW => ?_)
                        obtain ⟨fs80, hp81⟩ := hp81
                        have hF82 := hF_92.call fs80 (fun k h => by omega)
                        have ghp81 := hp81.2
                        have H195 := ghp81
                        have b195 := H195.1.b
                        refine x_aload_n hx hb hl 0 rfl dX11_readsCondition_198 rfl ?_
                        refine x_aload_n hx hb hl 0 rfl dX11_readsCondition_199 rfl ?_
                        refine x_goi (x_runV (As := []) hx hb hml hown hT hE hW hl.1 (Or.inl (by decide)) (so_268 h0 g _) rfl cf_X11_here wq1391 wq106 wq1389 (c_X11_here l D g T h0 s80 hW.2.1 hp81.1.1 hp81.1.2.1 hp81.1.2.2.1 hp81.1.2.2.2.1) ⟨rfl, rfl, ⟨by decide, by decide⟩, ⟨by decide, by decide⟩⟩ rfl rfl (Nat.le_of_ble_eq_true rfl) dX11_readsCondition_200) hW (fun x83 s84 H locs rx83 hp85 hW => ?_)
                        obtain ⟨es84, hp85⟩ := hp85
                        subst es84
                        have ghp85 := hp85
                        have C200 : x83 = zch f9 n9 (s80 268 9) := by
                          have q8 := ghp85.1
                          rw [zhC_ch, show s80 276 = s0 276 from hF82 276 (by omega), hf.1, show s80 268 10 = n9 from by omega] at q8
                          exact q8
                        rw [show s80 268 9 = s_92 268 9 from by omega] at C200
                        refine x_bipush hx hb dX11_readsCondition_203 (by decide) ?_
                        refine x_icmp_ne (tgt := 213) hx hb rx83 (by decide) dX11_readsCondition_205 (by decide) (fun c86 => ?_) (fun c86 => ?_)
                        · skip
                          refine x_bipush hx hb dX11_readsCondition_213 (by decide) ?_
                          refine x_gov (x_runV (As := [.int (xJ 12)]) hx hb hml hown hT hE hW hl.1 (Or.inl (by decide)) (so_268 h0 g _) rfl cf_X11_jumps wq1531 wq129 wq1529 (c_X11_jumpsK l D g T h0 s80 hW.2.1 12 (by decide) f9 n9 (s0 268 14) (zC0 f9 n9 (s0 268 9 + 1) (s0 268 14) (s0 277)) (by first | exact hf | exact ⟨by rw [hF82 276 (by omega)]; exact hf.1, by omega⟩) (H195.1) (by rw [show s80 268 9 = s_92 268 9 from by omega]; omega) hp81.1.1 hp81.1.2.1 hp81.1.2.2.1 hp81.1.2.2.2.1) ⟨rfl, rfl, ⟨by decide, by decide⟩, ⟨by decide, by decide⟩⟩ rfl rfl (Nat.le_of_ble_eq_true rfl) dX11_readsCondition_215) hW (fun s88 H locs hp89 hW => ?_)
                          obtain ⟨fs88, hp89⟩ := hp89
                          have hF90 := hF82.call fs88 (fun k h => by omega)
                          have ghp89 := hp89.2
                          have H215 := ghp89
                          refine lv_goto (tgt := 40) hx hb dX11_readsCondition_218 (by decide) ?_
                          exact ih40 s88 H locs ls hF90 hp89.1.1 hp89.1.2.1 hp89.1.2.2.1 hp89.1.2.2.2.1 (hp89.1.2.2.2.2.1.trans (hp81.1.2.2.2.2.1.trans q92_4)) (hp89.1.2.2.2.2.2.1.trans (hp81.1.2.2.2.2.2.1.trans q92_5)) (hp89.1.2.2.2.2.2.2.1.trans (hp81.1.2.2.2.2.2.2.1.trans q92_6)) (hp89.1.2.2.2.2.2.2.2.1.trans (hp81.1.2.2.2.2.2.2.2.2.1.trans q92_7)) (hp89.1.2.2.2.2.2.2.2.2.1.trans (hp81.1.2.2.2.2.2.2.2.2.2.2.2.1.trans q92_8)) (by first | exact H215.1 | (have e := H75.resolve_left (fun q => by omega); exact v40_0.open_ (by omega) (by omega) (by omega) (by omega) (F75 277 (by omega)) (by omega) (by omega) e.2.2.2.1)) (by omega) (by omega) hW (lv_sub hl [0] rfl)
                        refine x_bipush hx hb dX11_readsCondition_208 (by decide) ?_
                        refine lv_goto (tgt := 215) hx hb dX11_readsCondition_210 (by decide) ?_
                        refine x_gov (x_runV (As := [.int (xJ 11)]) hx hb hml hown hT hE hW hl.1 (Or.inl (by decide)) (so_268 h0 g _) rfl cf_X11_jumps wq1531 wq129 wq1529 (c_X11_jumpsK l D g T h0 s80 hW.2.1 11 (by decide) f9 n9 (s0 268 14) (zC0 f9 n9 (s0 268 9 + 1) (s0 268 14) (s0 277)) (by first | exact hf | exact ⟨by rw [hF82 276 (by omega)]; exact hf.1, by omega⟩) (H195.1) (by rw [show s80 268 9 = s_92 268 9 from by omega]; omega) hp81.1.1 hp81.1.2.1 hp81.1.2.2.1 hp81.1.2.2.2.1) ⟨rfl, rfl, ⟨by decide, by decide⟩, ⟨by decide, by decide⟩⟩ rfl rfl (Nat.le_of_ble_eq_true rfl) dX11_readsCondition_215) hW (fun s92 H locs hp93 hW => ?_)
                        obtain ⟨fs92, hp93⟩ := hp93
                        have hF94 := hF82.call fs92 (fun k h => by omega)
                        have ghp93 := hp93.2
                        have H215 := ghp93
                        refine lv_goto (tgt := 40) hx hb dX11_readsCondition_218 (by decide) ?_
                        exact ih40 s92 H locs ls hF94 hp93.1.1 hp93.1.2.1 hp93.1.2.2.1 hp93.1.2.2.2.1 (hp93.1.2.2.2.2.1.trans (hp81.1.2.2.2.2.1.trans q92_4)) (hp93.1.2.2.2.2.2.1.trans (hp81.1.2.2.2.2.2.1.trans q92_5)) (hp93.1.2.2.2.2.2.2.1.trans (hp81.1.2.2.2.2.2.2.1.trans q92_6)) (hp93.1.2.2.2.2.2.2.2.1.trans (hp81.1.2.2.2.2.2.2.2.2.1.trans q92_7)) (hp93.1.2.2.2.2.2.2.2.2.1.trans (hp81.1.2.2.2.2.2.2.2.2.2.2.2.1.trans q92_8)) (by first | exact H215.1 | (have e := H75.resolve_left (fun q => by omega); exact v40_0.open_ (by omega) (by omega) (by omega) (by omega) (F75 277 (by omega)) (by omega) (by omega) e.2.2.2.1)) (by omega) (by omega) hW (lv_sub hl [0] rfl)
                      refine x_iconst hx hb dX11_readsCondition_190 ?_
                      refine lv_goto (tgt := 195) hx hb dX11_readsCondition_191 (by decide) ?_
                      refine x_gov (x_runV (As := [.int (xJ 1)]) hx hb hml hown hT hE hW hl.1 (Or.inl (by decide)) (so_268 h0 g _) rfl cf_X11_lands wq1527 wq128 wq1525 (c_X11_landsK l D g T h0 s_92 hW.2.1 1 (by decide) f9 n9 (s0 268 14) (zC0 f9 n9 (s0 268 9 + 1) (s0 268 14) (s0 277)) (by first | exact hf | exact ⟨by rw [hF_92 276 (by omega)]; exact hf.1, by omega⟩) (v92_0) (by omega) q92_0 q92_1 q92_2 q92_3) ⟨rfl, rfl, ⟨by decide, by decide⟩, ⟨by decide, by decide⟩⟩ rfl rfl (Nat.le_of_ble_eq_true rfl) dX11_readsCondition_195) hW (fun s96 H locs hp97 hW => ?_)
                      obtain ⟨fs96, hp97⟩ := hp97
                      have hF98 := hF_92.call fs96 (fun k h => by omega)
                      have ghp97 := hp97.2
                      have H195 := ghp97
                      have b195 := H195.1.b
                      refine x_aload_n hx hb hl 0 rfl dX11_readsCondition_198 rfl ?_
                      refine x_aload_n hx hb hl 0 rfl dX11_readsCondition_199 rfl ?_
                      refine x_goi (x_runV (As := []) hx hb hml hown hT hE hW hl.1 (Or.inl (by decide)) (so_268 h0 g _) rfl cf_X11_here wq1391 wq106 wq1389 (c_X11_here l D g T h0 s96 hW.2.1 hp97.1.1 hp97.1.2.1 hp97.1.2.2.1 hp97.1.2.2.2.1) ⟨rfl, rfl, ⟨by decide, by decide⟩, ⟨by decide, by decide⟩⟩ rfl rfl (Nat.le_of_ble_eq_true rfl) dX11_readsCondition_200) hW (fun x99 s100 H locs rx99 hp101 hW => ?_)
                      obtain ⟨es100, hp101⟩ := hp101
                      subst es100
                      have ghp101 := hp101
                      have C200 : x99 = zch f9 n9 (s96 268 9) := by
                        have q8 := ghp101.1
                        rw [zhC_ch, show s96 276 = s0 276 from hF98 276 (by omega), hf.1, show s96 268 10 = n9 from by omega] at q8
                        exact q8
                      rw [show s96 268 9 = s_92 268 9 from by omega] at C200
                      refine x_bipush hx hb dX11_readsCondition_203 (by decide) ?_
                      refine x_icmp_ne (tgt := 213) hx hb rx99 (by decide) dX11_readsCondition_205 (by decide) (fun c102 => ?_) (fun c102 => ?_)
                      · skip
                        refine x_bipush hx hb dX11_readsCondition_213 (by decide) ?_
                        refine x_gov (x_runV (As := [.int (xJ 12)]) hx hb hml hown hT hE hW hl.1 (Or.inl (by decide)) (so_268 h0 g _) rfl cf_X11_jumps wq1531 wq129 wq1529 (c_X11_jumpsK l D g T h0 s96 hW.2.1 12 (by decide) f9 n9 (s0 268 14) (zC0 f9 n9 (s0 268 9 + 1) (s0 268 14) (s0 277)) (by first | exact hf | exact ⟨by rw [hF98 276 (by omega)]; exact hf.1, by omega⟩) (H195.1) (by rw [show s96 268 9 = s_92 268 9 from by omega]; omega) hp97.1.1 hp97.1.2.1 hp97.1.2.2.1 hp97.1.2.2.2.1) ⟨rfl, rfl, ⟨by decide, by decide⟩, ⟨by decide, by decide⟩⟩ rfl rfl (Nat.le_of_ble_eq_true rfl) dX11_readsCondition_215) hW (fun s104 H locs hp105 hW => ?_)
                        obtain ⟨fs104, hp105⟩ := hp105
                        have hF106 := hF98.call fs104 (fun k h => by omega)
                        have ghp105 := hp105.2
                        have H215 := ghp105
                        refine lv_goto (tgt := 40) hx hb dX11_readsCondition_218 (by decide) ?_
                        exact ih40 s104 H locs ls hF106 hp105.1.1 hp105.1.2.1 hp105.1.2.2.1 hp105.1.2.2.2.1 (hp105.1.2.2.2.2.1.trans (hp97.1.2.2.2.2.1.trans q92_4)) (hp105.1.2.2.2.2.2.1.trans (hp97.1.2.2.2.2.2.1.trans q92_5)) (hp105.1.2.2.2.2.2.2.1.trans (hp97.1.2.2.2.2.2.2.1.trans q92_6)) (hp105.1.2.2.2.2.2.2.2.1.trans (hp97.1.2.2.2.2.2.2.2.2.1.trans q92_7)) (hp105.1.2.2.2.2.2.2.2.2.1.trans (hp97.1.2.2.2.2.2.2.2.2.2.2.2.1.trans q92_8)) (by first | exact H215.1 | (have e := H75.resolve_left (fun q => by omega); exact v40_0.open_ (by omega) (by omega) (by omega) (by omega) (F75 277 (by omega)) (by omega) (by omega) e.2.2.2.1)) (by omega) (by omega) hW (lv_sub hl [0] rfl)
                      refine x_bipush hx hb dX11_readsCondition_208 (by decide) ?_
                      refine lv_goto (tgt := 215) hx hb dX11_readsCondition_210 (by decide) ?_
                      refine x_gov (x_runV (As := [.int (xJ 11)]) hx hb hml hown hT hE hW hl.1 (Or.inl (by decide)) (so_268 h0 g _) rfl cf_X11_jumps wq1531 wq129 wq1529 (c_X11_jumpsK l D g T h0 s96 hW.2.1 11 (by decide) f9 n9 (s0 268 14) (zC0 f9 n9 (s0 268 9 + 1) (s0 268 14) (s0 277)) (by first | exact hf | exact ⟨by rw [hF98 276 (by omega)]; exact hf.1, by omega⟩) (H195.1) (by rw [show s96 268 9 = s_92 268 9 from by omega]; omega) hp97.1.1 hp97.1.2.1 hp97.1.2.2.1 hp97.1.2.2.2.1) ⟨rfl, rfl, ⟨by decide, by decide⟩, ⟨by decide, by decide⟩⟩ rfl rfl (Nat.le_of_ble_eq_true rfl) dX11_readsCondition_215) hW (fun s108 H locs hp109 hW => ?_)
                      obtain ⟨fs108, hp109⟩ := hp109
                      have hF110 := hF98.call fs108 (fun k h => by omega)
                      have ghp109 := hp109.2
                      have H215 := ghp109
                      refine lv_goto (tgt := 40) hx hb dX11_readsCondition_218 (by decide) ?_
                      exact ih40 s108 H locs ls hF110 hp109.1.1 hp109.1.2.1 hp109.1.2.2.1 hp109.1.2.2.2.1 (hp109.1.2.2.2.2.1.trans (hp97.1.2.2.2.2.1.trans q92_4)) (hp109.1.2.2.2.2.2.1.trans (hp97.1.2.2.2.2.2.1.trans q92_5)) (hp109.1.2.2.2.2.2.2.1.trans (hp97.1.2.2.2.2.2.2.1.trans q92_6)) (hp109.1.2.2.2.2.2.2.2.1.trans (hp97.1.2.2.2.2.2.2.2.2.1.trans q92_7)) (hp109.1.2.2.2.2.2.2.2.2.1.trans (hp97.1.2.2.2.2.2.2.2.2.2.2.2.1.trans q92_8)) (by first | exact H215.1 | (have e := H75.resolve_left (fun q => by omega); exact v40_0.open_ (by omega) (by omega) (by omega) (by omega) (F75 277 (by omega)) (by omega) (by omega) e.2.2.2.1)) (by omega) (by omega) hW (lv_sub hl [0] rfl)
                    refine x_aload_n hx hb hl 0 rfl dX11_readsCondition_161 rfl ?_
                    refine x_goi (x_runV (As := []) hx hb hml hown hT hE hW hl.1 (Or.inl (by decide)) (so_268 h0 g _) rfl cf_X11_here wq1391 wq106 wq1389 (c_X11_here l D g T h0 s_92 hW.2.1 q92_0 q92_1 q92_2 q92_3) ⟨rfl, rfl, ⟨by decide, by decide⟩, ⟨by decide, by decide⟩⟩ rfl rfl (Nat.le_of_ble_eq_true rfl) dX11_readsCondition_162) hW (fun x111 s112 H locs rx111 hp113 hW => ?_)
                    obtain ⟨es112, hp113⟩ := hp113
                    subst es112
                    have ghp113 := hp113
                    have C162 : x111 = zch f9 n9 (s_92 268 9) := by
                      have q8 := ghp113.1
                      rw [zhC_ch, show s_92 276 = s0 276 from hF_92 276 (by omega), hf.1, show s_92 268 10 = n9 from by omega] at q8
                      exact q8
                    refine x_bipush hx hb dX11_readsCondition_165 (by decide) ?_
                    refine x_icmp_eq (tgt := 180) hx hb rx111 (by decide) dX11_readsCondition_167 (by decide) (fun c114 => ?_) (fun c114 => ?_)
                    · skip
                      refine x_aload_n hx hb hl 0 rfl dX11_readsCondition_180 rfl ?_
                      refine x_aload_n hx hb hl 0 rfl dX11_readsCondition_181 rfl ?_
                      refine x_goi (x_runV (As := []) hx hb hml hown hT hE hW hl.1 (Or.inl (by decide)) (so_268 h0 g _) rfl cf_X11_here wq1391 wq106 wq1389 (c_X11_here l D g T h0 s_92 hW.2.1 q92_0 q92_1 q92_2 q92_3) ⟨rfl, rfl, ⟨by decide, by decide⟩, ⟨by decide, by decide⟩⟩ rfl rfl (Nat.le_of_ble_eq_true rfl) dX11_readsCondition_182) hW (fun x115 s116 H locs rx115 hp117 hW => ?_)
                      obtain ⟨es116, hp117⟩ := hp117
                      subst es116
                      have ghp117 := hp117
                      have C182 : x115 = zch f9 n9 (s_92 268 9) := by
                        have q8 := ghp117.1
                        rw [zhC_ch, show s_92 276 = s0 276 from hF_92 276 (by omega), hf.1, show s_92 268 10 = n9 from by omega] at q8
                        exact q8
                      refine x_bipush hx hb dX11_readsCondition_185 (by decide) ?_
                      refine x_icmp_ne (tgt := 194) hx hb rx115 (by decide) dX11_readsCondition_187 (by decide) (fun c118 => ?_) (fun c118 => ?_)
                      · skip
                        refine x_iconst hx hb dX11_readsCondition_194 ?_
                        refine x_gov (x_runV (As := [.int (xJ 0)]) hx hb hml hown hT hE hW hl.1 (Or.inl (by decide)) (so_268 h0 g _) rfl cf_X11_lands wq1527 wq128 wq1525 (c_X11_landsK l D g T h0 s_92 hW.2.1 0 (by decide) f9 n9 (s0 268 14) (zC0 f9 n9 (s0 268 9 + 1) (s0 268 14) (s0 277)) (by first | exact hf | exact ⟨by rw [hF_92 276 (by omega)]; exact hf.1, by omega⟩) (v92_0) (by omega) q92_0 q92_1 q92_2 q92_3) ⟨rfl, rfl, ⟨by decide, by decide⟩, ⟨by decide, by decide⟩⟩ rfl rfl (Nat.le_of_ble_eq_true rfl) dX11_readsCondition_195) hW (fun s120 H locs hp121 hW => ?_)
                        obtain ⟨fs120, hp121⟩ := hp121
                        have hF122 := hF_92.call fs120 (fun k h => by omega)
                        have ghp121 := hp121.2
                        have H195 := ghp121
                        have b195 := H195.1.b
                        refine x_aload_n hx hb hl 0 rfl dX11_readsCondition_198 rfl ?_
                        refine x_aload_n hx hb hl 0 rfl dX11_readsCondition_199 rfl ?_
                        refine x_goi (x_runV (As := []) hx hb hml hown hT hE hW hl.1 (Or.inl (by decide)) (so_268 h0 g _) rfl cf_X11_here wq1391 wq106 wq1389 (c_X11_here l D g T h0 s120 hW.2.1 hp121.1.1 hp121.1.2.1 hp121.1.2.2.1 hp121.1.2.2.2.1) ⟨rfl, rfl, ⟨by decide, by decide⟩, ⟨by decide, by decide⟩⟩ rfl rfl (Nat.le_of_ble_eq_true rfl) dX11_readsCondition_200) hW (fun x123 s124 H locs rx123 hp125 hW => ?_)
                        obtain ⟨es124, hp125⟩ := hp125
                        subst es124
                        have ghp125 := hp125
                        have C200 : x123 = zch f9 n9 (s120 268 9) := by
                          have q8 := ghp125.1
                          rw [zhC_ch, show s120 276 = s0 276 from hF122 276 (by omega), hf.1, show s120 268 10 = n9 from by omega] at q8
                          exact q8
                        rw [show s120 268 9 = s_92 268 9 from by omega] at C200
                        refine x_bipush hx hb dX11_readsCondition_203 (by decide) ?_
                        refine x_icmp_ne (tgt := 213) hx hb rx123 (by decide) dX11_readsCondition_205 (by decide) (fun c126 => ?_) (fun c126 => ?_)
                        · skip
                          refine x_bipush hx hb dX11_readsCondition_213 (by decide) ?_
                          refine x_gov (x_runV (As := [.int (xJ 12)]) hx hb hml hown hT hE hW hl.1 (Or.inl (by decide)) (so_268 h0 g _) rfl cf_X11_jumps wq1531 wq129 wq1529 (c_X11_jumpsK l D g T h0 s120 hW.2.1 12 (by decide) f9 n9 (s0 268 14) (zC0 f9 n9 (s0 268 9 + 1) (s0 268 14) (s0 277)) (by first | exact hf | exact ⟨by rw [hF122 276 (by omega)]; exact hf.1, by omega⟩) (H195.1) (by rw [show s120 268 9 = s_92 268 9 from by omega]; omega) hp121.1.1 hp121.1.2.1 hp121.1.2.2.1 hp121.1.2.2.2.1) ⟨rfl, rfl, ⟨by decide, by decide⟩, ⟨by decide, by decide⟩⟩ rfl rfl (Nat.le_of_ble_eq_true rfl) dX11_readsCondition_215) hW (fun s128 H locs hp129 hW => ?_)
                          obtain ⟨fs128, hp129⟩ := hp129
                          have hF130 := hF122.call fs128 (fun k h => by omega)
                          have ghp129 := hp129.2
                          have H215 := ghp129
                          refine lv_goto (tgt := 40) hx hb dX11_readsCondition_218 (by decide) ?_
                          exact ih40 s128 H locs ls hF130 hp129.1.1 hp129.1.2.1 hp129.1.2.2.1 hp129.1.2.2.2.1 (hp129.1.2.2.2.2.1.trans (hp121.1.2.2.2.2.1.trans q92_4)) (hp129.1.2.2.2.2.2.1.trans (hp121.1.2.2.2.2.2.1.trans q92_5)) (hp129.1.2.2.2.2.2.2.1.trans (hp121.1.2.2.2.2.2.2.1.trans q92_6)) (hp129.1.2.2.2.2.2.2.2.1.trans (hp121.1.2.2.2.2.2.2.2.2.1.trans q92_7)) (hp129.1.2.2.2.2.2.2.2.2.1.trans (hp121.1.2.2.2.2.2.2.2.2.2.2.2.1.trans q92_8)) (by first | exact H215.1 | (have e := H75.resolve_left (fun q => by omega); exact v40_0.open_ (by omega) (by omega) (by omega) (by omega) (F75 277 (by omega)) (by omega) (by omega) e.2.2.2.1)) (by omega) (by omega) hW (lv_sub hl [0] rfl)
                        refine x_bipush hx hb dX11_readsCondition_208 (by decide) ?_
                        refine lv_goto (tgt := 215) hx hb dX11_readsCondition_210 (by decide) ?_
                        refine x_gov (x_runV (As := [.int (xJ 11)]) hx hb hml hown hT hE hW hl.1 (Or.inl (by decide)) (so_268 h0 g _) rfl cf_X11_jumps wq1531 wq129 wq1529 (c_X11_jumpsK l D g T h0 s120 hW.2.1 11 (by decide) f9 n9 (s0 268 14) (zC0 f9 n9 (s0 268 9 + 1) (s0 268 14) (s0 277)) (by first | exact hf | exact ⟨by rw [hF122 276 (by omega)]; exact hf.1, by omega⟩) (H195.1) (by rw [show s120 268 9 = s_92 268 9 from by omega]; omega) hp121.1.1 hp121.1.2.1 hp121.1.2.2.1 hp121.1.2.2.2.1) ⟨rfl, rfl, ⟨by decide, by decide⟩, ⟨by decide, by decide⟩⟩ rfl rfl (Nat.le_of_ble_eq_true rfl) dX11_readsCondition_215) hW (fun s132 H locs hp133 hW => ?_)
                        obtain ⟨fs132, hp133⟩ := hp133
                        have hF134 := hF122.call fs132 (fun k h => by omega)
                        have ghp133 := hp133.2
                        have H215 := ghp133
                        refine lv_goto (tgt := 40) hx hb dX11_readsCondition_218 (by decide) ?_
                        exact ih40 s132 H locs ls hF134 hp133.1.1 hp133.1.2.1 hp133.1.2.2.1 hp133.1.2.2.2.1 (hp133.1.2.2.2.2.1.trans (hp121.1.2.2.2.2.1.trans q92_4)) (hp133.1.2.2.2.2.2.1.trans (hp121.1.2.2.2.2.2.1.trans q92_5)) (hp133.1.2.2.2.2.2.2.1.trans (hp121.1.2.2.2.2.2.2.1.trans q92_6)) (hp133.1.2.2.2.2.2.2.2.1.trans (hp121.1.2.2.2.2.2.2.2.2.1.trans q92_7)) (hp133.1.2.2.2.2.2.2.2.2.1.trans (hp121.1.2.2.2.2.2.2.2.2.2.2.2.1.trans q92_8)) (by first | exact H215.1 | (have e := H75.resolve_left (fun q => by omega); exact v40_0.open_ (by omega) (by omega) (by omega) (by omega) (F75 277 (by omega)) (by omega) (by omega) e.2.2.2.1)) (by omega) (by omega) hW (lv_sub hl [0] rfl)
                      refine x_iconst hx hb dX11_readsCondition_190 ?_
                      refine lv_goto (tgt := 195) hx hb dX11_readsCondition_191 (by decide) ?_
                      refine x_gov (x_runV (As := [.int (xJ 1)]) hx hb hml hown hT hE hW hl.1 (Or.inl (by decide)) (so_268 h0 g _) rfl cf_X11_lands wq1527 wq128 wq1525 (c_X11_landsK l D g T h0 s_92 hW.2.1 1 (by decide) f9 n9 (s0 268 14) (zC0 f9 n9 (s0 268 9 + 1) (s0 268 14) (s0 277)) (by first | exact hf | exact ⟨by rw [hF_92 276 (by omega)]; exact hf.1, by omega⟩) (v92_0) (by omega) q92_0 q92_1 q92_2 q92_3) ⟨rfl, rfl, ⟨by decide, by decide⟩, ⟨by decide, by decide⟩⟩ rfl rfl (Nat.le_of_ble_eq_true rfl) dX11_readsCondition_195) hW (fun s136 H locs hp137 hW => ?_)
                      obtain ⟨fs136, hp137⟩ := hp137
                      have hF138 := hF_92.call fs136 (fun k h => by omega)
                      have ghp137 := hp137.2
                      have H195 := ghp137
                      have b195 := H195.1.b
                      refine x_aload_n hx hb hl 0 rfl dX11_readsCondition_198 rfl ?_
                      refine x_aload_n hx hb hl 0 rfl dX11_readsCondition_199 rfl ?_
                      refine x_goi (x_runV (As := []) hx hb hml hown hT hE hW hl.1 (Or.inl (by decide)) (so_268 h0 g _) rfl cf_X11_here wq1391 wq106 wq1389 (c_X11_here l D g T h0 s136 hW.2.1 hp137.1.1 hp137.1.2.1 hp137.1.2.2.1 hp137.1.2.2.2.1) ⟨rfl, rfl, ⟨by decide, by decide⟩, ⟨by decide, by decide⟩⟩ rfl rfl (Nat.le_of_ble_eq_true rfl) dX11_readsCondition_200) hW (fun x139 s140 H locs rx139 hp141 hW => ?_)
                      obtain ⟨es140, hp141⟩ := hp141
                      subst es140
                      have ghp141 := hp141
                      have C200 : x139 = zch f9 n9 (s136 268 9) := by
                        have q8 := ghp141.1
                        rw [zhC_ch, show s136 276 = s0 276 from hF138 276 (by omega), hf.1, show s136 268 10 = n9 from by omega] at q8
                        exact q8
                      rw [show s136 268 9 = s_92 268 9 from by omega] at C200
                      refine x_bipush hx hb dX11_readsCondition_203 (by decide) ?_
                      refine x_icmp_ne (tgt := 213) hx hb rx139 (by decide) dX11_readsCondition_205 (by decide) (fun c142 => ?_) (fun c142 => ?_)
                      · skip
                        refine x_bipush hx hb dX11_readsCondition_213 (by decide) ?_
                        refine x_gov (x_runV (As := [.int (xJ 12)]) hx hb hml hown hT hE hW hl.1 (Or.inl (by decide)) (so_268 h0 g _) rfl cf_X11_jumps wq1531 wq129 wq1529 (c_X11_jumpsK l D g T h0 s136 hW.2.1 12 (by decide) f9 n9 (s0 268 14) (zC0 f9 n9 (s0 268 9 + 1) (s0 268 14) (s0 277)) (by first | exact hf | exact ⟨by rw [hF138 276 (by omega)]; exact hf.1, by omega⟩) (H195.1) (by rw [show s136 268 9 = s_92 268 9 from by omega]; omega) hp137.1.1 hp137.1.2.1 hp137.1.2.2.1 hp137.1.2.2.2.1) ⟨rfl, rfl, ⟨by decide, by decide⟩, ⟨by decide, by decide⟩⟩ rfl rfl (Nat.le_of_ble_eq_true rfl) dX11_readsCondition_215) hW (fun s144 H locs hp145 hW => ?_)
                        obtain ⟨fs144, hp145⟩ := hp145
                        have hF146 := hF138.call fs144 (fun k h => by omega)
                        have ghp145 := hp145.2
                        have H215 := ghp145
                        refine lv_goto (tgt := 40) hx hb dX11_readsCondition_218 (by decide) ?_
                        exact ih40 s144 H locs ls hF146 hp145.1.1 hp145.1.2.1 hp145.1.2.2.1 hp145.1.2.2.2.1 (hp145.1.2.2.2.2.1.trans (hp137.1.2.2.2.2.1.trans q92_4)) (hp145.1.2.2.2.2.2.1.trans (hp137.1.2.2.2.2.2.1.trans q92_5)) (hp145.1.2.2.2.2.2.2.1.trans (hp137.1.2.2.2.2.2.2.1.trans q92_6)) (hp145.1.2.2.2.2.2.2.2.1.trans (hp137.1.2.2.2.2.2.2.2.2.1.trans q92_7)) (hp145.1.2.2.2.2.2.2.2.2.1.trans (hp137.1.2.2.2.2.2.2.2.2.2.2.2.1.trans q92_8)) (by first | exact H215.1 | (have e := H75.resolve_left (fun q => by omega); exact v40_0.open_ (by omega) (by omega) (by omega) (by omega) (F75 277 (by omega)) (by omega) (by omega) e.2.2.2.1)) (by omega) (by omega) hW (lv_sub hl [0] rfl)
                      refine x_bipush hx hb dX11_readsCondition_208 (by decide) ?_
                      refine lv_goto (tgt := 215) hx hb dX11_readsCondition_210 (by decide) ?_
                      refine x_gov (x_runV (As := [.int (xJ 11)]) hx hb hml hown hT hE hW hl.1 (Or.inl (by decide)) (so_268 h0 g _) rfl cf_X11_jumps wq1531 wq129 wq1529 (c_X11_jumpsK l D g T h0 s136 hW.2.1 11 (by decide) f9 n9 (s0 268 14) (zC0 f9 n9 (s0 268 9 + 1) (s0 268 14) (s0 277)) (by first | exact hf | exact ⟨by rw [hF138 276 (by omega)]; exact hf.1, by omega⟩) (H195.1) (by rw [show s136 268 9 = s_92 268 9 from by omega]; omega) hp137.1.1 hp137.1.2.1 hp137.1.2.2.1 hp137.1.2.2.2.1) ⟨rfl, rfl, ⟨by decide, by decide⟩, ⟨by decide, by decide⟩⟩ rfl rfl (Nat.le_of_ble_eq_true rfl) dX11_readsCondition_215) hW (fun s148 H locs hp149 hW => ?_)
                      obtain ⟨fs148, hp149⟩ := hp149
                      have hF150 := hF138.call fs148 (fun k h => by omega)
                      have ghp149 := hp149.2
                      have H215 := ghp149
                      refine lv_goto (tgt := 40) hx hb dX11_readsCondition_218 (by decide) ?_
                      exact ih40 s148 H locs ls hF150 hp149.1.1 hp149.1.2.1 hp149.1.2.2.1 hp149.1.2.2.2.1 (hp149.1.2.2.2.2.1.trans (hp137.1.2.2.2.2.1.trans q92_4)) (hp149.1.2.2.2.2.2.1.trans (hp137.1.2.2.2.2.2.1.trans q92_5)) (hp149.1.2.2.2.2.2.2.1.trans (hp137.1.2.2.2.2.2.2.1.trans q92_6)) (hp149.1.2.2.2.2.2.2.2.1.trans (hp137.1.2.2.2.2.2.2.2.2.1.trans q92_7)) (hp149.1.2.2.2.2.2.2.2.2.1.trans (hp137.1.2.2.2.2.2.2.2.2.2.2.2.1.trans q92_8)) (by first | exact H215.1 | (have e := H75.resolve_left (fun q => by omega); exact v40_0.open_ (by omega) (by omega) (by omega) (by omega) (F75 277 (by omega)) (by omega) (by omega) e.2.2.2.1)) (by omega) (by omega) hW (lv_sub hl [0] rfl)
                    refine x_aload_n hx hb hl 0 rfl dX11_readsCondition_170 rfl ?_
                    refine x_iconst hx hb dX11_readsCondition_171 ?_
                    refine x_aload_n hx hb hl 0 rfl dX11_readsCondition_172 rfl ?_
                    refine x_get (j := 9) (v := .int (xJ (s_92 268 9))) hx hb hown hT hE hW cls_X11 (Or.inl (by decide)) (so_268 h0 g _) (by decide) rfl wq1194 dX11_readsCondition_173 ?_
                    refine x_rd hW (fun x151 ex151 rx151 => ?_)
                    have bx151 : 0 ≤ x151 ∧ x151 ≤ s_92 268 10 ∧ s_92 268 10 ≤ 240 := by rw [ex151]; exact q92_3
                    have q152 : s_92 268 9 = x151 := ex151.symm
                    refine x_goi (x_runV (As := [.int (xJ 1), .int (xJ x151)]) hx hb hml hown hT hE hW hl.1 (Or.inl (by decide)) (so_268 h0 g _) rfl cf_X11_wrongAt wq1401 wq107 wq1399 (c_X11_wrongAtK l D g T h0 s_92 hW.2.1 1 (by decide) x151 rx151 (by omega) q92_0 q92_1 q92_2 q92_3) ⟨rfl, rfl, ⟨by decide, by decide⟩, ⟨by decide, by decide⟩⟩ rfl rfl (Nat.le_of_ble_eq_true rfl) dX11_readsCondition_176) hW (fun x153 s154 H locs rx153 hp155 hW => ?_)
                    obtain ⟨fs154, hp155⟩ := hp155
                    have hF156 := hF_92.call fs154 (fun k h => by omega)
                    have ghp155 := hp155.2
                    rw [eQ]
                    exact x_zret hx hb hr hlk hW (by omega) ⟨hF156, ⟨hp155.1.1, hp155.1.2.1, hp155.1.2.2.1, hp155.1.2.2.2.1, (hp155.1.2.2.2.2.1.trans q92_4), (hp155.1.2.2.2.2.2.1.trans q92_5), (hp155.1.2.2.2.2.2.2.1.trans q92_6), (hp155.1.2.2.2.2.2.2.2.2.1.trans q92_7), (hp155.1.2.2.2.2.2.2.2.2.2.2.2.2.1.trans q92_8), trivial⟩, by
    have z := v92_0.bad v92_1.2 (by omega) (by omega) (by omega)
    rw [z2]
    exact Or.inl ⟨by omega, by omega, by omega⟩⟩ dX11_readsCondition_179
                  refine x_aload_n hx hb hl 0 rfl dX11_readsCondition_101 rfl ?_
                  refine x_iconst hx hb dX11_readsCondition_102 ?_
                  refine x_gov (x_runV (As := [.int (xJ 1)]) hx hb hml hown hT hE hW hl.1 (Or.inl (by decide)) (so_268 h0 g _) rfl cf_X11_lands wq1527 wq128 wq1525 (c_X11_landsK l D g T h0 s_92 hW.2.1 1 (by decide) f9 n9 (s0 268 14) (zC0 f9 n9 (s0 268 9 + 1) (s0 268 14) (s0 277)) (by first | exact hf | exact ⟨by rw [hF_92 276 (by omega)]; exact hf.1, by omega⟩) (v92_0) (⟨Or.inr ⟨rfl, by omega⟩, by omega, by omega⟩) q92_0 q92_1 q92_2 q92_3) ⟨rfl, rfl, ⟨by decide, by decide⟩, ⟨by decide, by decide⟩⟩ rfl rfl (Nat.le_of_ble_eq_true rfl) dX11_readsCondition_103) hW (fun s158 H locs hp159 hW => ?_)
                  obtain ⟨fs158, hp159⟩ := hp159
                  have hF160 := hF_92.call fs158 (fun k h => by omega)
                  have ghp159 := hp159.2
                  have H103 := ghp159
                  have b103 := H103.1.b
                  have o103 := H103.1.o
                  refine x_aload_n hx hb hl 0 rfl dX11_readsCondition_106 rfl ?_
                  refine x_aload_n hx hb hl 0 rfl dX11_readsCondition_107 rfl ?_
                  refine x_get (j := 15) (v := .int (xJ (s158 268 15))) hx hb hown hT hE hW cls_X11 (Or.inl (by decide)) (so_268 h0 g _) (by decide) rfl wq1200 dX11_readsCondition_108 ?_
                  refine x_rd hW (fun x161 ex161 rx161 => ?_)
                  have q162 : s158 268 15 = x161 := ex161.symm
                  refine x_iconst hx hb dX11_readsCondition_111 ?_
                  refine x_isub hx hb dX11_readsCondition_112 ?_
                  refine x_put (j := 15) hx hb hown hT hE hW cls_X11 (by decide) (fun σ => so_268 h0 g σ) (by decide) (st_X11_15 h0 s158 268 (x161 - 1)) (ln_X11_15 h0 _ _) wq1200 rfl rfl rfl (by omega) dX11_readsCondition_113 (fun H locs s163 es163 hW => ?_)
                  have q164 : IMn s163 := by rw [es163]; exact IMn_268 hp159.1.1 (by omega)
                  have q165 : IMk s163 := by rw [es163]; exact IMk_268 hp159.1.2.1 (by omega)
                  have q166 : IMo s163 := by rw [es163]; exact IMo_o (by unfold suIMo; omega) hp159.1.2.2.1
                  have q167 : IR s163 := by rw [es163]; exact IR_268 hp159.1.2.2.2.1 (by omega)
                  have q168 : s163 268 8 = s0 268 8 := (show s163 268 8 = s158 268 8 from by rw [es163, xU_j _ _ (by decide)]).trans (hp159.1.2.2.2.2.1.trans q92_4)
                  have q169 : s163 268 58 = s0 268 58 := (show s163 268 58 = s158 268 58 from by rw [es163, xU_j _ _ (by decide)]).trans (hp159.1.2.2.2.2.2.1.trans q92_5)
                  have q170 : s163 268 17 = s0 268 17 := (show s163 268 17 = s158 268 17 from by rw [es163, xU_j _ _ (by decide)]).trans (hp159.1.2.2.2.2.2.2.1.trans q92_6)
                  have q171 : s163 268 9 = s_92 268 9 := (show s163 268 9 = s158 268 9 from by rw [es163, xU_j _ _ (by decide)]).trans hp159.1.2.2.2.2.2.2.2.1
                  have q172 : s163 268 10 = s0 268 10 := (show s163 268 10 = s158 268 10 from by rw [es163, xU_j _ _ (by decide)]).trans (hp159.1.2.2.2.2.2.2.2.2.1.trans q92_7)
                  have q173 : s163 268 13 = s_92 268 13 := (show s163 268 13 = s158 268 13 from by rw [es163, xU_j _ _ (by decide)]).trans hp159.1.2.2.2.2.2.2.2.2.2.1
                  have q174 : s163 268 14 = s_92 268 14 := (show s163 268 14 = s158 268 14 from by rw [es163, xU_j _ _ (by decide)]).trans hp159.1.2.2.2.2.2.2.2.2.2.2.1
                  have q175 : s163 268 16 = s0 268 16 := (show s163 268 16 = s158 268 16 from by rw [es163, xU_j _ _ (by decide)]).trans (hp159.1.2.2.2.2.2.2.2.2.2.2.2.1.trans q92_8)
                  have q176 : s163 268 15 = (x161 - 1) := by rw [es163, xU_s]
                  have hF177 := hF160.put es163 (by omega)
                  have E113 := es163
                  refine x_aload_n hx hb hl 0 rfl dX11_readsCondition_116 rfl ?_
                  refine x_aload_n hx hb hl 0 rfl dX11_readsCondition_117 rfl ?_
                  refine x_get (j := 13) (v := .int (xJ (s163 268 13))) hx hb hown hT hE hW cls_X11 (Or.inl (by decide)) (so_268 h0 g _) (by decide) rfl wq1198 dX11_readsCondition_118 ?_
                  refine x_rd hW (fun x178 ex178 rx178 => ?_)
                  have fx178 : x178 = s_92 268 13 := ex178.trans q173
                  refine x_iconst hx hb dX11_readsCondition_121 ?_
                  refine x_isub hx hb dX11_readsCondition_122 ?_
                  refine x_put (j := 13) hx hb hown hT hE hW cls_X11 (by decide) (fun σ => so_268 h0 g σ) (by decide) (st_X11_13 h0 s163 268 (x178 - 1)) (ln_X11_13 h0 _ _) wq1198 rfl rfl rfl (by omega) dX11_readsCondition_123 (fun H locs s179 es179 hW => ?_)
                  have q180 : IMn s179 := by rw [es179]; exact IMn_268 q164 (by omega)
                  have q181 : IMk s179 := by rw [es179]; exact IMk_268 q165 (by omega)
                  have q182 : IMo s179 := by rw [es179]; exact IMo_o (by unfold suIMo; omega) q166
                  have q183 : IR s179 := by rw [es179]; exact IR_268 q167 (by omega)
                  have q184 : s179 268 8 = s0 268 8 := (show s179 268 8 = s163 268 8 from by rw [es179, xU_j _ _ (by decide)]).trans q168
                  have q185 : s179 268 58 = s0 268 58 := (show s179 268 58 = s163 268 58 from by rw [es179, xU_j _ _ (by decide)]).trans q169
                  have q186 : s179 268 17 = s0 268 17 := (show s179 268 17 = s163 268 17 from by rw [es179, xU_j _ _ (by decide)]).trans q170
                  have q187 : s179 268 9 = s_92 268 9 := (show s179 268 9 = s163 268 9 from by rw [es179, xU_j _ _ (by decide)]).trans q171
                  have q188 : s179 268 10 = s0 268 10 := (show s179 268 10 = s163 268 10 from by rw [es179, xU_j _ _ (by decide)]).trans q172
                  have q189 : s179 268 13 = (x178 - 1) := by rw [es179, xU_s]
                  have q190 : s179 268 14 = s_92 268 14 := (show s179 268 14 = s163 268 14 from by rw [es179, xU_j _ _ (by decide)]).trans q174
                  have q191 : s179 268 16 = s0 268 16 := (show s179 268 16 = s163 268 16 from by rw [es179, xU_j _ _ (by decide)]).trans q175
                  have q192 : s179 268 15 = (x161 - 1) := (show s179 268 15 = s163 268 15 from by rw [es179, xU_j _ _ (by decide)]).trans q176
                  have hF193 := hF177.put es179 (by omega)
                  have E123 := es179
                  refine x_aload_n hx hb hl 0 rfl dX11_readsCondition_126 rfl ?_
                  refine x_aload_n hx hb hl 0 rfl dX11_readsCondition_127 rfl ?_
                  refine x_get (j := 9) (v := .int (xJ (s179 268 9))) hx hb hown hT hE hW cls_X11 (Or.inl (by decide)) (so_268 h0 g _) (by decide) rfl wq1194 dX11_readsCondition_128 ?_
                  refine x_rd hW (fun x194 ex194 rx194 => ?_)
                  have bx194 : 0 ≤ x194 ∧ x194 ≤ s179 268 10 ∧ s179 268 10 ≤ 240 := by rw [ex194]; exact q183
                  have fx194 : x194 = s_92 268 9 := ex194.trans q187
                  refine x_iconst hx hb dX11_readsCondition_131 ?_
                  refine x_iadd hx hb dX11_readsCondition_132 ?_
                  refine x_put (j := 9) hx hb hown hT hE hW cls_X11 (by decide) (fun σ => so_268 h0 g σ) (by decide) (st_X11_9 h0 s179 268 (x194 + 1)) (ln_X11_9 h0 _ _) wq1194 rfl rfl rfl (by omega) dX11_readsCondition_133 (fun H locs s195 es195 hW => ?_)
                  have q196 : IMn s195 := by rw [es195]; exact IMn_268 q180 (by omega)
                  have q197 : IMk s195 := by rw [es195]; exact IMk_268 q181 (by omega)
                  have q198 : IMo s195 := by rw [es195]; exact IMo_o (by unfold suIMo; omega) q182
                  have q199 : IR s195 := by rw [es195]; exact IR_268 q183 (by omega)
                  have q200 : s195 268 8 = s0 268 8 := (show s195 268 8 = s179 268 8 from by rw [es195, xU_j _ _ (by decide)]).trans q184
                  have q201 : s195 268 58 = s0 268 58 := (show s195 268 58 = s179 268 58 from by rw [es195, xU_j _ _ (by decide)]).trans q185
                  have q202 : s195 268 17 = s0 268 17 := (show s195 268 17 = s179 268 17 from by rw [es195, xU_j _ _ (by decide)]).trans q186
                  have q203 : s195 268 9 = (x194 + 1) := by rw [es195, xU_s]
                  have q204 : s195 268 10 = s0 268 10 := (show s195 268 10 = s179 268 10 from by rw [es195, xU_j _ _ (by decide)]).trans q188
                  have q205 : s195 268 13 = (x178 - 1) := (show s195 268 13 = s179 268 13 from by rw [es195, xU_j _ _ (by decide)]).trans q189
                  have q206 : s195 268 14 = s_92 268 14 := (show s195 268 14 = s179 268 14 from by rw [es195, xU_j _ _ (by decide)]).trans q190
                  have q207 : s195 268 16 = s0 268 16 := (show s195 268 16 = s179 268 16 from by rw [es195, xU_j _ _ (by decide)]).trans q191
                  have q208 : s195 268 15 = (x161 - 1) := (show s195 268 15 = s179 268 15 from by rw [es195, xU_j _ _ (by decide)]).trans q192
                  have hF209 := hF193.put es195 (by omega)
                  have E133 := es195
                  have X133 : zCQ f9 n9 (s0 268 14) (zC0 f9 n9 (s0 268 9 + 1) (s0 268 14) (s0 277)) false s195 := H103.1.shut (by omega) (by rw [show s158 268 9 = s_92 268 9 from by omega]; omega) (by omega) (by omega) (by rw [E133, xU_k _ _ _ (by omega), E123, xU_k _ _ _ (by omega), E113, xU_k _ _ _ (by omega)]) (by omega) (by omega) (by rw [E133, xU_k _ _ _ (by omega), E123, xU_k _ _ _ (by omega), E113, xU_k _ _ _ (by omega)])
                  refine x_aload_n hx hb hl 0 rfl dX11_readsCondition_136 rfl ?_
                  refine x_get (j := 15) (v := .int (xJ (s195 268 15))) hx hb hown hT hE hW cls_X11 (Or.inl (by decide)) (so_268 h0 g _) (by decide) rfl wq1200 dX11_readsCondition_137 ?_
                  refine x_rd hW (fun x210 ex210 rx210 => ?_)
                  have fx210 : x210 = (x161 - 1) := ex210.trans q208
                  refine x_if_ne (tgt := 145) hx hb rx210 dX11_readsCondition_140 (by decide) (fun c211 => ?_) (fun c211 => ?_)
                  · skip
                    refine x_aload_n hx hb hl 0 rfl dX11_readsCondition_145 rfl ?_
                    refine x_gov (x_runV (As := []) hx hb hml hown hT hE hW hl.1 (Or.inl (by decide)) (so_268 h0 g _) rfl cf_X11_endsPiece wq1523 wq127 wq1521 (c_X11_endsPieceK l D g T h0 s195 hW.2.1 f9 n9 (s0 268 14) (zC0 f9 n9 (s0 268 9 + 1) (s0 268 14) (s0 277)) (by first | exact hf | exact ⟨by rw [hF209 276 (by omega)]; exact hf.1, by omega⟩) (X133) (by have y := X133.b; omega) q196 q197 q198 q199) ⟨rfl, rfl, ⟨by decide, by decide⟩, ⟨by decide, by decide⟩⟩ rfl rfl (Nat.le_of_ble_eq_true rfl) dX11_readsCondition_146) hW (fun s213 H locs hp214 hW => ?_)
                    obtain ⟨fs213, hp214⟩ := hp214
                    have hF215 := hF209.call fs213 (fun k h => by omega)
                    have ghp214 := hp214.2
                    have H146 := ghp214
                    refine lv_goto (tgt := 92) hx hb dX11_readsCondition_149 (by decide) ?_
                    exact ih92 s213 H locs ls hF215 hp214.1.1 hp214.1.2.1 hp214.1.2.2.1 hp214.1.2.2.2.1 (hp214.1.2.2.2.2.1.trans q200) (hp214.1.2.2.2.2.2.1.trans q201) (hp214.1.2.2.2.2.2.2.1.trans q202) (hp214.1.2.2.2.2.2.2.2.2.1.trans q204) (hp214.1.2.2.2.2.2.2.2.2.2.1.trans q207) (H146.1) (⟨H146.2.1, H146.2.2⟩) (by omega) (by omega) hW (lv_sub hl [0] rfl)
                  refine x_iconst hx hb dX11_readsCondition_143 ?_
                  rw [eQ]
                  exact x_zret hx hb hr hlk hW (by omega) ⟨hF209, ⟨q196, q197, q198, q199, q200, q201, q202, q204, q207, trivial⟩, by
    have z := X133.fin (by omega)
    rw [z2, z]
    exact Or.inr ⟨by omega, rfl, by omega⟩⟩ dX11_readsCondition_144
              exact L92 ((241 - s63 268 9 : Int).toNat + 1) s63 H locs ls hF65 hp64.1.1 hp64.1.2.1 hp64.1.2.2.1 hp64.1.2.2.2.1 (hp64.1.2.2.2.2.1.trans q40_4) (hp64.1.2.2.2.2.2.1.trans q40_5) (hp64.1.2.2.2.2.2.2.1.trans q40_6) (hp64.1.2.2.2.2.2.2.2.1.trans q40_7) (hp64.1.2.2.2.2.2.2.2.2.1.trans q40_9) ((H84.resolve_left (fun q => by omega)).2.1) (⟨(H84.resolve_left (fun q => by omega)).2.2.1, (H84.resolve_left (fun q => by omega)).2.2.2.1⟩) (by omega) (Nat.lt_succ_self _) hW (lv_sub hl [0] rfl)
            refine x_iconst hx hb dX11_readsCondition_90 ?_
            rw [eQ]
            exact x_zret hx hb hr hlk hW (by omega) ⟨hF65, ⟨hp64.1.1, hp64.1.2.1, hp64.1.2.2.1, hp64.1.2.2.2.1, (hp64.1.2.2.2.2.1.trans q40_4), (hp64.1.2.2.2.2.2.1.trans q40_5), (hp64.1.2.2.2.2.2.2.1.trans q40_6), (hp64.1.2.2.2.2.2.2.2.1.trans q40_7), (hp64.1.2.2.2.2.2.2.2.2.1.trans q40_9), trivial⟩, by
    have e := H84.resolve_right (fun q => by omega)
    rw [z2]
    exact Or.inl ⟨by omega, e.2.1, e.2.2⟩⟩ dX11_readsCondition_91
          refine x_aload_n hx hb hl 0 rfl dX11_readsCondition_58 rfl ?_
          refine x_aload_n hx hb hl 0 rfl dX11_readsCondition_59 rfl ?_
          refine x_goi (x_runV (As := []) hx hb hml hown hT hE hW hl.1 (Or.inl (by decide)) (so_268 h0 g _) rfl cf_X11_here wq1391 wq106 wq1389 (c_X11_here l D g T h0 s_40 hW.2.1 q40_0 q40_1 q40_2 q40_3) ⟨rfl, rfl, ⟨by decide, by decide⟩, ⟨by decide, by decide⟩⟩ rfl rfl (Nat.le_of_ble_eq_true rfl) dX11_readsCondition_60) hW (fun x216 s217 H locs rx216 hp218 hW => ?_)
          obtain ⟨es217, hp218⟩ := hp218
          subst es217
          have ghp218 := hp218
          have C60 : x216 = zch f9 n9 (s_40 268 9) := by
            have q8 := ghp218.1
            rw [zhC_ch, show s_40 276 = s0 276 from hF_40 276 (by omega), hf.1, show s_40 268 10 = n9 from by omega] at q8
            exact q8
          refine x_bipush hx hb dX11_readsCondition_63 (by decide) ?_
          refine x_icmp_ne (tgt := 73) hx hb rx216 (by decide) dX11_readsCondition_65 (by decide) (fun c219 => ?_) (fun c219 => ?_)
          · skip
            refine x_bipush hx hb dX11_readsCondition_73 (by decide) ?_
            refine x_goi (x_runV (As := [.int (xJ 13)]) hx hb hml hown hT hE hW hl.1 (Or.inl (by decide)) (so_268 h0 g _) rfl cf_X11_opens wq1480 wq118 wq1478 (c_X11_opensK l D g T h0 s_40 hW.2.1 13 (by decide) (by omega) (by omega) (by omega) (by omega) q40_0 q40_1 q40_2 q40_3) ⟨rfl, rfl, ⟨by decide, by decide⟩, ⟨by decide, by decide⟩⟩ rfl rfl (Nat.le_of_ble_eq_true rfl) dX11_readsCondition_75) hW (fun x220 s221 H locs rx220 hp222 hW => ?_)
            obtain ⟨fs221, hp222⟩ := hp222
            have hF223 := hF_40.call fs221 (fun k h => by omega)
            have ghp222 := hp222.2
            have H75 := ghp222
            have F75 := fs221
            refine x_if_ne (tgt := 40) hx hb rx220 dX11_readsCondition_78 (by decide) (fun c224 => ?_) (fun c224 => ?_)
            · skip
              exact ih40 s221 H locs ls hF223 hp222.1.1 hp222.1.2.1 hp222.1.2.2.1 hp222.1.2.2.2.1 (hp222.1.2.2.2.2.1.trans q40_4) (hp222.1.2.2.2.2.2.1.trans q40_5) (hp222.1.2.2.2.2.2.2.1.trans q40_6) (hp222.1.2.2.2.2.2.2.2.1.trans q40_7) (hp222.1.2.2.2.2.2.2.2.2.2.1.trans q40_9) (by first | exact H215.1 | (have e := H75.resolve_left (fun q => by omega); exact v40_0.open_ (by omega) (by omega) (by omega) (by omega) (F75 277 (by omega)) (by omega) (by omega) e.2.2.2.1)) (by omega) (by omega) hW (lv_sub hl [0] rfl)
            refine x_iconst hx hb dX11_readsCondition_81 ?_
            rw [eQ]
            exact x_zret hx hb hr hlk hW (by omega) ⟨hF223, ⟨hp222.1.1, hp222.1.2.1, hp222.1.2.2.1, hp222.1.2.2.2.1, (hp222.1.2.2.2.2.1.trans q40_4), (hp222.1.2.2.2.2.2.1.trans q40_5), (hp222.1.2.2.2.2.2.2.1.trans q40_6), (hp222.1.2.2.2.2.2.2.2.1.trans q40_7), (hp222.1.2.2.2.2.2.2.2.2.2.1.trans q40_9), trivial⟩, by
    have e := H75.resolve_right (fun q => by omega)
    have z := v40_0.1.five (by omega) (by rw [← v40_0.2.2.1]; omega)
    rw [z2, z]
    exact Or.inl ⟨by omega, (by show (-5000 - _ : Int) ≠ 0; omega), (by show _ = (-5000 - _ : Int); omega)⟩⟩ dX11_readsCondition_82
          refine x_bipush hx hb dX11_readsCondition_68 (by decide) ?_
          refine lv_goto (tgt := 75) hx hb dX11_readsCondition_70 (by decide) ?_
          refine x_goi (x_runV (As := [.int (xJ 10)]) hx hb hml hown hT hE hW hl.1 (Or.inl (by decide)) (so_268 h0 g _) rfl cf_X11_opens wq1480 wq118 wq1478 (c_X11_opensK l D g T h0 s_40 hW.2.1 10 (by decide) (by omega) (by omega) (by omega) (by omega) q40_0 q40_1 q40_2 q40_3) ⟨rfl, rfl, ⟨by decide, by decide⟩, ⟨by decide, by decide⟩⟩ rfl rfl (Nat.le_of_ble_eq_true rfl) dX11_readsCondition_75) hW (fun x225 s226 H locs rx225 hp227 hW => ?_)
          obtain ⟨fs226, hp227⟩ := hp227
          have hF228 := hF_40.call fs226 (fun k h => by omega)
          have ghp227 := hp227.2
          have H75 := ghp227
          have F75 := fs226
          refine x_if_ne (tgt := 40) hx hb rx225 dX11_readsCondition_78 (by decide) (fun c229 => ?_) (fun c229 => ?_)
          · skip
            exact ih40 s226 H locs ls hF228 hp227.1.1 hp227.1.2.1 hp227.1.2.2.1 hp227.1.2.2.2.1 (hp227.1.2.2.2.2.1.trans q40_4) (hp227.1.2.2.2.2.2.1.trans q40_5) (hp227.1.2.2.2.2.2.2.1.trans q40_6) (hp227.1.2.2.2.2.2.2.2.1.trans q40_7) (hp227.1.2.2.2.2.2.2.2.2.2.1.trans q40_9) (by first | exact H215.1 | (have e := H75.resolve_left (fun q => by omega); exact v40_0.open_ (by omega) (by omega) (by omega) (by omega) (F75 277 (by omega)) (by omega) (by omega) e.2.2.2.1)) (by omega) (by omega) hW (lv_sub hl [0] rfl)
          refine x_iconst hx hb dX11_readsCondition_81 ?_
          rw [eQ]
          exact x_zret hx hb hr hlk hW (by omega) ⟨hF228, ⟨hp227.1.1, hp227.1.2.1, hp227.1.2.2.1, hp227.1.2.2.2.1, (hp227.1.2.2.2.2.1.trans q40_4), (hp227.1.2.2.2.2.2.1.trans q40_5), (hp227.1.2.2.2.2.2.2.1.trans q40_6), (hp227.1.2.2.2.2.2.2.2.1.trans q40_7), (hp227.1.2.2.2.2.2.2.2.2.2.1.trans q40_9), trivial⟩, by
    have e := H75.resolve_right (fun q => by omega)
    have z := v40_0.1.five (by omega) (by rw [← v40_0.2.2.1]; omega)
    rw [z2, z]
    exact Or.inl ⟨by omega, (by show (-5000 - _ : Int) ≠ 0; omega), (by show _ = (-5000 - _ : Int); omega)⟩⟩ dX11_readsCondition_82
      exact L40 ((241 - s36 268 9 : Int).toNat + 1) s36 H locs ls hF38 hp37.1.1 hp37.1.2.1 hp37.1.2.2.1 hp37.1.2.2.2.1 (hp37.1.2.2.2.2.1.trans q25) (hp37.1.2.2.2.2.2.1.trans q26) (hp37.1.2.2.2.2.2.2.1.trans q27) (hp37.1.2.2.2.2.2.2.2.1.trans q28) (hp37.1.2.2.2.2.2.2.2.2.2.1.trans q29) (Z32 (by omega)) (by omega) (Nat.lt_succ_self _) hW (lv_sub hl [0] rfl)
    refine x_iconst hx hb dX11_readsCondition_38 ?_
    rw [eQ]
    exact x_zret hx hb hr hlk hW (by omega) ⟨hF38, ⟨hp37.1.1, hp37.1.2.1, hp37.1.2.2.1, hp37.1.2.2.2.1, (hp37.1.2.2.2.2.1.trans q25), (hp37.1.2.2.2.2.2.1.trans q26), (hp37.1.2.2.2.2.2.2.1.trans q27), (hp37.1.2.2.2.2.2.2.2.1.trans q28), (hp37.1.2.2.2.2.2.2.2.2.2.1.trans q29), trivial⟩, by exfalso; omega⟩ dX11_readsCondition_39
  refine x_aload_n hx hb hl 0 rfl dX11_readsCondition_9 rfl ?_
  refine x_iconst hx hb dX11_readsCondition_10 ?_
  refine x_aload_n hx hb hl 0 rfl dX11_readsCondition_11 rfl ?_
  refine x_get (j := 9) (v := .int (xJ (s0 268 9))) hx hb hown hT hE hW cls_X11 (Or.inl (by decide)) (so_268 h0 g _) (by decide) rfl wq1194 dX11_readsCondition_12 ?_
  refine x_rd hW (fun x230 ex230 rx230 => ?_)
  have bx230 : 0 ≤ x230 ∧ x230 ≤ s0 268 10 ∧ s0 268 10 ≤ 240 := by rw [ex230]; exact p3
  have fx230 : x230 = s0 268 9 := ex230.trans k268_9
  refine x_goi (x_runV (As := [.int (xJ 1), .int (xJ x230)]) hx hb hml hown hT hE hW hl.1 (Or.inl (by decide)) (so_268 h0 g _) rfl cf_X11_wrongAt wq1401 wq107 wq1399 (c_X11_wrongAtK l D g T h0 s0 hW.2.1 1 (by decide) x230 rx230 (by omega) p0 p1 p2 p3) ⟨rfl, rfl, ⟨by decide, by decide⟩, ⟨by decide, by decide⟩⟩ rfl rfl (Nat.le_of_ble_eq_true rfl) dX11_readsCondition_15) hW (fun x231 s232 H locs rx231 hp233 hW => ?_)
  obtain ⟨fs232, hp233⟩ := hp233
  have hF234 := hF.call fs232 (fun k h => by omega)
  have ghp233 := hp233.2
  rw [eQ]
  exact x_zret hx hb hr hlk hW (by omega) ⟨hF234, ⟨hp233.1.1, hp233.1.2.1, hp233.1.2.2.1, hp233.1.2.2.2.1, (hp233.1.2.2.2.2.1.trans k268_8), (hp233.1.2.2.2.2.2.1.trans k268_58), (hp233.1.2.2.2.2.2.2.1.trans k268_17), (hp233.1.2.2.2.2.2.2.2.2.1.trans k268_10), (hp233.1.2.2.2.2.2.2.2.2.2.2.2.2.1.trans k268_16), trivial⟩, by
    have z : (zc2 f9 n9 (s0 268 9) (s0 268 14) (s0 277)) = (-1000 - s0 268 9, s0 268 9, s0 268 14, s0 277) := by unfold zc2; rw [if_pos (by omega)]
    rw [z]
    exact Or.inl ⟨by omega, (by show (-1000 - _ : Int) ≠ 0; omega), (by show _ = (-1000 - _ : Int); omega)⟩⟩ dX11_readsCondition_18
