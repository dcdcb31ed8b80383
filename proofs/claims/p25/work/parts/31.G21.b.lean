set_option maxHeartbeats 4000000 in
set_option maxRecDepth 100000 in
theorem c_X11_readsCondition (l : Launch) (D : va_G) (g : xG) (T : Nat × Nat × Nat) (h0 : Nat) (s0 : xS) (hσ : xRR s0) (hc0 : 0 ≤ s0 268 14 ∧ s0 268 14 ≤ s0 268 9) (p0 : IMn s0) (p1 : IMk s0) (p2 : IMo s0) (p3 : IR s0) : Met l yX11_readsCondition (xws yX11_readsCondition cX11_readsCondition 1 (some .boolean)) { frames := 6, cells := 0, slots := 0, locals := 125 } (xP [.ref (h0 + 268)] D g T h0 s0) (xQi D g h0 (fun r τ => xFr (fun k => k = 268 ∨ k = 277 ∨ k = 278) s0 τ ∧ (((IMn τ) ∧ (IMk τ) ∧ (IMo τ) ∧ (IR τ) ∧ (τ 268 8 = s0 268 8) ∧ (τ 268 58 = s0 268 58) ∧ (τ 268 10 = s0 268 10) ∧ (τ 268 16 = s0 268 16) ∧ (τ 268 34 = s0 268 34) ∧ (τ 268 35 = s0 268 35) ∧ (τ 268 36 = s0 268 36) ∧ (τ 268 37 = s0 268 37) ∧ True) ∧ ((r = 0 ∧ s0 268 9 ≤ τ 268 9) ∨ (r = 1 ∧ s0 268 9 + 1 ≤ τ 268 9 ∧ τ 268 15 = 0 ∧ zLC (s0 277) (s0 268 14) (s0 268 16) 0 1 τ))))) 0 0 (xA h0) := by
  refine x_met hσ (by decide) (Nat.le_of_ble_eq_true rfl) ?_
  intro p e s m args below meth c hx hb hr hml hown hT hlk hnm hE hW ls hl
  have hl : lv_has ls 1 [(0, .ref (h0 + 268))] := hl
  obtain ⟨Q, eQ⟩ : ∃ Q, Q = MQ below (xQi D g h0 (fun r τ => xFr (fun k => k = 268 ∨ k = 277 ∨ k = 278) s0 τ ∧ (((IMn τ) ∧ (IMk τ) ∧ (IMo τ) ∧ (IR τ) ∧ (τ 268 8 = s0 268 8) ∧ (τ 268 58 = s0 268 58) ∧ (τ 268 10 = s0 268 10) ∧ (τ 268 16 = s0 268 16) ∧ (τ 268 34 = s0 268 34) ∧ (τ 268 35 = s0 268 35) ∧ (τ 268 36 = s0 268 36) ∧ (τ 268 37 = s0 268 37) ∧ True) ∧ ((r = 0 ∧ s0 268 9 ≤ τ 268 9) ∨ (r = 1 ∧ s0 268 9 + 1 ≤ τ 268 9 ∧ τ 268 15 = 0 ∧ zLC (s0 277) (s0 268 14) (s0 268 16) 0 1 τ))))) args s 0 0 (xA h0) := ⟨_, rfl⟩
  rw [← eQ]
  generalize hHe : ([] : List Loc) = locs at hW ⊢
  obtain ⟨H, eH⟩ : ∃ H, H = s.heap := ⟨_, rfl⟩
  rw [← eH] at hW ⊢
  have hF : xFr (fun k => k = 268 ∨ k = 277 ∨ k = 278) s0 s0 := xFr.rf
  have k268_8 : s0 268 8 = s0 268 8 := rfl
  have k268_58 : s0 268 58 = s0 268 58 := rfl
  have k268_10 : s0 268 10 = s0 268 10 := rfl
  have k268_16 : s0 268 16 = s0 268 16 := rfl
  have k268_34 : s0 268 34 = s0 268 34 := rfl
  have k268_35 : s0 268 35 = s0 268 35 := rfl
  have k268_36 : s0 268 36 = s0 268 36 := rfl
  have k268_37 : s0 268 37 = s0 268 37 := rfl
  have k268_9 : s0 268 9 = s0 268 9 := rfl
  have k268_14 : s0 268 14 = s0 268 14 := rfl
  have k268_15 : s0 268 15 = s0 268 15 := rfl
  refine x_aload_n hx hb hl 0 rfl dX11_readsCondition_0 rfl ?_
  refine x_goi (x_runV (As := []) hx hb hml hown hT hE hW hl.1 (Or.inl (by decide)) (so_268 h0 g _) rfl cf_X11_here wq1391 wq106 wq1389 (c_X11_here l D g T h0 s0 hW.2.1 p0 p1 p2 p3) ⟨rfl, rfl, ⟨by decide, by decide⟩, ⟨by decide, by decide⟩⟩ rfl rfl (Nat.le_of_ble_eq_true rfl) dX11_readsCondition_1) hW (fun x1 s2 H locs rx1 hp3 hW => ?_)
  obtain ⟨es2, hp3⟩ := hp3
  subst es2
  have ghp3 := hp3
  refine x_bipush hx hb dX11_readsCondition_4 (by decide) ?_
  refine x_icmp_eq (tgt := 19) hx hb rx1 (by decide) dX11_readsCondition_6 (by decide) (fun c4 => ?_) (fun c4 => ?_)
  · skip
    refine x_aload_n hx hb hl 0 rfl dX11_readsCondition_19 rfl ?_
    refine x_iconst hx hb dX11_readsCondition_20 ?_
    refine x_put (j := 13) hx hb hown hT hE hW cls_X11 (by decide) (fun σ => so_268 h0 g σ) (by decide) (st_X11_13 h0 s0 268 0) (ln_X11_13 h0 _ _) wq1198 rfl rfl rfl (by decide) dX11_readsCondition_21 (fun H locs s5 es5 hW => ?_)
    have q6 : IMn s5 := by rw [es5]; exact IMn_268 p0 (by omega)
    have q7 : IMk s5 := by rw [es5]; exact IMk_268 p1 (by omega)
    have q8 : IMo s5 := by rw [es5]; exact IMo_o (by unfold suIMo; omega) p2
    have q9 : IR s5 := by rw [es5]; exact IR_268 p3 (by omega)
    have q10 : s5 268 8 = s0 268 8 := (show s5 268 8 = s0 268 8 from by rw [es5, xU_j _ _ (by decide)]).trans k268_8
    have q11 : s5 268 58 = s0 268 58 := (show s5 268 58 = s0 268 58 from by rw [es5, xU_j _ _ (by decide)]).trans k268_58
    have q12 : s5 268 10 = s0 268 10 := (show s5 268 10 = s0 268 10 from by rw [es5, xU_j _ _ (by decide)]).trans k268_10
    have q13 : s5 268 16 = s0 268 16 := (show s5 268 16 = s0 268 16 from by rw [es5, xU_j _ _ (by decide)]).trans k268_16
    have q14 : s5 268 34 = s0 268 34 := (show s5 268 34 = s0 268 34 from by rw [es5, xU_j _ _ (by decide)]).trans k268_34
    have q15 : s5 268 35 = s0 268 35 := (show s5 268 35 = s0 268 35 from by rw [es5, xU_j _ _ (by decide)]).trans k268_35
    have q16 : s5 268 36 = s0 268 36 := (show s5 268 36 = s0 268 36 from by rw [es5, xU_j _ _ (by decide)]).trans k268_36
    have q17 : s5 268 37 = s0 268 37 := (show s5 268 37 = s0 268 37 from by rw [es5, xU_j _ _ (by decide)]).trans k268_37
    have q18 : s5 268 9 = s0 268 9 := (show s5 268 9 = s0 268 9 from by rw [es5, xU_j _ _ (by decide)]).trans k268_9
    have q19 : s5 268 14 = s0 268 14 := (show s5 268 14 = s0 268 14 from by rw [es5, xU_j _ _ (by decide)]).trans k268_14
    have q20 : s5 268 15 = s0 268 15 := (show s5 268 15 = s0 268 15 from by rw [es5, xU_j _ _ (by decide)]).trans k268_15
    have hF21 := hF.put es5 (by omega)
    have E21 := es5
    refine x_aload_n hx hb hl 0 rfl dX11_readsCondition_24 rfl ?_
    refine x_iconst hx hb dX11_readsCondition_25 ?_
    refine x_put (j := 15) hx hb hown hT hE hW cls_X11 (by decide) (fun σ => so_268 h0 g σ) (by decide) (st_X11_15 h0 s5 268 0) (ln_X11_15 h0 _ _) wq1200 rfl rfl rfl (by decide) dX11_readsCondition_26 (fun H locs s22 es22 hW => ?_)
    have q23 : IMn s22 := by rw [es22]; exact IMn_268 q6 (by omega)
    have q24 : IMk s22 := by rw [es22]; exact IMk_268 q7 (by omega)
    have q25 : IMo s22 := by rw [es22]; exact IMo_o (by unfold suIMo; omega) q8
    have q26 : IR s22 := by rw [es22]; exact IR_268 q9 (by omega)
    have q27 : s22 268 8 = s0 268 8 := (show s22 268 8 = s5 268 8 from by rw [es22, xU_j _ _ (by decide)]).trans q10
    have q28 : s22 268 58 = s0 268 58 := (show s22 268 58 = s5 268 58 from by rw [es22, xU_j _ _ (by decide)]).trans q11
    have q29 : s22 268 10 = s0 268 10 := (show s22 268 10 = s5 268 10 from by rw [es22, xU_j _ _ (by decide)]).trans q12
    have q30 : s22 268 16 = s0 268 16 := (show s22 268 16 = s5 268 16 from by rw [es22, xU_j _ _ (by decide)]).trans q13
    have q31 : s22 268 34 = s0 268 34 := (show s22 268 34 = s5 268 34 from by rw [es22, xU_j _ _ (by decide)]).trans q14
    have q32 : s22 268 35 = s0 268 35 := (show s22 268 35 = s5 268 35 from by rw [es22, xU_j _ _ (by decide)]).trans q15
    have q33 : s22 268 36 = s0 268 36 := (show s22 268 36 = s5 268 36 from by rw [es22, xU_j _ _ (by decide)]).trans q16
    have q34 : s22 268 37 = s0 268 37 := (show s22 268 37 = s5 268 37 from by rw [es22, xU_j _ _ (by decide)]).trans q17
    have q35 : s22 268 9 = s0 268 9 := (show s22 268 9 = s5 268 9 from by rw [es22, xU_j _ _ (by decide)]).trans q18
    have q36 : s22 268 14 = s0 268 14 := (show s22 268 14 = s5 268 14 from by rw [es22, xU_j _ _ (by decide)]).trans q19
    have q37 : s22 268 15 = 0 := by rw [es22, xU_s]
    have hF38 := hF21.put es22 (by omega)
    have N26 : zLC (s0 277) (s0 268 14) (s0 268 16) 0 0 s22 := zLC.new (by have := q26; unfold IR at this; exact this) (by omega) (by omega) (by omega) (by omega) (fun k _ _ => by rw [es22, xU_k _ _ _ (by omega), E21, xU_k _ _ _ (by omega)])
    have Z26 : s22 268 15 = 0 := by omega
    refine x_aload_n hx hb hl 0 rfl dX11_readsCondition_29 rfl ?_
    refine x_bipush hx hb dX11_readsCondition_30 (by decide) ?_
    refine x_goi (x_runV (As := [.int (xJ 13)]) hx hb hml hown hT hE hW hl.1 (Or.inl (by decide)) (so_268 h0 g _) rfl cf_X11_opens wq1480 wq118 wq1478 (c_X11_opens l D g T h0 s22 hW.2.1 13 (by decide) (by omega) (by omega) (by omega) q23 q24 q25 q26) ⟨rfl, rfl, ⟨by decide, by decide⟩, ⟨by decide, by decide⟩⟩ rfl rfl (Nat.le_of_ble_eq_true rfl) dX11_readsCondition_32) hW (fun x39 s40 H locs rx39 hp41 hW => ?_)
    obtain ⟨fs40, hp41⟩ := hp41
    have hF42 := hF38.call fs40 (fun k h => by omega)
    have ghp41 := hp41.2
    have A32 := ghp41
    have T32 := fs40 277 (by omega)
    refine x_if_ne (tgt := 40) hx hb rx39 dX11_readsCondition_35 (by decide) (fun c43 => ?_) (fun c43 => ?_)
    · skip
      have L40 : ∀ (fu : Nat) (s_40 : xS) (H : Heap) (locs : List Loc) (ls : Array Slot), (xFr (fun k => k = 268 ∨ k = 277 ∨ k = 278) s0 s_40) → (IMn s_40) → (IMk s_40) → (IMo s_40) → (IR s_40) → (s_40 268 8 = s0 268 8) → (s_40 268 58 = s0 268 58) → (s_40 268 10 = s0 268 10) → (s_40 268 16 = s0 268 16) → (s_40 268 34 = s0 268 34) → (s_40 268 35 = s0 268 35) → (s_40 268 36 = s0 268 36) → (s_40 268 37 = s0 268 37) → (zLC (s0 277) (s0 268 14) (s0 268 16) 0 0 s_40) → (zWO s_40) → (s0 268 9 ≤ s_40 268 9) → (241 - s_40 268 9).toNat < fu → xW D g h0 s H locs s_40 → lv_has ls 1 [(0, .ref (h0 + 268))] → W p l e { frames := 6, cells := 0, slots := 0, locals := 125 } s m args below meth c H locs 0 0 Q (F0 m 40 ls []) := by
        intro fu
        induction fu with
        | zero => intro s_40 H locs ls hF_40 q40_0 q40_1 q40_2 q40_3 q40_4 q40_5 q40_6 q40_8 q40_9 q40_10 q40_11 q40_12 v40_0 v40_1 v40_2 hm; exact absurd hm (Nat.not_lt_zero _)
        | succ fu ih40 =>
          intro s_40 H locs ls hF_40 q40_0 q40_1 q40_2 q40_3 q40_4 q40_5 q40_6 q40_8 q40_9 q40_10 q40_11 q40_12 v40_0 v40_1 v40_2 hm hW hl
          have f40 := v40_0.f
          have cw := v40_0.2.cw
          refine x_aload_n hx hb hl 0 rfl dX11_readsCondition_40 rfl ?_
          refine x_goi (x_runV (As := []) hx hb hml hown hT hE hW hl.1 (Or.inl (by decide)) (so_268 h0 g _) rfl cf_X11_here wq1391 wq106 wq1389 (c_X11_here l D g T h0 s_40 hW.2.1 q40_0 q40_1 q40_2 q40_3) ⟨rfl, rfl, ⟨by decide, by decide⟩, ⟨by decide, by decide⟩⟩ rfl rfl (Nat.le_of_ble_eq_true rfl) dX11_readsCondition_41) hW (fun x44 s45 H locs rx44 hp46 hW => ?_)
          obtain ⟨es45, hp46⟩ := hp46
          subst es45
          have ghp46 := hp46
          have q47 : s_40 268 9 = s_40 268 9 := rfl
          have q48 : s_40 268 14 = s_40 268 14 := rfl
          have q49 : s_40 268 15 = s_40 268 15 := rfl
          refine x_bipush hx hb dX11_readsCondition_44 (by decide) ?_
          have J58 : ∀ (H : Heap) (locs : List Loc) (ls : Array Slot), (s_40 268 9 < s_40 268 10) → xW D g h0 s H locs s_40 → lv_has ls 1 [(0, .ref (h0 + 268))] → W p l e { frames := 6, cells := 0, slots := 0, locals := 125 } s m args below meth c H locs 0 0 Q (F0 m 58 ls []) := by
            intro H locs ls v58_0 hW hl
            refine x_aload_n hx hb hl 0 rfl dX11_readsCondition_58 rfl ?_
            refine x_aload_n hx hb hl 0 rfl dX11_readsCondition_59 rfl ?_
            refine x_goi (x_runV (As := []) hx hb hml hown hT hE hW hl.1 (Or.inl (by decide)) (so_268 h0 g _) rfl cf_X11_here wq1391 wq106 wq1389 (c_X11_here l D g T h0 s_40 hW.2.1 q40_0 q40_1 q40_2 q40_3) ⟨rfl, rfl, ⟨by decide, by decide⟩, ⟨by decide, by decide⟩⟩ rfl rfl (Nat.le_of_ble_eq_true rfl) dX11_readsCondition_60) hW (fun x50 s51 H locs rx50 hp52 hW => ?_)
            obtain ⟨es51, hp52⟩ := hp52
            subst es51
            have ghp52 := hp52
            refine x_bipush hx hb dX11_readsCondition_63 (by decide) ?_
            refine x_icmp_ne (tgt := 73) hx hb rx50 (by decide) dX11_readsCondition_65 (by decide) (fun c53 => ?_) (fun c53 => ?_)
            · skip
              refine x_bipush hx hb dX11_readsCondition_73 (by decide) ?_
              refine x_goi (x_runV (As := [.int (xJ 13)]) hx hb hml hown hT hE hW hl.1 (Or.inl (by decide)) (so_268 h0 g _) rfl cf_X11_opens wq1480 wq118 wq1478 (c_X11_opens l D g T h0 s_40 hW.2.1 13 (by decide) (by omega) (⟨by omega, by omega⟩) (by omega) q40_0 q40_1 q40_2 q40_3) ⟨rfl, rfl, ⟨by decide, by decide⟩, ⟨by decide, by decide⟩⟩ rfl rfl (Nat.le_of_ble_eq_true rfl) dX11_readsCondition_75) hW (fun x54 s55 H locs rx54 hp56 hW => ?_)
              obtain ⟨fs55, hp56⟩ := hp56
              have hF57 := hF_40.call fs55 (fun k h => by omega)
              have ghp56 := hp56.2
              have A75 := ghp56
              have T75 : s55 277 = s_40 277 := fs55 277 (by omega)
              refine x_if_ne (tgt := 40) hx hb rx54 dX11_readsCondition_78 (by decide) (fun c58 => ?_) (fun c58 => ?_)
              · skip
                exact ih40 s55 H locs ls hF57 hp56.1.1 hp56.1.2.1 hp56.1.2.2.1 hp56.1.2.2.2.1 (hp56.1.2.2.2.2.1.trans q40_4) (hp56.1.2.2.2.2.2.1.trans q40_5) (hp56.1.2.2.2.2.2.2.1.trans q40_6) (hp56.1.2.2.2.2.2.2.2.2.1.trans q40_8) (hp56.1.2.2.2.2.2.2.2.2.2.1.trans q40_9) (hp56.1.2.2.2.2.2.2.2.2.2.2.1.trans q40_10) (hp56.1.2.2.2.2.2.2.2.2.2.2.2.1.trans q40_11) (hp56.1.2.2.2.2.2.2.2.2.2.2.2.2.1.trans q40_12) (by first | exact A215.1 | exact v40_0.push ⟨by omega, by omega⟩ (by omega) (by omega) (by omega) (by omega) T75 (A75.resolve_left (fun q => absurd q.1 (by omega))).2.2.2 (by omega)) (by first | exact A215.2.1 | exact zWO_push v40_1 (by omega) (A75.resolve_left (fun q => absurd q.1 (by omega))).2.2.2) (by omega) (by omega) hW (lv_sub hl [0] rfl)
              refine x_iconst hx hb dX11_readsCondition_81 ?_
              rw [eQ]
              exact x_zret hx hb hr hlk hW (by omega) ⟨hF57, ⟨hp56.1.1, hp56.1.2.1, hp56.1.2.2.1, hp56.1.2.2.2.1, (hp56.1.2.2.2.2.1.trans q40_4), (hp56.1.2.2.2.2.2.1.trans q40_5), (hp56.1.2.2.2.2.2.2.1.trans q40_6), (hp56.1.2.2.2.2.2.2.2.2.1.trans q40_8), (hp56.1.2.2.2.2.2.2.2.2.2.1.trans q40_9), (hp56.1.2.2.2.2.2.2.2.2.2.2.1.trans q40_10), (hp56.1.2.2.2.2.2.2.2.2.2.2.2.1.trans q40_11), (hp56.1.2.2.2.2.2.2.2.2.2.2.2.2.1.trans q40_12), trivial⟩, Or.inl ⟨by omega, by omega⟩⟩ dX11_readsCondition_82
            refine x_bipush hx hb dX11_readsCondition_68 (by decide) ?_
            refine lv_goto (tgt := 75) hx hb dX11_readsCondition_70 (by decide) ?_
            refine x_goi (x_runV (As := [.int (xJ 10)]) hx hb hml hown hT hE hW hl.1 (Or.inl (by decide)) (so_268 h0 g _) rfl cf_X11_opens wq1480 wq118 wq1478 (c_X11_opens l D g T h0 s_40 hW.2.1 10 (by decide) (by omega) (⟨by omega, by omega⟩) (by omega) q40_0 q40_1 q40_2 q40_3) ⟨rfl, rfl, ⟨by decide, by decide⟩, ⟨by decide, by decide⟩⟩ rfl rfl (Nat.le_of_ble_eq_true rfl) dX11_readsCondition_75) hW (fun x59 s60 H locs rx59 hp61 hW => ?_)
            obtain ⟨fs60, hp61⟩ := hp61
            have hF62 := hF_40.call fs60 (fun k h => by omega)
            have ghp61 := hp61.2
            have A75 := ghp61
            have T75 : s60 277 = s_40 277 := fs60 277 (by omega)
            refine x_if_ne (tgt := 40) hx hb rx59 dX11_readsCondition_78 (by decide) (fun c63 => ?_) (fun c63 => ?_)
            · skip
              exact ih40 s60 H locs ls hF62 hp61.1.1 hp61.1.2.1 hp61.1.2.2.1 hp61.1.2.2.2.1 (hp61.1.2.2.2.2.1.trans q40_4) (hp61.1.2.2.2.2.2.1.trans q40_5) (hp61.1.2.2.2.2.2.2.1.trans q40_6) (hp61.1.2.2.2.2.2.2.2.2.1.trans q40_8) (hp61.1.2.2.2.2.2.2.2.2.2.1.trans q40_9) (hp61.1.2.2.2.2.2.2.2.2.2.2.1.trans q40_10) (hp61.1.2.2.2.2.2.2.2.2.2.2.2.1.trans q40_11) (hp61.1.2.2.2.2.2.2.2.2.2.2.2.2.1.trans q40_12) (by first | exact A215.1 | exact v40_0.push ⟨by omega, by omega⟩ (by omega) (by omega) (by omega) (by omega) T75 (A75.resolve_left (fun q => absurd q.1 (by omega))).2.2.2 (by omega)) (by first | exact A215.2.1 | exact zWO_push v40_1 (by omega) (A75.resolve_left (fun q => absurd q.1 (by omega))).2.2.2) (by omega) (by omega) hW (lv_sub hl [0] rfl)
            refine x_iconst hx hb dX11_readsCondition_81 ?_
            rw [eQ]
            exact x_zret hx hb hr hlk hW (by omega) ⟨hF62, ⟨hp61.1.1, hp61.1.2.1, hp61.1.2.2.1, hp61.1.2.2.2.1, (hp61.1.2.2.2.2.1.trans q40_4), (hp61.1.2.2.2.2.2.1.trans q40_5), (hp61.1.2.2.2.2.2.2.1.trans q40_6), (hp61.1.2.2.2.2.2.2.2.2.1.trans q40_8), (hp61.1.2.2.2.2.2.2.2.2.2.1.trans q40_9), (hp61.1.2.2.2.2.2.2.2.2.2.2.1.trans q40_10), (hp61.1.2.2.2.2.2.2.2.2.2.2.2.1.trans q40_11), (hp61.1.2.2.2.2.2.2.2.2.2.2.2.2.1.trans q40_12), trivial⟩, Or.inl ⟨by omega, by omega⟩⟩ dX11_readsCondition_82
          refine x_icmp_eq (tgt := 58) hx hb rx44 (by decide) dX11_readsCondition_46 (by decide) (fun c64 => ?_) (fun c64 => ?_)
          · skip
            exact J58 H locs ls (by omega) hW (lv_sub hl [0] rfl)
          refine x_aload_n hx hb hl 0 rfl dX11_readsCondition_49 rfl ?_
          refine x_goi (x_runV (As := []) hx hb hml hown hT hE hW hl.1 (Or.inl (by decide)) (so_268 h0 g _) rfl cf_X11_here wq1391 wq106 wq1389 (c_X11_here l D g T h0 s_40 hW.2.1 q40_0 q40_1 q40_2 q40_3) ⟨rfl, rfl, ⟨by decide, by decide⟩, ⟨by decide, by decide⟩⟩ rfl rfl (Nat.le_of_ble_eq_true rfl) dX11_readsCondition_50) hW (fun x65 s66 H locs rx65 hp67 hW => ?_)
          obtain ⟨es66, hp67⟩ := hp67
          subst es66
          have ghp67 := hp67
          refine x_bipush hx hb dX11_readsCondition_53 (by decide) ?_
          refine x_icmp_ne (tgt := 83) hx hb rx65 (by decide) dX11_readsCondition_55 (by decide) (fun c68 => ?_) (fun c68 => ?_)
          · skip
            refine x_aload_n hx hb hl 0 rfl dX11_readsCondition_83 rfl ?_
            refine x_goi (x_runV (As := []) hx hb hml hown hT hE hW hl.1 (Or.inl (by decide)) (so_268 h0 g _) rfl cf_X11_readsCompared wq1519 wq126 wq1517 (c_X11_readsCompared l D g T h0 s_40 hW.2.1 (s0 277) (s0 268 14) (s0 268 16) (v40_0) (v40_1) q40_0 q40_1 q40_2 q40_3) ⟨rfl, rfl, ⟨by decide, by decide⟩, ⟨by decide, by decide⟩⟩ rfl rfl (Nat.le_of_ble_eq_true rfl) dX11_readsCondition_84) hW (fun x69 s70 H locs rx69 hp71 hW => ?_)
            obtain ⟨fs70, hp71⟩ := hp71
            have hF72 := hF_40.call fs70 (fun k h => by omega)
            have ghp71 := hp71.2
            have A84 := ghp71
            refine x_if_ne (tgt := 92) hx hb rx69 dX11_readsCondition_87 (by decide) (fun c73 => ?_) (fun c73 => ?_)
            · skip
              have L92 : ∀ (fu : Nat) (s_92 : xS) (H : Heap) (locs : List Loc) (ls : Array Slot), (xFr (fun k => k = 268 ∨ k = 277 ∨ k = 278) s0 s_92) → (IMn s_92) → (IMk s_92) → (IMo s_92) → (IR s_92) → (s_92 268 8 = s0 268 8) → (s_92 268 58 = s0 268 58) → (s_92 268 10 = s0 268 10) → (s_92 268 16 = s0 268 16) → (s_92 268 34 = s0 268 34) → (s_92 268 35 = s0 268 35) → (s_92 268 36 = s0 268 36) → (s_92 268 37 = s0 268 37) → (zLC (s0 277) (s0 268 14) (s0 268 16) 0 1 s_92) → (zWO s_92) → (s_40 268 9 + 1 ≤ s_92 268 9) → (241 - s_92 268 9).toNat < fu → xW D g h0 s H locs s_92 → lv_has ls 1 [(0, .ref (h0 + 268))] → W p l e { frames := 6, cells := 0, slots := 0, locals := 125 } s m args below meth c H locs 0 0 Q (F0 m 92 ls []) := by
                intro fu
                induction fu with
                | zero => intro s_92 H locs ls hF_92 q92_0 q92_1 q92_2 q92_3 q92_4 q92_5 q92_6 q92_7 q92_8 q92_9 q92_10 q92_11 v92_0 v92_1 v92_2 hm; exact absurd hm (Nat.not_lt_zero _)
                | succ fu ih92 =>
                  intro s_92 H locs ls hF_92 q92_0 q92_1 q92_2 q92_3 q92_4 q92_5 q92_6 q92_7 q92_8 q92_9 q92_10 q92_11 v92_0 v92_1 v92_2 hm hW hl
                  have f92 := v92_0.f
                  refine x_aload_n hx hb hl 0 rfl dX11_readsCondition_92 rfl ?_
                  refine x_goi (x_runV (As := []) hx hb hml hown hT hE hW hl.1 (Or.inl (by decide)) (so_268 h0 g _) rfl cf_X11_here wq1391 wq106 wq1389 (c_X11_here l D g T h0 s_92 hW.2.1 q92_0 q92_1 q92_2 q92_3) ⟨rfl, rfl, ⟨by decide, by decide⟩, ⟨by decide, by decide⟩⟩ rfl rfl (Nat.le_of_ble_eq_true rfl) dX11_readsCondition_93) hW (fun x74 s75 H locs rx74 hp76 hW => ?_)
                  obtain ⟨es75, hp76⟩ := hp76
                  subst es75
                  have ghp76 := hp76
                  have q77 : s_92 268 9 = s_92 268 9 := rfl
                  refine x_bipush hx hb dX11_readsCondition_96 (by decide) ?_
                  refine x_icmp_ne (tgt := 152) hx hb rx74 (by decide) dX11_readsCondition_98 (by decide) (fun c78 => ?_) (fun c78 => ?_)
                  · skip
                    refine x_aload_n hx hb hl 0 rfl dX11_readsCondition_152 rfl ?_
                    refine x_goi (x_runV (As := []) hx hb hml hown hT hE hW hl.1 (Or.inl (by decide)) (so_268 h0 g _) rfl cf_X11_here wq1391 wq106 wq1389 (c_X11_here l D g T h0 s_92 hW.2.1 q92_0 q92_1 q92_2 q92_3) ⟨rfl, rfl, ⟨by decide, by decide⟩, ⟨by decide, by decide⟩⟩ rfl rfl (Nat.le_of_ble_eq_true rfl) dX11_readsCondition_153) hW (fun x79 s80 H locs rx79 hp81 hW => ?_)
                    obtain ⟨es80, hp81⟩ := hp81
                    subst es80
                    have ghp81 := hp81
                    refine x_bipush hx hb dX11_readsCondition_156 (by decide) ?_
                    have J180 : ∀ (H : Heap) (locs : List Loc) (ls : Array Slot), (s_92 268 9 < s_92 268 10) → xW D g h0 s H locs s_92 → lv_has ls 1 [(0, .ref (h0 + 268))] → W p l e { frames := 6, cells := 0, slots := 0, locals := 125 } s m args below meth c H locs 0 0 Q (F0 m 180 ls []) := by
                      intro H locs ls v180_0 hW hl
                      refine x_aload_n hx hb hl 0 rfl dX11_readsCondition_180 rfl ?_
                      refine x_aload_n hx hb hl 0 rfl dX11_readsCondition_181 rfl ?_
                      refine x_goi (x_runV (As := []) hx hb hml hown hT hE hW hl.1 (Or.inl (by decide)) (so_268 h0 g _) rfl cf_X11_here wq1391 wq106 wq1389 (c_X11_here l D g T h0 s_92 hW.2.1 q92_0 q92_1 q92_2 q92_3) ⟨rfl, rfl, ⟨by decide, by decide⟩, ⟨by decide, by decide⟩⟩ rfl rfl (Nat.le_of_ble_eq_true rfl) dX11_readsCondition_182) hW (fun x82 s83 H locs rx82 hp84 hW => ?_)
                      obtain ⟨es83, hp84⟩ := hp84
                      subst es83
                      have ghp84 := hp84
                      refine x_bipush hx hb dX11_readsCondition_185 (by decide) ?_
                      have J195 : ∀ (t0_195 : Int) (ls : Array Slot), (xR t0_195) → (t0_195 = 0 ∨ t0_195 = 1) → lv_has ls 1 [(0, .ref (h0 + 268))] → W p l e { frames := 6, cells := 0, slots := 0, locals := 125 } s m args below meth c H locs 0 0 Q (F0 m 195 ls [.int (xJ t0_195), .ref (h0 + 268)]) := by
                        intro t0_195 ls rt0_195 v195_0  hl
                        refine x_gov (x_runV (As := [.int (xJ t0_195)]) hx hb hml hown hT hE hW hl.1 (Or.inl (by decide)) (so_268 h0 g _) rfl cf_X11_lands wq1527 wq128 wq1525 (c_X11_lands l D g T h0 s_92 hW.2.1 t0_195 rt0_195 (s0 277) (s0 268 14) (s0 268 16) 0 (v92_0) (v92_1) (by omega) q92_0 q92_1 q92_2 q92_3) ⟨rfl, rfl, ⟨by decide, by decide⟩, ⟨by decide, by decide⟩⟩ rfl rfl (Nat.le_of_ble_eq_true rfl) dX11_readsCondition_195) hW (fun s86 H locs hp87 hW => ?_)
                        obtain ⟨fs86, hp87⟩ := hp87
                        have hF88 := hF_92.call fs86 (fun k h => by omega)
                        have ghp87 := hp87.2
                        have A195 := ghp87
                        refine x_aload_n hx hb hl 0 rfl dX11_readsCondition_198 rfl ?_
                        refine x_aload_n hx hb hl 0 rfl dX11_readsCondition_199 rfl ?_
                        refine x_goi (x_runV (As := []) hx hb hml hown hT hE hW hl.1 (Or.inl (by decide)) (so_268 h0 g _) rfl cf_X11_here wq1391 wq106 wq1389 (c_X11_here l D g T h0 s86 hW.2.1 hp87.1.1 hp87.1.2.1 hp87.1.2.2.1 hp87.1.2.2.2.1) ⟨rfl, rfl, ⟨by decide, by decide⟩, ⟨by decide, by decide⟩⟩ rfl rfl (Nat.le_of_ble_eq_true rfl) dX11_readsCondition_200) hW (fun x89 s90 H locs rx89 hp91 hW => ?_)
                        obtain ⟨es90, hp91⟩ := hp91
                        subst es90
                        have ghp91 := hp91
                        refine x_bipush hx hb dX11_readsCondition_203 (by decide) ?_
                        refine x_icmp_ne (tgt := 213) hx hb rx89 (by decide) dX11_readsCondition_205 (by decide) (fun c92 => ?_) (fun c92 => ?_)
                        · skip
                          refine x_bipush hx hb dX11_readsCondition_213 (by decide) ?_
                          refine x_gov (x_runV (As := [.int (xJ 12)]) hx hb hml hown hT hE hW hl.1 (Or.inl (by decide)) (so_268 h0 g _) rfl cf_X11_jumps wq1531 wq129 wq1529 (c_X11_jumps l D g T h0 s86 hW.2.1 12 (by decide) (s0 277) (s0 268 14) (s0 268 16) 0 (A195.1) (A195.2.1) (by omega) (by omega) hp87.1.1 hp87.1.2.1 hp87.1.2.2.1 hp87.1.2.2.2.1) ⟨rfl, rfl, ⟨by decide, by decide⟩, ⟨by decide, by decide⟩⟩ rfl rfl (Nat.le_of_ble_eq_true rfl) dX11_readsCondition_215) hW (fun s94 H locs hp95 hW => ?_)
                          obtain ⟨fs94, hp95⟩ := hp95
                          have hF96 := hF88.call fs94 (fun k h => by omega)
                          have ghp95 := hp95.2
                          have A215 := ghp95
                          refine lv_goto (tgt := 40) hx hb dX11_readsCondition_218 (by decide) ?_
                          exact ih40 s94 H locs ls hF96 hp95.1.1 hp95.1.2.1 hp95.1.2.2.1 hp95.1.2.2.2.1 (hp95.1.2.2.2.2.1.trans (hp87.1.2.2.2.2.1.trans q92_4)) (hp95.1.2.2.2.2.2.1.trans (hp87.1.2.2.2.2.2.1.trans q92_5)) (hp95.1.2.2.2.2.2.2.1.trans (hp87.1.2.2.2.2.2.2.2.1.trans q92_6)) (hp95.1.2.2.2.2.2.2.2.1.trans (hp87.1.2.2.2.2.2.2.2.2.2.1.trans q92_7)) (hp95.1.2.2.2.2.2.2.2.2.1.trans (hp87.1.2.2.2.2.2.2.2.2.2.2.1.trans q92_8)) (hp95.1.2.2.2.2.2.2.2.2.2.1.trans (hp87.1.2.2.2.2.2.2.2.2.2.2.2.1.trans q92_9)) (hp95.1.2.2.2.2.2.2.2.2.2.2.1.trans (hp87.1.2.2.2.2.2.2.2.2.2.2.2.2.1.trans q92_10)) (hp95.1.2.2.2.2.2.2.2.2.2.2.2.1.trans (hp87.1.2.2.2.2.2.2.2.2.2.2.2.2.2.1.trans q92_11)) (by first | exact A215.1 | exact v40_0.push ⟨by omega, by omega⟩ (by omega) (by omega) (by omega) (by omega) T75 (A75.resolve_left (fun q => absurd q.1 (by omega))).2.2.2 (by omega)) (by first | exact A215.2.1 | exact zWO_push v40_1 (by omega) (A75.resolve_left (fun q => absurd q.1 (by omega))).2.2.2) (by omega) (by omega) hW (lv_sub hl [0] rfl)
                        refine x_bipush hx hb dX11_readsCondition_208 (by decide) ?_
                        refine lv_goto (tgt := 215) hx hb dX11_readsCondition_210 (by decide) ?_
                        refine x_gov (x_runV (As := [.int (xJ 11)]) hx hb hml hown hT hE hW hl.1 (Or.inl (by decide)) (so_268 h0 g _) rfl cf_X11_jumps wq1531 wq129 wq1529 (c_X11_jumps l D g T h0 s86 hW.2.1 11 (by decide) (s0 277) (s0 268 14) (s0 268 16) 0 (A195.1) (A195.2.1) (by omega) (by omega) hp87.1.1 hp87.1.2.1 hp87.1.2.2.1 hp87.1.2.2.2.1) ⟨rfl, rfl, ⟨by decide, by decide⟩, ⟨by decide, by decide⟩⟩ rfl rfl (Nat.le_of_ble_eq_true rfl) dX11_readsCondition_215) hW (fun s98 H locs hp99 hW => ?_)
                        obtain ⟨fs98, hp99⟩ := hp99
                        have hF100 := hF88.call fs98 (fun k h => by omega)
                        have ghp99 := hp99.2
                        have A215 := ghp99
                        refine lv_goto (tgt := 40) hx hb dX11_readsCondition_218 (by decide) ?_
                        exact ih40 s98 H locs ls hF100 hp99.1.1 hp99.1.2.1 hp99.1.2.2.1 hp99.1.2.2.2.1 (hp99.1.2.2.2.2.1.trans (hp87.1.2.2.2.2.1.trans q92_4)) (hp99.1.2.2.2.2.2.1.trans (hp87.1.2.2.2.2.2.1.trans q92_5)) (hp99.1.2.2.2.2.2.2.1.trans (hp87.1.2.2.2.2.2.2.2.1.trans q92_6)) (hp99.1.2.2.2.2.2.2.2.1.trans (hp87.1.2.2.2.2.2.2.2.2.2.1.trans q92_7)) (hp99.1.2.2.2.2.2.2.2.2.1.trans (hp87.1.2.2.2.2.2.2.2.2.2.2.1.trans q92_8)) (hp99.1.2.2.2.2.2.2.2.2.2.1.trans (hp87.1.2.2.2.2.2.2.2.2.2.2.2.1.trans q92_9)) (hp99.1.2.2.2.2.2.2.2.2.2.2.1.trans (hp87.1.2.2.2.2.2.2.2.2.2.2.2.2.1.trans q92_10)) (hp99.1.2.2.2.2.2.2.2.2.2.2.2.1.trans (hp87.1.2.2.2.2.2.2.2.2.2.2.2.2.2.1.trans q92_11)) (by first | exact A215.1 | exact v40_0.push ⟨by omega, by omega⟩ (by omega) (by omega) (by omega) (by omega) T75 (A75.resolve_left (fun q => absurd q.1 (by omega))).2.2.2 (by omega)) (by first | exact A215.2.1 | exact zWO_push v40_1 (by omega) (A75.resolve_left (fun q => absurd q.1 (by omega))).2.2.2) (by omega) (by omega) hW (lv_sub hl [0] rfl)
                      refine x_icmp_ne (tgt := 194) hx hb rx82 (by decide) dX11_readsCondition_187 (by decide) (fun c101 => ?_) (fun c101 => ?_)
                      · skip
                        refine x_iconst hx hb dX11_readsCondition_194 ?_
                        exact J195 0 ls (by decide) (by omega)  (lv_sub hl [0] rfl)
                      refine x_iconst hx hb dX11_readsCondition_190 ?_
                      refine lv_goto (tgt := 195) hx hb dX11_readsCondition_191 (by decide) ?_
                      exact J195 1 ls (by decide) (by omega)  (lv_sub hl [0] rfl)
                    refine x_icmp_eq (tgt := 180) hx hb rx79 (by decide) dX11_readsCondition_158 (by decide) (fun c102 => ?_) (fun c102 => ?_)
                    · skip
                      exact J180 H locs ls (by omega) hW (lv_sub hl [0] rfl)
                    refine x_aload_n hx hb hl 0 rfl dX11_readsCondition_161 rfl ?_
                    refine x_goi (x_runV (As := []) hx hb hml hown hT hE hW hl.1 (Or.inl (by decide)) (so_268 h0 g _) rfl cf_X11_here wq1391 wq106 wq1389 (c_X11_here l D g T h0 s_92 hW.2.1 q92_0 q92_1 q92_2 q92_3) ⟨rfl, rfl, ⟨by decide, by decide⟩, ⟨by decide, by decide⟩⟩ rfl rfl (Nat.le_of_ble_eq_true rfl) dX11_readsCondition_162) hW (fun x103 s104 H locs rx103 hp105 hW => ?_)
                    obtain ⟨es104, hp105⟩ := hp105
                    subst es104
                    have ghp105 := hp105
                    refine x_bipush hx hb dX11_readsCondition_165 (by decide) ?_
                    refine x_icmp_eq (tgt := 180) hx hb rx103 (by decide) dX11_readsCondition_167 (by decide) (fun c106 => ?_) (fun c106 => ?_)
                    · skip
                      exact J180 H locs ls (by omega) hW (lv_sub hl [0] rfl)
                    refine x_aload_n hx hb hl 0 rfl dX11_readsCondition_170 rfl ?_
                    refine x_iconst hx hb dX11_readsCondition_171 ?_
                    refine x_aload_n hx hb hl 0 rfl dX11_readsCondition_172 rfl ?_
                    refine x_get (j := 9) (v := .int (xJ (s_92 268 9))) hx hb hown hT hE hW cls_X11 (Or.inl (by decide)) (so_268 h0 g _) (by decide) rfl wq1194 dX11_readsCondition_173 ?_
                    refine x_rd hW (fun x107 ex107 rx107 => ?_)
                    have bx107 : 0 ≤ x107 ∧ x107 ≤ s_92 268 10 ∧ s_92 268 10 ≤ 240 := by rw [ex107]; exact q92_3
                    have fx107 : x107 = s_92 268 9 := ex107.trans q77
                    refine x_goi (x_runV (As := [.int (xJ 1), .int (xJ x107)]) hx hb hml hown hT hE hW hl.1 (Or.inl (by decide)) (so_268 h0 g _) rfl cf_X11_wrongAt wq1401 wq107 wq1399 (c_X11_wrongAt l D g T h0 s_92 hW.2.1 1 (by decide) x107 rx107 q92_0 q92_1 q92_2 q92_3) ⟨rfl, rfl, ⟨by decide, by decide⟩, ⟨by decide, by decide⟩⟩ rfl rfl (Nat.le_of_ble_eq_true rfl) dX11_readsCondition_176) hW (fun x108 s109 H locs rx108 hp110 hW => ?_)
                    obtain ⟨fs109, hp110⟩ := hp110
                    have hF111 := hF_92.call fs109 (fun k h => by omega)
                    have ghp110 := hp110.2
                    rw [eQ]
                    exact x_zret hx hb hr hlk hW (by omega) ⟨hF111, ⟨hp110.1.1, hp110.1.2.1, hp110.1.2.2.1, hp110.1.2.2.2.1, (hp110.1.2.2.2.2.1.trans q92_4), (hp110.1.2.2.2.2.2.1.trans q92_5), (hp110.1.2.2.2.2.2.2.2.1.trans q92_6), (hp110.1.2.2.2.2.2.2.2.2.2.2.1.trans q92_7), (hp110.1.2.2.2.2.2.2.2.2.2.2.2.1.trans q92_8), (hp110.1.2.2.2.2.2.2.2.2.2.2.2.2.1.trans q92_9), (hp110.1.2.2.2.2.2.2.2.2.2.2.2.2.2.1.trans q92_10), (hp110.1.2.2.2.2.2.2.2.2.2.2.2.2.2.2.1.trans q92_11), trivial⟩, Or.inl ⟨by omega, by omega⟩⟩ dX11_readsCondition_179
                  refine x_aload_n hx hb hl 0 rfl dX11_readsCondition_101 rfl ?_
                  refine x_iconst hx hb dX11_readsCondition_102 ?_
                  refine x_gov (x_runV (As := [.int (xJ 1)]) hx hb hml hown hT hE hW hl.1 (Or.inl (by decide)) (so_268 h0 g _) rfl cf_X11_lands wq1527 wq128 wq1525 (c_X11_lands l D g T h0 s_92 hW.2.1 1 (by decide) (s0 277) (s0 268 14) (s0 268 16) 0 (v92_0) (v92_1) (by omega) q92_0 q92_1 q92_2 q92_3) ⟨rfl, rfl, ⟨by decide, by decide⟩, ⟨by decide, by decide⟩⟩ rfl rfl (Nat.le_of_ble_eq_true rfl) dX11_readsCondition_103) hW (fun s113 H locs hp114 hW => ?_)
                  obtain ⟨fs113, hp114⟩ := hp114
                  have hF115 := hF_92.call fs113 (fun k h => by omega)
                  have ghp114 := hp114.2
                  have A103 := ghp114
                  have f103 := A103.1.f
                  refine x_aload_n hx hb hl 0 rfl dX11_readsCondition_106 rfl ?_
                  refine x_aload_n hx hb hl 0 rfl dX11_readsCondition_107 rfl ?_
                  refine x_get (j := 15) (v := .int (xJ (s113 268 15))) hx hb hown hT hE hW cls_X11 (Or.inl (by decide)) (so_268 h0 g _) (by decide) rfl wq1200 dX11_readsCondition_108 ?_
                  refine x_rd hW (fun x116 ex116 rx116 => ?_)
                  have q117 : s113 268 15 = x116 := ex116.symm
                  refine x_iconst hx hb dX11_readsCondition_111 ?_
                  refine x_isub hx hb dX11_readsCondition_112 ?_
                  refine x_put (j := 15) hx hb hown hT hE hW cls_X11 (by decide) (fun σ => so_268 h0 g σ) (by decide) (st_X11_15 h0 s113 268 (x116 - 1)) (ln_X11_15 h0 _ _) wq1200 rfl rfl rfl (by omega) dX11_readsCondition_113 (fun H locs s118 es118 hW => ?_)
                  have q119 : IMn s118 := by rw [es118]; exact IMn_268 hp114.1.1 (by omega)
                  have q120 : IMk s118 := by rw [es118]; exact IMk_268 hp114.1.2.1 (by omega)
                  have q121 : IMo s118 := by rw [es118]; exact IMo_o (by unfold suIMo; omega) hp114.1.2.2.1
                  have q122 : IR s118 := by rw [es118]; exact IR_268 hp114.1.2.2.2.1 (by omega)
                  have q123 : s118 268 8 = s0 268 8 := (show s118 268 8 = s113 268 8 from by rw [es118, xU_j _ _ (by decide)]).trans (hp114.1.2.2.2.2.1.trans q92_4)
                  have q124 : s118 268 58 = s0 268 58 := (show s118 268 58 = s113 268 58 from by rw [es118, xU_j _ _ (by decide)]).trans (hp114.1.2.2.2.2.2.1.trans q92_5)
                  have q125 : s118 268 9 = s_92 268 9 := (show s118 268 9 = s113 268 9 from by rw [es118, xU_j _ _ (by decide)]).trans (hp114.1.2.2.2.2.2.2.1.trans q77)
                  have q126 : s118 268 10 = s0 268 10 := (show s118 268 10 = s113 268 10 from by rw [es118, xU_j _ _ (by decide)]).trans (hp114.1.2.2.2.2.2.2.2.1.trans q92_6)
                  have q127 : s118 268 14 = s_92 268 14 := (show s118 268 14 = s113 268 14 from by rw [es118, xU_j _ _ (by decide)]).trans hp114.1.2.2.2.2.2.2.2.2.1
                  have q128 : s118 268 16 = s0 268 16 := (show s118 268 16 = s113 268 16 from by rw [es118, xU_j _ _ (by decide)]).trans (hp114.1.2.2.2.2.2.2.2.2.2.1.trans q92_7)
                  have q129 : s118 268 34 = s0 268 34 := (show s118 268 34 = s113 268 34 from by rw [es118, xU_j _ _ (by decide)]).trans (hp114.1.2.2.2.2.2.2.2.2.2.2.1.trans q92_8)
                  have q130 : s118 268 35 = s0 268 35 := (show s118 268 35 = s113 268 35 from by rw [es118, xU_j _ _ (by decide)]).trans (hp114.1.2.2.2.2.2.2.2.2.2.2.2.1.trans q92_9)
                  have q131 : s118 268 36 = s0 268 36 := (show s118 268 36 = s113 268 36 from by rw [es118, xU_j _ _ (by decide)]).trans (hp114.1.2.2.2.2.2.2.2.2.2.2.2.2.1.trans q92_10)
                  have q132 : s118 268 37 = s0 268 37 := (show s118 268 37 = s113 268 37 from by rw [es118, xU_j _ _ (by decide)]).trans (hp114.1.2.2.2.2.2.2.2.2.2.2.2.2.2.1.trans q92_11)
                  have q133 : s118 268 15 = (x116 - 1) := by rw [es118, xU_s]
                  have hF134 := hF115.put es118 (by omega)
                  have E113 := es118
                  refine x_aload_n hx hb hl 0 rfl dX11_readsCondition_116 rfl ?_
                  refine x_aload_n hx hb hl 0 rfl dX11_readsCondition_117 rfl ?_
                  refine x_get (j := 13) (v := .int (xJ (s118 268 13))) hx hb hown hT hE hW cls_X11 (Or.inl (by decide)) (so_268 h0 g _) (by decide) rfl wq1198 dX11_readsCondition_118 ?_
                  refine x_rd hW (fun x135 ex135 rx135 => ?_)
                  refine x_iconst hx hb dX11_readsCondition_121 ?_
                  refine x_isub hx hb dX11_readsCondition_122 ?_
                  refine x_any (fun x136 rx136 => ?_)
                  refine x_put (j := 13) hx hb hown hT hE hW cls_X11 (by decide) (fun σ => so_268 h0 g σ) (by decide) (st_X11_13 h0 s118 268 x136) (ln_X11_13 h0 _ _) wq1198 rfl rfl rfl rx136 dX11_readsCondition_123 (fun H locs s137 es137 hW => ?_)
                  have q138 : IMn s137 := by rw [es137]; exact IMn_268 q119 (by omega)
                  have q139 : IMk s137 := by rw [es137]; exact IMk_268 q120 (by omega)
                  have q140 : IMo s137 := by rw [es137]; exact IMo_o (by unfold suIMo; omega) q121
                  have q141 : IR s137 := by rw [es137]; exact IR_268 q122 (by omega)
                  have q142 : s137 268 8 = s0 268 8 := (show s137 268 8 = s118 268 8 from by rw [es137, xU_j _ _ (by decide)]).trans q123
                  have q143 : s137 268 58 = s0 268 58 := (show s137 268 58 = s118 268 58 from by rw [es137, xU_j _ _ (by decide)]).trans q124
                  have q144 : s137 268 9 = s_92 268 9 := (show s137 268 9 = s118 268 9 from by rw [es137, xU_j _ _ (by decide)]).trans q125
                  have q145 : s137 268 10 = s0 268 10 := (show s137 268 10 = s118 268 10 from by rw [es137, xU_j _ _ (by decide)]).trans q126
                  have q146 : s137 268 14 = s_92 268 14 := (show s137 268 14 = s118 268 14 from by rw [es137, xU_j _ _ (by decide)]).trans q127
                  have q147 : s137 268 16 = s0 268 16 := (show s137 268 16 = s118 268 16 from by rw [es137, xU_j _ _ (by decide)]).trans q128
                  have q148 : s137 268 34 = s0 268 34 := (show s137 268 34 = s118 268 34 from by rw [es137, xU_j _ _ (by decide)]).trans q129
                  have q149 : s137 268 35 = s0 268 35 := (show s137 268 35 = s118 268 35 from by rw [es137, xU_j _ _ (by decide)]).trans q130
                  have q150 : s137 268 36 = s0 268 36 := (show s137 268 36 = s118 268 36 from by rw [es137, xU_j _ _ (by decide)]).trans q131
                  have q151 : s137 268 37 = s0 268 37 := (show s137 268 37 = s118 268 37 from by rw [es137, xU_j _ _ (by decide)]).trans q132
                  have q152 : s137 268 15 = (x116 - 1) := (show s137 268 15 = s118 268 15 from by rw [es137, xU_j _ _ (by decide)]).trans q133
                  have hF153 := hF134.put es137 (by omega)
                  have E123 := es137
                  refine x_aload_n hx hb hl 0 rfl dX11_readsCondition_126 rfl ?_
                  refine x_aload_n hx hb hl 0 rfl dX11_readsCondition_127 rfl ?_
                  refine x_get (j := 9) (v := .int (xJ (s137 268 9))) hx hb hown hT hE hW cls_X11 (Or.inl (by decide)) (so_268 h0 g _) (by decide) rfl wq1194 dX11_readsCondition_128 ?_
                  refine x_rd hW (fun x154 ex154 rx154 => ?_)
                  have bx154 : 0 ≤ x154 ∧ x154 ≤ s137 268 10 ∧ s137 268 10 ≤ 240 := by rw [ex154]; exact q141
                  have fx154 : x154 = s_92 268 9 := ex154.trans q144
                  refine x_iconst hx hb dX11_readsCondition_131 ?_
                  refine x_iadd hx hb dX11_readsCondition_132 ?_
                  refine x_put (j := 9) hx hb hown hT hE hW cls_X11 (by decide) (fun σ => so_268 h0 g σ) (by decide) (st_X11_9 h0 s137 268 (x154 + 1)) (ln_X11_9 h0 _ _) wq1194 rfl rfl rfl (by omega) dX11_readsCondition_133 (fun H locs s155 es155 hW => ?_)
                  have q156 : IMn s155 := by rw [es155]; exact IMn_268 q138 (by omega)
                  have q157 : IMk s155 := by rw [es155]; exact IMk_268 q139 (by omega)
                  have q158 : IMo s155 := by rw [es155]; exact IMo_o (by unfold suIMo; omega) q140
                  have q159 : IR s155 := by rw [es155]; exact IR_268 q141 (by omega)
                  have q160 : s155 268 8 = s0 268 8 := (show s155 268 8 = s137 268 8 from by rw [es155, xU_j _ _ (by decide)]).trans q142
                  have q161 : s155 268 58 = s0 268 58 := (show s155 268 58 = s137 268 58 from by rw [es155, xU_j _ _ (by decide)]).trans q143
                  have q162 : s155 268 9 = (x154 + 1) := by rw [es155, xU_s]
                  have q163 : s155 268 10 = s0 268 10 := (show s155 268 10 = s137 268 10 from by rw [es155, xU_j _ _ (by decide)]).trans q145
                  have q164 : s155 268 14 = s_92 268 14 := (show s155 268 14 = s137 268 14 from by rw [es155, xU_j _ _ (by decide)]).trans q146
                  have q165 : s155 268 16 = s0 268 16 := (show s155 268 16 = s137 268 16 from by rw [es155, xU_j _ _ (by decide)]).trans q147
                  have q166 : s155 268 34 = s0 268 34 := (show s155 268 34 = s137 268 34 from by rw [es155, xU_j _ _ (by decide)]).trans q148
                  have q167 : s155 268 35 = s0 268 35 := (show s155 268 35 = s137 268 35 from by rw [es155, xU_j _ _ (by decide)]).trans q149
                  have q168 : s155 268 36 = s0 268 36 := (show s155 268 36 = s137 268 36 from by rw [es155, xU_j _ _ (by decide)]).trans q150
                  have q169 : s155 268 37 = s0 268 37 := (show s155 268 37 = s137 268 37 from by rw [es155, xU_j _ _ (by decide)]).trans q151
                  have q170 : s155 268 15 = (x116 - 1) := (show s155 268 15 = s137 268 15 from by rw [es155, xU_j _ _ (by decide)]).trans q152
                  have hF171 := hF153.put es155 (by omega)
                  have E133 := es155
                  have B133 : zLC (s0 277) (s0 268 14) (s0 268 16) 0 1 s155 := A103.1.pop A103.2.1.1 (by omega) ⟨by omega, by omega, by omega⟩ (by omega) (by simp [E133, E123, E113, xU]) (by omega) (by omega) (by rw [E133, xU_k _ _ _ (by omega), E123, xU_k _ _ _ (by omega), E113, xU_k _ _ _ (by omega)]) (by rw [E133, xU_k _ _ _ (by omega), E123, xU_k _ _ _ (by omega), E113, xU_k _ _ _ (by omega)])
                  have P133 := fun (hne : s155 268 15 ≠ 0) => zWO_pop (τ := s155) A103.2.1 (Or.inr (by omega)) (by omega) (by rw [E133, xU_k _ _ _ (by omega), E123, xU_k _ _ _ (by omega), E113, xU_k _ _ _ (by omega)])
                  refine x_aload_n hx hb hl 0 rfl dX11_readsCondition_136 rfl ?_
                  refine x_get (j := 15) (v := .int (xJ (s155 268 15))) hx hb hown hT hE hW cls_X11 (Or.inl (by decide)) (so_268 h0 g _) (by decide) rfl wq1200 dX11_readsCondition_137 ?_
                  refine x_rd hW (fun x172 ex172 rx172 => ?_)
                  have fx172 : x172 = (x116 - 1) := ex172.trans q170
                  refine x_if_ne (tgt := 145) hx hb rx172 dX11_readsCondition_140 (by decide) (fun c173 => ?_) (fun c173 => ?_)
                  · skip
                    refine x_aload_n hx hb hl 0 rfl dX11_readsCondition_145 rfl ?_
                    have W140 := P133 (by omega)
                    refine x_gov (x_runV (As := []) hx hb hml hown hT hE hW hl.1 (Or.inl (by decide)) (so_268 h0 g _) rfl cf_X11_endsPiece wq1523 wq127 wq1521 (c_X11_endsPiece l D g T h0 s155 hW.2.1 (s0 277) (s0 268 14) (s0 268 16) 0 1 (B133) (by omega) (W140) q156 q157 q158 q159) ⟨rfl, rfl, ⟨by decide, by decide⟩, ⟨by decide, by decide⟩⟩ rfl rfl (Nat.le_of_ble_eq_true rfl) dX11_readsCondition_146) hW (fun s175 H locs hp176 hW => ?_)
                    obtain ⟨fs175, hp176⟩ := hp176
                    have hF177 := hF171.call fs175 (fun k h => by omega)
                    have ghp176 := hp176.2
                    have A146 := ghp176
                    refine lv_goto (tgt := 92) hx hb dX11_readsCondition_149 (by decide) ?_
                    exact ih92 s175 H locs ls hF177 hp176.1.1 hp176.1.2.1 hp176.1.2.2.1 hp176.1.2.2.2.1 (hp176.1.2.2.2.2.1.trans q160) (hp176.1.2.2.2.2.2.1.trans q161) (hp176.1.2.2.2.2.2.2.2.1.trans q163) (hp176.1.2.2.2.2.2.2.2.2.1.trans q165) (hp176.1.2.2.2.2.2.2.2.2.2.1.trans q166) (hp176.1.2.2.2.2.2.2.2.2.2.2.1.trans q167) (hp176.1.2.2.2.2.2.2.2.2.2.2.2.1.trans q168) (hp176.1.2.2.2.2.2.2.2.2.2.2.2.2.1.trans q169) (A146.1) (A146.2) (by omega) (by omega) hW (lv_sub hl [0] rfl)
                  refine x_iconst hx hb dX11_readsCondition_143 ?_
                  rw [eQ]
                  exact x_zret hx hb hr hlk hW (by omega) ⟨hF171, ⟨q156, q157, q158, q159, q160, q161, q163, q165, q166, q167, q168, q169, trivial⟩, Or.inr ⟨rfl, by omega, by omega, B133⟩⟩ dX11_readsCondition_144
              exact L92 ((241 - s70 268 9 : Int).toNat + 1) s70 H locs ls hF72 hp71.1.1 hp71.1.2.1 hp71.1.2.2.1 hp71.1.2.2.2.1 (hp71.1.2.2.2.2.1.trans q40_4) (hp71.1.2.2.2.2.2.1.trans q40_5) (hp71.1.2.2.2.2.2.2.1.trans q40_6) (hp71.1.2.2.2.2.2.2.2.1.trans q40_8) (hp71.1.2.2.2.2.2.2.2.2.1.trans q40_9) (hp71.1.2.2.2.2.2.2.2.2.2.1.trans q40_10) (hp71.1.2.2.2.2.2.2.2.2.2.2.1.trans q40_11) (hp71.1.2.2.2.2.2.2.2.2.2.2.2.1.trans q40_12) ((A84.resolve_left (fun q => absurd q.1 (by omega))).2.2.1) ((A84.resolve_left (fun q => absurd q.1 (by omega))).2.2.2) (by omega) (Nat.lt_succ_self _) hW (lv_sub hl [0] rfl)
            refine x_iconst hx hb dX11_readsCondition_90 ?_
            rw [eQ]
            exact x_zret hx hb hr hlk hW (by omega) ⟨hF72, ⟨hp71.1.1, hp71.1.2.1, hp71.1.2.2.1, hp71.1.2.2.2.1, (hp71.1.2.2.2.2.1.trans q40_4), (hp71.1.2.2.2.2.2.1.trans q40_5), (hp71.1.2.2.2.2.2.2.1.trans q40_6), (hp71.1.2.2.2.2.2.2.2.1.trans q40_8), (hp71.1.2.2.2.2.2.2.2.2.1.trans q40_9), (hp71.1.2.2.2.2.2.2.2.2.2.1.trans q40_10), (hp71.1.2.2.2.2.2.2.2.2.2.2.1.trans q40_11), (hp71.1.2.2.2.2.2.2.2.2.2.2.2.1.trans q40_12), trivial⟩, Or.inl ⟨by omega, by omega⟩⟩ dX11_readsCondition_91
          exact J58 H locs ls (by omega) hW (lv_sub hl [0] rfl)
      exact L40 ((241 - s40 268 9 : Int).toNat + 1) s40 H locs ls hF42 hp41.1.1 hp41.1.2.1 hp41.1.2.2.1 hp41.1.2.2.2.1 (hp41.1.2.2.2.2.1.trans q27) (hp41.1.2.2.2.2.2.1.trans q28) (hp41.1.2.2.2.2.2.2.1.trans q29) (hp41.1.2.2.2.2.2.2.2.2.1.trans q30) (hp41.1.2.2.2.2.2.2.2.2.2.1.trans q31) (hp41.1.2.2.2.2.2.2.2.2.2.2.1.trans q32) (hp41.1.2.2.2.2.2.2.2.2.2.2.2.1.trans q33) (hp41.1.2.2.2.2.2.2.2.2.2.2.2.2.1.trans q34) (N26.push ⟨by omega, by omega⟩ (by omega) (by omega) (by omega) (by omega) T32 (A32.resolve_left (fun q => absurd q.1 (by omega))).2.2.2 (Or.inr (by omega))) (zWO_new Z26 (by omega) (by have := (A32.resolve_left (fun q => absurd q.1 (by omega))).2.2.2; simpa using this)) (by omega) (Nat.lt_succ_self _) hW (lv_sub hl [0] rfl)
    refine x_iconst hx hb dX11_readsCondition_38 ?_
    rw [eQ]
    exact x_zret hx hb hr hlk hW (by omega) ⟨hF42, ⟨hp41.1.1, hp41.1.2.1, hp41.1.2.2.1, hp41.1.2.2.2.1, (hp41.1.2.2.2.2.1.trans q27), (hp41.1.2.2.2.2.2.1.trans q28), (hp41.1.2.2.2.2.2.2.1.trans q29), (hp41.1.2.2.2.2.2.2.2.2.1.trans q30), (hp41.1.2.2.2.2.2.2.2.2.2.1.trans q31), (hp41.1.2.2.2.2.2.2.2.2.2.2.1.trans q32), (hp41.1.2.2.2.2.2.2.2.2.2.2.2.1.trans q33), (hp41.1.2.2.2.2.2.2.2.2.2.2.2.2.1.trans q34), trivial⟩, Or.inl ⟨by omega, by omega⟩⟩ dX11_readsCondition_39
  refine x_aload_n hx hb hl 0 rfl dX11_readsCondition_9 rfl ?_
  refine x_iconst hx hb dX11_readsCondition_10 ?_
  refine x_aload_n hx hb hl 0 rfl dX11_readsCondition_11 rfl ?_
  refine x_get (j := 9) (v := .int (xJ (s0 268 9))) hx hb hown hT hE hW cls_X11 (Or.inl (by decide)) (so_268 h0 g _) (by decide) rfl wq1194 dX11_readsCondition_12 ?_
  refine x_rd hW (fun x178 ex178 rx178 => ?_)
  have bx178 : 0 ≤ x178 ∧ x178 ≤ s0 268 10 ∧ s0 268 10 ≤ 240 := by rw [ex178]; exact p3
  have fx178 : x178 = s0 268 9 := ex178.trans k268_9
  refine x_goi (x_runV (As := [.int (xJ 1), .int (xJ x178)]) hx hb hml hown hT hE hW hl.1 (Or.inl (by decide)) (so_268 h0 g _) rfl cf_X11_wrongAt wq1401 wq107 wq1399 (c_X11_wrongAt l D g T h0 s0 hW.2.1 1 (by decide) x178 rx178 p0 p1 p2 p3) ⟨rfl, rfl, ⟨by decide, by decide⟩, ⟨by decide, by decide⟩⟩ rfl rfl (Nat.le_of_ble_eq_true rfl) dX11_readsCondition_15) hW (fun x179 s180 H locs rx179 hp181 hW => ?_)
  obtain ⟨fs180, hp181⟩ := hp181
  have hF182 := hF.call fs180 (fun k h => by omega)
  have ghp181 := hp181.2
  rw [eQ]
  exact x_zret hx hb hr hlk hW (by omega) ⟨hF182, ⟨hp181.1.1, hp181.1.2.1, hp181.1.2.2.1, hp181.1.2.2.2.1, (hp181.1.2.2.2.2.1.trans k268_8), (hp181.1.2.2.2.2.2.1.trans k268_58), (hp181.1.2.2.2.2.2.2.2.1.trans k268_10), (hp181.1.2.2.2.2.2.2.2.2.2.2.1.trans k268_16), (hp181.1.2.2.2.2.2.2.2.2.2.2.2.1.trans k268_34), (hp181.1.2.2.2.2.2.2.2.2.2.2.2.2.1.trans k268_35), (hp181.1.2.2.2.2.2.2.2.2.2.2.2.2.2.1.trans k268_36), (hp181.1.2.2.2.2.2.2.2.2.2.2.2.2.2.2.1.trans k268_37), trivial⟩, Or.inl ⟨by omega, by omega⟩⟩ dX11_readsCondition_18

