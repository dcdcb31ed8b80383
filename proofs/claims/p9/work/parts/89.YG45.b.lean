set_option maxHeartbeats 4000000 in
set_option maxRecDepth 100000 in
theorem c_X11_readsConditionK (l : Launch) (D : va_G) (g : xG) (T : Nat × Nat × Nat) (h0 : Nat) (s0 : xS) (hσ : xRR s0) (f9 : Int → Int) (n9 : Int) (hf : xm8 (s0 276) = f9 ∧ s0 268 10 = n9) (hc0 : 0 ≤ s0 268 14 ∧ s0 268 14 ≤ s0 268 9) (p0 : IMn s0) (p1 : IMk s0) (p2 : IMo s0) (p3 : IR s0) : Met l yX11_readsCondition (xws yX11_readsCondition cX11_readsCondition 1 (some .boolean)) { frames := 6, cells := 0, slots := 0, locals := 125 } (xP [.ref (h0 + 268)] D g T h0 s0) (xQi D g h0 (fun r τ => xFr (fun k => k = 268 ∨ k = 277 ∨ k = 278) s0 τ ∧ (((IMn τ) ∧ (IMk τ) ∧ (IMo τ) ∧ (IR τ) ∧ (τ 268 8 = s0 268 8) ∧ (τ 268 58 = s0 268 58) ∧ (τ 268 17 = s0 268 17) ∧ (τ 268 10 = s0 268 10) ∧ (τ 268 16 = s0 268 16) ∧ (τ 268 48 = s0 268 48) ∧ True) ∧ ((r = 0 ∧ (zc2 f9 n9 (s0 268 9) (s0 268 14) (s0 277)).1 ≠ 0 ∧ τ 268 11 = (zc2 f9 n9 (s0 268 9) (s0 268 14) (s0 277)).1) ∨ (r = 1 ∧ (zc2 f9 n9 (s0 268 9) (s0 268 14) (s0 277)) = (0, τ 268 9, τ 268 14, τ 277) ∧ s0 268 9 + 1 ≤ τ 268 9))))) 0 0 (xA h0) := by
  refine x_met hσ (by decide) (Nat.le_of_ble_eq_true rfl) ?_
  intro p e s m args below meth c hx hb hr hml hown hT hlk hnm hE hW ls hl
  have hl : lv_has ls 1 [(0, .ref (h0 + 268))] := hl
  obtain ⟨Q, eQ⟩ : ∃ Q, Q = MQ below (xQi D g h0 (fun r τ => xFr (fun k => k = 268 ∨ k = 277 ∨ k = 278) s0 τ ∧ (((IMn τ) ∧ (IMk τ) ∧ (IMo τ) ∧ (IR τ) ∧ (τ 268 8 = s0 268 8) ∧ (τ 268 58 = s0 268 58) ∧ (τ 268 17 = s0 268 17) ∧ (τ 268 10 = s0 268 10) ∧ (τ 268 16 = s0 268 16) ∧ (τ 268 48 = s0 268 48) ∧ True) ∧ ((r = 0 ∧ (zc2 f9 n9 (s0 268 9) (s0 268 14) (s0 277)).1 ≠ 0 ∧ τ 268 11 = (zc2 f9 n9 (s0 268 9) (s0 268 14) (s0 277)).1) ∨ (r = 1 ∧ (zc2 f9 n9 (s0 268 9) (s0 268 14) (s0 277)) = (0, τ 268 9, τ 268 14, τ 277) ∧ s0 268 9 + 1 ≤ τ 268 9))))) args s 0 0 (xA h0) := ⟨_, rfl⟩
  rw [← eQ]
  generalize hHe : ([] : List Loc) = locs at hW ⊢
  obtain ⟨H, eH⟩ : ∃ H, H = s.heap := ⟨_, rfl⟩
  rw [← eH] at hW ⊢
  have hF : xFr (fun k => k = 268 ∨ k = 277 ∨ k = 278) s0 s0 := xFr.rf
  have k268_8 : s0 268 8 = s0 268 8 := rfl
  have k268_58 : s0 268 58 = s0 268 58 := rfl
  have k268_17 : s0 268 17 = s0 268 17 := rfl
  have k268_10 : s0 268 10 = s0 268 10 := rfl
  have k268_16 : s0 268 16 = s0 268 16 := rfl
  have k268_48 : s0 268 48 = s0 268 48 := rfl
  have k268_9 : s0 268 9 = s0 268 9 := rfl
  have k268_13 : s0 268 13 = s0 268 13 := rfl
  have k268_14 : s0 268 14 = s0 268 14 := rfl
  have k268_15 : s0 268 15 = s0 268 15 := rfl
  have hf2 := hf.2
  have hr0 : 0 ≤ s0 268 9 ∧ s0 268 9 ≤ s0 268 10 ∧ s0 268 10 ≤ 240 := p3
  refine x_aload_n hx hb hl 0 rfl dX11_readsCondition_0 rfl ?_
  refine x_goi (x_runV (As := []) hx hb hml hown hT hE hW hl.1 (Or.inl (by decide)) (so_268 h0 g _) rfl cf_X11_here wq1391 wq106 wq1389 (c_X11_here l D g T h0 s0 hW.2.1 p0 p1 p2 p3) ⟨rfl, rfl, ⟨by decide, by decide⟩, ⟨by decide, by decide⟩⟩ rfl rfl (Nat.le_of_ble_eq_true rfl) dX11_readsCondition_1) hW (fun x1 s2 H locs rx1 hp3 hW => ?_)
  obtain ⟨es2, hp3⟩ := hp3
  subst es2
  have ghp3 := hp3
  have C1 : x1 = zch f9 n9 (s0 268 9) := by
    have q8 := ghp3.1
    rw [zhC_ch, show s0 276 = s0 276 from hF 276 (by omega), hf.1, show s0 268 10 = n9 from by omega] at q8
    exact q8
  refine x_bipush hx hb dX11_readsCondition_4 (by decide) ?_
  refine x_icmp_eq (tgt := 19) hx hb rx1 (by decide) dX11_readsCondition_6 (by decide) (fun c4 => ?_) (fun c4 => ?_)
  · skip
    refine x_aload_n hx hb hl 0 rfl dX11_readsCondition_19 rfl ?_
    refine x_iconst hx hb dX11_readsCondition_20 ?_
    refine x_put (j := 13) hx hb hown hT hE hW cls_X11 (by decide) (fun σ => so_268 h0 g σ) (by decide) (st_X11_13 h0 s0 268 0) (ln_X11_13 h0 _ _) wq1198 rfl rfl rfl (by decide) dX11_readsCondition_21 (fun H locs s5 es5 hW => ?_)
    have q6 : IMn s5 := by rw [es5]; exact IMn_268 p0 (by omega)
    have q7 : IMk s5 := by rw [es5]; exact IMk_268 p1 (by omega)
    have q8 : IMo s5 := by rw [es5]; exact IMo_o (by unfold suIMo; first | decide | omega) p2
    have q9 : IR s5 := by rw [es5]; exact IR_268 p3 (by omega)
    have q10 : s5 268 8 = s0 268 8 := (show s5 268 8 = s0 268 8 from by rw [es5, xU_j _ _ (by decide)]).trans k268_8
    have q11 : s5 268 58 = s0 268 58 := (show s5 268 58 = s0 268 58 from by rw [es5, xU_j _ _ (by decide)]).trans k268_58
    have q12 : s5 268 17 = s0 268 17 := (show s5 268 17 = s0 268 17 from by rw [es5, xU_j _ _ (by decide)]).trans k268_17
    have q13 : s5 268 10 = s0 268 10 := (show s5 268 10 = s0 268 10 from by rw [es5, xU_j _ _ (by decide)]).trans k268_10
    have q14 : s5 268 16 = s0 268 16 := (show s5 268 16 = s0 268 16 from by rw [es5, xU_j _ _ (by decide)]).trans k268_16
    have q15 : s5 268 48 = s0 268 48 := (show s5 268 48 = s0 268 48 from by rw [es5, xU_j _ _ (by decide)]).trans k268_48
    have q16 : s5 268 9 = s0 268 9 := (show s5 268 9 = s0 268 9 from by rw [es5, xU_j _ _ (by decide)]).trans k268_9
    have q17 : s5 268 13 = 0 := by rw [es5, xU_s]
    have q18 : s5 268 14 = s0 268 14 := (show s5 268 14 = s0 268 14 from by rw [es5, xU_j _ _ (by decide)]).trans k268_14
    have q19 : s5 268 15 = s0 268 15 := (show s5 268 15 = s0 268 15 from by rw [es5, xU_j _ _ (by decide)]).trans k268_15
    have hF20 := hF.put es5 (by omega)
    have E21 := es5
    refine x_aload_n hx hb hl 0 rfl dX11_readsCondition_24 rfl ?_
    refine x_iconst hx hb dX11_readsCondition_25 ?_
    refine x_put (j := 15) hx hb hown hT hE hW cls_X11 (by decide) (fun σ => so_268 h0 g σ) (by decide) (st_X11_15 h0 s5 268 0) (ln_X11_15 h0 _ _) wq1200 rfl rfl rfl (by decide) dX11_readsCondition_26 (fun H locs s21 es21 hW => ?_)
    have q22 : IMn s21 := by rw [es21]; exact IMn_268 q6 (by omega)
    have q23 : IMk s21 := by rw [es21]; exact IMk_268 q7 (by omega)
    have q24 : IMo s21 := by rw [es21]; exact IMo_o (by unfold suIMo; first | decide | omega) q8
    have q25 : IR s21 := by rw [es21]; exact IR_268 q9 (by omega)
    have q26 : s21 268 8 = s0 268 8 := (show s21 268 8 = s5 268 8 from by rw [es21, xU_j _ _ (by decide)]).trans q10
    have q27 : s21 268 58 = s0 268 58 := (show s21 268 58 = s5 268 58 from by rw [es21, xU_j _ _ (by decide)]).trans q11
    have q28 : s21 268 17 = s0 268 17 := (show s21 268 17 = s5 268 17 from by rw [es21, xU_j _ _ (by decide)]).trans q12
    have q29 : s21 268 10 = s0 268 10 := (show s21 268 10 = s5 268 10 from by rw [es21, xU_j _ _ (by decide)]).trans q13
    have q30 : s21 268 16 = s0 268 16 := (show s21 268 16 = s5 268 16 from by rw [es21, xU_j _ _ (by decide)]).trans q14
    have q31 : s21 268 48 = s0 268 48 := (show s21 268 48 = s5 268 48 from by rw [es21, xU_j _ _ (by decide)]).trans q15
    have q32 : s21 268 9 = s0 268 9 := (show s21 268 9 = s5 268 9 from by rw [es21, xU_j _ _ (by decide)]).trans q16
    have q33 : s21 268 13 = 0 := (show s21 268 13 = s5 268 13 from by rw [es21, xU_j _ _ (by decide)]).trans q17
    have q34 : s21 268 14 = s0 268 14 := (show s21 268 14 = s5 268 14 from by rw [es21, xU_j _ _ (by decide)]).trans q18
    have q35 : s21 268 15 = 0 := by rw [es21, xU_s]
    have hF36 := hF20.put es21 (by omega)
    have E26 := es21
    refine x_aload_n hx hb hl 0 rfl dX11_readsCondition_29 rfl ?_
    refine x_bipush hx hb dX11_readsCondition_30 (by decide) ?_
    refine x_goi (x_runV (As := [.int (xJ 13)]) hx hb hml hown hT hE hW hl.1 (Or.inl (by decide)) (so_268 h0 g _) rfl cf_X11_opens wq1480 wq118 wq1478 (c_X11_opensK l D g T h0 s21 hW.2.1 13 (by decide) (by omega) (by omega) (by omega) (by omega) q22 q23 q24 q25) ⟨rfl, rfl, ⟨by decide, by decide⟩, ⟨by decide, by decide⟩⟩ rfl rfl (Nat.le_of_ble_eq_true rfl) dX11_readsCondition_32) hW (fun x37 s38 H locs rx37 hp39 hW => ?_)
    obtain ⟨fs38, hp39⟩ := hp39
    have hF40 := hF36.call fs38 (fun k h => by omega)
    have ghp39 := hp39.2
    have H32 := ghp39
    have F32 := fs38
    have z2 : (zc2 f9 n9 (s0 268 9) (s0 268 14) (s0 277)) = (zC0 f9 n9 (s0 268 9 + 1) (s0 268 14) (s0 277)) := by unfold zc2; rw [if_neg (by omega)]
    have l32 := zch_lt (f := f9) (n := n9) (p := s0 268 9) (by omega)
    have Z32 : x37 ≠ 0 → zCQ f9 n9 (s0 268 14) (zC0 f9 n9 (s0 268 9 + 1) (s0 268 14) (s0 277)) true s38 := fun hv => by
      have e := H32.resolve_left (fun q => hv q.1)
      have ew : s38 278 = xud (s21 278) 0 13631488 := by rw [e.2.2.2.1, show s21 268 15 = 0 from by omega]; rfl
      have e15 : s38 268 15 = 1 := by omega
      have el : zls (s38 278) 0 (s38 268 15 - 0).toNat = [13631488] := by rw [e15, ew]; show [xud (s21 278) 0 13631488 (0 + ((0 : Nat) : Int))] = _; rw [show (0 : Int) + ((0 : Nat) : Int) = 0 from by decide, xud_s]
      have ek : s38 277 = s0 277 := by rw [F32 277 (by omega), E26, xU_k _ _ _ (by first | decide | omega), E21, xU_k _ _ _ (by first | decide | omega)]
      refine ⟨?_, by omega, ?_, by omega⟩
      · rw [el, ek, show s38 268 9 = s0 268 9 + 1 from by omega, show s38 268 14 = s0 268 14 from by omega]
        exact zCX.new (by omega)
      · rw [el]
        show s38 268 13 = 1
        omega
    refine x_if_ne (tgt := 40) hx hb rx37 dX11_readsCondition_35 (by decide) (fun c41 => ?_) (fun c41 => ?_)
    · skip
      have L40 : ∀ (fu : Nat) (s_40 : xS) (H : Heap) (locs : List Loc) (ls : Array Slot), (xFr (fun k => k = 268 ∨ k = 277 ∨ k = 278) s0 s_40) → (IMn s_40) → (IMk s_40) → (IMo s_40) → (IR s_40) → (s_40 268 8 = s0 268 8) → (s_40 268 58 = s0 268 58) → (s_40 268 17 = s0 268 17) → (s_40 268 10 = s0 268 10) → (s_40 268 16 = s0 268 16) → (s_40 268 48 = s0 268 48) → (zCQ f9 n9 (s0 268 14) (zC0 f9 n9 (s0 268 9 + 1) (s0 268 14) (s0 277)) true s_40) → (s0 268 9 + 1 ≤ s_40 268 9) → (241 - s_40 268 9).toNat < fu → xW D g h0 s H locs s_40 → lv_has ls 1 [(0, .ref (h0 + 268))] → W p l e { frames := 6, cells := 0, slots := 0, locals := 125 } s m args below meth c H locs 0 0 Q (F0 m 40 ls []) := by
        intro fu
        induction fu with
        | zero => intro s_40 H locs ls hF_40 q40_0 q40_1 q40_2 q40_3 q40_4 q40_5 q40_6 q40_7 q40_9 q40_10 v40_0 v40_1 hm; exact absurd hm (Nat.not_lt_zero _)
        | succ fu ih40 =>
          intro s_40 H locs ls hF_40 q40_0 q40_1 q40_2 q40_3 q40_4 q40_5 q40_6 q40_7 q40_9 q40_10 v40_0 v40_1 hm hW hl
          have hm_40 := fun (_ : Unit) => hm
          clear hm
          have b40 := v40_0.b
          have o40 := v40_0.o
          have r40 : 0 ≤ s_40 268 9 ∧ s_40 268 9 ≤ s_40 268 10 ∧ s_40 268 10 ≤ 240 := q40_3
          have n40 : s_40 268 10 = n9 := by omega
          refine x_aload_n hx hb hl 0 rfl dX11_readsCondition_40 rfl ?_
          refine x_goi (x_runV (As := []) hx hb hml hown hT hE hW hl.1 (Or.inl (by decide)) (so_268 h0 g _) rfl cf_X11_here wq1391 wq106 wq1389 (c_X11_here l D g T h0 s_40 hW.2.1 q40_0 q40_1 q40_2 q40_3) ⟨rfl, rfl, ⟨by decide, by decide⟩, ⟨by decide, by decide⟩⟩ rfl rfl (Nat.le_of_ble_eq_true rfl) dX11_readsCondition_41) hW (fun x42 s43 H locs rx42 hp44 hW => ?_)
          obtain ⟨es43, hp44⟩ := hp44
          subst es43
          have ghp44 := hp44
          have C41 : x42 = zch f9 n9 (s_40 268 9) := by
            have q8 := ghp44.1
            rw [zhC_ch, show s_40 276 = s0 276 from hF_40 276 (by first | decide | omega), hf.1, show s_40 268 10 = n9 from by omega] at q8
            exact q8
          have L41 : zch f9 n9 (s_40 268 9) ≠ -1 → s_40 268 9 < n9 := zch_lt
          refine x_bipush hx hb dX11_readsCondition_44 (by decide) ?_
          refine x_icmp_eq (tgt := 58) hx hb rx42 (by decide) dX11_readsCondition_46 (by decide) (fun c45 => ?_) (fun c45 => ?_)
          · skip
            refine x_aload_n hx hb hl 0 rfl dX11_readsCondition_58 rfl ?_
            refine x_aload_n hx hb hl 0 rfl dX11_readsCondition_59 rfl ?_
            refine x_goi (x_runV (As := []) hx hb hml hown hT hE hW hl.1 (Or.inl (by decide)) (so_268 h0 g _) rfl cf_X11_here wq1391 wq106 wq1389 (c_X11_here l D g T h0 s_40 hW.2.1 q40_0 q40_1 q40_2 q40_3) ⟨rfl, rfl, ⟨by decide, by decide⟩, ⟨by decide, by decide⟩⟩ rfl rfl (Nat.le_of_ble_eq_true rfl) dX11_readsCondition_60) hW (fun x46 s47 H locs rx46 hp48 hW => ?_)
            obtain ⟨es47, hp48⟩ := hp48
            subst es47
            have ghp48 := hp48
            have C60 : x46 = zch f9 n9 (s_40 268 9) := by
              have q8 := ghp48.1
              rw [zhC_ch, show s_40 276 = s0 276 from hF_40 276 (by first | decide | omega), hf.1, show s_40 268 10 = n9 from by omega] at q8
              exact q8
            refine x_bipush hx hb dX11_readsCondition_63 (by decide) ?_
            refine x_icmp_ne (tgt := 73) hx hb rx46 (by decide) dX11_readsCondition_65 (by decide) (fun c49 => ?_) (fun c49 => ?_)
            · skip
              refine x_bipush hx hb dX11_readsCondition_73 (by decide) ?_
              refine x_goi (x_runV (As := [.int (xJ 13)]) hx hb hml hown hT hE hW hl.1 (Or.inl (by decide)) (so_268 h0 g _) rfl cf_X11_opens wq1480 wq118 wq1478 (c_X11_opensK l D g T h0 s_40 hW.2.1 13 (by decide) (by omega) (by omega) (by omega) (by omega) q40_0 q40_1 q40_2 q40_3) ⟨rfl, rfl, ⟨by decide, by decide⟩, ⟨by decide, by decide⟩⟩ rfl rfl (Nat.le_of_ble_eq_true rfl) dX11_readsCondition_75) hW (fun x50 s51 H locs rx50 hp52 hW => ?_)
              obtain ⟨fs51, hp52⟩ := hp52
              have hF53 := hF_40.call fs51 (fun k h => by omega)
              have ghp52 := hp52.2
              have H75 := ghp52
              have F75 := fs51
              refine x_if_ne (tgt := 40) hx hb rx50 dX11_readsCondition_78 (by decide) (fun c54 => ?_) (fun c54 => ?_)
              · skip
                exact ih40 s51 H locs ls hF53 hp52.1.1 hp52.1.2.1 hp52.1.2.2.1 hp52.1.2.2.2.1 (hp52.1.2.2.2.2.1.trans q40_4) (hp52.1.2.2.2.2.2.1.trans q40_5) (hp52.1.2.2.2.2.2.2.1.trans q40_6) (hp52.1.2.2.2.2.2.2.2.1.trans q40_7) (hp52.1.2.2.2.2.2.2.2.2.2.1.trans q40_9) (hp52.1.2.2.2.2.2.2.2.2.2.2.1.trans q40_10) (by first | exact H215.1 | (have e := H75.resolve_left (fun q => by omega); exact v40_0.open_ (by omega) (by omega) (by omega) (by omega) (F75 277 (by omega)) (by omega) (by omega) e.2.2.2.1)) (by omega) (by have hm := hm_40 (); omega) hW (lv_sub hl [0] rfl)
              refine x_iconst hx hb dX11_readsCondition_81 ?_
              rw [eQ]
              exact x_zret hx hb hr hlk hW (by omega) ⟨hF53, ⟨hp52.1.1, hp52.1.2.1, hp52.1.2.2.1, hp52.1.2.2.2.1, (hp52.1.2.2.2.2.1.trans q40_4), (hp52.1.2.2.2.2.2.1.trans q40_5), (hp52.1.2.2.2.2.2.2.1.trans q40_6), (hp52.1.2.2.2.2.2.2.2.1.trans q40_7), (hp52.1.2.2.2.2.2.2.2.2.2.1.trans q40_9), (hp52.1.2.2.2.2.2.2.2.2.2.2.1.trans q40_10), trivial⟩, by
                  have e := H75.resolve_right (fun q => by omega)
                  have z := v40_0.1.five (by omega) (by rw [← v40_0.2.2.1]; omega)
                  rw [z2, z]
                  exact Or.inl ⟨by omega, (by show (-5000 - _ : Int) ≠ 0; omega), (by show _ = (-5000 - _ : Int); omega)⟩⟩ dX11_readsCondition_82
            refine x_bipush hx hb dX11_readsCondition_68 (by decide) ?_
            refine lv_goto (tgt := 75) hx hb dX11_readsCondition_70 (by decide) ?_
            refine x_goi (x_runV (As := [.int (xJ 10)]) hx hb hml hown hT hE hW hl.1 (Or.inl (by decide)) (so_268 h0 g _) rfl cf_X11_opens wq1480 wq118 wq1478 (c_X11_opensK l D g T h0 s_40 hW.2.1 10 (by decide) (by omega) (by omega) (by omega) (by omega) q40_0 q40_1 q40_2 q40_3) ⟨rfl, rfl, ⟨by decide, by decide⟩, ⟨by decide, by decide⟩⟩ rfl rfl (Nat.le_of_ble_eq_true rfl) dX11_readsCondition_75) hW (fun x55 s56 H locs rx55 hp57 hW => ?_)
            obtain ⟨fs56, hp57⟩ := hp57
            have hF58 := hF_40.call fs56 (fun k h => by omega)
            have ghp57 := hp57.2
            have H75 := ghp57
            have F75 := fs56
            refine x_if_ne (tgt := 40) hx hb rx55 dX11_readsCondition_78 (by decide) (fun c59 => ?_) (fun c59 => ?_)
            · skip
              exact ih40 s56 H locs ls hF58 hp57.1.1 hp57.1.2.1 hp57.1.2.2.1 hp57.1.2.2.2.1 (hp57.1.2.2.2.2.1.trans q40_4) (hp57.1.2.2.2.2.2.1.trans q40_5) (hp57.1.2.2.2.2.2.2.1.trans q40_6) (hp57.1.2.2.2.2.2.2.2.1.trans q40_7) (hp57.1.2.2.2.2.2.2.2.2.2.1.trans q40_9) (hp57.1.2.2.2.2.2.2.2.2.2.2.1.trans q40_10) (by first | exact H215.1 | (have e := H75.resolve_left (fun q => by omega); exact v40_0.open_ (by omega) (by omega) (by omega) (by omega) (F75 277 (by omega)) (by omega) (by omega) e.2.2.2.1)) (by omega) (by have hm := hm_40 (); omega) hW (lv_sub hl [0] rfl)
            refine x_iconst hx hb dX11_readsCondition_81 ?_
            rw [eQ]
            exact x_zret hx hb hr hlk hW (by omega) ⟨hF58, ⟨hp57.1.1, hp57.1.2.1, hp57.1.2.2.1, hp57.1.2.2.2.1, (hp57.1.2.2.2.2.1.trans q40_4), (hp57.1.2.2.2.2.2.1.trans q40_5), (hp57.1.2.2.2.2.2.2.1.trans q40_6), (hp57.1.2.2.2.2.2.2.2.1.trans q40_7), (hp57.1.2.2.2.2.2.2.2.2.2.1.trans q40_9), (hp57.1.2.2.2.2.2.2.2.2.2.2.1.trans q40_10), trivial⟩, by
                have e := H75.resolve_right (fun q => by omega)
                have z := v40_0.1.five (by omega) (by rw [← v40_0.2.2.1]; omega)
                rw [z2, z]
                exact Or.inl ⟨by omega, (by show (-5000 - _ : Int) ≠ 0; omega), (by show _ = (-5000 - _ : Int); omega)⟩⟩ dX11_readsCondition_82
          refine x_aload_n hx hb hl 0 rfl dX11_readsCondition_49 rfl ?_
          refine x_goi (x_runV (As := []) hx hb hml hown hT hE hW hl.1 (Or.inl (by decide)) (so_268 h0 g _) rfl cf_X11_here wq1391 wq106 wq1389 (c_X11_here l D g T h0 s_40 hW.2.1 q40_0 q40_1 q40_2 q40_3) ⟨rfl, rfl, ⟨by decide, by decide⟩, ⟨by decide, by decide⟩⟩ rfl rfl (Nat.le_of_ble_eq_true rfl) dX11_readsCondition_50) hW (fun x60 s61 H locs rx60 hp62 hW => ?_)
          obtain ⟨es61, hp62⟩ := hp62
          subst es61
          have ghp62 := hp62
          have C50 : x60 = zch f9 n9 (s_40 268 9) := by
            have q8 := ghp62.1
            rw [zhC_ch, show s_40 276 = s0 276 from hF_40 276 (by first | decide | omega), hf.1, show s_40 268 10 = n9 from by omega] at q8
            exact q8
          refine x_bipush hx hb dX11_readsCondition_53 (by decide) ?_
          refine x_icmp_ne (tgt := 83) hx hb rx60 (by decide) dX11_readsCondition_55 (by decide) (fun c63 => ?_) (fun c63 => ?_)
          · skip
            refine x_aload_n hx hb hl 0 rfl dX11_readsCondition_83 rfl ?_
            refine x_goi (x_runV (As := []) hx hb hml hown hT hE hW hl.1 (Or.inl (by decide)) (so_268 h0 g _) rfl cf_X11_readsCompared wq1519 wq126 wq1517 (c_X11_readsComparedK l D g T h0 s_40 hW.2.1 f9 n9 (s0 268 14) (zC0 f9 n9 (s0 268 9 + 1) (s0 268 14) (s0 277)) (by first | exact hf | exact ⟨by rw [hF_40 276 (by first | decide | omega)]; exact hf.1, by omega⟩) (v40_0) (by omega) q40_0 q40_1 q40_2 q40_3) ⟨rfl, rfl, ⟨by decide, by decide⟩, ⟨by decide, by decide⟩⟩ rfl rfl (Nat.le_of_ble_eq_true rfl) dX11_readsCondition_84) hW (fun x64 s65 H locs rx64 hp66 hW => ?_)
            obtain ⟨fs65, hp66⟩ := hp66
            have hF67 := hF_40.call fs65 (fun k h => by omega)
            have ghp66 := hp66.2
            have H84 := ghp66
            refine x_if_ne (tgt := 92) hx hb rx64 dX11_readsCondition_87 (by decide) (fun c68 => ?_) (fun c68 => ?_)
            · skip
              have L92 : ∀ (fu : Nat) (s_92 : xS) (H : Heap) (locs : List Loc) (ls : Array Slot), (xFr (fun k => k = 268 ∨ k = 277 ∨ k = 278) s0 s_92) → (IMn s_92) → (IMk s_92) → (IMo s_92) → (IR s_92) → (s_92 268 8 = s0 268 8) → (s_92 268 58 = s0 268 58) → (s_92 268 17 = s0 268 17) → (s_92 268 10 = s0 268 10) → (s_92 268 16 = s0 268 16) → (s_92 268 48 = s0 268 48) → (zCQ f9 n9 (s0 268 14) (zC0 f9 n9 (s0 268 9 + 1) (s0 268 14) (s0 277)) false s_92) → (ztW s_92 ≠ 10 ∧ 0 < s_92 268 15) → (s_40 268 9 + 1 ≤ s_92 268 9) → (241 - s_92 268 9).toNat < fu → xW D g h0 s H locs s_92 → lv_has ls 1 [(0, .ref (h0 + 268))] → W p l e { frames := 6, cells := 0, slots := 0, locals := 125 } s m args below meth c H locs 0 0 Q (F0 m 92 ls []) := by
                intro fu
                induction fu with
                | zero => intro s_92 H locs ls hF_92 q92_0 q92_1 q92_2 q92_3 q92_4 q92_5 q92_6 q92_7 q92_8 q92_9 v92_0 v92_1 v92_2 hm; exact absurd hm (Nat.not_lt_zero _)
                | succ fu ih92 =>
                  intro s_92 H locs ls hF_92 q92_0 q92_1 q92_2 q92_3 q92_4 q92_5 q92_6 q92_7 q92_8 q92_9 v92_0 v92_1 v92_2 hm hW hl
                  have hm_92 := fun (_ : Unit) => hm
                  clear hm
                  have b92 := v92_0.b
                  have o92 := v92_0.o
                  have r92 : 0 ≤ s_92 268 9 ∧ s_92 268 9 ≤ s_92 268 10 ∧ s_92 268 10 ≤ 240 := q92_3
                  have t92 := v92_0.top v92_1.2
                  have n92 : s_92 268 10 = n9 := by omega
                  have w92 : 11 ≤ ztW s_92 := by omega
                  refine x_aload_n hx hb hl 0 rfl dX11_readsCondition_92 rfl ?_
                  refine x_goi (x_runV (As := []) hx hb hml hown hT hE hW hl.1 (Or.inl (by decide)) (so_268 h0 g _) rfl cf_X11_here wq1391 wq106 wq1389 (c_X11_here l D g T h0 s_92 hW.2.1 q92_0 q92_1 q92_2 q92_3) ⟨rfl, rfl, ⟨by decide, by decide⟩, ⟨by decide, by decide⟩⟩ rfl rfl (Nat.le_of_ble_eq_true rfl) dX11_readsCondition_93) hW (fun x69 s70 H locs rx69 hp71 hW => ?_)
                  obtain ⟨es70, hp71⟩ := hp71
                  subst es70
                  have ghp71 := hp71
                  have C93 : x69 = zch f9 n9 (s_92 268 9) := by
                    have q8 := ghp71.1
                    rw [zhC_ch, show s_92 276 = s0 276 from hF_92 276 (by first | decide | omega), hf.1, show s_92 268 10 = n9 from by omega] at q8
                    exact q8
                  have L93 : zch f9 n9 (s_92 268 9) ≠ -1 → s_92 268 9 < n9 := zch_lt
                  refine x_bipush hx hb dX11_readsCondition_96 (by decide) ?_
                  refine x_icmp_ne (tgt := 152) hx hb rx69 (by decide) dX11_readsCondition_98 (by decide) (fun c72 => ?_) (fun c72 => ?_)
                  · skip
                    refine x_aload_n hx hb hl 0 rfl dX11_readsCondition_152 rfl ?_
                    refine x_goi (x_runV (As := []) hx hb hml hown hT hE hW hl.1 (Or.inl (by decide)) (so_268 h0 g _) rfl cf_X11_here wq1391 wq106 wq1389 (c_X11_here l D g T h0 s_92 hW.2.1 q92_0 q92_1 q92_2 q92_3) ⟨rfl, rfl, ⟨by decide, by decide⟩, ⟨by decide, by decide⟩⟩ rfl rfl (Nat.le_of_ble_eq_true rfl) dX11_readsCondition_153) hW (fun x73 s74 H locs rx73 hp75 hW => ?_)
                    obtain ⟨es74, hp75⟩ := hp75
                    subst es74
                    have ghp75 := hp75
                    have C153 : x73 = zch f9 n9 (s_92 268 9) := by
                      have q8 := ghp75.1
                      rw [zhC_ch, show s_92 276 = s0 276 from hF_92 276 (by first | decide | omega), hf.1, show s_92 268 10 = n9 from by omega] at q8
                      exact q8
                    refine x_bipush hx hb dX11_readsCondition_156 (by decide) ?_
                    refine x_icmp_eq (tgt := 180) hx hb rx73 (by decide) dX11_readsCondition_158 (by decide) (fun c76 => ?_) (fun c76 => ?_)
                    · skip
                      refine x_aload_n hx hb hl 0 rfl dX11_readsCondition_180 rfl ?_
                      refine x_aload_n hx hb hl 0 rfl dX11_readsCondition_181 rfl ?_
                      refine x_goi (x_runV (As := []) hx hb hml hown hT hE hW hl.1 (Or.inl (by decide)) (so_268 h0 g _) rfl cf_X11_here wq1391 wq106 wq1389 (c_X11_here l D g T h0 s_92 hW.2.1 q92_0 q92_1 q92_2 q92_3) ⟨rfl, rfl, ⟨by decide, by decide⟩, ⟨by decide, by decide⟩⟩ rfl rfl (Nat.le_of_ble_eq_true rfl) dX11_readsCondition_182) hW (fun x77 s78 H locs rx77 hp79 hW => ?_)
                      obtain ⟨es78, hp79⟩ := hp79
                      subst es78
                      have ghp79 := hp79
                      have C182 : x77 = zch f9 n9 (s_92 268 9) := by
                        have q8 := ghp79.1
                        rw [zhC_ch, show s_92 276 = s0 276 from hF_92 276 (by first | decide | omega), hf.1, show s_92 268 10 = n9 from by omega] at q8
                        exact q8
                      refine x_bipush hx hb dX11_readsCondition_185 (by decide) ?_
                      refine x_icmp_ne (tgt := 194) hx hb rx77 (by decide) dX11_readsCondition_187 (by decide) (fun c80 => ?_) (fun c80 => ?_)
                      · skip
                        refine x_iconst hx hb dX11_readsCondition_194 ?_
                        refine x_gov (x_runV (As := [.int (xJ 0)]) hx hb hml hown hT hE hW hl.1 (Or.inl (by decide)) (so_268 h0 g _) rfl cf_X11_lands wq1527 wq128 wq1525 (c_X11_landsK l D g T h0 s_92 hW.2.1 0 (by decide) f9 n9 (s0 268 14) (zC0 f9 n9 (s0 268 9 + 1) (s0 268 14) (s0 277)) (by first | exact hf | exact ⟨by rw [hF_92 276 (by first | decide | omega)]; exact hf.1, by omega⟩) (v92_0) (by omega) q92_0 q92_1 q92_2 q92_3) ⟨rfl, rfl, ⟨by decide, by decide⟩, ⟨by decide, by decide⟩⟩ rfl rfl (Nat.le_of_ble_eq_true rfl) dX11_readsCondition_195) hW (fun s82 H locs hp83 hW => ?_)
                        obtain ⟨fs82, hp83⟩ := hp83
                        have hF84 := hF_92.call fs82 (fun k h => by omega)
                        have ghp83 := hp83.2
                        have H195 := ghp83
                        have b195 := H195.1.b
                        refine x_aload_n hx hb hl 0 rfl dX11_readsCondition_198 rfl ?_
                        refine x_aload_n hx hb hl 0 rfl dX11_readsCondition_199 rfl ?_
                        refine x_goi (x_runV (As := []) hx hb hml hown hT hE hW hl.1 (Or.inl (by decide)) (so_268 h0 g _) rfl cf_X11_here wq1391 wq106 wq1389 (c_X11_here l D g T h0 s82 hW.2.1 hp83.1.1 hp83.1.2.1 hp83.1.2.2.1 hp83.1.2.2.2.1) ⟨rfl, rfl, ⟨by decide, by decide⟩, ⟨by decide, by decide⟩⟩ rfl rfl (Nat.le_of_ble_eq_true rfl) dX11_readsCondition_200) hW (fun x85 s86 H locs rx85 hp87 hW => ?_)
                        obtain ⟨es86, hp87⟩ := hp87
                        subst es86
                        have ghp87 := hp87
                        have C200 : x85 = zch f9 n9 (s82 268 9) := by
                          have q8 := ghp87.1
                          rw [zhC_ch, show s82 276 = s0 276 from hF84 276 (by first | decide | omega), hf.1, show s82 268 10 = n9 from by omega] at q8
                          exact q8
                        rw [show s82 268 9 = s_92 268 9 from by omega] at C200
                        refine x_bipush hx hb dX11_readsCondition_203 (by decide) ?_
                        refine x_icmp_ne (tgt := 213) hx hb rx85 (by decide) dX11_readsCondition_205 (by decide) (fun c88 => ?_) (fun c88 => ?_)
                        · skip
                          refine x_bipush hx hb dX11_readsCondition_213 (by decide) ?_
                          refine x_gov (x_runV (As := [.int (xJ 12)]) hx hb hml hown hT hE hW hl.1 (Or.inl (by decide)) (so_268 h0 g _) rfl cf_X11_jumps wq1531 wq129 wq1529 (c_X11_jumpsK l D g T h0 s82 hW.2.1 12 (by decide) f9 n9 (s0 268 14) (zC0 f9 n9 (s0 268 9 + 1) (s0 268 14) (s0 277)) (by first | exact hf | exact ⟨by rw [hF84 276 (by first | decide | omega)]; exact hf.1, by omega⟩) (H195.1) (by rw [show s82 268 9 = s_92 268 9 from by omega]; omega) hp83.1.1 hp83.1.2.1 hp83.1.2.2.1 hp83.1.2.2.2.1) ⟨rfl, rfl, ⟨by decide, by decide⟩, ⟨by decide, by decide⟩⟩ rfl rfl (Nat.le_of_ble_eq_true rfl) dX11_readsCondition_215) hW (fun s90 H locs hp91 hW => ?_)
                          obtain ⟨fs90, hp91⟩ := hp91
                          have hF92 := hF84.call fs90 (fun k h => by omega)
                          have ghp91 := hp91.2
                          have H215 := ghp91
                          refine lv_goto (tgt := 40) hx hb dX11_readsCondition_218 (by decide) ?_
                          exact ih40 s90 H locs ls hF92 hp91.1.1 hp91.1.2.1 hp91.1.2.2.1 hp91.1.2.2.2.1 (hp91.1.2.2.2.2.1.trans (hp83.1.2.2.2.2.1.trans q92_4)) (hp91.1.2.2.2.2.2.1.trans (hp83.1.2.2.2.2.2.1.trans q92_5)) (hp91.1.2.2.2.2.2.2.1.trans (hp83.1.2.2.2.2.2.2.1.trans q92_6)) (hp91.1.2.2.2.2.2.2.2.1.trans (hp83.1.2.2.2.2.2.2.2.2.1.trans q92_7)) (hp91.1.2.2.2.2.2.2.2.2.1.trans (hp83.1.2.2.2.2.2.2.2.2.2.2.2.1.trans q92_8)) (hp91.1.2.2.2.2.2.2.2.2.2.1.trans (hp83.1.2.2.2.2.2.2.2.2.2.2.2.2.1.trans q92_9)) (by first | exact H215.1 | (have e := H75.resolve_left (fun q => by omega); exact v40_0.open_ (by omega) (by omega) (by omega) (by omega) (F75 277 (by omega)) (by omega) (by omega) e.2.2.2.1)) (by omega) (by have hm := hm_40 (); omega) hW (lv_sub hl [0] rfl)
                        refine x_bipush hx hb dX11_readsCondition_208 (by decide) ?_
                        refine lv_goto (tgt := 215) hx hb dX11_readsCondition_210 (by decide) ?_
                        refine x_gov (x_runV (As := [.int (xJ 11)]) hx hb hml hown hT hE hW hl.1 (Or.inl (by decide)) (so_268 h0 g _) rfl cf_X11_jumps wq1531 wq129 wq1529 (c_X11_jumpsK l D g T h0 s82 hW.2.1 11 (by decide) f9 n9 (s0 268 14) (zC0 f9 n9 (s0 268 9 + 1) (s0 268 14) (s0 277)) (by first | exact hf | exact ⟨by rw [hF84 276 (by first | decide | omega)]; exact hf.1, by omega⟩) (H195.1) (by rw [show s82 268 9 = s_92 268 9 from by omega]; omega) hp83.1.1 hp83.1.2.1 hp83.1.2.2.1 hp83.1.2.2.2.1) ⟨rfl, rfl, ⟨by decide, by decide⟩, ⟨by decide, by decide⟩⟩ rfl rfl (Nat.le_of_ble_eq_true rfl) dX11_readsCondition_215) hW (fun s94 H locs hp95 hW => ?_)
                        obtain ⟨fs94, hp95⟩ := hp95
                        have hF96 := hF84.call fs94 (fun k h => by omega)
                        have ghp95 := hp95.2
                        have H215 := ghp95
                        refine lv_goto (tgt := 40) hx hb dX11_readsCondition_218 (by decide) ?_
                        exact ih40 s94 H locs ls hF96 hp95.1.1 hp95.1.2.1 hp95.1.2.2.1 hp95.1.2.2.2.1 (hp95.1.2.2.2.2.1.trans (hp83.1.2.2.2.2.1.trans q92_4)) (hp95.1.2.2.2.2.2.1.trans (hp83.1.2.2.2.2.2.1.trans q92_5)) (hp95.1.2.2.2.2.2.2.1.trans (hp83.1.2.2.2.2.2.2.1.trans q92_6)) (hp95.1.2.2.2.2.2.2.2.1.trans (hp83.1.2.2.2.2.2.2.2.2.1.trans q92_7)) (hp95.1.2.2.2.2.2.2.2.2.1.trans (hp83.1.2.2.2.2.2.2.2.2.2.2.2.1.trans q92_8)) (hp95.1.2.2.2.2.2.2.2.2.2.1.trans (hp83.1.2.2.2.2.2.2.2.2.2.2.2.2.1.trans q92_9)) (by first | exact H215.1 | (have e := H75.resolve_left (fun q => by omega); exact v40_0.open_ (by omega) (by omega) (by omega) (by omega) (F75 277 (by omega)) (by omega) (by omega) e.2.2.2.1)) (by omega) (by have hm := hm_40 (); omega) hW (lv_sub hl [0] rfl)
                      refine x_iconst hx hb dX11_readsCondition_190 ?_
                      refine lv_goto (tgt := 195) hx hb dX11_readsCondition_191 (by decide) ?_
                      refine x_gov (x_runV (As := [.int (xJ 1)]) hx hb hml hown hT hE hW hl.1 (Or.inl (by decide)) (so_268 h0 g _) rfl cf_X11_lands wq1527 wq128 wq1525 (c_X11_landsK l D g T h0 s_92 hW.2.1 1 (by decide) f9 n9 (s0 268 14) (zC0 f9 n9 (s0 268 9 + 1) (s0 268 14) (s0 277)) (by first | exact hf | exact ⟨by rw [hF_92 276 (by first | decide | omega)]; exact hf.1, by omega⟩) (v92_0) (by omega) q92_0 q92_1 q92_2 q92_3) ⟨rfl, rfl, ⟨by decide, by decide⟩, ⟨by decide, by decide⟩⟩ rfl rfl (Nat.le_of_ble_eq_true rfl) dX11_readsCondition_195) hW (fun s98 H locs hp99 hW => ?_)
                      obtain ⟨fs98, hp99⟩ := hp99
                      have hF100 := hF_92.call fs98 (fun k h => by omega)
                      have ghp99 := hp99.2
                      have H195 := ghp99
                      have b195 := H195.1.b
                      refine x_aload_n hx hb hl 0 rfl dX11_readsCondition_198 rfl ?_
                      refine x_aload_n hx hb hl 0 rfl dX11_readsCondition_199 rfl ?_
                      refine x_goi (x_runV (As := []) hx hb hml hown hT hE hW hl.1 (Or.inl (by decide)) (so_268 h0 g _) rfl cf_X11_here wq1391 wq106 wq1389 (c_X11_here l D g T h0 s98 hW.2.1 hp99.1.1 hp99.1.2.1 hp99.1.2.2.1 hp99.1.2.2.2.1) ⟨rfl, rfl, ⟨by decide, by decide⟩, ⟨by decide, by decide⟩⟩ rfl rfl (Nat.le_of_ble_eq_true rfl) dX11_readsCondition_200) hW (fun x101 s102 H locs rx101 hp103 hW => ?_)
                      obtain ⟨es102, hp103⟩ := hp103
                      subst es102
                      have ghp103 := hp103
                      have C200 : x101 = zch f9 n9 (s98 268 9) := by
                        have q8 := ghp103.1
                        rw [zhC_ch, show s98 276 = s0 276 from hF100 276 (by first | decide | omega), hf.1, show s98 268 10 = n9 from by omega] at q8
                        exact q8
                      rw [show s98 268 9 = s_92 268 9 from by omega] at C200
                      refine x_bipush hx hb dX11_readsCondition_203 (by decide) ?_
                      refine x_icmp_ne (tgt := 213) hx hb rx101 (by decide) dX11_readsCondition_205 (by decide) (fun c104 => ?_) (fun c104 => ?_)
                      · skip
                        refine x_bipush hx hb dX11_readsCondition_213 (by decide) ?_
                        refine x_gov (x_runV (As := [.int (xJ 12)]) hx hb hml hown hT hE hW hl.1 (Or.inl (by decide)) (so_268 h0 g _) rfl cf_X11_jumps wq1531 wq129 wq1529 (c_X11_jumpsK l D g T h0 s98 hW.2.1 12 (by decide) f9 n9 (s0 268 14) (zC0 f9 n9 (s0 268 9 + 1) (s0 268 14) (s0 277)) (by first | exact hf | exact ⟨by rw [hF100 276 (by first | decide | omega)]; exact hf.1, by omega⟩) (H195.1) (by rw [show s98 268 9 = s_92 268 9 from by omega]; omega) hp99.1.1 hp99.1.2.1 hp99.1.2.2.1 hp99.1.2.2.2.1) ⟨rfl, rfl, ⟨by decide, by decide⟩, ⟨by decide, by decide⟩⟩ rfl rfl (Nat.le_of_ble_eq_true rfl) dX11_readsCondition_215) hW (fun s106 H locs hp107 hW => ?_)
                        obtain ⟨fs106, hp107⟩ := hp107
                        have hF108 := hF100.call fs106 (fun k h => by omega)
                        have ghp107 := hp107.2
                        have H215 := ghp107
                        refine lv_goto (tgt := 40) hx hb dX11_readsCondition_218 (by decide) ?_
                        exact ih40 s106 H locs ls hF108 hp107.1.1 hp107.1.2.1 hp107.1.2.2.1 hp107.1.2.2.2.1 (hp107.1.2.2.2.2.1.trans (hp99.1.2.2.2.2.1.trans q92_4)) (hp107.1.2.2.2.2.2.1.trans (hp99.1.2.2.2.2.2.1.trans q92_5)) (hp107.1.2.2.2.2.2.2.1.trans (hp99.1.2.2.2.2.2.2.1.trans q92_6)) (hp107.1.2.2.2.2.2.2.2.1.trans (hp99.1.2.2.2.2.2.2.2.2.1.trans q92_7)) (hp107.1.2.2.2.2.2.2.2.2.1.trans (hp99.1.2.2.2.2.2.2.2.2.2.2.2.1.trans q92_8)) (hp107.1.2.2.2.2.2.2.2.2.2.1.trans (hp99.1.2.2.2.2.2.2.2.2.2.2.2.2.1.trans q92_9)) (by first | exact H215.1 | (have e := H75.resolve_left (fun q => by omega); exact v40_0.open_ (by omega) (by omega) (by omega) (by omega) (F75 277 (by omega)) (by omega) (by omega) e.2.2.2.1)) (by omega) (by have hm := hm_40 (); omega) hW (lv_sub hl [0] rfl)
                      refine x_bipush hx hb dX11_readsCondition_208 (by decide) ?_
                      refine lv_goto (tgt := 215) hx hb dX11_readsCondition_210 (by decide) ?_
                      refine x_gov (x_runV (As := [.int (xJ 11)]) hx hb hml hown hT hE hW hl.1 (Or.inl (by decide)) (so_268 h0 g _) rfl cf_X11_jumps wq1531 wq129 wq1529 (c_X11_jumpsK l D g T h0 s98 hW.2.1 11 (by decide) f9 n9 (s0 268 14) (zC0 f9 n9 (s0 268 9 + 1) (s0 268 14) (s0 277)) (by first | exact hf | exact ⟨by rw [hF100 276 (by first | decide | omega)]; exact hf.1, by omega⟩) (H195.1) (by rw [show s98 268 9 = s_92 268 9 from by omega]; omega) hp99.1.1 hp99.1.2.1 hp99.1.2.2.1 hp99.1.2.2.2.1) ⟨rfl, rfl, ⟨by decide, by decide⟩, ⟨by decide, by decide⟩⟩ rfl rfl (Nat.le_of_ble_eq_true rfl) dX11_readsCondition_215) hW (fun s110 H locs hp111 hW => ?_)
                      obtain ⟨fs110, hp111⟩ := hp111
                      have hF112 := hF100.call fs110 (fun k h => by omega)
                      have ghp111 := hp111.2
                      have H215 := ghp111
                      refine lv_goto (tgt := 40) hx hb dX11_readsCondition_218 (by decide) ?_
                      exact ih40 s110 H locs ls hF112 hp111.1.1 hp111.1.2.1 hp111.1.2.2.1 hp111.1.2.2.2.1 (hp111.1.2.2.2.2.1.trans (hp99.1.2.2.2.2.1.trans q92_4)) (hp111.1.2.2.2.2.2.1.trans (hp99.1.2.2.2.2.2.1.trans q92_5)) (hp111.1.2.2.2.2.2.2.1.trans (hp99.1.2.2.2.2.2.2.1.trans q92_6)) (hp111.1.2.2.2.2.2.2.2.1.trans (hp99.1.2.2.2.2.2.2.2.2.1.trans q92_7)) (hp111.1.2.2.2.2.2.2.2.2.1.trans (hp99.1.2.2.2.2.2.2.2.2.2.2.2.1.trans q92_8)) (hp111.1.2.2.2.2.2.2.2.2.2.1.trans (hp99.1.2.2.2.2.2.2.2.2.2.2.2.2.1.trans q92_9)) (by first | exact H215.1 | (have e := H75.resolve_left (fun q => by omega); exact v40_0.open_ (by omega) (by omega) (by omega) (by omega) (F75 277 (by omega)) (by omega) (by omega) e.2.2.2.1)) (by omega) (by have hm := hm_40 (); omega) hW (lv_sub hl [0] rfl)
                    refine x_aload_n hx hb hl 0 rfl dX11_readsCondition_161 rfl ?_
                    refine x_goi (x_runV (As := []) hx hb hml hown hT hE hW hl.1 (Or.inl (by decide)) (so_268 h0 g _) rfl cf_X11_here wq1391 wq106 wq1389 (c_X11_here l D g T h0 s_92 hW.2.1 q92_0 q92_1 q92_2 q92_3) ⟨rfl, rfl, ⟨by decide, by decide⟩, ⟨by decide, by decide⟩⟩ rfl rfl (Nat.le_of_ble_eq_true rfl) dX11_readsCondition_162) hW (fun x113 s114 H locs rx113 hp115 hW => ?_)
                    obtain ⟨es114, hp115⟩ := hp115
                    subst es114
                    have ghp115 := hp115
                    have C162 : x113 = zch f9 n9 (s_92 268 9) := by
                      have q8 := ghp115.1
                      rw [zhC_ch, show s_92 276 = s0 276 from hF_92 276 (by first | decide | omega), hf.1, show s_92 268 10 = n9 from by omega] at q8
                      exact q8
                    refine x_bipush hx hb dX11_readsCondition_165 (by decide) ?_
                    refine x_icmp_eq (tgt := 180) hx hb rx113 (by decide) dX11_readsCondition_167 (by decide) (fun c116 => ?_) (fun c116 => ?_)
                    · skip
                      refine x_aload_n hx hb hl 0 rfl dX11_readsCondition_180 rfl ?_
                      refine x_aload_n hx hb hl 0 rfl dX11_readsCondition_181 rfl ?_
                      refine x_goi (x_runV (As := []) hx hb hml hown hT hE hW hl.1 (Or.inl (by decide)) (so_268 h0 g _) rfl cf_X11_here wq1391 wq106 wq1389 (c_X11_here l D g T h0 s_92 hW.2.1 q92_0 q92_1 q92_2 q92_3) ⟨rfl, rfl, ⟨by decide, by decide⟩, ⟨by decide, by decide⟩⟩ rfl rfl (Nat.le_of_ble_eq_true rfl) dX11_readsCondition_182) hW (fun x117 s118 H locs rx117 hp119 hW => ?_)
                      obtain ⟨es118, hp119⟩ := hp119
                      subst es118
                      have ghp119 := hp119
                      have C182 : x117 = zch f9 n9 (s_92 268 9) := by
                        have q8 := ghp119.1
                        rw [zhC_ch, show s_92 276 = s0 276 from hF_92 276 (by first | decide | omega), hf.1, show s_92 268 10 = n9 from by omega] at q8
                        exact q8
                      refine x_bipush hx hb dX11_readsCondition_185 (by decide) ?_
                      refine x_icmp_ne (tgt := 194) hx hb rx117 (by decide) dX11_readsCondition_187 (by decide) (fun c120 => ?_) (fun c120 => ?_)
                      · skip
                        refine x_iconst hx hb dX11_readsCondition_194 ?_
                        refine x_gov (x_runV (As := [.int (xJ 0)]) hx hb hml hown hT hE hW hl.1 (Or.inl (by decide)) (so_268 h0 g _) rfl cf_X11_lands wq1527 wq128 wq1525 (c_X11_landsK l D g T h0 s_92 hW.2.1 0 (by decide) f9 n9 (s0 268 14) (zC0 f9 n9 (s0 268 9 + 1) (s0 268 14) (s0 277)) (by first | exact hf | exact ⟨by rw [hF_92 276 (by first | decide | omega)]; exact hf.1, by omega⟩) (v92_0) (by omega) q92_0 q92_1 q92_2 q92_3) ⟨rfl, rfl, ⟨by decide, by decide⟩, ⟨by decide, by decide⟩⟩ rfl rfl (Nat.le_of_ble_eq_true rfl) dX11_readsCondition_195) hW (fun s122 H locs hp123 hW => ?_)
                        obtain ⟨fs122, hp123⟩ := hp123
                        have hF124 := hF_92.call fs122 (fun k h => by omega)
                        have ghp123 := hp123.2
                        have H195 := ghp123
                        have b195 := H195.1.b
                        refine x_aload_n hx hb hl 0 rfl dX11_readsCondition_198 rfl ?_
                        refine x_aload_n hx hb hl 0 rfl dX11_readsCondition_199 rfl ?_
                        refine x_goi (x_runV (As := []) hx hb hml hown hT hE hW hl.1 (Or.inl (by decide)) (so_268 h0 g _) rfl cf_X11_here wq1391 wq106 wq1389 (c_X11_here l D g T h0 s122 hW.2.1 hp123.1.1 hp123.1.2.1 hp123.1.2.2.1 hp123.1.2.2.2.1) ⟨rfl, rfl, ⟨by decide, by decide⟩, ⟨by decide, by decide⟩⟩ rfl rfl (Nat.le_of_ble_eq_true rfl) dX11_readsCondition_200) hW (fun x125 s126 H locs rx125 hp127 hW => ?_)
                        obtain ⟨es126, hp127⟩ := hp127
                        subst es126
                        have ghp127 := hp127
                        have C200 : x125 = zch f9 n9 (s122 268 9) := by
                          have q8 := ghp127.1
                          rw [zhC_ch, show s122 276 = s0 276 from hF124 276 (by first | decide | omega), hf.1, show s122 268 10 = n9 from by omega] at q8
                          exact q8
                        rw [show s122 268 9 = s_92 268 9 from by omega] at C200
                        refine x_bipush hx hb dX11_readsCondition_203 (by decide) ?_
                        refine x_icmp_ne (tgt := 213) hx hb rx125 (by decide) dX11_readsCondition_205 (by decide) (fun c128 => ?_) (fun c128 => ?_)
                        · skip
                          refine x_bipush hx hb dX11_readsCondition_213 (by decide) ?_
                          refine x_gov (x_runV (As := [.int (xJ 12)]) hx hb hml hown hT hE hW hl.1 (Or.inl (by decide)) (so_268 h0 g _) rfl cf_X11_jumps wq1531 wq129 wq1529 (c_X11_jumpsK l D g T h0 s122 hW.2.1 12 (by decide) f9 n9 (s0 268 14) (zC0 f9 n9 (s0 268 9 + 1) (s0 268 14) (s0 277)) (by first | exact hf | exact ⟨by rw [hF124 276 (by first | decide | omega)]; exact hf.1, by omega⟩) (H195.1) (by rw [show s122 268 9 = s_92 268 9 from by omega]; omega) hp123.1.1 hp123.1.2.1 hp123.1.2.2.1 hp123.1.2.2.2.1) ⟨rfl, rfl, ⟨by decide, by decide⟩, ⟨by decide, by decide⟩⟩ rfl rfl (Nat.le_of_ble_eq_true rfl) dX11_readsCondition_215) hW (fun s130 H locs hp131 hW => ?_)
                          obtain ⟨fs130, hp131⟩ := hp131
                          have hF132 := hF124.call fs130 (fun k h => by omega)
                          have ghp131 := hp131.2
                          have H215 := ghp131
                          refine lv_goto (tgt := 40) hx hb dX11_readsCondition_218 (by decide) ?_
                          exact ih40 s130 H locs ls hF132 hp131.1.1 hp131.1.2.1 hp131.1.2.2.1 hp131.1.2.2.2.1 (hp131.1.2.2.2.2.1.trans (hp123.1.2.2.2.2.1.trans q92_4)) (hp131.1.2.2.2.2.2.1.trans (hp123.1.2.2.2.2.2.1.trans q92_5)) (hp131.1.2.2.2.2.2.2.1.trans (hp123.1.2.2.2.2.2.2.1.trans q92_6)) (hp131.1.2.2.2.2.2.2.2.1.trans (hp123.1.2.2.2.2.2.2.2.2.1.trans q92_7)) (hp131.1.2.2.2.2.2.2.2.2.1.trans (hp123.1.2.2.2.2.2.2.2.2.2.2.2.1.trans q92_8)) (hp131.1.2.2.2.2.2.2.2.2.2.1.trans (hp123.1.2.2.2.2.2.2.2.2.2.2.2.2.1.trans q92_9)) (by first | exact H215.1 | (have e := H75.resolve_left (fun q => by omega); exact v40_0.open_ (by omega) (by omega) (by omega) (by omega) (F75 277 (by omega)) (by omega) (by omega) e.2.2.2.1)) (by omega) (by have hm := hm_40 (); omega) hW (lv_sub hl [0] rfl)
                        refine x_bipush hx hb dX11_readsCondition_208 (by decide) ?_
                        refine lv_goto (tgt := 215) hx hb dX11_readsCondition_210 (by decide) ?_
                        refine x_gov (x_runV (As := [.int (xJ 11)]) hx hb hml hown hT hE hW hl.1 (Or.inl (by decide)) (so_268 h0 g _) rfl cf_X11_jumps wq1531 wq129 wq1529 (c_X11_jumpsK l D g T h0 s122 hW.2.1 11 (by decide) f9 n9 (s0 268 14) (zC0 f9 n9 (s0 268 9 + 1) (s0 268 14) (s0 277)) (by first | exact hf | exact ⟨by rw [hF124 276 (by first | decide | omega)]; exact hf.1, by omega⟩) (H195.1) (by rw [show s122 268 9 = s_92 268 9 from by omega]; omega) hp123.1.1 hp123.1.2.1 hp123.1.2.2.1 hp123.1.2.2.2.1) ⟨rfl, rfl, ⟨by decide, by decide⟩, ⟨by decide, by decide⟩⟩ rfl rfl (Nat.le_of_ble_eq_true rfl) dX11_readsCondition_215) hW (fun s134 H locs hp135 hW => ?_)
                        obtain ⟨fs134, hp135⟩ := hp135
                        have hF136 := hF124.call fs134 (fun k h => by omega)
                        have ghp135 := hp135.2
                        have H215 := ghp135
                        refine lv_goto (tgt := 40) hx hb dX11_readsCondition_218 (by decide) ?_
                        exact ih40 s134 H locs ls hF136 hp135.1.1 hp135.1.2.1 hp135.1.2.2.1 hp135.1.2.2.2.1 (hp135.1.2.2.2.2.1.trans (hp123.1.2.2.2.2.1.trans q92_4)) (hp135.1.2.2.2.2.2.1.trans (hp123.1.2.2.2.2.2.1.trans q92_5)) (hp135.1.2.2.2.2.2.2.1.trans (hp123.1.2.2.2.2.2.2.1.trans q92_6)) (hp135.1.2.2.2.2.2.2.2.1.trans (hp123.1.2.2.2.2.2.2.2.2.1.trans q92_7)) (hp135.1.2.2.2.2.2.2.2.2.1.trans (hp123.1.2.2.2.2.2.2.2.2.2.2.2.1.trans q92_8)) (hp135.1.2.2.2.2.2.2.2.2.2.1.trans (hp123.1.2.2.2.2.2.2.2.2.2.2.2.2.1.trans q92_9)) (by first | exact H215.1 | (have e := H75.resolve_left (fun q => by omega); exact v40_0.open_ (by omega) (by omega) (by omega) (by omega) (F75 277 (by omega)) (by omega) (by omega) e.2.2.2.1)) (by omega) (by have hm := hm_40 (); omega) hW (lv_sub hl [0] rfl)
                      refine x_iconst hx hb dX11_readsCondition_190 ?_
                      refine lv_goto (tgt := 195) hx hb dX11_readsCondition_191 (by decide) ?_
                      refine x_gov (x_runV (As := [.int (xJ 1)]) hx hb hml hown hT hE hW hl.1 (Or.inl (by decide)) (so_268 h0 g _) rfl cf_X11_lands wq1527 wq128 wq1525 (c_X11_landsK l D g T h0 s_92 hW.2.1 1 (by decide) f9 n9 (s0 268 14) (zC0 f9 n9 (s0 268 9 + 1) (s0 268 14) (s0 277)) (by first | exact hf | exact ⟨by rw [hF_92 276 (by first | decide | omega)]; exact hf.1, by omega⟩) (v92_0) (by omega) q92_0 q92_1 q92_2 q92_3) ⟨rfl, rfl, ⟨by decide, by decide⟩, ⟨by decide, by decide⟩⟩ rfl rfl (Nat.le_of_ble_eq_true rfl) dX11_readsCondition_195) hW (fun s138 H locs hp139 hW => ?_)
                      obtain ⟨fs138, hp139⟩ := hp139
                      have hF140 := hF_92.call fs138 (fun k h => by omega)
                      have ghp139 := hp139.2
                      have H195 := ghp139
                      have b195 := H195.1.b
                      refine x_aload_n hx hb hl 0 rfl dX11_readsCondition_198 rfl ?_
                      refine x_aload_n hx hb hl 0 rfl dX11_readsCondition_199 rfl ?_
                      refine x_goi (x_runV (As := []) hx hb hml hown hT hE hW hl.1 (Or.inl (by decide)) (so_268 h0 g _) rfl cf_X11_here wq1391 wq106 wq1389 (c_X11_here l D g T h0 s138 hW.2.1 hp139.1.1 hp139.1.2.1 hp139.1.2.2.1 hp139.1.2.2.2.1) ⟨rfl, rfl, ⟨by decide, by decide⟩, ⟨by decide, by decide⟩⟩ rfl rfl (Nat.le_of_ble_eq_true rfl) dX11_readsCondition_200) hW (fun x141 s142 H locs rx141 hp143 hW => ?_)
                      obtain ⟨es142, hp143⟩ := hp143
                      subst es142
                      have ghp143 := hp143
                      have C200 : x141 = zch f9 n9 (s138 268 9) := by
                        have q8 := ghp143.1
                        rw [zhC_ch, show s138 276 = s0 276 from hF140 276 (by first | decide | omega), hf.1, show s138 268 10 = n9 from by omega] at q8
                        exact q8
                      rw [show s138 268 9 = s_92 268 9 from by omega] at C200
                      refine x_bipush hx hb dX11_readsCondition_203 (by decide) ?_
                      refine x_icmp_ne (tgt := 213) hx hb rx141 (by decide) dX11_readsCondition_205 (by decide) (fun c144 => ?_) (fun c144 => ?_)
                      · skip
                        refine x_bipush hx hb dX11_readsCondition_213 (by decide) ?_
                        refine x_gov (x_runV (As := [.int (xJ 12)]) hx hb hml hown hT hE hW hl.1 (Or.inl (by decide)) (so_268 h0 g _) rfl cf_X11_jumps wq1531 wq129 wq1529 (c_X11_jumpsK l D g T h0 s138 hW.2.1 12 (by decide) f9 n9 (s0 268 14) (zC0 f9 n9 (s0 268 9 + 1) (s0 268 14) (s0 277)) (by first | exact hf | exact ⟨by rw [hF140 276 (by first | decide | omega)]; exact hf.1, by omega⟩) (H195.1) (by rw [show s138 268 9 = s_92 268 9 from by omega]; omega) hp139.1.1 hp139.1.2.1 hp139.1.2.2.1 hp139.1.2.2.2.1) ⟨rfl, rfl, ⟨by decide, by decide⟩, ⟨by decide, by decide⟩⟩ rfl rfl (Nat.le_of_ble_eq_true rfl) dX11_readsCondition_215) hW (fun s146 H locs hp147 hW => ?_)
                        obtain ⟨fs146, hp147⟩ := hp147
                        have hF148 := hF140.call fs146 (fun k h => by omega)
                        have ghp147 := hp147.2
                        have H215 := ghp147
                        refine lv_goto (tgt := 40) hx hb dX11_readsCondition_218 (by decide) ?_
                        exact ih40 s146 H locs ls hF148 hp147.1.1 hp147.1.2.1 hp147.1.2.2.1 hp147.1.2.2.2.1 (hp147.1.2.2.2.2.1.trans (hp139.1.2.2.2.2.1.trans q92_4)) (hp147.1.2.2.2.2.2.1.trans (hp139.1.2.2.2.2.2.1.trans q92_5)) (hp147.1.2.2.2.2.2.2.1.trans (hp139.1.2.2.2.2.2.2.1.trans q92_6)) (hp147.1.2.2.2.2.2.2.2.1.trans (hp139.1.2.2.2.2.2.2.2.2.1.trans q92_7)) (hp147.1.2.2.2.2.2.2.2.2.1.trans (hp139.1.2.2.2.2.2.2.2.2.2.2.2.1.trans q92_8)) (hp147.1.2.2.2.2.2.2.2.2.2.1.trans (hp139.1.2.2.2.2.2.2.2.2.2.2.2.2.1.trans q92_9)) (by first | exact H215.1 | (have e := H75.resolve_left (fun q => by omega); exact v40_0.open_ (by omega) (by omega) (by omega) (by omega) (F75 277 (by omega)) (by omega) (by omega) e.2.2.2.1)) (by omega) (by have hm := hm_40 (); omega) hW (lv_sub hl [0] rfl)
                      refine x_bipush hx hb dX11_readsCondition_208 (by decide) ?_
                      refine lv_goto (tgt := 215) hx hb dX11_readsCondition_210 (by decide) ?_
                      refine x_gov (x_runV (As := [.int (xJ 11)]) hx hb hml hown hT hE hW hl.1 (Or.inl (by decide)) (so_268 h0 g _) rfl cf_X11_jumps wq1531 wq129 wq1529 (c_X11_jumpsK l D g T h0 s138 hW.2.1 11 (by decide) f9 n9 (s0 268 14) (zC0 f9 n9 (s0 268 9 + 1) (s0 268 14) (s0 277)) (by first | exact hf | exact ⟨by rw [hF140 276 (by first | decide | omega)]; exact hf.1, by omega⟩) (H195.1) (by rw [show s138 268 9 = s_92 268 9 from by omega]; omega) hp139.1.1 hp139.1.2.1 hp139.1.2.2.1 hp139.1.2.2.2.1) ⟨rfl, rfl, ⟨by decide, by decide⟩, ⟨by decide, by decide⟩⟩ rfl rfl (Nat.le_of_ble_eq_true rfl) dX11_readsCondition_215) hW (fun s150 H locs hp151 hW => ?_)
                      obtain ⟨fs150, hp151⟩ := hp151
                      have hF152 := hF140.call fs150 (fun k h => by omega)
                      have ghp151 := hp151.2
                      have H215 := ghp151
                      refine lv_goto (tgt := 40) hx hb dX11_readsCondition_218 (by decide) ?_
                      exact ih40 s150 H locs ls hF152 hp151.1.1 hp151.1.2.1 hp151.1.2.2.1 hp151.1.2.2.2.1 (hp151.1.2.2.2.2.1.trans (hp139.1.2.2.2.2.1.trans q92_4)) (hp151.1.2.2.2.2.2.1.trans (hp139.1.2.2.2.2.2.1.trans q92_5)) (hp151.1.2.2.2.2.2.2.1.trans (hp139.1.2.2.2.2.2.2.1.trans q92_6)) (hp151.1.2.2.2.2.2.2.2.1.trans (hp139.1.2.2.2.2.2.2.2.2.1.trans q92_7)) (hp151.1.2.2.2.2.2.2.2.2.1.trans (hp139.1.2.2.2.2.2.2.2.2.2.2.2.1.trans q92_8)) (hp151.1.2.2.2.2.2.2.2.2.2.1.trans (hp139.1.2.2.2.2.2.2.2.2.2.2.2.2.1.trans q92_9)) (by first | exact H215.1 | (have e := H75.resolve_left (fun q => by omega); exact v40_0.open_ (by omega) (by omega) (by omega) (by omega) (F75 277 (by omega)) (by omega) (by omega) e.2.2.2.1)) (by omega) (by have hm := hm_40 (); omega) hW (lv_sub hl [0] rfl)
                    refine x_aload_n hx hb hl 0 rfl dX11_readsCondition_170 rfl ?_
                    refine x_iconst hx hb dX11_readsCondition_171 ?_
                    refine x_aload_n hx hb hl 0 rfl dX11_readsCondition_172 rfl ?_
                    refine x_get (j := 9) (v := .int (xJ (s_92 268 9))) hx hb hown hT hE hW cls_X11 (Or.inl (by decide)) (so_268 h0 g _) (by decide) rfl wq1194 dX11_readsCondition_173 ?_
                    refine x_rd hW (fun x153 ex153 rx153 => ?_)
                    have bx153 : 0 ≤ x153 ∧ x153 ≤ s_92 268 10 ∧ s_92 268 10 ≤ 240 := by rw [ex153]; exact q92_3
                    have q154 : s_92 268 9 = x153 := ex153.symm
                    refine x_goi (x_runV (As := [.int (xJ 1), .int (xJ x153)]) hx hb hml hown hT hE hW hl.1 (Or.inl (by decide)) (so_268 h0 g _) rfl cf_X11_wrongAt wq1401 wq107 wq1399 (c_X11_wrongAtK l D g T h0 s_92 hW.2.1 1 (by decide) x153 rx153 (by omega) q92_0 q92_1 q92_2 q92_3) ⟨rfl, rfl, ⟨by decide, by decide⟩, ⟨by decide, by decide⟩⟩ rfl rfl (Nat.le_of_ble_eq_true rfl) dX11_readsCondition_176) hW (fun x155 s156 H locs rx155 hp157 hW => ?_)
                    obtain ⟨fs156, hp157⟩ := hp157
                    have hF158 := hF_92.call fs156 (fun k h => by omega)
                    have ghp157 := hp157.2
                    rw [eQ]
                    exact x_zret hx hb hr hlk hW (by omega) ⟨hF158, ⟨hp157.1.1, hp157.1.2.1, hp157.1.2.2.1, hp157.1.2.2.2.1, (hp157.1.2.2.2.2.1.trans q92_4), (hp157.1.2.2.2.2.2.1.trans q92_5), (hp157.1.2.2.2.2.2.2.1.trans q92_6), (hp157.1.2.2.2.2.2.2.2.2.1.trans q92_7), (hp157.1.2.2.2.2.2.2.2.2.2.2.2.2.1.trans q92_8), (hp157.1.2.2.2.2.2.2.2.2.2.2.2.2.2.1.trans q92_9), trivial⟩, by
                        have z := v92_0.bad v92_1.2 (by omega) (by omega) (by omega)
                        rw [z2]
                        exact Or.inl ⟨by omega, by omega, by omega⟩⟩ dX11_readsCondition_179
                  refine x_aload_n hx hb hl 0 rfl dX11_readsCondition_101 rfl ?_
                  refine x_iconst hx hb dX11_readsCondition_102 ?_
                  refine x_gov (x_runV (As := [.int (xJ 1)]) hx hb hml hown hT hE hW hl.1 (Or.inl (by decide)) (so_268 h0 g _) rfl cf_X11_lands wq1527 wq128 wq1525 (c_X11_landsK l D g T h0 s_92 hW.2.1 1 (by decide) f9 n9 (s0 268 14) (zC0 f9 n9 (s0 268 9 + 1) (s0 268 14) (s0 277)) (by first | exact hf | exact ⟨by rw [hF_92 276 (by first | decide | omega)]; exact hf.1, by omega⟩) (v92_0) (⟨Or.inr ⟨rfl, by omega⟩, by omega, by omega⟩) q92_0 q92_1 q92_2 q92_3) ⟨rfl, rfl, ⟨by decide, by decide⟩, ⟨by decide, by decide⟩⟩ rfl rfl (Nat.le_of_ble_eq_true rfl) dX11_readsCondition_103) hW (fun s160 H locs hp161 hW => ?_)
                  obtain ⟨fs160, hp161⟩ := hp161
                  have hF162 := hF_92.call fs160 (fun k h => by omega)
                  have ghp161 := hp161.2
                  have H103 := ghp161
                  have b103 := H103.1.b
                  have o103 := H103.1.o
                  refine x_aload_n hx hb hl 0 rfl dX11_readsCondition_106 rfl ?_
                  refine x_aload_n hx hb hl 0 rfl dX11_readsCondition_107 rfl ?_
                  refine x_get (j := 15) (v := .int (xJ (s160 268 15))) hx hb hown hT hE hW cls_X11 (Or.inl (by decide)) (so_268 h0 g _) (by decide) rfl wq1200 dX11_readsCondition_108 ?_
                  refine x_rd hW (fun x163 ex163 rx163 => ?_)
                  have q164 : s160 268 15 = x163 := ex163.symm
                  refine x_iconst hx hb dX11_readsCondition_111 ?_
                  refine x_isub hx hb dX11_readsCondition_112 ?_
                  refine x_put (j := 15) hx hb hown hT hE hW cls_X11 (by decide) (fun σ => so_268 h0 g σ) (by decide) (st_X11_15 h0 s160 268 (x163 - 1)) (ln_X11_15 h0 _ _) wq1200 rfl rfl rfl (by omega) dX11_readsCondition_113 (fun H locs s165 es165 hW => ?_)
                  have q166 : IMn s165 := by rw [es165]; exact IMn_268 hp161.1.1 (by omega)
                  have q167 : IMk s165 := by rw [es165]; exact IMk_268 hp161.1.2.1 (by omega)
                  have q168 : IMo s165 := by rw [es165]; exact IMo_o (by unfold suIMo; first | decide | omega) hp161.1.2.2.1
                  have q169 : IR s165 := by rw [es165]; exact IR_268 hp161.1.2.2.2.1 (by omega)
                  have q170 : s165 268 8 = s0 268 8 := (show s165 268 8 = s160 268 8 from by rw [es165, xU_j _ _ (by decide)]).trans (hp161.1.2.2.2.2.1.trans q92_4)
                  have q171 : s165 268 58 = s0 268 58 := (show s165 268 58 = s160 268 58 from by rw [es165, xU_j _ _ (by decide)]).trans (hp161.1.2.2.2.2.2.1.trans q92_5)
                  have q172 : s165 268 17 = s0 268 17 := (show s165 268 17 = s160 268 17 from by rw [es165, xU_j _ _ (by decide)]).trans (hp161.1.2.2.2.2.2.2.1.trans q92_6)
                  have q173 : s165 268 9 = s_92 268 9 := (show s165 268 9 = s160 268 9 from by rw [es165, xU_j _ _ (by decide)]).trans hp161.1.2.2.2.2.2.2.2.1
                  have q174 : s165 268 10 = s0 268 10 := (show s165 268 10 = s160 268 10 from by rw [es165, xU_j _ _ (by decide)]).trans (hp161.1.2.2.2.2.2.2.2.2.1.trans q92_7)
                  have q175 : s165 268 13 = s_92 268 13 := (show s165 268 13 = s160 268 13 from by rw [es165, xU_j _ _ (by decide)]).trans hp161.1.2.2.2.2.2.2.2.2.2.1
                  have q176 : s165 268 14 = s_92 268 14 := (show s165 268 14 = s160 268 14 from by rw [es165, xU_j _ _ (by decide)]).trans hp161.1.2.2.2.2.2.2.2.2.2.2.1
                  have q177 : s165 268 16 = s0 268 16 := (show s165 268 16 = s160 268 16 from by rw [es165, xU_j _ _ (by decide)]).trans (hp161.1.2.2.2.2.2.2.2.2.2.2.2.1.trans q92_8)
                  have q178 : s165 268 48 = s0 268 48 := (show s165 268 48 = s160 268 48 from by rw [es165, xU_j _ _ (by decide)]).trans (hp161.1.2.2.2.2.2.2.2.2.2.2.2.2.1.trans q92_9)
                  have q179 : s165 268 15 = (x163 - 1) := by rw [es165, xU_s]
                  have hF180 := hF162.put es165 (by omega)
                  have E113 := es165
                  refine x_aload_n hx hb hl 0 rfl dX11_readsCondition_116 rfl ?_
                  refine x_aload_n hx hb hl 0 rfl dX11_readsCondition_117 rfl ?_
                  refine x_get (j := 13) (v := .int (xJ (s165 268 13))) hx hb hown hT hE hW cls_X11 (Or.inl (by decide)) (so_268 h0 g _) (by decide) rfl wq1198 dX11_readsCondition_118 ?_
                  refine x_rd hW (fun x181 ex181 rx181 => ?_)
                  have fx181 : x181 = s_92 268 13 := ex181.trans q175
                  refine x_iconst hx hb dX11_readsCondition_121 ?_
                  refine x_isub hx hb dX11_readsCondition_122 ?_
                  refine x_put (j := 13) hx hb hown hT hE hW cls_X11 (by decide) (fun σ => so_268 h0 g σ) (by decide) (st_X11_13 h0 s165 268 (x181 - 1)) (ln_X11_13 h0 _ _) wq1198 rfl rfl rfl (by omega) dX11_readsCondition_123 (fun H locs s182 es182 hW => ?_)
                  have q183 : IMn s182 := by rw [es182]; exact IMn_268 q166 (by omega)
                  have q184 : IMk s182 := by rw [es182]; exact IMk_268 q167 (by omega)
                  have q185 : IMo s182 := by rw [es182]; exact IMo_o (by unfold suIMo; first | decide | omega) q168
                  have q186 : IR s182 := by rw [es182]; exact IR_268 q169 (by omega)
                  have q187 : s182 268 8 = s0 268 8 := (show s182 268 8 = s165 268 8 from by rw [es182, xU_j _ _ (by decide)]).trans q170
                  have q188 : s182 268 58 = s0 268 58 := (show s182 268 58 = s165 268 58 from by rw [es182, xU_j _ _ (by decide)]).trans q171
                  have q189 : s182 268 17 = s0 268 17 := (show s182 268 17 = s165 268 17 from by rw [es182, xU_j _ _ (by decide)]).trans q172
                  have q190 : s182 268 9 = s_92 268 9 := (show s182 268 9 = s165 268 9 from by rw [es182, xU_j _ _ (by decide)]).trans q173
                  have q191 : s182 268 10 = s0 268 10 := (show s182 268 10 = s165 268 10 from by rw [es182, xU_j _ _ (by decide)]).trans q174
                  have q192 : s182 268 13 = (x181 - 1) := by rw [es182, xU_s]
                  have q193 : s182 268 14 = s_92 268 14 := (show s182 268 14 = s165 268 14 from by rw [es182, xU_j _ _ (by decide)]).trans q176
                  have q194 : s182 268 16 = s0 268 16 := (show s182 268 16 = s165 268 16 from by rw [es182, xU_j _ _ (by decide)]).trans q177
                  have q195 : s182 268 48 = s0 268 48 := (show s182 268 48 = s165 268 48 from by rw [es182, xU_j _ _ (by decide)]).trans q178
                  have q196 : s182 268 15 = (x163 - 1) := (show s182 268 15 = s165 268 15 from by rw [es182, xU_j _ _ (by decide)]).trans q179
                  have hF197 := hF180.put es182 (by omega)
                  have E123 := es182
                  refine x_aload_n hx hb hl 0 rfl dX11_readsCondition_126 rfl ?_
                  refine x_aload_n hx hb hl 0 rfl dX11_readsCondition_127 rfl ?_
                  refine x_get (j := 9) (v := .int (xJ (s182 268 9))) hx hb hown hT hE hW cls_X11 (Or.inl (by decide)) (so_268 h0 g _) (by decide) rfl wq1194 dX11_readsCondition_128 ?_
                  refine x_rd hW (fun x198 ex198 rx198 => ?_)
                  have bx198 : 0 ≤ x198 ∧ x198 ≤ s182 268 10 ∧ s182 268 10 ≤ 240 := by rw [ex198]; exact q186
                  have fx198 : x198 = s_92 268 9 := ex198.trans q190
                  refine x_iconst hx hb dX11_readsCondition_131 ?_
                  refine x_iadd hx hb dX11_readsCondition_132 ?_
                  refine x_put (j := 9) hx hb hown hT hE hW cls_X11 (by decide) (fun σ => so_268 h0 g σ) (by decide) (st_X11_9 h0 s182 268 (x198 + 1)) (ln_X11_9 h0 _ _) wq1194 rfl rfl rfl (by omega) dX11_readsCondition_133 (fun H locs s199 es199 hW => ?_)
                  have q200 : IMn s199 := by rw [es199]; exact IMn_268 q183 (by omega)
                  have q201 : IMk s199 := by rw [es199]; exact IMk_268 q184 (by omega)
                  have q202 : IMo s199 := by rw [es199]; exact IMo_o (by unfold suIMo; first | decide | omega) q185
                  have q203 : IR s199 := by rw [es199]; exact IR_268 q186 (by omega)
                  have q204 : s199 268 8 = s0 268 8 := (show s199 268 8 = s182 268 8 from by rw [es199, xU_j _ _ (by decide)]).trans q187
                  have q205 : s199 268 58 = s0 268 58 := (show s199 268 58 = s182 268 58 from by rw [es199, xU_j _ _ (by decide)]).trans q188
                  have q206 : s199 268 17 = s0 268 17 := (show s199 268 17 = s182 268 17 from by rw [es199, xU_j _ _ (by decide)]).trans q189
                  have q207 : s199 268 9 = (x198 + 1) := by rw [es199, xU_s]
                  have q208 : s199 268 10 = s0 268 10 := (show s199 268 10 = s182 268 10 from by rw [es199, xU_j _ _ (by decide)]).trans q191
                  have q209 : s199 268 13 = (x181 - 1) := (show s199 268 13 = s182 268 13 from by rw [es199, xU_j _ _ (by decide)]).trans q192
                  have q210 : s199 268 14 = s_92 268 14 := (show s199 268 14 = s182 268 14 from by rw [es199, xU_j _ _ (by decide)]).trans q193
                  have q211 : s199 268 16 = s0 268 16 := (show s199 268 16 = s182 268 16 from by rw [es199, xU_j _ _ (by decide)]).trans q194
                  have q212 : s199 268 48 = s0 268 48 := (show s199 268 48 = s182 268 48 from by rw [es199, xU_j _ _ (by decide)]).trans q195
                  have q213 : s199 268 15 = (x163 - 1) := (show s199 268 15 = s182 268 15 from by rw [es199, xU_j _ _ (by decide)]).trans q196
                  have hF214 := hF197.put es199 (by omega)
                  have E133 := es199
                  have X133 : zCQ f9 n9 (s0 268 14) (zC0 f9 n9 (s0 268 9 + 1) (s0 268 14) (s0 277)) false s199 := H103.1.shut (by omega) (by rw [show s160 268 9 = s_92 268 9 from by omega]; omega) (by omega) (by omega) (by rw [E133, xU_k _ _ _ (by first | decide | omega), E123, xU_k _ _ _ (by first | decide | omega), E113, xU_k _ _ _ (by first | decide | omega)]) (by omega) (by omega) (by rw [E133, xU_k _ _ _ (by first | decide | omega), E123, xU_k _ _ _ (by first | decide | omega), E113, xU_k _ _ _ (by first | decide | omega)])
                  refine x_aload_n hx hb hl 0 rfl dX11_readsCondition_136 rfl ?_
                  refine x_get (j := 15) (v := .int (xJ (s199 268 15))) hx hb hown hT hE hW cls_X11 (Or.inl (by decide)) (so_268 h0 g _) (by decide) rfl wq1200 dX11_readsCondition_137 ?_
                  refine x_rd hW (fun x215 ex215 rx215 => ?_)
                  have fx215 : x215 = (x163 - 1) := ex215.trans q213
                  refine x_if_ne (tgt := 145) hx hb rx215 dX11_readsCondition_140 (by decide) (fun c216 => ?_) (fun c216 => ?_)
                  · skip
                    refine x_aload_n hx hb hl 0 rfl dX11_readsCondition_145 rfl ?_
                    refine x_gov (x_runV (As := []) hx hb hml hown hT hE hW hl.1 (Or.inl (by decide)) (so_268 h0 g _) rfl cf_X11_endsPiece wq1523 wq127 wq1521 (c_X11_endsPieceK l D g T h0 s199 hW.2.1 f9 n9 (s0 268 14) (zC0 f9 n9 (s0 268 9 + 1) (s0 268 14) (s0 277)) (by first | exact hf | exact ⟨by rw [hF214 276 (by first | decide | omega)]; exact hf.1, by omega⟩) (X133) (by have y := X133.b; omega) q200 q201 q202 q203) ⟨rfl, rfl, ⟨by decide, by decide⟩, ⟨by decide, by decide⟩⟩ rfl rfl (Nat.le_of_ble_eq_true rfl) dX11_readsCondition_146) hW (fun s218 H locs hp219 hW => ?_)
                    obtain ⟨fs218, hp219⟩ := hp219
                    have hF220 := hF214.call fs218 (fun k h => by omega)
                    have ghp219 := hp219.2
                    have H146 := ghp219
                    refine lv_goto (tgt := 92) hx hb dX11_readsCondition_149 (by decide) ?_
                    exact ih92 s218 H locs ls hF220 hp219.1.1 hp219.1.2.1 hp219.1.2.2.1 hp219.1.2.2.2.1 (hp219.1.2.2.2.2.1.trans q204) (hp219.1.2.2.2.2.2.1.trans q205) (hp219.1.2.2.2.2.2.2.1.trans q206) (hp219.1.2.2.2.2.2.2.2.2.1.trans q208) (hp219.1.2.2.2.2.2.2.2.2.2.1.trans q211) (hp219.1.2.2.2.2.2.2.2.2.2.2.1.trans q212) (H146.1) (⟨H146.2.1, H146.2.2⟩) (by omega) (by have hm := hm_92 (); omega) hW (lv_sub hl [0] rfl)
                  refine x_iconst hx hb dX11_readsCondition_143 ?_
                  rw [eQ]
                  exact x_zret hx hb hr hlk hW (by omega) ⟨hF214, ⟨q200, q201, q202, q203, q204, q205, q206, q208, q211, q212, trivial⟩, by
                      have z := X133.fin (by omega)
                      rw [z2, z]
                      exact Or.inr ⟨by omega, rfl, by omega⟩⟩ dX11_readsCondition_144
              exact L92 ((241 - s65 268 9 : Int).toNat + 1) s65 H locs ls hF67 hp66.1.1 hp66.1.2.1 hp66.1.2.2.1 hp66.1.2.2.2.1 (hp66.1.2.2.2.2.1.trans q40_4) (hp66.1.2.2.2.2.2.1.trans q40_5) (hp66.1.2.2.2.2.2.2.1.trans q40_6) (hp66.1.2.2.2.2.2.2.2.1.trans q40_7) (hp66.1.2.2.2.2.2.2.2.2.1.trans q40_9) (hp66.1.2.2.2.2.2.2.2.2.2.1.trans q40_10) ((H84.resolve_left (fun q => by omega)).2.1) (⟨(H84.resolve_left (fun q => by omega)).2.2.1, (H84.resolve_left (fun q => by omega)).2.2.2.1⟩) (by omega) (Nat.lt_succ_self _) hW (lv_sub hl [0] rfl)
            refine x_iconst hx hb dX11_readsCondition_90 ?_
            rw [eQ]
            exact x_zret hx hb hr hlk hW (by omega) ⟨hF67, ⟨hp66.1.1, hp66.1.2.1, hp66.1.2.2.1, hp66.1.2.2.2.1, (hp66.1.2.2.2.2.1.trans q40_4), (hp66.1.2.2.2.2.2.1.trans q40_5), (hp66.1.2.2.2.2.2.2.1.trans q40_6), (hp66.1.2.2.2.2.2.2.2.1.trans q40_7), (hp66.1.2.2.2.2.2.2.2.2.1.trans q40_9), (hp66.1.2.2.2.2.2.2.2.2.2.1.trans q40_10), trivial⟩, by
                have e := H84.resolve_right (fun q => by omega)
                rw [z2]
                exact Or.inl ⟨by omega, e.2.1, e.2.2⟩⟩ dX11_readsCondition_91
          refine x_aload_n hx hb hl 0 rfl dX11_readsCondition_58 rfl ?_
          refine x_aload_n hx hb hl 0 rfl dX11_readsCondition_59 rfl ?_
          refine x_goi (x_runV (As := []) hx hb hml hown hT hE hW hl.1 (Or.inl (by decide)) (so_268 h0 g _) rfl cf_X11_here wq1391 wq106 wq1389 (c_X11_here l D g T h0 s_40 hW.2.1 q40_0 q40_1 q40_2 q40_3) ⟨rfl, rfl, ⟨by decide, by decide⟩, ⟨by decide, by decide⟩⟩ rfl rfl (Nat.le_of_ble_eq_true rfl) dX11_readsCondition_60) hW (fun x221 s222 H locs rx221 hp223 hW => ?_)
          obtain ⟨es222, hp223⟩ := hp223
          subst es222
          have ghp223 := hp223
          have C60 : x221 = zch f9 n9 (s_40 268 9) := by
            have q8 := ghp223.1
            rw [zhC_ch, show s_40 276 = s0 276 from hF_40 276 (by first | decide | omega), hf.1, show s_40 268 10 = n9 from by omega] at q8
            exact q8
          refine x_bipush hx hb dX11_readsCondition_63 (by decide) ?_
          refine x_icmp_ne (tgt := 73) hx hb rx221 (by decide) dX11_readsCondition_65 (by decide) (fun c224 => ?_) (fun c224 => ?_)
          · skip
            refine x_bipush hx hb dX11_readsCondition_73 (by decide) ?_
            refine x_goi (x_runV (As := [.int (xJ 13)]) hx hb hml hown hT hE hW hl.1 (Or.inl (by decide)) (so_268 h0 g _) rfl cf_X11_opens wq1480 wq118 wq1478 (c_X11_opensK l D g T h0 s_40 hW.2.1 13 (by decide) (by omega) (by omega) (by omega) (by omega) q40_0 q40_1 q40_2 q40_3) ⟨rfl, rfl, ⟨by decide, by decide⟩, ⟨by decide, by decide⟩⟩ rfl rfl (Nat.le_of_ble_eq_true rfl) dX11_readsCondition_75) hW (fun x225 s226 H locs rx225 hp227 hW => ?_)
            obtain ⟨fs226, hp227⟩ := hp227
            have hF228 := hF_40.call fs226 (fun k h => by omega)
            have ghp227 := hp227.2
            have H75 := ghp227
            have F75 := fs226
            refine x_if_ne (tgt := 40) hx hb rx225 dX11_readsCondition_78 (by decide) (fun c229 => ?_) (fun c229 => ?_)
            · skip
              exact ih40 s226 H locs ls hF228 hp227.1.1 hp227.1.2.1 hp227.1.2.2.1 hp227.1.2.2.2.1 (hp227.1.2.2.2.2.1.trans q40_4) (hp227.1.2.2.2.2.2.1.trans q40_5) (hp227.1.2.2.2.2.2.2.1.trans q40_6) (hp227.1.2.2.2.2.2.2.2.1.trans q40_7) (hp227.1.2.2.2.2.2.2.2.2.2.1.trans q40_9) (hp227.1.2.2.2.2.2.2.2.2.2.2.1.trans q40_10) (by first | exact H215.1 | (have e := H75.resolve_left (fun q => by omega); exact v40_0.open_ (by omega) (by omega) (by omega) (by omega) (F75 277 (by omega)) (by omega) (by omega) e.2.2.2.1)) (by omega) (by have hm := hm_40 (); omega) hW (lv_sub hl [0] rfl)
            refine x_iconst hx hb dX11_readsCondition_81 ?_
            rw [eQ]
            exact x_zret hx hb hr hlk hW (by omega) ⟨hF228, ⟨hp227.1.1, hp227.1.2.1, hp227.1.2.2.1, hp227.1.2.2.2.1, (hp227.1.2.2.2.2.1.trans q40_4), (hp227.1.2.2.2.2.2.1.trans q40_5), (hp227.1.2.2.2.2.2.2.1.trans q40_6), (hp227.1.2.2.2.2.2.2.2.1.trans q40_7), (hp227.1.2.2.2.2.2.2.2.2.2.1.trans q40_9), (hp227.1.2.2.2.2.2.2.2.2.2.2.1.trans q40_10), trivial⟩, by
                have e := H75.resolve_right (fun q => by omega)
                have z := v40_0.1.five (by omega) (by rw [← v40_0.2.2.1]; omega)
                rw [z2, z]
                exact Or.inl ⟨by omega, (by show (-5000 - _ : Int) ≠ 0; omega), (by show _ = (-5000 - _ : Int); omega)⟩⟩ dX11_readsCondition_82
          refine x_bipush hx hb dX11_readsCondition_68 (by decide) ?_
          refine lv_goto (tgt := 75) hx hb dX11_readsCondition_70 (by decide) ?_
          refine x_goi (x_runV (As := [.int (xJ 10)]) hx hb hml hown hT hE hW hl.1 (Or.inl (by decide)) (so_268 h0 g _) rfl cf_X11_opens wq1480 wq118 wq1478 (c_X11_opensK l D g T h0 s_40 hW.2.1 10 (by decide) (by omega) (by omega) (by omega) (by omega) q40_0 q40_1 q40_2 q40_3) ⟨rfl, rfl, ⟨by decide, by decide⟩, ⟨by decide, by decide⟩⟩ rfl rfl (Nat.le_of_ble_eq_true rfl) dX11_readsCondition_75) hW (fun x230 s231 H locs rx230 hp232 hW => ?_)
          obtain ⟨fs231, hp232⟩ := hp232
          have hF233 := hF_40.call fs231 (fun k h => by omega)
          have ghp232 := hp232.2
          have H75 := ghp232
          have F75 := fs231
          refine x_if_ne (tgt := 40) hx hb rx230 dX11_readsCondition_78 (by decide) (fun c234 => ?_) (fun c234 => ?_)
          · skip
            exact ih40 s231 H locs ls hF233 hp232.1.1 hp232.1.2.1 hp232.1.2.2.1 hp232.1.2.2.2.1 (hp232.1.2.2.2.2.1.trans q40_4) (hp232.1.2.2.2.2.2.1.trans q40_5) (hp232.1.2.2.2.2.2.2.1.trans q40_6) (hp232.1.2.2.2.2.2.2.2.1.trans q40_7) (hp232.1.2.2.2.2.2.2.2.2.2.1.trans q40_9) (hp232.1.2.2.2.2.2.2.2.2.2.2.1.trans q40_10) (by first | exact H215.1 | (have e := H75.resolve_left (fun q => by omega); exact v40_0.open_ (by omega) (by omega) (by omega) (by omega) (F75 277 (by omega)) (by omega) (by omega) e.2.2.2.1)) (by omega) (by have hm := hm_40 (); omega) hW (lv_sub hl [0] rfl)
          refine x_iconst hx hb dX11_readsCondition_81 ?_
          rw [eQ]
          exact x_zret hx hb hr hlk hW (by omega) ⟨hF233, ⟨hp232.1.1, hp232.1.2.1, hp232.1.2.2.1, hp232.1.2.2.2.1, (hp232.1.2.2.2.2.1.trans q40_4), (hp232.1.2.2.2.2.2.1.trans q40_5), (hp232.1.2.2.2.2.2.2.1.trans q40_6), (hp232.1.2.2.2.2.2.2.2.1.trans q40_7), (hp232.1.2.2.2.2.2.2.2.2.2.1.trans q40_9), (hp232.1.2.2.2.2.2.2.2.2.2.2.1.trans q40_10), trivial⟩, by
              have e := H75.resolve_right (fun q => by omega)
              have z := v40_0.1.five (by omega) (by rw [← v40_0.2.2.1]; omega)
              rw [z2, z]
              exact Or.inl ⟨by omega, (by show (-5000 - _ : Int) ≠ 0; omega), (by show _ = (-5000 - _ : Int); omega)⟩⟩ dX11_readsCondition_82
      exact L40 ((241 - s38 268 9 : Int).toNat + 1) s38 H locs ls hF40 hp39.1.1 hp39.1.2.1 hp39.1.2.2.1 hp39.1.2.2.2.1 (hp39.1.2.2.2.2.1.trans q26) (hp39.1.2.2.2.2.2.1.trans q27) (hp39.1.2.2.2.2.2.2.1.trans q28) (hp39.1.2.2.2.2.2.2.2.1.trans q29) (hp39.1.2.2.2.2.2.2.2.2.2.1.trans q30) (hp39.1.2.2.2.2.2.2.2.2.2.2.1.trans q31) (Z32 (by omega)) (by omega) (Nat.lt_succ_self _) hW (lv_sub hl [0] rfl)
    refine x_iconst hx hb dX11_readsCondition_38 ?_
    rw [eQ]
    exact x_zret hx hb hr hlk hW (by omega) ⟨hF40, ⟨hp39.1.1, hp39.1.2.1, hp39.1.2.2.1, hp39.1.2.2.2.1, (hp39.1.2.2.2.2.1.trans q26), (hp39.1.2.2.2.2.2.1.trans q27), (hp39.1.2.2.2.2.2.2.1.trans q28), (hp39.1.2.2.2.2.2.2.2.1.trans q29), (hp39.1.2.2.2.2.2.2.2.2.2.1.trans q30), (hp39.1.2.2.2.2.2.2.2.2.2.2.1.trans q31), trivial⟩, by exfalso; omega⟩ dX11_readsCondition_39
  refine x_aload_n hx hb hl 0 rfl dX11_readsCondition_9 rfl ?_
  refine x_iconst hx hb dX11_readsCondition_10 ?_
  refine x_aload_n hx hb hl 0 rfl dX11_readsCondition_11 rfl ?_
  refine x_get (j := 9) (v := .int (xJ (s0 268 9))) hx hb hown hT hE hW cls_X11 (Or.inl (by decide)) (so_268 h0 g _) (by decide) rfl wq1194 dX11_readsCondition_12 ?_
  refine x_rd hW (fun x235 ex235 rx235 => ?_)
  have bx235 : 0 ≤ x235 ∧ x235 ≤ s0 268 10 ∧ s0 268 10 ≤ 240 := by rw [ex235]; exact p3
  have fx235 : x235 = s0 268 9 := ex235.trans k268_9
  refine x_goi (x_runV (As := [.int (xJ 1), .int (xJ x235)]) hx hb hml hown hT hE hW hl.1 (Or.inl (by decide)) (so_268 h0 g _) rfl cf_X11_wrongAt wq1401 wq107 wq1399 (c_X11_wrongAtK l D g T h0 s0 hW.2.1 1 (by decide) x235 rx235 (by omega) p0 p1 p2 p3) ⟨rfl, rfl, ⟨by decide, by decide⟩, ⟨by decide, by decide⟩⟩ rfl rfl (Nat.le_of_ble_eq_true rfl) dX11_readsCondition_15) hW (fun x236 s237 H locs rx236 hp238 hW => ?_)
  obtain ⟨fs237, hp238⟩ := hp238
  have hF239 := hF.call fs237 (fun k h => by omega)
  have ghp238 := hp238.2
  rw [eQ]
  exact x_zret hx hb hr hlk hW (by omega) ⟨hF239, ⟨hp238.1.1, hp238.1.2.1, hp238.1.2.2.1, hp238.1.2.2.2.1, (hp238.1.2.2.2.2.1.trans k268_8), (hp238.1.2.2.2.2.2.1.trans k268_58), (hp238.1.2.2.2.2.2.2.1.trans k268_17), (hp238.1.2.2.2.2.2.2.2.2.1.trans k268_10), (hp238.1.2.2.2.2.2.2.2.2.2.2.2.2.1.trans k268_16), (hp238.1.2.2.2.2.2.2.2.2.2.2.2.2.2.1.trans k268_48), trivial⟩, by
    have z : (zc2 f9 n9 (s0 268 9) (s0 268 14) (s0 277)) = (-1000 - s0 268 9, s0 268 9, s0 268 14, s0 277) := by unfold zc2; rw [if_pos (by omega)]
    rw [z]
    exact Or.inl ⟨by omega, (by show (-1000 - _ : Int) ≠ 0; omega), (by show _ = (-1000 - _ : Int); omega)⟩⟩ dX11_readsCondition_18
