set_option maxHeartbeats 4000000 in
set_option maxRecDepth 100000 in
theorem c_X11_shadesGo (l : Launch) (D : va_G) (g : xG) (T : Nat × Nat × Nat) (h0 : Nat) (s0 : xS) (hσ : xRR s0) (hz : s0 269 37 < 9999) (p0 : IMn s0) (p1 : IMk s0) (p2 : IMo s0) : Met l yX11_shadesGo (xws yX11_shadesGo cX11_shadesGo 6 none) { frames := 7, cells := 0, slots := 0, locals := 162 } (xP [.ref (h0 + 268)] D g T h0 s0) (xQv D g h0 (fun τ => xFr (fun k => k = 268 ∨ k = 269 ∨ k = 293 ∨ k = 294 ∨ k = 295 ∨ k = 296 ∨ k = 297 ∨ k = 298 ∨ k = 299) s0 τ ∧ (((IMn τ) ∧ (IMk τ) ∧ (IMo τ) ∧ (τ 268 8 = s0 268 8) ∧ (τ 268 58 = s0 268 58) ∧ True) ∧ (τ 269 37 = s0 269 37 + 1)))) 0 0 (xA h0) := by
  refine x_met hσ (by decide) (Nat.le_of_ble_eq_true rfl) ?_
  intro p e s m args below meth c hx hb hr hml hown hT hlk hnm hE hW ls hl
  have hl : lv_has ls 6 [(0, .ref (h0 + 268))] := hl
  obtain ⟨Q, eQ⟩ : ∃ Q, Q = MQ below (xQv D g h0 (fun τ => xFr (fun k => k = 268 ∨ k = 269 ∨ k = 293 ∨ k = 294 ∨ k = 295 ∨ k = 296 ∨ k = 297 ∨ k = 298 ∨ k = 299) s0 τ ∧ (((IMn τ) ∧ (IMk τ) ∧ (IMo τ) ∧ (τ 268 8 = s0 268 8) ∧ (τ 268 58 = s0 268 58) ∧ True) ∧ (τ 269 37 = s0 269 37 + 1)))) args s 0 0 (xA h0) := ⟨_, rfl⟩
  rw [← eQ]
  generalize hHe : ([] : List Loc) = locs at hW ⊢
  obtain ⟨H, eH⟩ : ∃ H, H = s.heap := ⟨_, rfl⟩
  rw [← eH] at hW ⊢
  have hF : xFr (fun k => k = 268 ∨ k = 269 ∨ k = 293 ∨ k = 294 ∨ k = 295 ∨ k = 296 ∨ k = 297 ∨ k = 298 ∨ k = 299) s0 s0 := xFr.rf
  have k268_8 : s0 268 8 = s0 268 8 := rfl
  have k268_58 : s0 268 58 = s0 268 58 := rfl
  have k269_37 : s0 269 37 = s0 269 37 := rfl
  refine x_aload_n hx hb hl 0 rfl dX11_shadesGo_0 rfl ?_
  refine x_goi (x_runV (As := []) hx hb hml hown hT hE hW hl.1 (Or.inl (by decide)) (so_268 h0 g _) rfl cf_X11_draws wq1568 wq135 wq1566 (c_X11_draws l D g T h0 s0 hW.2.1 p0 p1 p2) ⟨rfl, rfl, ⟨by decide, by decide⟩, ⟨by decide, by decide⟩⟩ rfl rfl (Nat.le_of_ble_eq_true rfl) dX11_shadesGo_1) hW (fun x1 s2 H locs rx1 hp3 hW => ?_)
  obtain ⟨fs2, hp3⟩ := hp3
  have hF4 := hF.call fs2 (fun k h => by omega)
  have q5 : s2 268 8 = s0 268 8 := (congrFun (fs2 _ (by omega)) _).trans k268_8
  have q6 : s2 268 58 = s0 268 58 := (congrFun (fs2 _ (by omega)) _).trans k268_58
  have ghp3 := hp3.2
  refine lv_istore_n (lv' := [(1, .int (xJ x1)), (0, .ref (h0 + 268))]) hx hb dX11_shadesGo_4 rfl hl (by decide) rfl (fun ls hl => ?_)
  refine x_aload_n hx hb hl 1 rfl dX11_shadesGo_5 rfl ?_
  refine x_aload_n hx hb hl 1 rfl dX11_shadesGo_6 rfl ?_
  refine x_get (j := 0) (v := .ref (h0 + 269)) hx hb hown hT hE hW cls_X11 (Or.inl (by decide)) (so_268 h0 g _) (by decide) rfl wq1185 dX11_shadesGo_7 ?_
  refine x_bipush hx hb dX11_shadesGo_10 (by decide) ?_
  refine x_iald hx hb hE hW (Or.inl (by decide)) (sa_269 h0 g _) ⟨by decide, by decide⟩ (by decide) dX11_shadesGo_12 ?_
  refine x_rd hW (fun x7 ex7 rx7 => ?_)
  have bx7 : 0 ≤ x7 ∧ x7 ≤ 9999 := by rw [ex7]; exact (IMn.n1 hp3.1.1).2.2.2.1
  have fx7 : x7 = s0 269 37 := ex7.trans (hp3.1.2.2.2.1.trans k269_37)
  refine x_gov (x_runV (As := [.int (xJ x7)]) hx hb hml hown hT hE hW hl.1 (Or.inl (by decide)) (so_268 h0 g _) rfl cf_X11_feels wq1573 wq136 wq1571 (c_X11_feels l D g T h0 s2 hW.2.1 x7 rx7 hp3.1.1 hp3.1.2.1 hp3.1.2.2.1) ⟨rfl, rfl, ⟨by decide, by decide⟩, ⟨by decide, by decide⟩⟩ rfl rfl (Nat.le_of_ble_eq_true rfl) dX11_shadesGo_13) hW (fun s9 H locs hp10 hW => ?_)
  obtain ⟨fs9, hp10⟩ := hp10
  have hF11 := hF4.call fs9 (fun k h => by omega)
  have q12 : s9 268 8 = s0 268 8 := (congrFun (fs9 _ (by omega)) _).trans q5
  have q13 : s9 268 58 = s0 268 58 := (congrFun (fs9 _ (by omega)) _).trans q6
  have q14 : s9 269 37 = s0 269 37 := (congrFun (fs9 _ (by omega)) _).trans (hp3.1.2.2.2.1.trans k269_37)
  have ghp10 := hp10.2
  refine x_iload_n hx hb hl 0 rfl dX11_shadesGo_16 rfl ?_
  refine x_aload_n hx hb hl 1 rfl dX11_shadesGo_17 rfl ?_
  refine x_bipush hx hb dX11_shadesGo_18 (by decide) ?_
  refine x_bipush hx hb dX11_shadesGo_20 (by decide) ?_
  refine x_goi (x_runV (As := [.int (xJ 99), .int (xJ 10)]) hx hb hml hown hT hE hW hl.1 (Or.inl (by decide)) (so_268 h0 g _) rfl cf_X11_byLaw wq1577 wq137 wq1575 (c_X11_byLaw l D g T h0 s9 hW.2.1 99 (by decide) 10 (by decide) hp10.1.1 hp10.1.2.1 hp10.1.2.2.1) ⟨rfl, rfl, ⟨by decide, by decide⟩, ⟨by decide, by decide⟩⟩ rfl rfl (Nat.le_of_ble_eq_true rfl) dX11_shadesGo_22) hW (fun x15 s16 H locs rx15 hp17 hW => ?_)
  obtain ⟨fs16, hp17⟩ := hp17
  have hF18 := hF11.call fs16 (fun k h => by omega)
  have q19 : s16 268 8 = s0 268 8 := (congrFun (fs16 _ (by omega)) _).trans q12
  have q20 : s16 268 58 = s0 268 58 := (congrFun (fs16 _ (by omega)) _).trans q13
  have q21 : s16 269 37 = s0 269 37 := (congrFun (fs16 _ (by omega)) _).trans q14
  have ghp17 := hp17.2
  have J33 : ∀ (t0_33 : Int) (ls : Array Slot), (xR t0_33) → (t0_33 = 0 ∨ t0_33 = 1) → lv_has ls 6 [(0, .ref (h0 + 268))] → W p l e { frames := 7, cells := 0, slots := 0, locals := 162 } s m args below meth c H locs 0 0 Q (F0 m 33 ls [.int (xJ t0_33)]) := by
    intro t0_33 ls rt0_33 v33_0  hl
    refine lv_istore_n (lv' := [(2, .int (xJ t0_33)), (0, .ref (h0 + 268))]) hx hb dX11_shadesGo_33 rfl hl (by decide) rfl (fun ls hl => ?_)
    refine x_aload_n hx hb hl 1 rfl dX11_shadesGo_34 rfl ?_
    refine x_aload_n hx hb hl 1 rfl dX11_shadesGo_35 rfl ?_
    refine x_get (j := 43) (v := .int (xJ (s16 268 43))) hx hb hown hT hE hW cls_X11 (Or.inl (by decide)) (so_268 h0 g _) (by decide) rfl wq1228 dX11_shadesGo_36 ?_
    refine x_rd hW (fun x22 ex22 rx22 => ?_)
    refine x_iload_n hx hb hl 0 rfl dX11_shadesGo_39 rfl ?_
    have J48 : ∀ (t0_48 : Int) (ls : Array Slot), (xR t0_48) → lv_has ls 6 [(0, .ref (h0 + 268)), (2, .int (xJ t0_33))] → W p l e { frames := 7, cells := 0, slots := 0, locals := 162 } s m args below meth c H locs 0 0 Q (F0 m 48 ls [.int (xJ t0_48), .int (xJ x22), .ref (h0 + 268)]) := by
      intro t0_48 ls rt0_48  hl
      refine x_iadd hx hb dX11_shadesGo_48 ?_
      refine x_any (fun x23 rx23 => ?_)
      refine x_put (j := 43) hx hb hown hT hE hW cls_X11 (by decide) (fun σ => so_268 h0 g σ) (by decide) (st_X11_43 h0 s16 268 x23) (ln_X11_43 h0 _ _) wq1228 rfl rfl rfl rx23 dX11_shadesGo_49 (fun H locs s24 es24 hW => ?_)
      have q25 : s24 268 8 = s0 268 8 := (show s24 268 8 = s16 268 8 from by rw [es24, xU_j _ _ (by decide)]).trans q19
      have q26 : s24 268 58 = s0 268 58 := (show s24 268 58 = s16 268 58 from by rw [es24, xU_j _ _ (by decide)]).trans q20
      have q27 : s24 269 37 = s0 269 37 := (show s24 269 37 = s16 269 37 from by rw [es24, xU_k _ _ _ (by omega)]).trans q21
      have q28 : IMn s24 := by rw [es24]; exact IMn_268 hp17.1.1 (by omega)
      have q29 : IMk s24 := by rw [es24]; exact IMk_268 hp17.1.2.1 (by omega)
      have q30 : IMo s24 := by rw [es24]; exact IMo_o (by unfold suIMo; omega) hp17.1.2.2.1
      have hF31 := hF18.put es24 (by omega)
      refine x_aload_n hx hb hl 0 rfl dX11_shadesGo_52 rfl ?_
      refine x_aload_n hx hb hl 0 rfl dX11_shadesGo_53 rfl ?_
      refine x_get (j := 0) (v := .ref (h0 + 269)) hx hb hown hT hE hW cls_X11 (Or.inl (by decide)) (so_268 h0 g _) (by decide) rfl wq1185 dX11_shadesGo_54 ?_
      refine x_bipush hx hb dX11_shadesGo_57 (by decide) ?_
      refine x_iald hx hb hE hW (Or.inl (by decide)) (sa_269 h0 g _) ⟨by decide, by decide⟩ (by decide) dX11_shadesGo_59 ?_
      refine x_rd hW (fun x32 ex32 rx32 => ?_)
      have bx32 : 0 ≤ x32 ∧ x32 ≤ 9999 := by rw [ex32]; exact (IMn.n1 q28).2.2.2.1
      have fx32 : x32 = s0 269 37 := ex32.trans q27
      refine x_iload_n hx hb hl 1 rfl dX11_shadesGo_60 rfl ?_
      refine x_gov (x_runV (As := [.int (xJ x32), .int (xJ t0_33)]) hx hb hml hown hT hE hW hl.1 (Or.inl (by decide)) (so_268 h0 g _) rfl cf_X11_laysShades wq1588 wq139 wq1586 (c_X11_laysShades l D g T h0 s24 hW.2.1 x32 rx32 t0_33 rt0_33 q28 q29 q30) ⟨rfl, rfl, ⟨by decide, by decide⟩, ⟨by decide, by decide⟩⟩ rfl rfl (Nat.le_of_ble_eq_true rfl) dX11_shadesGo_61) hW (fun s34 H locs hp35 hW => ?_)
      obtain ⟨fs34, hp35⟩ := hp35
      have hF36 := hF31.call fs34 (fun k h => by omega)
      have q37 : s34 268 8 = s0 268 8 := (congrFun (fs34 _ (by omega)) _).trans q25
      have q38 : s34 268 58 = s0 268 58 := (congrFun (fs34 _ (by omega)) _).trans q26
      have q39 : s34 269 37 = s0 269 37 := (congrFun (fs34 _ (by omega)) _).trans q27
      have ghp35 := hp35.2
      refine x_aload_n hx hb hl 0 rfl dX11_shadesGo_64 rfl ?_
      refine x_aload_n hx hb hl 0 rfl dX11_shadesGo_65 rfl ?_
      refine x_get (j := 0) (v := .ref (h0 + 269)) hx hb hown hT hE hW cls_X11 (Or.inl (by decide)) (so_268 h0 g _) (by decide) rfl wq1185 dX11_shadesGo_66 ?_
      refine x_bipush hx hb dX11_shadesGo_69 (by decide) ?_
      refine x_iald hx hb hE hW (Or.inl (by decide)) (sa_269 h0 g _) ⟨by decide, by decide⟩ (by decide) dX11_shadesGo_71 ?_
      refine x_rd hW (fun x40 ex40 rx40 => ?_)
      have bx40 : 0 ≤ x40 ∧ x40 ≤ 9999 := by rw [ex40]; exact (IMn.n1 hp35.1.1).2.2.2.1
      have fx40 : x40 = s0 269 37 := ex40.trans q39
      refine x_goi (x_runV (As := [.int (xJ x40)]) hx hb hml hown hT hE hW hl.1 (Or.inl (by decide)) (so_268 h0 g _) rfl cf_X11_isNight wq1604 wq143 wq1602 (c_X11_isNight l D g T h0 s34 hW.2.1 x40 rx40 hp35.1.1 hp35.1.2.1 hp35.1.2.2.1) ⟨rfl, rfl, ⟨by decide, by decide⟩, ⟨by decide, by decide⟩⟩ rfl rfl (Nat.le_of_ble_eq_true rfl) dX11_shadesGo_72) hW (fun x41 s42 H locs rx41 hp43 hW => ?_)
      obtain ⟨fs42, hp43⟩ := hp43
      have hF44 := hF36.call fs42 (fun k h => by omega)
      have q45 : s42 268 8 = s0 268 8 := (congrFun (fs42 _ (by omega)) _).trans q37
      have q46 : s42 268 58 = s0 268 58 := (congrFun (fs42 _ (by omega)) _).trans q38
      have q47 : s42 269 37 = s0 269 37 := (congrFun (fs42 _ (by omega)) _).trans q39
      have ghp43 := hp43.2
      refine lv_istore_n (lv' := [(3, .int (xJ x41)), (0, .ref (h0 + 268)), (2, .int (xJ t0_33))]) hx hb dX11_shadesGo_75 rfl hl (by decide) rfl (fun ls hl => ?_)
      refine x_iconst hx hb dX11_shadesGo_76 ?_
      refine lv_istore (lv' := [(4, .int (xJ 0)), (3, .int (xJ x41)), (0, .ref (h0 + 268)), (2, .int (xJ t0_33))]) hx hb dX11_shadesGo_77 hl (by decide) rfl (fun ls hl => ?_)
      have L79 : ∀ (fu : Nat) (i4_79 : Int) (s_79 : xS) (H : Heap) (locs : List Loc) (ls : Array Slot), (xR i4_79) → (xFr (fun k => k = 268 ∨ k = 269 ∨ k = 293 ∨ k = 294 ∨ k = 295 ∨ k = 296 ∨ k = 297 ∨ k = 298 ∨ k = 299) s0 s_79) → (s_79 268 8 = s0 268 8) → (s_79 268 58 = s0 268 58) → (s_79 269 37 = s0 269 37) → (IMn s_79) → (IMk s_79) → (IMo s_79) → (0 ≤ i4_79) → (i4_79 ≤ 100) → (100 + 1 - i4_79).toNat < fu → xW D g h0 s H locs s_79 → lv_has ls 6 [(0, .ref (h0 + 268)), (3, .int (xJ x41)), (4, .int (xJ i4_79))] → W p l e { frames := 7, cells := 0, slots := 0, locals := 162 } s m args below meth c H locs 0 0 Q (F0 m 79 ls []) := by
        intro fu
        induction fu with
        | zero => intro i4_79 s_79 H locs ls ri4_79 hF_79 q79_0 q79_1 q79_2 q79_3 q79_4 q79_5 v79_0 v79_1 hm; exact absurd hm (Nat.not_lt_zero _)
        | succ fu ih79 =>
          intro i4_79 s_79 H locs ls ri4_79 hF_79 q79_0 q79_1 q79_2 q79_3 q79_4 q79_5 v79_0 v79_1 hm hW hl
          refine x_iload hx hb hl 2 rfl dX11_shadesGo_79 ?_
          refine x_bipush hx hb dX11_shadesGo_81 (by decide) ?_
          refine x_icmp_ge (tgt := 100) hx hb ri4_79 (by decide) dX11_shadesGo_83 (by decide) (fun c48 => ?_) (fun c48 => ?_)
          · skip
            refine x_aload_n hx hb hl 0 rfl dX11_shadesGo_100 rfl ?_
            refine x_goi (x_runV (As := []) hx hb hml hown hT hE hW hl.1 (Or.inl (by decide)) (so_268 h0 g _) rfl cf_X11_laysOrder wq1616 wq146 wq1614 (c_X11_laysOrder l D g T h0 s_79 hW.2.1 q79_3 q79_4 q79_5) ⟨rfl, rfl, ⟨by decide, by decide⟩, ⟨by decide, by decide⟩⟩ rfl rfl (Nat.le_of_ble_eq_true rfl) dX11_shadesGo_101) hW (fun x49 s50 H locs rx49 hp51 hW => ?_)
            obtain ⟨fs50, hp51⟩ := hp51
            have hF52 := hF_79.call fs50 (fun k h => by omega)
            have q53 : s50 268 8 = s0 268 8 := (congrFun (fs50 _ (by omega)) _).trans q79_0
            have q54 : s50 268 58 = s0 268 58 := (congrFun (fs50 _ (by omega)) _).trans q79_1
            have q55 : s50 269 37 = s0 269 37 := (congrFun (fs50 _ (by omega)) _).trans q79_2
            have ghp51 := hp51.2
            refine lv_istore (lv' := [(4, .int (xJ x49)), (0, .ref (h0 + 268)), (3, .int (xJ x41))]) hx hb dX11_shadesGo_104 hl (by decide) rfl (fun ls hl => ?_)
            refine x_iconst hx hb dX11_shadesGo_106 ?_
            refine lv_istore (lv' := [(5, .int (xJ 0)), (4, .int (xJ x49)), (0, .ref (h0 + 268)), (3, .int (xJ x41))]) hx hb dX11_shadesGo_107 hl (by decide) rfl (fun ls hl => ?_)
            have L109 : ∀ (fu : Nat) (i5_109 : Int) (s_109 : xS) (H : Heap) (locs : List Loc) (ls : Array Slot), (xR i5_109) → (xFr (fun k => k = 268 ∨ k = 269 ∨ k = 293 ∨ k = 294 ∨ k = 295 ∨ k = 296 ∨ k = 297 ∨ k = 298 ∨ k = 299) s0 s_109) → (s_109 268 8 = s0 268 8) → (s_109 268 58 = s0 268 58) → (s_109 269 37 = s0 269 37) → (IMn s_109) → (IMk s_109) → (IMo s_109) → (0 ≤ i5_109) → (x49 + 1 - i5_109).toNat < fu → xW D g h0 s H locs s_109 → lv_has ls 6 [(0, .ref (h0 + 268)), (3, .int (xJ x41)), (4, .int (xJ x49)), (5, .int (xJ i5_109))] → W p l e { frames := 7, cells := 0, slots := 0, locals := 162 } s m args below meth c H locs 0 0 Q (F0 m 109 ls []) := by
              intro fu
              induction fu with
              | zero => intro i5_109 s_109 H locs ls ri5_109 hF_109 q109_0 q109_1 q109_2 q109_3 q109_4 q109_5 v109_0 hm; exact absurd hm (Nat.not_lt_zero _)
              | succ fu ih109 =>
                intro i5_109 s_109 H locs ls ri5_109 hF_109 q109_0 q109_1 q109_2 q109_3 q109_4 q109_5 v109_0 hm hW hl
                refine x_iload hx hb hl 3 rfl dX11_shadesGo_109 ?_
                refine x_iload hx hb hl 2 rfl dX11_shadesGo_111 ?_
                refine x_icmp_ge (tgt := 134) hx hb ri5_109 rx49 dX11_shadesGo_113 (by decide) (fun c56 => ?_) (fun c56 => ?_)
                · skip
                  refine x_aload_n hx hb hl 0 rfl dX11_shadesGo_134 rfl ?_
                  refine x_get (j := 0) (v := .ref (h0 + 269)) hx hb hown hT hE hW cls_X11 (Or.inl (by decide)) (so_268 h0 g _) (by decide) rfl wq1185 dX11_shadesGo_135 ?_
                  refine x_bipush hx hb dX11_shadesGo_138 (by decide) ?_
                  refine x_aload_n hx hb hl 0 rfl dX11_shadesGo_140 rfl ?_
                  refine x_get (j := 0) (v := .ref (h0 + 269)) hx hb hown hT hE hW cls_X11 (Or.inl (by decide)) (so_268 h0 g _) (by decide) rfl wq1185 dX11_shadesGo_141 ?_
                  refine x_bipush hx hb dX11_shadesGo_144 (by decide) ?_
                  refine x_iald hx hb hE hW (Or.inl (by decide)) (sa_269 h0 g _) ⟨by decide, by decide⟩ (by decide) dX11_shadesGo_146 ?_
                  refine x_rd hW (fun x57 ex57 rx57 => ?_)
                  have bx57 : 0 ≤ x57 ∧ x57 ≤ 9999 := by rw [ex57]; exact (IMn.n1 q109_3).2.2.2.1
                  have fx57 : x57 = s0 269 37 := ex57.trans q109_2
                  refine x_iconst hx hb dX11_shadesGo_147 ?_
                  refine x_iadd hx hb dX11_shadesGo_148 ?_
                  refine x_iast hx hb hE hW (by decide) (fun σ => sa_269 h0 g σ) ⟨by decide, by decide⟩ (by decide) (by omega) dX11_shadesGo_149 (fun H locs s58 es58 hW => ?_)
                  have q59 : s58 268 8 = s0 268 8 := (show s58 268 8 = s_109 268 8 from by rw [es58, xU_k _ _ _ (by omega)]).trans q109_0
                  have q60 : s58 268 58 = s0 268 58 := (show s58 268 58 = s_109 268 58 from by rw [es58, xU_k _ _ _ (by omega)]).trans q109_1
                  have q61 : s58 269 37 = (x57 + 1) := by rw [es58, xU_s]
                  have q62 : IMn s58 := by rw [es58]; exact IMn_N269 q109_3 (by omega)
                  have q63 : IMk s58 := by rw [es58]; exact IMk_o (by unfold suIMk; omega) q109_4
                  have q64 : IMo s58 := by rw [es58]; exact IMo_o (by unfold suIMo; omega) q109_5
                  have hF65 := hF_109.put es58 (by omega)
                  rw [eQ]
                  exact x_vret hx hb hr hlk hW ⟨hF65, ⟨q62, q63, q64, q59, q60, trivial⟩, by omega⟩ dX11_shadesGo_150
                refine x_aload_n hx hb hl 0 rfl dX11_shadesGo_116 rfl ?_
                refine x_aload_n hx hb hl 0 rfl dX11_shadesGo_117 rfl ?_
                refine x_get (j := 46) (v := .ref (h0 + 297)) hx hb hown hT hE hW cls_X11 (Or.inl (by decide)) (so_268 h0 g _) (by decide) rfl wq1231 dX11_shadesGo_118 ?_
                refine x_iload hx hb hl 3 rfl dX11_shadesGo_121 ?_
                refine x_iald hx hb hE hW (Or.inl (by decide)) (sa_297 h0 g _) (by omega) (by decide) dX11_shadesGo_123 ?_
                refine x_rd hW (fun x66 ex66 rx66 => ?_)
                have bx66 : 0 ≤ x66 ∧ x66 ≤ 9 := by rw [ex66]; exact IMo.a q109_5 _ (by omega) (by omega)
                refine x_iload_n hx hb hl 1 rfl dX11_shadesGo_124 rfl ?_
                refine x_gov (x_runV (As := [.int (xJ x66), .int (xJ x41)]) hx hb hml hown hT hE hW hl.1 (Or.inl (by decide)) (so_268 h0 g _) rfl cf_X11_servesOf wq1629 wq149 wq1627 (c_X11_servesOf l D g T h0 s_109 hW.2.1 x66 rx66 x41 rx41 (by omega) q109_3 q109_4 q109_5) ⟨rfl, rfl, ⟨by decide, by decide⟩, ⟨by decide, by decide⟩⟩ rfl rfl (Nat.le_of_ble_eq_true rfl) dX11_shadesGo_125) hW (fun s68 H locs hp69 hW => ?_)
                obtain ⟨fs68, hp69⟩ := hp69
                have hF70 := hF_109.call fs68 (fun k h => by omega)
                have ghp69 := hp69.2
                refine x_iinc (lv' := [(5, .int (xJ (i5_109 + 1))), (0, .ref (h0 + 268)), (3, .int (xJ x41)), (4, .int (xJ x49))]) hx hb hl 3 rfl dX11_shadesGo_128 (by decide) rfl (fun ls hl => ?_)
                refine lv_goto (tgt := 109) hx hb dX11_shadesGo_131 (by decide) ?_
                exact ih109 (i5_109 + 1) s68 H locs ls (by omega) hF70 (hp69.1.2.2.2.1.trans q109_0) (hp69.1.2.2.2.2.1.trans q109_1) (hp69.1.2.2.2.2.2.1.trans q109_2) hp69.1.1 hp69.1.2.1 hp69.1.2.2.1 (by omega) (by omega) hW (lv_sub hl [1, 2, 3, 0] rfl)
            exact L109 ((x49 + 1 - 0 : Int).toNat + 1) 0 s50 H locs ls (by decide) hF52 q53 q54 q55 hp51.1.1 hp51.1.2.1 hp51.1.2.2.1 (by omega) (Nat.lt_succ_self _) hW (lv_sub hl [2, 3, 1, 0] rfl)
          refine x_aload_n hx hb hl 0 rfl dX11_shadesGo_86 rfl ?_
          refine x_get (j := 49) (v := .ref (h0 + 299)) hx hb hown hT hE hW cls_X11 (Or.inl (by decide)) (so_268 h0 g _) (by decide) rfl wq1234 dX11_shadesGo_87 ?_
          refine x_iload hx hb hl 2 rfl dX11_shadesGo_90 ?_
          refine x_iconst hx hb dX11_shadesGo_92 ?_
          refine x_zast hx hb hE hW (by decide) (fun σ => sa_299 h0 g σ) (by omega) (by decide) (by omega) dX11_shadesGo_93 (fun H locs s71 es71 hW => ?_)
          have q72 : s71 268 8 = s0 268 8 := (show s71 268 8 = s_79 268 8 from by rw [es71, xU_k _ _ _ (by omega)]).trans q79_0
          have q73 : s71 268 58 = s0 268 58 := (show s71 268 58 = s_79 268 58 from by rw [es71, xU_k _ _ _ (by omega)]).trans q79_1
          have q74 : s71 269 37 = s0 269 37 := (show s71 269 37 = s_79 269 37 from by rw [es71, xU_k _ _ _ (by omega)]).trans q79_2
          have q75 : IMn s71 := by rw [es71]; exact IMn_o (by unfold suIMn; omega) q79_3
          have q76 : IMk s71 := by rw [es71]; exact IMk_o (by unfold suIMk; omega) q79_4
          have q77 : IMo s71 := by rw [es71]; exact IMo_o (by unfold suIMo; omega) q79_5
          have hF78 := hF_79.put es71 (by omega)
          refine x_iinc (lv' := [(4, .int (xJ (i4_79 + 1))), (0, .ref (h0 + 268)), (3, .int (xJ x41))]) hx hb hl 2 rfl dX11_shadesGo_94 (by decide) rfl (fun ls hl => ?_)
          refine lv_goto (tgt := 79) hx hb dX11_shadesGo_97 (by decide) ?_
          exact ih79 (i4_79 + 1) s71 H locs ls (by omega) hF78 q72 q73 q74 q75 q76 q77 (by omega) (by omega) (by omega) hW (lv_sub hl [1, 2, 0] rfl)
      exact L79 ((100 + 1 - 0 : Int).toNat + 1) 0 s42 H locs ls (by decide) hF44 q45 q46 q47 hp43.1.1 hp43.1.2.1 hp43.1.2.2.1 (by omega) (by omega) (Nat.lt_succ_self _) hW (lv_sub hl [2, 1, 0] rfl)
    refine x_if_eq (tgt := 47) hx hb rt0_33 dX11_shadesGo_40 (by decide) (fun c79 => ?_) (fun c79 => ?_)
    · skip
      refine x_iconst hx hb dX11_shadesGo_47 ?_
      exact J48 0 ls (by decide)  (lv_sub hl [1, 0] rfl)
    refine x_iconst hx hb dX11_shadesGo_43 ?_
    refine lv_goto (tgt := 48) hx hb dX11_shadesGo_44 (by decide) ?_
    exact J48 1 ls (by decide)  (lv_sub hl [1, 0] rfl)
  refine x_icmp_ge (tgt := 32) hx hb rx1 rx15 dX11_shadesGo_25 (by decide) (fun c80 => ?_) (fun c80 => ?_)
  · skip
    refine x_iconst hx hb dX11_shadesGo_32 ?_
    exact J33 0 ls (by decide) (by omega)  (lv_sub hl [1] rfl)
  refine x_iconst hx hb dX11_shadesGo_28 ?_
  refine lv_goto (tgt := 33) hx hb dX11_shadesGo_29 (by decide) ?_
  exact J33 1 ls (by decide) (by omega)  (lv_sub hl [1] rfl)
set_option maxHeartbeats 4000000 in
set_option maxRecDepth 100000 in
theorem c_X11_minutesGo (l : Launch) (D : va_G) (g : xG) (T : Nat × Nat × Nat) (h0 : Nat) (s0 : xS) (hσ : xRR s0) (n : Int) (rn : xR n) (p0 : IMn s0) (p1 : IMk s0) (p2 : IMo s0) : Met l yX11_minutesGo (xws yX11_minutesGo cX11_minutesGo 3 none) { frames := 8, cells := 0, slots := 0, locals := 187 } (xP [.ref (h0 + 268), .int (xJ n)] D g T h0 s0) (xQv D g h0 (fun τ => xFr (fun k => k = 268 ∨ k = 269 ∨ k = 293 ∨ k = 294 ∨ k = 295 ∨ k = 296 ∨ k = 297 ∨ k = 298 ∨ k = 299) s0 τ ∧ (((IMn τ) ∧ (IMk τ) ∧ (IMo τ) ∧ (τ 268 8 = s0 268 8) ∧ (τ 268 58 = s0 268 58) ∧ True) ∧ (True)))) 0 0 (xA h0) := by
  refine x_met hσ (by decide) (Nat.le_of_ble_eq_true rfl) ?_
  intro p e s m args below meth c hx hb hr hml hown hT hlk hnm hE hW ls hl
  have hl : lv_has ls 3 [(0, .ref (h0 + 268)), (1, .int (xJ n))] := hl
  obtain ⟨Q, eQ⟩ : ∃ Q, Q = MQ below (xQv D g h0 (fun τ => xFr (fun k => k = 268 ∨ k = 269 ∨ k = 293 ∨ k = 294 ∨ k = 295 ∨ k = 296 ∨ k = 297 ∨ k = 298 ∨ k = 299) s0 τ ∧ (((IMn τ) ∧ (IMk τ) ∧ (IMo τ) ∧ (τ 268 8 = s0 268 8) ∧ (τ 268 58 = s0 268 58) ∧ True) ∧ (True)))) args s 0 0 (xA h0) := ⟨_, rfl⟩
  rw [← eQ]
  generalize hHe : ([] : List Loc) = locs at hW ⊢
  obtain ⟨H, eH⟩ : ∃ H, H = s.heap := ⟨_, rfl⟩
  rw [← eH] at hW ⊢
  have hF : xFr (fun k => k = 268 ∨ k = 269 ∨ k = 293 ∨ k = 294 ∨ k = 295 ∨ k = 296 ∨ k = 297 ∨ k = 298 ∨ k = 299) s0 s0 := xFr.rf
  have k268_8 : s0 268 8 = s0 268 8 := rfl
  have k268_58 : s0 268 58 = s0 268 58 := rfl
  refine x_aload_n hx hb hl 0 rfl dX11_minutesGo_0 rfl ?_
  refine x_gov (x_runV (As := []) hx hb hml hown hT hE hW hl.1 (Or.inl (by decide)) (so_268 h0 g _) rfl cf_X11_begins wq1543 wq131 wq1541 (c_X11_begins l D g T h0 s0 hW.2.1 p0 p1 p2) ⟨rfl, rfl, ⟨by decide, by decide⟩, ⟨by decide, by decide⟩⟩ rfl rfl (Nat.le_of_ble_eq_true rfl) dX11_minutesGo_1) hW (fun s2 H locs hp3 hW => ?_)
  obtain ⟨fs2, hp3⟩ := hp3
  have hF4 := hF.call fs2 (fun k h => by omega)
  have ghp3 := hp3.2
  refine x_iconst hx hb dX11_minutesGo_4 ?_
  refine lv_istore_n (lv' := [(2, .int (xJ 0)), (0, .ref (h0 + 268)), (1, .int (xJ n))]) hx hb dX11_minutesGo_5 rfl hl (by decide) rfl (fun ls hl => ?_)
  have L6 : ∀ (fu : Nat) (i2_6 : Int) (s_6 : xS) (H : Heap) (locs : List Loc) (ls : Array Slot), (xR i2_6) → (xFr (fun k => k = 268 ∨ k = 269 ∨ k = 293 ∨ k = 294 ∨ k = 295 ∨ k = 296 ∨ k = 297 ∨ k = 298 ∨ k = 299) s0 s_6) → (IMn s_6) → (IMk s_6) → (IMo s_6) → (s_6 268 8 = s0 268 8) → (s_6 268 58 = s0 268 58) → (0 ≤ i2_6) → (n + 1 - i2_6).toNat < fu → xW D g h0 s H locs s_6 → lv_has ls 3 [(0, .ref (h0 + 268)), (1, .int (xJ n)), (2, .int (xJ i2_6))] → W p l e { frames := 8, cells := 0, slots := 0, locals := 187 } s m args below meth c H locs 0 0 Q (F0 m 6 ls []) := by
    intro fu
    induction fu with
    | zero => intro i2_6 s_6 H locs ls ri2_6 hF_6 q6_0 q6_1 q6_2 q6_3 q6_4 v6_0 hm; exact absurd hm (Nat.not_lt_zero _)
    | succ fu ih6 =>
      intro i2_6 s_6 H locs ls ri2_6 hF_6 q6_0 q6_1 q6_2 q6_3 q6_4 v6_0 hm hW hl
      refine x_iload_n hx hb hl 2 rfl dX11_minutesGo_6 rfl ?_
      refine x_iload_n hx hb hl 1 rfl dX11_minutesGo_7 rfl ?_
      refine x_icmp_ge (tgt := 44) hx hb ri2_6 rn dX11_minutesGo_8 (by decide) (fun c5 => ?_) (fun c5 => ?_)
      · skip
        rw [eQ]
        exact x_vret hx hb hr hlk hW ⟨hF_6, ⟨q6_0, q6_1, q6_2, q6_3, q6_4, trivial⟩, trivial⟩ dX11_minutesGo_44
      refine x_aload_n hx hb hl 0 rfl dX11_minutesGo_11 rfl ?_
      refine x_get (j := 0) (v := .ref (h0 + 269)) hx hb hown hT hE hW cls_X11 (Or.inl (by decide)) (so_268 h0 g _) (by decide) rfl wq1185 dX11_minutesGo_12 ?_
      refine x_bipush hx hb dX11_minutesGo_15 (by decide) ?_
      refine x_iald hx hb hE hW (Or.inl (by decide)) (sa_269 h0 g _) ⟨by decide, by decide⟩ (by decide) dX11_minutesGo_17 ?_
      refine x_rd hW (fun x6 ex6 rx6 => ?_)
      have bx6 : 0 ≤ x6 ∧ x6 ≤ 9999 := by rw [ex6]; exact (IMn.n1 q6_0).2.2.2.1
      have q7 : s_6 269 37 = x6 := ex6.symm
      refine x_sipush hx hb dX11_minutesGo_18 (by decide) ?_
      refine x_icmp_ge (tgt := 44) hx hb rx6 (by decide) dX11_minutesGo_21 (by decide) (fun c8 => ?_) (fun c8 => ?_)
      · skip
        rw [eQ]
        exact x_vret hx hb hr hlk hW ⟨hF_6, ⟨q6_0, q6_1, q6_2, q6_3, q6_4, trivial⟩, trivial⟩ dX11_minutesGo_44
      refine x_aload_n hx hb hl 0 rfl dX11_minutesGo_24 rfl ?_
      refine x_iconst hx hb dX11_minutesGo_25 ?_
      refine x_gov (x_runV (As := [.int (xJ 0)]) hx hb hml hown hT hE hW hl.1 (Or.inl (by decide)) (so_268 h0 g _) rfl cf_X11_walksOn wq1547 wq132 wq1545 (c_X11_walksOn l D g T h0 s_6 hW.2.1 0 (by decide) (by omega) q6_0 q6_1 q6_2) ⟨rfl, rfl, ⟨by decide, by decide⟩, ⟨by decide, by decide⟩⟩ rfl rfl (Nat.le_of_ble_eq_true rfl) dX11_minutesGo_26) hW (fun s10 H locs hp11 hW => ?_)
      obtain ⟨fs10, hp11⟩ := hp11
      have hF12 := hF_6.call fs10 (fun k h => by omega)
      have q13 : s10 268 8 = s0 268 8 := (congrFun (fs10 _ (by omega)) _).trans q6_3
      have q14 : s10 268 58 = s0 268 58 := (congrFun (fs10 _ (by omega)) _).trans q6_4
      have ghp11 := hp11.2
      refine x_aload_n hx hb hl 0 rfl dX11_minutesGo_29 rfl ?_
      refine x_iconst hx hb dX11_minutesGo_30 ?_
      refine x_gov (x_runV (As := [.int (xJ 1)]) hx hb hml hown hT hE hW hl.1 (Or.inl (by decide)) (so_268 h0 g _) rfl cf_X11_walksOn wq1547 wq132 wq1545 (c_X11_walksOn l D g T h0 s10 hW.2.1 1 (by decide) (by omega) hp11.1.1 hp11.1.2.1 hp11.1.2.2.1) ⟨rfl, rfl, ⟨by decide, by decide⟩, ⟨by decide, by decide⟩⟩ rfl rfl (Nat.le_of_ble_eq_true rfl) dX11_minutesGo_31) hW (fun s16 H locs hp17 hW => ?_)
      obtain ⟨fs16, hp17⟩ := hp17
      have hF18 := hF12.call fs16 (fun k h => by omega)
      have q19 : s16 268 8 = s0 268 8 := (congrFun (fs16 _ (by omega)) _).trans q13
      have q20 : s16 268 58 = s0 268 58 := (congrFun (fs16 _ (by omega)) _).trans q14
      have ghp17 := hp17.2
      refine x_aload_n hx hb hl 0 rfl dX11_minutesGo_34 rfl ?_
      refine x_gov (x_runV (As := []) hx hb hml hown hT hE hW hl.1 (Or.inl (by decide)) (so_268 h0 g _) rfl cf_X11_shadesGo wq1564 wq134 wq1562 (c_X11_shadesGo l D g T h0 s16 hW.2.1 (by have := (hp17.1.2.2.2.1.trans (hp11.1.2.2.2.1.trans q7)); omega) hp17.1.1 hp17.1.2.1 hp17.1.2.2.1) ⟨rfl, rfl, ⟨by decide, by decide⟩, ⟨by decide, by decide⟩⟩ rfl rfl (Nat.le_of_ble_eq_true rfl) dX11_minutesGo_35) hW (fun s22 H locs hp23 hW => ?_)
      obtain ⟨fs22, hp23⟩ := hp23
      have hF24 := hF18.call fs22 (fun k h => by omega)
      have ghp23 := hp23.2
      refine x_iinc (lv' := [(2, .int (xJ (i2_6 + 1))), (0, .ref (h0 + 268)), (1, .int (xJ n))]) hx hb hl 2 rfl dX11_minutesGo_38 (by decide) rfl (fun ls hl => ?_)
      refine lv_goto (tgt := 6) hx hb dX11_minutesGo_41 (by decide) ?_
      exact ih6 (i2_6 + 1) s22 H locs ls (by omega) hF24 hp23.1.1 hp23.1.2.1 hp23.1.2.2.1 (hp23.1.2.2.2.1.trans q19) (hp23.1.2.2.2.2.1.trans q20) (by omega) (by omega) hW (lv_sub hl [1, 2, 0] rfl)
  exact L6 ((n + 1 - 0 : Int).toNat + 1) 0 s2 H locs ls (by decide) hF4 hp3.1.1 hp3.1.2.1 hp3.1.2.2.1 (hp3.1.2.2.2.1.trans k268_8) (hp3.1.2.2.2.2.1.trans k268_58) (by omega) (Nat.lt_succ_self _) hW (lv_sub hl [1, 2, 0] rfl)
set_option maxHeartbeats 4000000 in
set_option maxRecDepth 100000 in
theorem c_X11_minutes (l : Launch) (D : va_G) (g : xG) (T : Nat × Nat × Nat) (h0 : Nat) (s0 : xS) (hσ : xRR s0) (n : Int) (rn : xR n) (p0 : IMn s0) (p1 : IMk s0) (p2 : IMo s0) : Met l yX11_minutes (xws yX11_minutes cX11_minutes 2 (some .int)) { frames := 9, cells := 0, slots := 0, locals := 209 } (xP [.ref (h0 + 268), .int (xJ n)] D g T h0 s0) (xQi D g h0 (fun r τ => xFr (fun k => k = 268 ∨ k = 269 ∨ k = 293 ∨ k = 294 ∨ k = 295 ∨ k = 296 ∨ k = 297 ∨ k = 298 ∨ k = 299) s0 τ ∧ (((IMn τ) ∧ (IMk τ) ∧ (IMo τ) ∧ (τ 268 8 = s0 268 8) ∧ (τ 268 58 = s0 268 58) ∧ True) ∧ (True)))) 0 0 (xA h0) := by
  refine x_met hσ (by decide) (Nat.le_of_ble_eq_true rfl) ?_
  intro p e s m args below meth c hx hb hr hml hown hT hlk hnm hE hW ls hl
  have hl : lv_has ls 2 [(0, .ref (h0 + 268)), (1, .int (xJ n))] := hl
  obtain ⟨Q, eQ⟩ : ∃ Q, Q = MQ below (xQi D g h0 (fun r τ => xFr (fun k => k = 268 ∨ k = 269 ∨ k = 293 ∨ k = 294 ∨ k = 295 ∨ k = 296 ∨ k = 297 ∨ k = 298 ∨ k = 299) s0 τ ∧ (((IMn τ) ∧ (IMk τ) ∧ (IMo τ) ∧ (τ 268 8 = s0 268 8) ∧ (τ 268 58 = s0 268 58) ∧ True) ∧ (True)))) args s 0 0 (xA h0) := ⟨_, rfl⟩
  rw [← eQ]
  generalize hHe : ([] : List Loc) = locs at hW ⊢
  obtain ⟨H, eH⟩ : ∃ H, H = s.heap := ⟨_, rfl⟩
  rw [← eH] at hW ⊢
  have hF : xFr (fun k => k = 268 ∨ k = 269 ∨ k = 293 ∨ k = 294 ∨ k = 295 ∨ k = 296 ∨ k = 297 ∨ k = 298 ∨ k = 299) s0 s0 := xFr.rf
  have k268_8 : s0 268 8 = s0 268 8 := rfl
  have k268_58 : s0 268 58 = s0 268 58 := rfl
  refine x_iload_n hx hb hl 1 rfl dX11_minutes_0 rfl ?_
  refine x_iconst hx hb dX11_minutes_1 ?_
  refine x_bipush hx hb dX11_minutes_2 (by decide) ?_
  refine x_goi (x_runS (As := [.int (xJ n), .int (xJ 1), .int (xJ 120)]) hx hb hml hown hT hE hW hl.1 cf_X11_in wq1383 wq1382 (c_X11_in l D g T h0 s0 hW.2.1 n rn 1 (by decide) 120 (by decide)) ⟨rfl, rfl, ⟨by decide, by decide⟩, ⟨by decide, by decide⟩⟩ rfl rfl (Nat.le_of_ble_eq_true rfl) dX11_minutes_4) hW (fun x1 s2 H locs rx1 hp3 hW => ?_)
  obtain ⟨es2, hp3⟩ := hp3
  subst es2
  have ghp3 := hp3
  refine x_if_ne (tgt := 12) hx hb rx1 dX11_minutes_7 (by decide) (fun c4 => ?_) (fun c4 => ?_)
  · skip
    refine x_aload_n hx hb hl 0 rfl dX11_minutes_12 rfl ?_
    refine x_iload_n hx hb hl 1 rfl dX11_minutes_13 rfl ?_
    refine x_gov (x_runV (As := [.int (xJ n)]) hx hb hml hown hT hE hW hl.1 (Or.inl (by decide)) (so_268 h0 g _) rfl cf_X11_minutesGo wq1539 wq130 wq1537 (c_X11_minutesGo l D g T h0 s0 hW.2.1 n rn p0 p1 p2) ⟨rfl, rfl, ⟨by decide, by decide⟩, ⟨by decide, by decide⟩⟩ rfl rfl (Nat.le_of_ble_eq_true rfl) dX11_minutes_14) hW (fun s6 H locs hp7 hW => ?_)
    obtain ⟨fs6, hp7⟩ := hp7
    have hF8 := hF.call fs6 (fun k h => by omega)
    have ghp7 := hp7.2
    refine x_aload_n hx hb hl 0 rfl dX11_minutes_17 rfl ?_
    refine x_get (j := 41) (v := .int (xJ (s6 268 41))) hx hb hown hT hE hW cls_X11 (Or.inl (by decide)) (so_268 h0 g _) (by decide) rfl wq1226 dX11_minutes_18 ?_
    refine x_rd hW (fun x9 ex9 rx9 => ?_)
    rw [eQ]
    exact x_iret hx hb hr hlk hW rx9 ⟨hF8, ⟨hp7.1.1, hp7.1.2.1, hp7.1.2.2.1, (hp7.1.2.2.2.1.trans k268_8), (hp7.1.2.2.2.2.1.trans k268_58), trivial⟩, trivial⟩ dX11_minutes_21
  refine x_iconst hx hb dX11_minutes_10 ?_
  rw [eQ]
  exact x_iret hx hb hr hlk hW (by decide) ⟨hF, ⟨p0, p1, p2, k268_8, k268_58, trivial⟩, trivial⟩ dX11_minutes_11
set_option maxHeartbeats 4000000 in
set_option maxRecDepth 100000 in
theorem c_X11_tried (l : Launch) (D : va_G) (g : xG) (T : Nat × Nat × Nat) (h0 : Nat) (s0 : xS) (hσ : xRR s0) (n : Int) (rn : xR n) (x : Int) (rx : xR x) (p0 : IMn s0) (p1 : IMk s0) (p2 : IMo s0) : Met l yX11_tried (xws yX11_tried cX11_tried 5 (some .int)) { frames := 9, cells := 0, slots := 0, locals := 209 } (xP [.ref (h0 + 268), .int (xJ n), .int (xJ x)] D g T h0 s0) (xQi D g h0 (fun r τ => xFr (fun k => k = 268 ∨ k = 269 ∨ k = 270 ∨ k = 293 ∨ k = 294 ∨ k = 295 ∨ k = 296 ∨ k = 297 ∨ k = 298 ∨ k = 299) s0 τ ∧ (((IMn τ) ∧ (IMk τ) ∧ (IMo τ) ∧ (τ 268 8 = s0 268 8) ∧ (τ 268 58 = s0 268 58) ∧ True) ∧ (True)))) 0 0 (xA h0) := by
  refine x_met hσ (by decide) (Nat.le_of_ble_eq_true rfl) ?_
  intro p e s m args below meth c hx hb hr hml hown hT hlk hnm hE hW ls hl
  have hl : lv_has ls 5 [(0, .ref (h0 + 268)), (1, .int (xJ n)), (2, .int (xJ x))] := hl
  obtain ⟨Q, eQ⟩ : ∃ Q, Q = MQ below (xQi D g h0 (fun r τ => xFr (fun k => k = 268 ∨ k = 269 ∨ k = 270 ∨ k = 293 ∨ k = 294 ∨ k = 295 ∨ k = 296 ∨ k = 297 ∨ k = 298 ∨ k = 299) s0 τ ∧ (((IMn τ) ∧ (IMk τ) ∧ (IMo τ) ∧ (τ 268 8 = s0 268 8) ∧ (τ 268 58 = s0 268 58) ∧ True) ∧ (True)))) args s 0 0 (xA h0) := ⟨_, rfl⟩
  rw [← eQ]
  generalize hHe : ([] : List Loc) = locs at hW ⊢
  obtain ⟨H, eH⟩ : ∃ H, H = s.heap := ⟨_, rfl⟩
  rw [← eH] at hW ⊢
  have hF : xFr (fun k => k = 268 ∨ k = 269 ∨ k = 270 ∨ k = 293 ∨ k = 294 ∨ k = 295 ∨ k = 296 ∨ k = 297 ∨ k = 298 ∨ k = 299) s0 s0 := xFr.rf
  have k268_8 : s0 268 8 = s0 268 8 := rfl
  have k268_58 : s0 268 58 = s0 268 58 := rfl
  refine x_iload_n hx hb hl 2 rfl dX11_tried_0 rfl ?_
  refine x_iconst hx hb dX11_tried_1 ?_
  refine x_iconst hx hb dX11_tried_2 ?_
  refine x_goi (x_runS (As := [.int (xJ x), .int (xJ 0), .int (xJ 5)]) hx hb hml hown hT hE hW hl.1 cf_X11_in wq1383 wq1382 (c_X11_in l D g T h0 s0 hW.2.1 x rx 0 (by decide) 5 (by decide)) ⟨rfl, rfl, ⟨by decide, by decide⟩, ⟨by decide, by decide⟩⟩ rfl rfl (Nat.le_of_ble_eq_true rfl) dX11_tried_3) hW (fun x1 s2 H locs rx1 hp3 hW => ?_)
  obtain ⟨es2, hp3⟩ := hp3
  subst es2
  have ghp3 := hp3
  have J58 : ∀ (t0_58 : Int) (H : Heap) (locs : List Loc) (ls : Array Slot), (xR t0_58) → (t0_58 = 0 ∨ (t0_58 = 1 ∧ ((0 ≤ x ∧ x ≤ 5) ∨ (10 ≤ x ∧ x ≤ 31)))) → xW D g h0 s H locs s0 → lv_has ls 5 [(0, .ref (h0 + 268)), (1, .int (xJ n)), (2, .int (xJ x))] → W p l e { frames := 9, cells := 0, slots := 0, locals := 209 } s m args below meth c H locs 0 0 Q (F0 m 58 ls [.int (xJ t0_58)]) := by
    intro t0_58 H locs ls rt0_58 v58_0 hW hl
    refine lv_istore_n (lv' := [(3, .int (xJ t0_58)), (0, .ref (h0 + 268)), (1, .int (xJ n)), (2, .int (xJ x))]) hx hb dX11_tried_58 rfl hl (by decide) rfl (fun ls hl => ?_)
    refine x_iload_n hx hb hl 2 rfl dX11_tried_59 rfl ?_
    refine x_iconst hx hb dX11_tried_60 ?_
    refine x_bipush hx hb dX11_tried_61 (by decide) ?_
    refine x_goi (x_runS (As := [.int (xJ n), .int (xJ 1), .int (xJ 120)]) hx hb hml hown hT hE hW hl.1 cf_X11_in wq1383 wq1382 (c_X11_in l D g T h0 s0 hW.2.1 n rn 1 (by decide) 120 (by decide)) ⟨rfl, rfl, ⟨by decide, by decide⟩, ⟨by decide, by decide⟩⟩ rfl rfl (Nat.le_of_ble_eq_true rfl) dX11_tried_63) hW (fun x4 s5 H locs rx4 hp6 hW => ?_)
    obtain ⟨es5, hp6⟩ := hp6
    subst es5
    have ghp6 := hp6
    refine x_if_eq (tgt := 73) hx hb rx4 dX11_tried_66 (by decide) (fun c7 => ?_) (fun c7 => ?_)
    · skip
      refine x_iconst hx hb dX11_tried_73 ?_
      rw [eQ]
      exact x_iret hx hb hr hlk hW (by decide) ⟨hF, ⟨p0, p1, p2, k268_8, k268_58, trivial⟩, trivial⟩ dX11_tried_74
    refine x_iload_n hx hb hl 0 rfl dX11_tried_69 rfl ?_
    refine x_if_ne (tgt := 75) hx hb rt0_58 dX11_tried_70 (by decide) (fun c8 => ?_) (fun c8 => ?_)
    · skip
      refine x_aload_n hx hb hl 1 rfl dX11_tried_75 rfl ?_
      refine x_get (j := 0) (v := .ref (h0 + 269)) hx hb hown hT hE hW cls_X11 (Or.inl (by decide)) (so_268 h0 g _) (by decide) rfl wq1185 dX11_tried_76 ?_
      refine x_aload_n hx hb hl 1 rfl dX11_tried_79 rfl ?_
      refine x_get (j := 1) (v := .ref (h0 + 270)) hx hb hown hT hE hW cls_X11 (Or.inl (by decide)) (so_268 h0 g _) (by decide) rfl wq1186 dX11_tried_80 ?_
      refine x_gov (x_runS (As := [.ref (h0 + 269), .ref (h0 + 270)]) hx hb hml hown hT hE hW hl.1 cf_X11_copies wq1647 wq1646 (c_X11_copiesA l D g T h0 s0 hW.2.1 p0 p1 p2) ⟨rfl, rfl, ⟨by decide, by decide⟩, ⟨by decide, by decide⟩⟩ rfl rfl (Nat.le_of_ble_eq_true rfl) dX11_tried_83) hW (fun s10 H locs hp11 hW => ?_)
      obtain ⟨fs10, hp11⟩ := hp11
      have hF12 := hF.call fs10 (fun k h => by omega)
      have q13 : s10 268 8 = s0 268 8 := (congrFun (fs10 _ (by omega)) _).trans k268_8
      have q14 : s10 268 58 = s0 268 58 := (congrFun (fs10 _ (by omega)) _).trans k268_58
      have ghp11 := hp11.2
      refine x_aload_n hx hb hl 1 rfl dX11_tried_86 rfl ?_
      refine x_iload_n hx hb hl 2 rfl dX11_tried_87 rfl ?_
      refine x_gov (x_runV (As := [.int (xJ n)]) hx hb hml hown hT hE hW hl.1 (Or.inl (by decide)) (so_268 h0 g _) rfl cf_X11_minutesGo wq1539 wq130 wq1537 (c_X11_minutesGo l D g T h0 s10 hW.2.1 n rn hp11.1.1 hp11.1.2.1 hp11.1.2.2.1) ⟨rfl, rfl, ⟨by decide, by decide⟩, ⟨by decide, by decide⟩⟩ rfl rfl (Nat.le_of_ble_eq_true rfl) dX11_tried_88) hW (fun s16 H locs hp17 hW => ?_)
      obtain ⟨fs16, hp17⟩ := hp17
      have hF18 := hF12.call fs16 (fun k h => by omega)
      have ghp17 := hp17.2
      refine x_iload_n hx hb hl 3 rfl dX11_tried_91 rfl ?_
      have J254 : ∀ (i4_254 : Int) (H : Heap) (locs : List Loc) (ls : Array Slot), (xR i4_254) → xW D g h0 s H locs s16 → lv_has ls 5 [(0, .ref (h0 + 268)), (4, .int (xJ i4_254))] → W p l e { frames := 9, cells := 0, slots := 0, locals := 209 } s m args below meth c H locs 0 0 Q (F0 m 254 ls []) := by
        intro i4_254 H locs ls ri4_254 hW hl
        refine x_aload_n hx hb hl 0 rfl dX11_tried_254 rfl ?_
        refine x_get (j := 1) (v := .ref (h0 + 270)) hx hb hown hT hE hW cls_X11 (Or.inl (by decide)) (so_268 h0 g _) (by decide) rfl wq1186 dX11_tried_255 ?_
        refine x_aload_n hx hb hl 0 rfl dX11_tried_258 rfl ?_
        refine x_get (j := 0) (v := .ref (h0 + 269)) hx hb hown hT hE hW cls_X11 (Or.inl (by decide)) (so_268 h0 g _) (by decide) rfl wq1185 dX11_tried_259 ?_
        refine x_gov (x_runS (As := [.ref (h0 + 270), .ref (h0 + 269)]) hx hb hml hown hT hE hW hl.1 cf_X11_copies wq1647 wq1646 (c_X11_copiesB l D g T h0 s16 hW.2.1 hp17.1.1 hp17.1.2.1 hp17.1.2.2.1) ⟨rfl, rfl, ⟨by decide, by decide⟩, ⟨by decide, by decide⟩⟩ rfl rfl (Nat.le_of_ble_eq_true rfl) dX11_tried_262) hW (fun s20 H locs hp21 hW => ?_)
        obtain ⟨fs20, hp21⟩ := hp21
        have hF22 := hF18.call fs20 (fun k h => by omega)
        have q23 : s20 268 8 = s0 268 8 := (congrFun (fs20 _ (by omega)) _).trans (hp17.1.2.2.2.1.trans q13)
        have q24 : s20 268 58 = s0 268 58 := (congrFun (fs20 _ (by omega)) _).trans (hp17.1.2.2.2.2.1.trans q14)
        have ghp21 := hp21.2
        refine x_iload hx hb hl 1 rfl dX11_tried_265 ?_
        rw [eQ]
        exact x_iret hx hb hr hlk hW ri4_254 ⟨hF22, ⟨hp21.1.1, hp21.1.2.1, hp21.1.2.2.1, q23, q24, trivial⟩, trivial⟩ dX11_tried_267
      rcases (show (x < 0 ∨ 5 < x) ∨ x = 0 ∨ x = 1 ∨ x = 2 ∨ x = 3 ∨ x = 4 ∨ x = 5 from by omega) with c25 | c25 | c25 | c25 | c25 | c25 | c25
      · refine x_tabOut (tgt := 200) hx hb rx dX11_tried_92 c25 (by decide) ?_
        refine x_iload_n hx hb hl 3 rfl dX11_tried_200 rfl ?_
        refine x_bipush hx hb dX11_tried_201 (by decide) ?_
        have J252 : ∀ (t0_252 : Int) (ls : Array Slot), (xR t0_252) → lv_has ls 5 [(0, .ref (h0 + 268))] → W p l e { frames := 9, cells := 0, slots := 0, locals := 209 } s m args below meth c H locs 0 0 Q (F0 m 252 ls [.int (xJ t0_252)]) := by
          intro t0_252 ls rt0_252  hl
          refine lv_istore (lv' := [(4, .int (xJ t0_252)), (0, .ref (h0 + 268))]) hx hb dX11_tried_252 hl (by decide) rfl (fun ls hl => ?_)
          exact J254 t0_252 H locs ls rt0_252 hW (lv_sub hl [1, 0] rfl)
        refine x_icmp_ge (tgt := 220) hx hb rx (by decide) dX11_tried_203 (by decide) (fun c26 => ?_) (fun c26 => ?_)
        · skip
          refine x_iload_n hx hb hl 3 rfl dX11_tried_220 rfl ?_
          refine x_bipush hx hb dX11_tried_221 (by decide) ?_
          refine x_icmp_ge (tgt := 241) hx hb rx (by decide) dX11_tried_223 (by decide) (fun c27 => ?_) (fun c27 => ?_)
          · skip
            refine x_aload_n hx hb hl 1 rfl dX11_tried_241 rfl ?_
            refine x_get (j := 0) (v := .ref (h0 + 269)) hx hb hown hT hE hW cls_X11 (Or.inl (by decide)) (so_268 h0 g _) (by decide) rfl wq1185 dX11_tried_242 ?_
            refine x_iconst hx hb dX11_tried_245 ?_
            refine x_iload_n hx hb hl 3 rfl dX11_tried_246 rfl ?_
            refine x_iadd hx hb dX11_tried_247 ?_
            refine x_bipush hx hb dX11_tried_248 (by decide) ?_
            refine x_isub hx hb dX11_tried_250 ?_
            refine x_iald hx hb hE hW (Or.inl (by decide)) (sa_269 h0 g _) (by omega) (by decide) dX11_tried_251 ?_
            refine x_rd hW (fun x28 ex28 rx28 => ?_)
            have bx28 : 0 ≤ x28 ∧ x28 ≤ 99 := by rw [ex28]; exact (IMn.n1 hp17.1.1).1 _ (by omega) (by omega)
            exact J252 x28 ls rx28  (lv_sub hl [1] rfl)
          refine x_aload_n hx hb hl 1 rfl dX11_tried_226 rfl ?_
          refine x_get (j := 0) (v := .ref (h0 + 269)) hx hb hown hT hE hW cls_X11 (Or.inl (by decide)) (so_268 h0 g _) (by decide) rfl wq1185 dX11_tried_227 ?_
          refine x_bipush hx hb dX11_tried_230 (by decide) ?_
          refine x_iload_n hx hb hl 3 rfl dX11_tried_232 rfl ?_
          refine x_iadd hx hb dX11_tried_233 ?_
          refine x_bipush hx hb dX11_tried_234 (by decide) ?_
          refine x_isub hx hb dX11_tried_236 ?_
          refine x_iald hx hb hE hW (Or.inl (by decide)) (sa_269 h0 g _) (by omega) (by decide) dX11_tried_237 ?_
          refine x_rd hW (fun x29 ex29 rx29 => ?_)
          refine lv_goto (tgt := 252) hx hb dX11_tried_238 (by decide) ?_
          exact J252 x29 ls rx29  (lv_sub hl [1] rfl)
        refine x_aload_n hx hb hl 1 rfl dX11_tried_206 rfl ?_
        refine x_get (j := 0) (v := .ref (h0 + 269)) hx hb hown hT hE hW cls_X11 (Or.inl (by decide)) (so_268 h0 g _) (by decide) rfl wq1185 dX11_tried_207 ?_
        refine x_iconst hx hb dX11_tried_210 ?_
        refine x_iload_n hx hb hl 3 rfl dX11_tried_211 rfl ?_
        refine x_iadd hx hb dX11_tried_212 ?_
        refine x_bipush hx hb dX11_tried_213 (by decide) ?_
        refine x_isub hx hb dX11_tried_215 ?_
        refine x_iald hx hb hE hW (Or.inl (by decide)) (sa_269 h0 g _) (by omega) (by decide) dX11_tried_216 ?_
        refine x_rd hW (fun x30 ex30 rx30 => ?_)
        have bx30 : 0 ≤ x30 ∧ x30 ≤ 99 := by rw [ex30]; exact (IMn.n1 hp17.1.1).2.2.1 _ (by omega) (by omega)
        refine lv_goto (tgt := 252) hx hb dX11_tried_217 (by decide) ?_
        exact J252 x30 ls rx30  (lv_sub hl [1] rfl)
      · refine x_tabIn (v := 0) (tgt := 132) hx hb rx c25 dX11_tried_92 (by decide) rfl (by decide) ?_
        refine x_aload_n hx hb hl 1 rfl dX11_tried_132 rfl ?_
        refine x_get (j := 41) (v := .int (xJ (s16 268 41))) hx hb hown hT hE hW cls_X11 (Or.inl (by decide)) (so_268 h0 g _) (by decide) rfl wq1226 dX11_tried_133 ?_
        refine x_rd hW (fun x31 ex31 rx31 => ?_)
        refine lv_istore (lv' := [(4, .int (xJ x31)), (3, .int (xJ t0_58)), (0, .ref (h0 + 268)), (1, .int (xJ n)), (2, .int (xJ x))]) hx hb dX11_tried_136 hl (by decide) rfl (fun ls hl => ?_)
        refine lv_goto (tgt := 254) hx hb dX11_tried_138 (by decide) ?_
        exact J254 x31 H locs ls rx31 hW (lv_sub hl [2, 0] rfl)
      · refine x_tabIn (v := 1) (tgt := 141) hx hb rx c25 dX11_tried_92 (by decide) rfl (by decide) ?_
        refine x_aload_n hx hb hl 1 rfl dX11_tried_141 rfl ?_
        refine x_get (j := 42) (v := .int (xJ (s16 268 42))) hx hb hown hT hE hW cls_X11 (Or.inl (by decide)) (so_268 h0 g _) (by decide) rfl wq1227 dX11_tried_142 ?_
        refine x_rd hW (fun x32 ex32 rx32 => ?_)
        refine lv_istore (lv' := [(4, .int (xJ x32)), (3, .int (xJ t0_58)), (0, .ref (h0 + 268)), (1, .int (xJ n)), (2, .int (xJ x))]) hx hb dX11_tried_145 hl (by decide) rfl (fun ls hl => ?_)
        refine lv_goto (tgt := 254) hx hb dX11_tried_147 (by decide) ?_
        exact J254 x32 H locs ls rx32 hW (lv_sub hl [2, 0] rfl)
      · refine x_tabIn (v := 2) (tgt := 150) hx hb rx c25 dX11_tried_92 (by decide) rfl (by decide) ?_
        refine x_aload_n hx hb hl 1 rfl dX11_tried_150 rfl ?_
        refine x_get (j := 0) (v := .ref (h0 + 269)) hx hb hown hT hE hW cls_X11 (Or.inl (by decide)) (so_268 h0 g _) (by decide) rfl wq1185 dX11_tried_151 ?_
        refine x_bipush hx hb dX11_tried_154 (by decide) ?_
        refine x_iald hx hb hE hW (Or.inl (by decide)) (sa_269 h0 g _) ⟨by decide, by decide⟩ (by decide) dX11_tried_156 ?_
        refine x_rd hW (fun x33 ex33 rx33 => ?_)
        refine x_aload_n hx hb hl 1 rfl dX11_tried_157 rfl ?_
        refine x_get (j := 0) (v := .ref (h0 + 269)) hx hb hown hT hE hW cls_X11 (Or.inl (by decide)) (so_268 h0 g _) (by decide) rfl wq1185 dX11_tried_158 ?_
        refine x_bipush hx hb dX11_tried_161 (by decide) ?_
        refine x_iald hx hb hE hW (Or.inl (by decide)) (sa_269 h0 g _) ⟨by decide, by decide⟩ (by decide) dX11_tried_163 ?_
        refine x_rd hW (fun x34 ex34 rx34 => ?_)
        refine lv_iand hx hb dX11_tried_164 ?_
        refine x_any (fun x35 rx35 => ?_)
        refine x_goi (x_runS (As := [.int (xJ x35)]) hx hb hml hown hT hE hW hl.1 cf_X11_bits wq1650 wq1649 (c_X11_bits l D g T h0 s16 hW.2.1 x35 rx35) ⟨rfl, rfl, ⟨by decide, by decide⟩, ⟨by decide, by decide⟩⟩ rfl rfl (Nat.le_of_ble_eq_true rfl) dX11_tried_165) hW (fun x36 s37 H locs rx36 hp38 hW => ?_)
        obtain ⟨es37, hp38⟩ := hp38
        subst es37
        have ghp38 := hp38
        refine lv_istore (lv' := [(4, .int (xJ x36)), (3, .int (xJ t0_58)), (0, .ref (h0 + 268)), (1, .int (xJ n)), (2, .int (xJ x))]) hx hb dX11_tried_168 hl (by decide) rfl (fun ls hl => ?_)
        refine lv_goto (tgt := 254) hx hb dX11_tried_170 (by decide) ?_
        exact J254 x36 H locs ls rx36 hW (lv_sub hl [2, 0] rfl)
      · refine x_tabIn (v := 3) (tgt := 173) hx hb rx c25 dX11_tried_92 (by decide) rfl (by decide) ?_
        refine x_aload_n hx hb hl 1 rfl dX11_tried_173 rfl ?_
        refine x_get (j := 43) (v := .int (xJ (s16 268 43))) hx hb hown hT hE hW cls_X11 (Or.inl (by decide)) (so_268 h0 g _) (by decide) rfl wq1228 dX11_tried_174 ?_
        refine x_rd hW (fun x39 ex39 rx39 => ?_)
        refine lv_istore (lv' := [(4, .int (xJ x39)), (3, .int (xJ t0_58)), (0, .ref (h0 + 268)), (1, .int (xJ n)), (2, .int (xJ x))]) hx hb dX11_tried_177 hl (by decide) rfl (fun ls hl => ?_)
        refine lv_goto (tgt := 254) hx hb dX11_tried_179 (by decide) ?_
        exact J254 x39 H locs ls rx39 hW (lv_sub hl [2, 0] rfl)
      · refine x_tabIn (v := 4) (tgt := 182) hx hb rx c25 dX11_tried_92 (by decide) rfl (by decide) ?_
        refine x_aload_n hx hb hl 1 rfl dX11_tried_182 rfl ?_
        refine x_get (j := 44) (v := .int (xJ (s16 268 44))) hx hb hown hT hE hW cls_X11 (Or.inl (by decide)) (so_268 h0 g _) (by decide) rfl wq1229 dX11_tried_183 ?_
        refine x_rd hW (fun x40 ex40 rx40 => ?_)
        refine lv_istore (lv' := [(4, .int (xJ x40)), (3, .int (xJ t0_58)), (0, .ref (h0 + 268)), (1, .int (xJ n)), (2, .int (xJ x))]) hx hb dX11_tried_186 hl (by decide) rfl (fun ls hl => ?_)
        refine lv_goto (tgt := 254) hx hb dX11_tried_188 (by decide) ?_
        exact J254 x40 H locs ls rx40 hW (lv_sub hl [2, 0] rfl)
      · refine x_tabIn (v := 5) (tgt := 191) hx hb rx c25 dX11_tried_92 (by decide) rfl (by decide) ?_
        refine x_aload_n hx hb hl 1 rfl dX11_tried_191 rfl ?_
        refine x_goi (x_runV (As := []) hx hb hml hown hT hE hW hl.1 (Or.inl (by decide)) (so_268 h0 g _) rfl cf_X11_freeMany wq1654 wq152 wq1652 (c_X11_freeMany l D g T h0 s16 hW.2.1 hp17.1.1 hp17.1.2.1 hp17.1.2.2.1) ⟨rfl, rfl, ⟨by decide, by decide⟩, ⟨by decide, by decide⟩⟩ rfl rfl (Nat.le_of_ble_eq_true rfl) dX11_tried_192) hW (fun x41 s42 H locs rx41 hp43 hW => ?_)
        obtain ⟨es42, hp43⟩ := hp43
        subst es42
        have ghp43 := hp43
        refine lv_istore (lv' := [(4, .int (xJ x41)), (3, .int (xJ t0_58)), (0, .ref (h0 + 268)), (1, .int (xJ n)), (2, .int (xJ x))]) hx hb dX11_tried_195 hl (by decide) rfl (fun ls hl => ?_)
        refine lv_goto (tgt := 254) hx hb dX11_tried_197 (by decide) ?_
        exact J254 x41 H locs ls rx41 hW (lv_sub hl [2, 0] rfl)
    refine x_iconst hx hb dX11_tried_73 ?_
    rw [eQ]
    exact x_iret hx hb hr hlk hW (by decide) ⟨hF, ⟨p0, p1, p2, k268_8, k268_58, trivial⟩, trivial⟩ dX11_tried_74
  refine x_if_ne (tgt := 53) hx hb rx1 dX11_tried_6 (by decide) (fun c44 => ?_) (fun c44 => ?_)
  · skip
    refine x_iconst hx hb dX11_tried_53 ?_
    refine lv_goto (tgt := 58) hx hb dX11_tried_54 (by decide) ?_
    exact J58 1 H locs ls (by decide) (by omega) hW (lv_sub hl [0, 1, 2] rfl)
  refine x_iload_n hx hb hl 2 rfl dX11_tried_9 rfl ?_
  refine x_bipush hx hb dX11_tried_10 (by decide) ?_
  refine x_bipush hx hb dX11_tried_12 (by decide) ?_
  refine x_goi (x_runS (As := [.int (xJ x), .int (xJ 10), .int (xJ 29)]) hx hb hml hown hT hE hW hl.1 cf_X11_in wq1383 wq1382 (c_X11_in l D g T h0 s0 hW.2.1 x rx 10 (by decide) 29 (by decide)) ⟨rfl, rfl, ⟨by decide, by decide⟩, ⟨by decide, by decide⟩⟩ rfl rfl (Nat.le_of_ble_eq_true rfl) dX11_tried_14) hW (fun x45 s46 H locs rx45 hp47 hW => ?_)
  obtain ⟨es46, hp47⟩ := hp47
  subst es46
  have ghp47 := hp47
  refine x_if_eq (tgt := 31) hx hb rx45 dX11_tried_17 (by decide) (fun c48 => ?_) (fun c48 => ?_)
  · skip
    refine x_iload_n hx hb hl 2 rfl dX11_tried_31 rfl ?_
    refine x_bipush hx hb dX11_tried_32 (by decide) ?_
    refine x_bipush hx hb dX11_tried_34 (by decide) ?_
    refine x_goi (x_runS (As := [.int (xJ x), .int (xJ 30), .int (xJ 31)]) hx hb hml hown hT hE hW hl.1 cf_X11_in wq1383 wq1382 (c_X11_in l D g T h0 s0 hW.2.1 x rx 30 (by decide) 31 (by decide)) ⟨rfl, rfl, ⟨by decide, by decide⟩, ⟨by decide, by decide⟩⟩ rfl rfl (Nat.le_of_ble_eq_true rfl) dX11_tried_36) hW (fun x49 s50 H locs rx49 hp51 hW => ?_)
    obtain ⟨es50, hp51⟩ := hp51
    subst es50
    have ghp51 := hp51
    refine x_if_eq (tgt := 57) hx hb rx49 dX11_tried_39 (by decide) (fun c52 => ?_) (fun c52 => ?_)
    · skip
      refine x_iconst hx hb dX11_tried_57 ?_
      exact J58 0 H locs ls (by decide) (by omega) hW (lv_sub hl [0, 1, 2] rfl)
    refine x_aload_n hx hb hl 0 rfl dX11_tried_42 rfl ?_
    refine x_iload_n hx hb hl 2 rfl dX11_tried_43 rfl ?_
    refine x_bipush hx hb dX11_tried_44 (by decide) ?_
    refine x_isub hx hb dX11_tried_46 ?_
    refine x_goi (x_runV (As := [.int (xJ (x - 30))]) hx hb hml hown hT hE hW hl.1 (Or.inl (by decide)) (so_268 h0 g _) rfl cf_X11_isJudge wq1409 wq109 wq1407 (c_X11_isJudge l D g T h0 s0 hW.2.1 (x - 30) (by omega) p0 p1 p2) ⟨rfl, rfl, ⟨by decide, by decide⟩, ⟨by decide, by decide⟩⟩ rfl rfl (Nat.le_of_ble_eq_true rfl) dX11_tried_47) hW (fun x53 s54 H locs rx53 hp55 hW => ?_)
    obtain ⟨es54, hp55⟩ := hp55
    subst es54
    have ghp55 := hp55
    refine x_if_eq (tgt := 57) hx hb rx53 dX11_tried_50 (by decide) (fun c56 => ?_) (fun c56 => ?_)
    · skip
      refine x_iconst hx hb dX11_tried_57 ?_
      exact J58 0 H locs ls (by decide) (by omega) hW (lv_sub hl [0, 1, 2] rfl)
    refine x_iconst hx hb dX11_tried_53 ?_
    refine lv_goto (tgt := 58) hx hb dX11_tried_54 (by decide) ?_
    exact J58 1 H locs ls (by decide) (by omega) hW (lv_sub hl [0, 1, 2] rfl)
  refine x_aload_n hx hb hl 0 rfl dX11_tried_20 rfl ?_
  refine x_iload_n hx hb hl 2 rfl dX11_tried_21 rfl ?_
  refine x_bipush hx hb dX11_tried_22 (by decide) ?_
  refine x_irem hx hb rx (by decide) (by omega) (by decide) dX11_tried_24 ?_
  refine x_goi (x_runV (As := [.int (xJ (x % 10))]) hx hb hml hown hT hE hW hl.1 (Or.inl (by decide)) (so_268 h0 g _) rfl cf_X11_isFelon wq1423 wq111 wq1421 (c_X11_isFelon l D g T h0 s0 hW.2.1 (x % 10) (by omega) p0 p1 p2) ⟨rfl, rfl, ⟨by decide, by decide⟩, ⟨by decide, by decide⟩⟩ rfl rfl (Nat.le_of_ble_eq_true rfl) dX11_tried_25) hW (fun x57 s58 H locs rx57 hp59 hW => ?_)
  obtain ⟨es58, hp59⟩ := hp59
  subst es58
  have ghp59 := hp59
  refine x_if_ne (tgt := 53) hx hb rx57 dX11_tried_28 (by decide) (fun c60 => ?_) (fun c60 => ?_)
  · skip
    refine x_iconst hx hb dX11_tried_53 ?_
    refine lv_goto (tgt := 58) hx hb dX11_tried_54 (by decide) ?_
    exact J58 1 H locs ls (by decide) (by omega) hW (lv_sub hl [0, 1, 2] rfl)
  refine x_iload_n hx hb hl 2 rfl dX11_tried_31 rfl ?_
  refine x_bipush hx hb dX11_tried_32 (by decide) ?_
  refine x_bipush hx hb dX11_tried_34 (by decide) ?_
  refine x_goi (x_runS (As := [.int (xJ x), .int (xJ 30), .int (xJ 31)]) hx hb hml hown hT hE hW hl.1 cf_X11_in wq1383 wq1382 (c_X11_in l D g T h0 s0 hW.2.1 x rx 30 (by decide) 31 (by decide)) ⟨rfl, rfl, ⟨by decide, by decide⟩, ⟨by decide, by decide⟩⟩ rfl rfl (Nat.le_of_ble_eq_true rfl) dX11_tried_36) hW (fun x61 s62 H locs rx61 hp63 hW => ?_)
  obtain ⟨es62, hp63⟩ := hp63
  subst es62
  have ghp63 := hp63
  refine x_if_eq (tgt := 57) hx hb rx61 dX11_tried_39 (by decide) (fun c64 => ?_) (fun c64 => ?_)
  · skip
    refine x_iconst hx hb dX11_tried_57 ?_
    exact J58 0 H locs ls (by decide) (by omega) hW (lv_sub hl [0, 1, 2] rfl)
  refine x_aload_n hx hb hl 0 rfl dX11_tried_42 rfl ?_
  refine x_iload_n hx hb hl 2 rfl dX11_tried_43 rfl ?_
  refine x_bipush hx hb dX11_tried_44 (by decide) ?_
  refine x_isub hx hb dX11_tried_46 ?_
  refine x_goi (x_runV (As := [.int (xJ (x - 30))]) hx hb hml hown hT hE hW hl.1 (Or.inl (by decide)) (so_268 h0 g _) rfl cf_X11_isJudge wq1409 wq109 wq1407 (c_X11_isJudge l D g T h0 s0 hW.2.1 (x - 30) (by omega) p0 p1 p2) ⟨rfl, rfl, ⟨by decide, by decide⟩, ⟨by decide, by decide⟩⟩ rfl rfl (Nat.le_of_ble_eq_true rfl) dX11_tried_47) hW (fun x65 s66 H locs rx65 hp67 hW => ?_)
  obtain ⟨es66, hp67⟩ := hp67
  subst es66
  have ghp67 := hp67
  refine x_if_eq (tgt := 57) hx hb rx65 dX11_tried_50 (by decide) (fun c68 => ?_) (fun c68 => ?_)
  · skip
    refine x_iconst hx hb dX11_tried_57 ?_
    exact J58 0 H locs ls (by decide) (by omega) hW (lv_sub hl [0, 1, 2] rfl)
  refine x_iconst hx hb dX11_tried_53 ?_
  refine lv_goto (tgt := 58) hx hb dX11_tried_54 (by decide) ?_
  exact J58 1 H locs ls (by decide) (by omega) hW (lv_sub hl [0, 1, 2] rfl)
set_option maxHeartbeats 4000000 in
set_option maxRecDepth 100000 in
theorem c_X11_felonIs (l : Launch) (D : va_G) (g : xG) (T : Nat × Nat × Nat) (h0 : Nat) (s0 : xS) (hσ : xRR s0) (f : Int) (rf : xR f) (x : Int) (rx : xR x) (p0 : IMn s0) (p1 : IMk s0) (p2 : IMo s0) : Met l yX11_felonIs (xws yX11_felonIs cX11_felonIs 3 (some .int)) { frames := 7, cells := 0, slots := 0, locals := 162 } (xP [.ref (h0 + 268), .int (xJ f), .int (xJ x)] D g T h0 s0) (xQi D g h0 (fun r τ => xFr (fun k => k = 293 ∨ k = 294 ∨ k = 295) s0 τ ∧ (((IMn τ) ∧ (IMk τ) ∧ (IMo τ) ∧ True) ∧ (True)))) 0 0 (xA h0) := by
  refine x_met hσ (by decide) (Nat.le_of_ble_eq_true rfl) ?_
  intro p e s m args below meth c hx hb hr hml hown hT hlk hnm hE hW ls hl
  have hl : lv_has ls 3 [(0, .ref (h0 + 268)), (1, .int (xJ f)), (2, .int (xJ x))] := hl
  obtain ⟨Q, eQ⟩ : ∃ Q, Q = MQ below (xQi D g h0 (fun r τ => xFr (fun k => k = 293 ∨ k = 294 ∨ k = 295) s0 τ ∧ (((IMn τ) ∧ (IMk τ) ∧ (IMo τ) ∧ True) ∧ (True)))) args s 0 0 (xA h0) := ⟨_, rfl⟩
  rw [← eQ]
  generalize hHe : ([] : List Loc) = locs at hW ⊢
  obtain ⟨H, eH⟩ : ∃ H, H = s.heap := ⟨_, rfl⟩
  rw [← eH] at hW ⊢
  have hF : xFr (fun k => k = 293 ∨ k = 294 ∨ k = 295) s0 s0 := xFr.rf
  have k268_8 : s0 268 8 = s0 268 8 := rfl
  have k268_58 : s0 268 58 = s0 268 58 := rfl
  refine x_aload_n hx hb hl 0 rfl dX11_felonIs_0 rfl ?_
  refine x_iload_n hx hb hl 1 rfl dX11_felonIs_1 rfl ?_
  refine x_goi (x_runV (As := [.int (xJ f)]) hx hb hml hown hT hE hW hl.1 (Or.inl (by decide)) (so_268 h0 g _) rfl cf_X11_isFelon wq1423 wq111 wq1421 (c_X11_isFelon l D g T h0 s0 hW.2.1 f rf p0 p1 p2) ⟨rfl, rfl, ⟨by decide, by decide⟩, ⟨by decide, by decide⟩⟩ rfl rfl (Nat.le_of_ble_eq_true rfl) dX11_felonIs_2) hW (fun x1 s2 H locs rx1 hp3 hW => ?_)
  obtain ⟨es2, hp3⟩ := hp3
  subst es2
  have ghp3 := hp3
  refine x_if_ne (tgt := 10) hx hb rx1 dX11_felonIs_5 (by decide) (fun c4 => ?_) (fun c4 => ?_)
  · skip
    refine x_iload_n hx hb hl 2 rfl dX11_felonIs_10 rfl ?_
    rcases (show (x < 0 ∨ 5 < x) ∨ x = 0 ∨ x = 1 ∨ x = 2 ∨ x = 3 ∨ x = 4 ∨ x = 5 from by omega) with c5 | c5 | c5 | c5 | c5 | c5 | c5
    · refine x_tabOut (tgt := 132) hx hb rx dX11_felonIs_11 c5 (by decide) ?_
      refine x_iconst hx hb dX11_felonIs_132 ?_
      rw [eQ]
      exact x_iret hx hb hr hlk hW (by decide) ⟨hF, ⟨p0, p1, p2, trivial⟩, trivial⟩ dX11_felonIs_133
    · refine x_tabIn (v := 0) (tgt := 48) hx hb rx c5 dX11_felonIs_11 (by decide) rfl (by decide) ?_
      refine x_aload_n hx hb hl 0 rfl dX11_felonIs_48 rfl ?_
      refine x_get (j := 0) (v := .ref (h0 + 269)) hx hb hown hT hE hW cls_X11 (Or.inl (by decide)) (so_268 h0 g _) (by decide) rfl wq1185 dX11_felonIs_49 ?_
      refine x_iconst hx hb dX11_felonIs_52 ?_
      refine x_iload_n hx hb hl 1 rfl dX11_felonIs_53 rfl ?_
      refine x_iadd hx hb dX11_felonIs_54 ?_
      refine x_iald hx hb hE hW (Or.inl (by decide)) (sa_269 h0 g _) (by omega) (by decide) dX11_felonIs_55 ?_
      refine x_rd hW (fun x6 ex6 rx6 => ?_)
      have bx6 : 0 ≤ x6 ∧ x6 ≤ 99 := by rw [ex6]; exact (IMn.n1 p0).2.2.1 _ (by omega) (by omega)
      rw [eQ]
      exact x_iret hx hb hr hlk hW rx6 ⟨hF, ⟨p0, p1, p2, trivial⟩, trivial⟩ dX11_felonIs_56
    · refine x_tabIn (v := 1) (tgt := 57) hx hb rx c5 dX11_felonIs_11 (by decide) rfl (by decide) ?_
      refine x_aload_n hx hb hl 0 rfl dX11_felonIs_57 rfl ?_
      refine x_get (j := 0) (v := .ref (h0 + 269)) hx hb hown hT hE hW cls_X11 (Or.inl (by decide)) (so_268 h0 g _) (by decide) rfl wq1185 dX11_felonIs_58 ?_
      refine x_bipush hx hb dX11_felonIs_61 (by decide) ?_
      refine x_iload_n hx hb hl 1 rfl dX11_felonIs_63 rfl ?_
      refine x_iadd hx hb dX11_felonIs_64 ?_
      refine x_iald hx hb hE hW (Or.inl (by decide)) (sa_269 h0 g _) (by omega) (by decide) dX11_felonIs_65 ?_
      refine x_rd hW (fun x7 ex7 rx7 => ?_)
      rw [eQ]
      exact x_iret hx hb hr hlk hW rx7 ⟨hF, ⟨p0, p1, p2, trivial⟩, trivial⟩ dX11_felonIs_66
    · refine x_tabIn (v := 2) (tgt := 67) hx hb rx c5 dX11_felonIs_11 (by decide) rfl (by decide) ?_
      refine x_aload_n hx hb hl 0 rfl dX11_felonIs_67 rfl ?_
      refine x_get (j := 0) (v := .ref (h0 + 269)) hx hb hown hT hE hW cls_X11 (Or.inl (by decide)) (so_268 h0 g _) (by decide) rfl wq1185 dX11_felonIs_68 ?_
      refine x_bipush hx hb dX11_felonIs_71 (by decide) ?_
      refine x_iload_n hx hb hl 1 rfl dX11_felonIs_73 rfl ?_
      refine x_iadd hx hb dX11_felonIs_74 ?_
      refine x_iald hx hb hE hW (Or.inl (by decide)) (sa_269 h0 g _) (by omega) (by decide) dX11_felonIs_75 ?_
      refine x_rd hW (fun x8 ex8 rx8 => ?_)
      rw [eQ]
      exact x_iret hx hb hr hlk hW rx8 ⟨hF, ⟨p0, p1, p2, trivial⟩, trivial⟩ dX11_felonIs_76
    · refine x_tabIn (v := 3) (tgt := 77) hx hb rx c5 dX11_felonIs_11 (by decide) rfl (by decide) ?_
      refine x_aload_n hx hb hl 0 rfl dX11_felonIs_77 rfl ?_
      refine x_get (j := 0) (v := .ref (h0 + 269)) hx hb hown hT hE hW cls_X11 (Or.inl (by decide)) (so_268 h0 g _) (by decide) rfl wq1185 dX11_felonIs_78 ?_
      refine x_bipush hx hb dX11_felonIs_81 (by decide) ?_
      refine x_iald hx hb hE hW (Or.inl (by decide)) (sa_269 h0 g _) ⟨by decide, by decide⟩ (by decide) dX11_felonIs_83 ?_
      refine x_rd hW (fun x9 ex9 rx9 => ?_)
      refine x_iload_n hx hb hl 1 rfl dX11_felonIs_84 rfl ?_
      refine x_goi (x_runS (As := [.int (xJ x9), .int (xJ f)]) hx hb hml hown hT hE hW hl.1 cf_X11_has wq1415 wq1414 (c_X11_has l D g T h0 s0 hW.2.1 x9 rx9 f rf) ⟨rfl, rfl, ⟨by decide, by decide⟩, ⟨by decide, by decide⟩⟩ rfl rfl (Nat.le_of_ble_eq_true rfl) dX11_felonIs_85) hW (fun x10 s11 H locs rx10 hp12 hW => ?_)
      obtain ⟨es11, hp12⟩ := hp12
      subst es11
      have ghp12 := hp12
      refine x_if_eq (tgt := 95) hx hb rx10 dX11_felonIs_88 (by decide) (fun c13 => ?_) (fun c13 => ?_)
      · skip
        refine x_iconst hx hb dX11_felonIs_95 ?_
        rw [eQ]
        exact x_iret hx hb hr hlk hW (by decide) ⟨hF, ⟨p0, p1, p2, trivial⟩, trivial⟩ dX11_felonIs_96
      refine x_iconst hx hb dX11_felonIs_91 ?_
      refine lv_goto (tgt := 96) hx hb dX11_felonIs_92 (by decide) ?_
      rw [eQ]
      exact x_iret hx hb hr hlk hW (by decide) ⟨hF, ⟨p0, p1, p2, trivial⟩, trivial⟩ dX11_felonIs_96
    · refine x_tabIn (v := 4) (tgt := 97) hx hb rx c5 dX11_felonIs_11 (by decide) rfl (by decide) ?_
      refine x_aload_n hx hb hl 0 rfl dX11_felonIs_97 rfl ?_
      refine x_bipush hx hb dX11_felonIs_98 (by decide) ?_
      refine x_iconst hx hb dX11_felonIs_100 ?_
      refine x_iload_n hx hb hl 1 rfl dX11_felonIs_101 rfl ?_
      refine x_goi (x_runV (As := [.int (xJ 118), .int (xJ 3), .int (xJ f)]) hx hb hml hown hT hE hW hl.1 (Or.inl (by decide)) (so_268 h0 g _) rfl cf_X11_byFelon wq1625 wq148 wq1623 (c_X11_byFelon l D g T h0 s0 hW.2.1 118 (by decide) 3 (by decide) f rf (by omega) p0 p1 p2) ⟨rfl, rfl, ⟨by decide, by decide⟩, ⟨by decide, by decide⟩⟩ rfl rfl (Nat.le_of_ble_eq_true rfl) dX11_felonIs_102) hW (fun x14 s15 H locs rx14 hp16 hW => ?_)
      obtain ⟨fs15, hp16⟩ := hp16
      have hF17 := hF.call fs15 (fun k h => by omega)
      have q18 : s15 268 8 = s0 268 8 := (congrFun (fs15 _ (by omega)) _).trans k268_8
      have q19 : s15 268 58 = s0 268 58 := (congrFun (fs15 _ (by omega)) _).trans k268_58
      have ghp16 := hp16.2
      rw [eQ]
      exact x_iret hx hb hr hlk hW rx14 ⟨hF17, ⟨hp16.1.1, hp16.1.2.1, hp16.1.2.2.1, trivial⟩, trivial⟩ dX11_felonIs_105
    · refine x_tabIn (v := 5) (tgt := 106) hx hb rx c5 dX11_felonIs_11 (by decide) rfl (by decide) ?_
      refine x_aload_n hx hb hl 0 rfl dX11_felonIs_106 rfl ?_
      refine x_aload_n hx hb hl 0 rfl dX11_felonIs_107 rfl ?_
      refine x_get (j := 0) (v := .ref (h0 + 269)) hx hb hown hT hE hW cls_X11 (Or.inl (by decide)) (so_268 h0 g _) (by decide) rfl wq1185 dX11_felonIs_108 ?_
      refine x_bipush hx hb dX11_felonIs_111 (by decide) ?_
      refine x_iald hx hb hE hW (Or.inl (by decide)) (sa_269 h0 g _) ⟨by decide, by decide⟩ (by decide) dX11_felonIs_113 ?_
      refine x_rd hW (fun x20 ex20 rx20 => ?_)
      have bx20 : 0 ≤ x20 ∧ x20 ≤ 9999 := by rw [ex20]; exact (IMn.n1 p0).2.2.2.1
      refine x_iconst hx hb dX11_felonIs_114 ?_
      refine x_gov (x_runV (As := [.int (xJ x20), .int (xJ 0)]) hx hb hml hown hT hE hW hl.1 (Or.inl (by decide)) (so_268 h0 g _) rfl cf_X11_laysShades wq1588 wq139 wq1586 (c_X11_laysShades l D g T h0 s0 hW.2.1 x20 rx20 0 (by decide) p0 p1 p2) ⟨rfl, rfl, ⟨by decide, by decide⟩, ⟨by decide, by decide⟩⟩ rfl rfl (Nat.le_of_ble_eq_true rfl) dX11_felonIs_115) hW (fun s22 H locs hp23 hW => ?_)
      obtain ⟨fs22, hp23⟩ := hp23
      have hF24 := hF.call fs22 (fun k h => by omega)
      have q25 : s22 268 8 = s0 268 8 := (congrFun (fs22 _ (by omega)) _).trans k268_8
      have q26 : s22 268 58 = s0 268 58 := (congrFun (fs22 _ (by omega)) _).trans k268_58
      have ghp23 := hp23.2
      refine x_aload_n hx hb hl 0 rfl dX11_felonIs_118 rfl ?_
      refine x_get (j := 40) (v := .ref (h0 + 295)) hx hb hown hT hE hW cls_X11 (Or.inl (by decide)) (so_268 h0 g _) (by decide) rfl wq1225 dX11_felonIs_119 ?_
      refine x_aload_n hx hb hl 0 rfl dX11_felonIs_122 rfl ?_
      refine x_get (j := 0) (v := .ref (h0 + 269)) hx hb hown hT hE hW cls_X11 (Or.inl (by decide)) (so_268 h0 g _) (by decide) rfl wq1185 dX11_felonIs_123 ?_
      refine x_iconst hx hb dX11_felonIs_126 ?_
      refine x_iload_n hx hb hl 1 rfl dX11_felonIs_127 rfl ?_
      refine x_iadd hx hb dX11_felonIs_128 ?_
      refine x_iald hx hb hE hW (Or.inl (by decide)) (sa_269 h0 g _) (by omega) (by decide) dX11_felonIs_129 ?_
      refine x_rd hW (fun x27 ex27 rx27 => ?_)
      have bx27 : 0 ≤ x27 ∧ x27 ≤ 99 := by rw [ex27]; exact (IMn.n1 hp23.1.1).2.2.1 _ (by omega) (by omega)
      refine x_iald hx hb hE hW (Or.inl (by decide)) (sa_295 h0 g _) (by omega) (by decide) dX11_felonIs_130 ?_
      refine x_rd hW (fun x28 ex28 rx28 => ?_)
      rw [eQ]
      exact x_iret hx hb hr hlk hW rx28 ⟨hF24, ⟨hp23.1.1, hp23.1.2.1, hp23.1.2.2.1, trivial⟩, trivial⟩ dX11_felonIs_131
  refine x_iconst hx hb dX11_felonIs_8 ?_
  rw [eQ]
  exact x_iret hx hb hr hlk hW (by decide) ⟨hF, ⟨p0, p1, p2, trivial⟩, trivial⟩ dX11_felonIs_9
set_option maxHeartbeats 4000000 in
set_option maxRecDepth 100000 in
theorem c_X11_shade (l : Launch) (D : va_G) (g : xG) (T : Nat × Nat × Nat) (h0 : Nat) (s0 : xS) (hσ : xRR s0) (x : Int) (rx : xR x) (y : Int) (ry : xR y) (p0 : IMn s0) (p1 : IMk s0) (p2 : IMo s0) : Met l yX11_shade (xws yX11_shade cX11_shade 3 (some .int)) { frames := 7, cells := 0, slots := 0, locals := 162 } (xP [.ref (h0 + 268), .int (xJ x), .int (xJ y)] D g T h0 s0) (xQi D g h0 (fun r τ => xFr (fun k => k = 293 ∨ k = 294 ∨ k = 295) s0 τ ∧ (((IMn τ) ∧ (IMk τ) ∧ (IMo τ) ∧ True) ∧ (True)))) 0 0 (xA h0) := by
  refine x_met hσ (by decide) (Nat.le_of_ble_eq_true rfl) ?_
  intro p e s m args below meth c hx hb hr hml hown hT hlk hnm hE hW ls hl
  have hl : lv_has ls 3 [(0, .ref (h0 + 268)), (1, .int (xJ x)), (2, .int (xJ y))] := hl
  obtain ⟨Q, eQ⟩ : ∃ Q, Q = MQ below (xQi D g h0 (fun r τ => xFr (fun k => k = 293 ∨ k = 294 ∨ k = 295) s0 τ ∧ (((IMn τ) ∧ (IMk τ) ∧ (IMo τ) ∧ True) ∧ (True)))) args s 0 0 (xA h0) := ⟨_, rfl⟩
  rw [← eQ]
  generalize hHe : ([] : List Loc) = locs at hW ⊢
  obtain ⟨H, eH⟩ : ∃ H, H = s.heap := ⟨_, rfl⟩
  rw [← eH] at hW ⊢
  have hF : xFr (fun k => k = 293 ∨ k = 294 ∨ k = 295) s0 s0 := xFr.rf
  have k268_8 : s0 268 8 = s0 268 8 := rfl
  have k268_58 : s0 268 58 = s0 268 58 := rfl
  refine x_iload_n hx hb hl 1 rfl dX11_shade_0 rfl ?_
  refine x_iload_n hx hb hl 2 rfl dX11_shade_1 rfl ?_
  refine x_goi (x_runS (As := [.int (xJ x), .int (xJ y)]) hx hb hml hown hT hE hW hl.1 cf_X11_isOn wq1430 wq1429 (c_X11_isOn l D g T h0 s0 hW.2.1 x rx y ry) ⟨rfl, rfl, ⟨by decide, by decide⟩, ⟨by decide, by decide⟩⟩ rfl rfl (Nat.le_of_ble_eq_true rfl) dX11_shade_2) hW (fun x1 s2 H locs rx1 hp3 hW => ?_)
  obtain ⟨es2, hp3⟩ := hp3
  subst es2
  have ghp3 := hp3
  refine x_if_ne (tgt := 10) hx hb rx1 dX11_shade_5 (by decide) (fun c4 => ?_) (fun c4 => ?_)
  · skip
    refine x_aload_n hx hb hl 0 rfl dX11_shade_10 rfl ?_
    refine x_aload_n hx hb hl 0 rfl dX11_shade_11 rfl ?_
    refine x_get (j := 0) (v := .ref (h0 + 269)) hx hb hown hT hE hW cls_X11 (Or.inl (by decide)) (so_268 h0 g _) (by decide) rfl wq1185 dX11_shade_12 ?_
    refine x_bipush hx hb dX11_shade_15 (by decide) ?_
    refine x_iald hx hb hE hW (Or.inl (by decide)) (sa_269 h0 g _) ⟨by decide, by decide⟩ (by decide) dX11_shade_17 ?_
    refine x_rd hW (fun x5 ex5 rx5 => ?_)
    have bx5 : 0 ≤ x5 ∧ x5 ≤ 9999 := by rw [ex5]; exact (IMn.n1 p0).2.2.2.1
    refine x_iconst hx hb dX11_shade_18 ?_
    refine x_gov (x_runV (As := [.int (xJ x5), .int (xJ 0)]) hx hb hml hown hT hE hW hl.1 (Or.inl (by decide)) (so_268 h0 g _) rfl cf_X11_laysShades wq1588 wq139 wq1586 (c_X11_laysShades l D g T h0 s0 hW.2.1 x5 rx5 0 (by decide) p0 p1 p2) ⟨rfl, rfl, ⟨by decide, by decide⟩, ⟨by decide, by decide⟩⟩ rfl rfl (Nat.le_of_ble_eq_true rfl) dX11_shade_19) hW (fun s7 H locs hp8 hW => ?_)
    obtain ⟨fs7, hp8⟩ := hp8
    have hF9 := hF.call fs7 (fun k h => by omega)
    have q10 : s7 268 8 = s0 268 8 := (congrFun (fs7 _ (by omega)) _).trans k268_8
    have q11 : s7 268 58 = s0 268 58 := (congrFun (fs7 _ (by omega)) _).trans k268_58
    have ghp8 := hp8.2
    refine x_aload_n hx hb hl 0 rfl dX11_shade_22 rfl ?_
    refine x_get (j := 40) (v := .ref (h0 + 295)) hx hb hown hT hE hW cls_X11 (Or.inl (by decide)) (so_268 h0 g _) (by decide) rfl wq1225 dX11_shade_23 ?_
    refine x_bipush hx hb dX11_shade_26 (by decide) ?_
    refine x_iload_n hx hb hl 2 rfl dX11_shade_28 rfl ?_
    refine x_imul hx hb dX11_shade_29 ?_
    refine x_iload_n hx hb hl 1 rfl dX11_shade_30 rfl ?_
    refine x_iadd hx hb dX11_shade_31 ?_
    refine x_iald hx hb hE hW (Or.inl (by decide)) (sa_295 h0 g _) (by omega) (by decide) dX11_shade_32 ?_
    refine x_rd hW (fun x12 ex12 rx12 => ?_)
    rw [eQ]
    exact x_iret hx hb hr hlk hW rx12 ⟨hF9, ⟨hp8.1.1, hp8.1.2.1, hp8.1.2.2.1, trivial⟩, trivial⟩ dX11_shade_33
  refine x_iconst hx hb dX11_shade_8 ?_
  rw [eQ]
  exact x_iret hx hb hr hlk hW (by decide) ⟨hF, ⟨p0, p1, p2, trivial⟩, trivial⟩ dX11_shade_9
set_option maxHeartbeats 4000000 in
set_option maxRecDepth 100000 in
theorem c_X11_laysReach (l : Launch) (D : va_G) (g : xG) (T : Nat × Nat × Nat) (h0 : Nat) (s0 : xS) (hσ : xRR s0) (p0 : IMn s0) (p1 : IMk s0) (p2 : IMo s0) : Met l yX11_laysReach (xws yX11_laysReach cX11_laysReach 3 none) { frames := 4, cells := 0, slots := 0, locals := 96 } (xP [.ref (h0 + 268)] D g T h0 s0) (xQv D g h0 (fun τ => xFr (fun k => k = 293 ∨ k = 294 ∨ k = 296 ∨ k = 301) s0 τ ∧ (((IMn τ) ∧ (IMk τ) ∧ (IMo τ) ∧ True) ∧ (True)))) 0 0 (xA h0) := by
  refine x_met hσ (by decide) (Nat.le_of_ble_eq_true rfl) ?_
  intro p e s m args below meth c hx hb hr hml hown hT hlk hnm hE hW ls hl
  have hl : lv_has ls 3 [(0, .ref (h0 + 268))] := hl
  obtain ⟨Q, eQ⟩ : ∃ Q, Q = MQ below (xQv D g h0 (fun τ => xFr (fun k => k = 293 ∨ k = 294 ∨ k = 296 ∨ k = 301) s0 τ ∧ (((IMn τ) ∧ (IMk τ) ∧ (IMo τ) ∧ True) ∧ (True)))) args s 0 0 (xA h0) := ⟨_, rfl⟩
  rw [← eQ]
  generalize hHe : ([] : List Loc) = locs at hW ⊢
  obtain ⟨H, eH⟩ : ∃ H, H = s.heap := ⟨_, rfl⟩
  rw [← eH] at hW ⊢
  have hF : xFr (fun k => k = 293 ∨ k = 294 ∨ k = 296 ∨ k = 301) s0 s0 := xFr.rf
  have k268_8 : s0 268 8 = s0 268 8 := rfl
  have k268_58 : s0 268 58 = s0 268 58 := rfl
  refine x_iconst hx hb dX11_laysReach_0 ?_
  refine lv_istore_n (lv' := [(1, .int (xJ 0)), (0, .ref (h0 + 268))]) hx hb dX11_laysReach_1 rfl hl (by decide) rfl (fun ls hl => ?_)
  have L2 : ∀ (fu : Nat) (i1_2 : Int) (s_2 : xS) (H : Heap) (locs : List Loc) (ls : Array Slot), (xR i1_2) → (xFr (fun k => k = 293 ∨ k = 294 ∨ k = 296 ∨ k = 301) s0 s_2) → (IMn s_2) → (IMk s_2) → (IMo s_2) → (s_2 268 8 = s0 268 8) → (s_2 268 58 = s0 268 58) → (0 ≤ i1_2) → (i1_2 ≤ 100) → (100 + 1 - i1_2).toNat < fu → xW D g h0 s H locs s_2 → lv_has ls 3 [(0, .ref (h0 + 268)), (1, .int (xJ i1_2))] → W p l e { frames := 4, cells := 0, slots := 0, locals := 96 } s m args below meth c H locs 0 0 Q (F0 m 2 ls []) := by
    intro fu
    induction fu with
    | zero => intro i1_2 s_2 H locs ls ri1_2 hF_2 q2_0 q2_1 q2_2 q2_3 q2_4 v2_0 v2_1 hm; exact absurd hm (Nat.not_lt_zero _)
    | succ fu ih2 =>
      intro i1_2 s_2 H locs ls ri1_2 hF_2 q2_0 q2_1 q2_2 q2_3 q2_4 v2_0 v2_1 hm hW hl
      refine x_iload_n hx hb hl 1 rfl dX11_laysReach_2 rfl ?_
      refine x_bipush hx hb dX11_laysReach_3 (by decide) ?_
      refine x_icmp_ge (tgt := 21) hx hb ri1_2 (by decide) dX11_laysReach_5 (by decide) (fun c1 => ?_) (fun c1 => ?_)
      · skip
        refine x_iconst hx hb dX11_laysReach_21 ?_
        refine lv_istore_n (lv' := [(1, .int (xJ 0)), (0, .ref (h0 + 268))]) hx hb dX11_laysReach_22 rfl hl (by decide) rfl (fun ls hl => ?_)
        have L23 : ∀ (fu : Nat) (i1_23 : Int) (s_23 : xS) (H : Heap) (locs : List Loc) (ls : Array Slot), (xR i1_23) → (xFr (fun k => k = 293 ∨ k = 294 ∨ k = 296 ∨ k = 301) s0 s_23) → (IMn s_23) → (IMk s_23) → (IMo s_23) → (s_23 268 8 = s0 268 8) → (s_23 268 58 = s0 268 58) → (0 ≤ i1_23) → (i1_23 ≤ 10) → (10 + 1 - i1_23).toNat < fu → xW D g h0 s H locs s_23 → lv_has ls 3 [(0, .ref (h0 + 268)), (1, .int (xJ i1_23))] → W p l e { frames := 4, cells := 0, slots := 0, locals := 96 } s m args below meth c H locs 0 0 Q (F0 m 23 ls []) := by
          intro fu
          induction fu with
          | zero => intro i1_23 s_23 H locs ls ri1_23 hF_23 q23_0 q23_1 q23_2 q23_3 q23_4 v23_0 v23_1 hm; exact absurd hm (Nat.not_lt_zero _)
          | succ fu ih23 =>
            intro i1_23 s_23 H locs ls ri1_23 hF_23 q23_0 q23_1 q23_2 q23_3 q23_4 v23_0 v23_1 hm hW hl
            refine x_iload_n hx hb hl 1 rfl dX11_laysReach_23 rfl ?_
            refine x_bipush hx hb dX11_laysReach_24 (by decide) ?_
            refine x_icmp_ge (tgt := 109) hx hb ri1_23 (by decide) dX11_laysReach_26 (by decide) (fun c2 => ?_) (fun c2 => ?_)
            · skip
              rw [eQ]
              exact x_vret hx hb hr hlk hW ⟨hF_23, ⟨q23_0, q23_1, q23_2, trivial⟩, trivial⟩ dX11_laysReach_109
            refine x_aload_n hx hb hl 0 rfl dX11_laysReach_29 rfl ?_
            refine x_iload_n hx hb hl 1 rfl dX11_laysReach_30 rfl ?_
            refine x_goi (x_runV (As := [.int (xJ i1_23)]) hx hb hml hown hT hE hW hl.1 (Or.inl (by decide)) (so_268 h0 g _) rfl cf_X11_owes wq1620 wq147 wq1618 (c_X11_owes l D g T h0 s_23 hW.2.1 i1_23 ri1_23 q23_0 q23_1 q23_2) ⟨rfl, rfl, ⟨by decide, by decide⟩, ⟨by decide, by decide⟩⟩ rfl rfl (Nat.le_of_ble_eq_true rfl) dX11_laysReach_31) hW (fun x3 s4 H locs rx3 hp5 hW => ?_)
            obtain ⟨es4, hp5⟩ := hp5
            subst es4
            have ghp5 := hp5
            refine x_if_ne (tgt := 40) hx hb rx3 dX11_laysReach_34 (by decide) (fun c6 => ?_) (fun c6 => ?_)
            · skip
              refine x_aload_n hx hb hl 0 rfl dX11_laysReach_40 rfl ?_
              refine x_aload_n hx hb hl 0 rfl dX11_laysReach_41 rfl ?_
              refine x_get (j := 0) (v := .ref (h0 + 269)) hx hb hown hT hE hW cls_X11 (Or.inl (by decide)) (so_268 h0 g _) (by decide) rfl wq1185 dX11_laysReach_42 ?_
              refine x_iconst hx hb dX11_laysReach_45 ?_
              refine x_iload_n hx hb hl 1 rfl dX11_laysReach_46 rfl ?_
              refine x_iadd hx hb dX11_laysReach_47 ?_
              refine x_iald hx hb hE hW (Or.inl (by decide)) (sa_269 h0 g _) (by omega) (by decide) dX11_laysReach_48 ?_
              refine x_rd hW (fun x7 ex7 rx7 => ?_)
              have bx7 : 0 ≤ x7 ∧ x7 ≤ 99 := by rw [ex7]; exact (IMn.n1 q23_0).2.2.1 _ (by omega) (by omega)
              refine x_aload_n hx hb hl 0 rfl dX11_laysReach_49 rfl ?_
              refine x_bipush hx hb dX11_laysReach_50 (by decide) ?_
              refine x_iconst hx hb dX11_laysReach_52 ?_
              refine x_iload_n hx hb hl 1 rfl dX11_laysReach_53 rfl ?_
              refine x_goi (x_runV (As := [.int (xJ 118), .int (xJ 3), .int (xJ i1_23)]) hx hb hml hown hT hE hW hl.1 (Or.inl (by decide)) (so_268 h0 g _) rfl cf_X11_byFelon wq1625 wq148 wq1623 (c_X11_byFelon l D g T h0 s_23 hW.2.1 118 (by decide) 3 (by decide) i1_23 ri1_23 (by omega) q23_0 q23_1 q23_2) ⟨rfl, rfl, ⟨by decide, by decide⟩, ⟨by decide, by decide⟩⟩ rfl rfl (Nat.le_of_ble_eq_true rfl) dX11_laysReach_54) hW (fun x8 s9 H locs rx8 hp10 hW => ?_)
              obtain ⟨fs9, hp10⟩ := hp10
              have hF11 := hF_23.call fs9 (fun k h => by omega)
              have q12 : s9 268 8 = s0 268 8 := (congrFun (fs9 _ (by omega)) _).trans q23_3
              have q13 : s9 268 58 = s0 268 58 := (congrFun (fs9 _ (by omega)) _).trans q23_4
              have ghp10 := hp10.2
              refine x_iconst hx hb dX11_laysReach_57 ?_
              refine x_gov (x_runV (As := [.int (xJ x7), .int (xJ x8), .int (xJ 0)]) hx hb hml hown hT hE hW hl.1 (Or.inl (by decide)) (so_268 h0 g _) rfl cf_X11_laysCosts wq1637 wq151 wq1635 (c_X11_laysCosts l D g T h0 s9 hW.2.1 x7 rx7 x8 rx8 0 (by decide) hp10.1.1 hp10.1.2.1 hp10.1.2.2.1) ⟨rfl, rfl, ⟨by decide, by decide⟩, ⟨by decide, by decide⟩⟩ rfl rfl (Nat.le_of_ble_eq_true rfl) dX11_laysReach_58) hW (fun s15 H locs hp16 hW => ?_)
              obtain ⟨fs15, hp16⟩ := hp16
              have hF17 := hF11.call fs15 (fun k h => by omega)
              have q18 : s15 268 8 = s0 268 8 := (congrFun (fs15 _ (by omega)) _).trans q12
              have q19 : s15 268 58 = s0 268 58 := (congrFun (fs15 _ (by omega)) _).trans q13
              have ghp16 := hp16.2
              refine x_iconst hx hb dX11_laysReach_61 ?_
              refine lv_istore_n (lv' := [(2, .int (xJ 0)), (0, .ref (h0 + 268)), (1, .int (xJ i1_23))]) hx hb dX11_laysReach_62 rfl hl (by decide) rfl (fun ls hl => ?_)
              have L63 : ∀ (fu : Nat) (i2_63 : Int) (s_63 : xS) (H : Heap) (locs : List Loc) (ls : Array Slot), (xR i2_63) → (xFr (fun k => k = 293 ∨ k = 294 ∨ k = 296 ∨ k = 301) s0 s_63) → (s_63 268 8 = s0 268 8) → (s_63 268 58 = s0 268 58) → (IMn s_63) → (IMk s_63) → (IMo s_63) → (0 ≤ i2_63) → (i2_63 ≤ 100) → (100 + 1 - i2_63).toNat < fu → xW D g h0 s H locs s_63 → lv_has ls 3 [(0, .ref (h0 + 268)), (1, .int (xJ i1_23)), (2, .int (xJ i2_63))] → W p l e { frames := 4, cells := 0, slots := 0, locals := 96 } s m args below meth c H locs 0 0 Q (F0 m 63 ls []) := by
                intro fu
                induction fu with
                | zero => intro i2_63 s_63 H locs ls ri2_63 hF_63 q63_0 q63_1 q63_2 q63_3 q63_4 v63_0 v63_1 hm; exact absurd hm (Nat.not_lt_zero _)
                | succ fu ih63 =>
                  intro i2_63 s_63 H locs ls ri2_63 hF_63 q63_0 q63_1 q63_2 q63_3 q63_4 v63_0 v63_1 hm hW hl
                  refine x_iload_n hx hb hl 2 rfl dX11_laysReach_63 rfl ?_
                  refine x_bipush hx hb dX11_laysReach_64 (by decide) ?_
                  refine x_icmp_ge (tgt := 103) hx hb ri2_63 (by decide) dX11_laysReach_66 (by decide) (fun c20 => ?_) (fun c20 => ?_)
                  · skip
                    refine x_iinc (lv' := [(1, .int (xJ (i1_23 + 1))), (0, .ref (h0 + 268)), (2, .int (xJ i2_63))]) hx hb hl 1 rfl dX11_laysReach_103 (by decide) rfl (fun ls hl => ?_)
                    refine lv_goto (tgt := 23) hx hb dX11_laysReach_106 (by decide) ?_
                    exact ih23 (i1_23 + 1) s_63 H locs ls (by omega) hF_63 q63_2 q63_3 q63_4 q63_0 q63_1 (by omega) (by omega) (by omega) hW (lv_sub hl [1, 0] rfl)
                  refine x_aload_n hx hb hl 0 rfl dX11_laysReach_69 rfl ?_
                  refine x_get (j := 45) (v := .ref (h0 + 296)) hx hb hown hT hE hW cls_X11 (Or.inl (by decide)) (so_268 h0 g _) (by decide) rfl wq1230 dX11_laysReach_70 ?_
                  refine x_iload_n hx hb hl 2 rfl dX11_laysReach_73 rfl ?_
                  refine x_iald hx hb hE hW (Or.inl (by decide)) (sa_296 h0 g _) (by omega) (by decide) dX11_laysReach_74 ?_
                  refine x_rd hW (fun x21 ex21 rx21 => ?_)
                  refine lv_ldcw (v := xJ 1000000000) hx hb hown (hT _ wq1622) dX11_laysReach_75 ?_
                  refine x_icmp_ge (tgt := 97) hx hb rx21 (by decide) dX11_laysReach_78 (by decide) (fun c22 => ?_) (fun c22 => ?_)
                  · skip
                    refine x_iinc (lv' := [(2, .int (xJ (i2_63 + 1))), (0, .ref (h0 + 268)), (1, .int (xJ i1_23))]) hx hb hl 2 rfl dX11_laysReach_97 (by decide) rfl (fun ls hl => ?_)
                    refine lv_goto (tgt := 63) hx hb dX11_laysReach_100 (by decide) ?_
                    exact ih63 (i2_63 + 1) s_63 H locs ls (by omega) hF_63 q63_0 q63_1 q63_2 q63_3 q63_4 (by omega) (by omega) (by omega) hW (lv_sub hl [1, 2, 0] rfl)
                  refine x_aload_n hx hb hl 0 rfl dX11_laysReach_81 rfl ?_
                  refine x_get (j := 51) (v := .ref (h0 + 301)) hx hb hown hT hE hW cls_X11 (Or.inl (by decide)) (so_268 h0 g _) (by decide) rfl wq1236 dX11_laysReach_82 ?_
                  refine x_iload_n hx hb hl 2 rfl dX11_laysReach_85 rfl ?_
                  refine x_aload_n hx hb hl 0 rfl dX11_laysReach_86 rfl ?_
                  refine x_get (j := 51) (v := .ref (h0 + 301)) hx hb hown hT hE hW cls_X11 (Or.inl (by decide)) (so_268 h0 g _) (by decide) rfl wq1236 dX11_laysReach_87 ?_
                  refine x_iload_n hx hb hl 2 rfl dX11_laysReach_90 rfl ?_
                  refine x_iald hx hb hE hW (Or.inl (by decide)) (sa_301 h0 g _) (by omega) (by decide) dX11_laysReach_91 ?_
                  refine x_rd hW (fun x23 ex23 rx23 => ?_)
                  refine x_iconst hx hb dX11_laysReach_92 ?_
                  refine x_iload_n hx hb hl 1 rfl dX11_laysReach_93 rfl ?_
                  refine lv_ishl hx hb dX11_laysReach_94 ?_
                  refine x_any (fun x24 rx24 => ?_)
                  refine lv_ior hx hb dX11_laysReach_95 ?_
                  refine x_any (fun x25 rx25 => ?_)
                  refine x_iast hx hb hE hW (by decide) (fun σ => sa_301 h0 g σ) (by omega) (by decide) rx25 dX11_laysReach_96 (fun H locs s26 es26 hW => ?_)
                  have q27 : s26 268 8 = s0 268 8 := (show s26 268 8 = s_63 268 8 from by rw [es26, xU_k _ _ _ (by omega)]).trans q63_0
                  have q28 : s26 268 58 = s0 268 58 := (show s26 268 58 = s_63 268 58 from by rw [es26, xU_k _ _ _ (by omega)]).trans q63_1
                  have q29 : IMn s26 := by rw [es26]; exact IMn_o (by unfold suIMn; omega) q63_2
                  have q30 : IMk s26 := by rw [es26]; exact IMk_o (by unfold suIMk; omega) q63_3
                  have q31 : IMo s26 := by rw [es26]; exact IMo_o (by unfold suIMo; omega) q63_4
                  have hF32 := hF_63.put es26 (by omega)
                  refine x_iinc (lv' := [(2, .int (xJ (i2_63 + 1))), (0, .ref (h0 + 268)), (1, .int (xJ i1_23))]) hx hb hl 2 rfl dX11_laysReach_97 (by decide) rfl (fun ls hl => ?_)
                  refine lv_goto (tgt := 63) hx hb dX11_laysReach_100 (by decide) ?_
                  exact ih63 (i2_63 + 1) s26 H locs ls (by omega) hF32 q27 q28 q29 q30 q31 (by omega) (by omega) (by omega) hW (lv_sub hl [1, 2, 0] rfl)
              exact L63 ((100 + 1 - 0 : Int).toNat + 1) 0 s15 H locs ls (by decide) hF17 q18 q19 hp16.1.1 hp16.1.2.1 hp16.1.2.2.1 (by omega) (by omega) (Nat.lt_succ_self _) hW (lv_sub hl [1, 2, 0] rfl)
            refine lv_goto (tgt := 103) hx hb dX11_laysReach_37 (by decide) ?_
            refine x_iinc (lv' := [(1, .int (xJ (i1_23 + 1))), (0, .ref (h0 + 268))]) hx hb hl 1 rfl dX11_laysReach_103 (by decide) rfl (fun ls hl => ?_)
            refine lv_goto (tgt := 23) hx hb dX11_laysReach_106 (by decide) ?_
            exact ih23 (i1_23 + 1) s_23 H locs ls (by omega) hF_23 q23_0 q23_1 q23_2 q23_3 q23_4 (by omega) (by omega) (by omega) hW (lv_sub hl [1, 0] rfl)
        exact L23 ((10 + 1 - 0 : Int).toNat + 1) 0 s_2 H locs ls (by decide) hF_2 q2_0 q2_1 q2_2 q2_3 q2_4 (by omega) (by omega) (Nat.lt_succ_self _) hW (lv_sub hl [1, 0] rfl)
      refine x_aload_n hx hb hl 0 rfl dX11_laysReach_8 rfl ?_
      refine x_get (j := 51) (v := .ref (h0 + 301)) hx hb hown hT hE hW cls_X11 (Or.inl (by decide)) (so_268 h0 g _) (by decide) rfl wq1236 dX11_laysReach_9 ?_
      refine x_iload_n hx hb hl 1 rfl dX11_laysReach_12 rfl ?_
      refine x_iconst hx hb dX11_laysReach_13 ?_
      refine x_iast hx hb hE hW (by decide) (fun σ => sa_301 h0 g σ) (by omega) (by decide) (by decide) dX11_laysReach_14 (fun H locs s33 es33 hW => ?_)
      have q34 : IMn s33 := by rw [es33]; exact IMn_o (by unfold suIMn; omega) q2_0
      have q35 : IMk s33 := by rw [es33]; exact IMk_o (by unfold suIMk; omega) q2_1
      have q36 : IMo s33 := by rw [es33]; exact IMo_o (by unfold suIMo; omega) q2_2
      have q37 : s33 268 8 = s0 268 8 := (show s33 268 8 = s_2 268 8 from by rw [es33, xU_k _ _ _ (by omega)]).trans q2_3
      have q38 : s33 268 58 = s0 268 58 := (show s33 268 58 = s_2 268 58 from by rw [es33, xU_k _ _ _ (by omega)]).trans q2_4
      have hF39 := hF_2.put es33 (by omega)
      refine x_iinc (lv' := [(1, .int (xJ (i1_2 + 1))), (0, .ref (h0 + 268))]) hx hb hl 1 rfl dX11_laysReach_15 (by decide) rfl (fun ls hl => ?_)
      refine lv_goto (tgt := 2) hx hb dX11_laysReach_18 (by decide) ?_
      exact ih2 (i1_2 + 1) s33 H locs ls (by omega) hF39 q34 q35 q36 q37 q38 (by omega) (by omega) (by omega) hW (lv_sub hl [1, 0] rfl)
  exact L2 ((100 + 1 - 0 : Int).toNat + 1) 0 s0 H locs ls (by decide) hF p0 p1 p2 k268_8 k268_58 (by omega) (by omega) (Nat.lt_succ_self _) hW (lv_sub hl [1, 0] rfl)
set_option maxHeartbeats 4000000 in
set_option maxRecDepth 100000 in
theorem c_X11_mostAtOnce (l : Launch) (D : va_G) (g : xG) (T : Nat × Nat × Nat) (h0 : Nat) (s0 : xS) (hσ : xRR s0) (p0 : IMn s0) (p1 : IMk s0) (p2 : IMo s0) : Met l yX11_mostAtOnce (xws yX11_mostAtOnce cX11_mostAtOnce 4 (some .int)) { frames := 5, cells := 0, slots := 0, locals := 118 } (xP [.ref (h0 + 268)] D g T h0 s0) (xQi D g h0 (fun r τ => xFr (fun k => k = 293 ∨ k = 294 ∨ k = 296 ∨ k = 300 ∨ k = 301) s0 τ ∧ (((IMn τ) ∧ (IMk τ) ∧ (IMo τ) ∧ True) ∧ (True)))) 0 0 (xA h0) := by
  refine x_met hσ (by decide) (Nat.le_of_ble_eq_true rfl) ?_
  intro p e s m args below meth c hx hb hr hml hown hT hlk hnm hE hW ls hl
  have hl : lv_has ls 4 [(0, .ref (h0 + 268))] := hl
  obtain ⟨Q, eQ⟩ : ∃ Q, Q = MQ below (xQi D g h0 (fun r τ => xFr (fun k => k = 293 ∨ k = 294 ∨ k = 296 ∨ k = 300 ∨ k = 301) s0 τ ∧ (((IMn τ) ∧ (IMk τ) ∧ (IMo τ) ∧ True) ∧ (True)))) args s 0 0 (xA h0) := ⟨_, rfl⟩
  rw [← eQ]
  generalize hHe : ([] : List Loc) = locs at hW ⊢
  obtain ⟨H, eH⟩ : ∃ H, H = s.heap := ⟨_, rfl⟩
  rw [← eH] at hW ⊢
  have hF : xFr (fun k => k = 293 ∨ k = 294 ∨ k = 296 ∨ k = 300 ∨ k = 301) s0 s0 := xFr.rf
  have k268_8 : s0 268 8 = s0 268 8 := rfl
  have k268_58 : s0 268 58 = s0 268 58 := rfl
  refine x_aload_n hx hb hl 0 rfl dX11_mostAtOnce_0 rfl ?_
  refine x_gov (x_runV (As := []) hx hb hml hown hT hE hW hl.1 (Or.inl (by decide)) (so_268 h0 g _) rfl cf_X11_laysReach wq1674 wq154 wq1672 (c_X11_laysReach l D g T h0 s0 hW.2.1 p0 p1 p2) ⟨rfl, rfl, ⟨by decide, by decide⟩, ⟨by decide, by decide⟩⟩ rfl rfl (Nat.le_of_ble_eq_true rfl) dX11_mostAtOnce_1) hW (fun s2 H locs hp3 hW => ?_)
  obtain ⟨fs2, hp3⟩ := hp3
  have hF4 := hF.call fs2 (fun k h => by omega)
  have q5 : s2 268 8 = s0 268 8 := (congrFun (fs2 _ (by omega)) _).trans k268_8
  have q6 : s2 268 58 = s0 268 58 := (congrFun (fs2 _ (by omega)) _).trans k268_58
  have ghp3 := hp3.2
  refine x_iconst hx hb dX11_mostAtOnce_4 ?_
  refine lv_istore_n (lv' := [(1, .int (xJ 0)), (0, .ref (h0 + 268))]) hx hb dX11_mostAtOnce_5 rfl hl (by decide) rfl (fun ls hl => ?_)
  have L6 : ∀ (fu : Nat) (i1_6 : Int) (s_6 : xS) (H : Heap) (locs : List Loc) (ls : Array Slot), (xR i1_6) → (xFr (fun k => k = 293 ∨ k = 294 ∨ k = 296 ∨ k = 300 ∨ k = 301) s0 s_6) → (s_6 268 8 = s0 268 8) → (s_6 268 58 = s0 268 58) → (IMn s_6) → (IMk s_6) → (IMo s_6) → (0 ≤ i1_6) → (i1_6 ≤ 1024) → (1024 + 1 - i1_6).toNat < fu → xW D g h0 s H locs s_6 → lv_has ls 4 [(0, .ref (h0 + 268)), (1, .int (xJ i1_6))] → W p l e { frames := 5, cells := 0, slots := 0, locals := 118 } s m args below meth c H locs 0 0 Q (F0 m 6 ls []) := by
    intro fu
    induction fu with
    | zero => intro i1_6 s_6 H locs ls ri1_6 hF_6 q6_0 q6_1 q6_2 q6_3 q6_4 v6_0 v6_1 hm; exact absurd hm (Nat.not_lt_zero _)
    | succ fu ih6 =>
      intro i1_6 s_6 H locs ls ri1_6 hF_6 q6_0 q6_1 q6_2 q6_3 q6_4 v6_0 v6_1 hm hW hl
      refine x_iload_n hx hb hl 1 rfl dX11_mostAtOnce_6 rfl ?_
      refine x_sipush hx hb dX11_mostAtOnce_7 (by decide) ?_
      refine x_icmp_ge (tgt := 34) hx hb ri1_6 (by decide) dX11_mostAtOnce_10 (by decide) (fun c7 => ?_) (fun c7 => ?_)
      · skip
        refine x_iconst hx hb dX11_mostAtOnce_34 ?_
        refine lv_istore_n (lv' := [(1, .int (xJ 0)), (0, .ref (h0 + 268))]) hx hb dX11_mostAtOnce_35 rfl hl (by decide) rfl (fun ls hl => ?_)
        have L36 : ∀ (fu : Nat) (i1_36 : Int) (s_36 : xS) (H : Heap) (locs : List Loc) (ls : Array Slot), (xR i1_36) → (xFr (fun k => k = 293 ∨ k = 294 ∨ k = 296 ∨ k = 300 ∨ k = 301) s0 s_36) → (s_36 268 8 = s0 268 8) → (s_36 268 58 = s0 268 58) → (IMn s_36) → (IMk s_36) → (IMo s_36) → (0 ≤ i1_36) → (i1_36 ≤ 100) → (100 + 1 - i1_36).toNat < fu → xW D g h0 s H locs s_36 → lv_has ls 4 [(0, .ref (h0 + 268)), (1, .int (xJ i1_36))] → W p l e { frames := 5, cells := 0, slots := 0, locals := 118 } s m args below meth c H locs 0 0 Q (F0 m 36 ls []) := by
          intro fu
          induction fu with
          | zero => intro i1_36 s_36 H locs ls ri1_36 hF_36 q36_0 q36_1 q36_2 q36_3 q36_4 v36_0 v36_1 hm; exact absurd hm (Nat.not_lt_zero _)
          | succ fu ih36 =>
            intro i1_36 s_36 H locs ls ri1_36 hF_36 q36_0 q36_1 q36_2 q36_3 q36_4 v36_0 v36_1 hm hW hl
            refine x_iload_n hx hb hl 1 rfl dX11_mostAtOnce_36 rfl ?_
            refine x_bipush hx hb dX11_mostAtOnce_37 (by decide) ?_
            refine x_icmp_ge (tgt := 129) hx hb ri1_36 (by decide) dX11_mostAtOnce_39 (by decide) (fun c8 => ?_) (fun c8 => ?_)
            · skip
              refine x_iconst hx hb dX11_mostAtOnce_129 ?_
              refine lv_istore_n (lv' := [(1, .int (xJ 0)), (0, .ref (h0 + 268))]) hx hb dX11_mostAtOnce_130 rfl hl (by decide) rfl (fun ls hl => ?_)
              refine x_iconst hx hb dX11_mostAtOnce_131 ?_
              refine lv_istore_n (lv' := [(2, .int (xJ 0)), (1, .int (xJ 0)), (0, .ref (h0 + 268))]) hx hb dX11_mostAtOnce_132 rfl hl (by decide) rfl (fun ls hl => ?_)
              have L133 : ∀ (fu : Nat) (i1_133 : Int) (i2_133 : Int) (H : Heap) (locs : List Loc) (ls : Array Slot), (xR i1_133) → (xR i2_133) → (0 ≤ i2_133) → (i2_133 ≤ 1024) → (1024 + 1 - i2_133).toNat < fu → xW D g h0 s H locs s_36 → lv_has ls 4 [(0, .ref (h0 + 268)), (1, .int (xJ i1_133)), (2, .int (xJ i2_133))] → W p l e { frames := 5, cells := 0, slots := 0, locals := 118 } s m args below meth c H locs 0 0 Q (F0 m 133 ls []) := by
                intro fu
                induction fu with
                | zero => intro i1_133 i2_133 H locs ls ri1_133 ri2_133 v133_0 v133_1 hm; exact absurd hm (Nat.not_lt_zero _)
                | succ fu ih133 =>
                  intro i1_133 i2_133 H locs ls ri1_133 ri2_133 v133_0 v133_1 hm hW hl
                  refine x_iload_n hx hb hl 2 rfl dX11_mostAtOnce_133 rfl ?_
                  refine x_sipush hx hb dX11_mostAtOnce_134 (by decide) ?_
                  refine x_icmp_ge (tgt := 164) hx hb ri2_133 (by decide) dX11_mostAtOnce_137 (by decide) (fun c9 => ?_) (fun c9 => ?_)
                  · skip
                    refine x_iload_n hx hb hl 1 rfl dX11_mostAtOnce_164 rfl ?_
                    rw [eQ]
                    exact x_iret hx hb hr hlk hW ri1_133 ⟨hF_36, ⟨q36_2, q36_3, q36_4, trivial⟩, trivial⟩ dX11_mostAtOnce_165
                  refine x_aload_n hx hb hl 0 rfl dX11_mostAtOnce_140 rfl ?_
                  refine x_get (j := 50) (v := .ref (h0 + 300)) hx hb hown hT hE hW cls_X11 (Or.inl (by decide)) (so_268 h0 g _) (by decide) rfl wq1235 dX11_mostAtOnce_141 ?_
                  refine x_iload_n hx hb hl 2 rfl dX11_mostAtOnce_144 rfl ?_
                  refine x_zald hx hb hE hW (Or.inl (by decide)) (sa_300 h0 g _) (by omega) (by decide) dX11_mostAtOnce_145 ?_
                  refine x_rd hW (fun x10 ex10 rx10 => ?_)
                  refine x_if_eq (tgt := 158) hx hb rx10 dX11_mostAtOnce_146 (by decide) (fun c11 => ?_) (fun c11 => ?_)
                  · skip
                    refine x_iinc (lv' := [(2, .int (xJ (i2_133 + 1))), (0, .ref (h0 + 268)), (1, .int (xJ i1_133))]) hx hb hl 2 rfl dX11_mostAtOnce_158 (by decide) rfl (fun ls hl => ?_)
                    refine lv_goto (tgt := 133) hx hb dX11_mostAtOnce_161 (by decide) ?_
                    exact ih133 i1_133 (i2_133 + 1) H locs ls ri1_133 (by omega) (by omega) (by omega) (by omega) hW (lv_sub hl [1, 2, 0] rfl)
                  refine x_iload_n hx hb hl 1 rfl dX11_mostAtOnce_149 rfl ?_
                  refine x_iload_n hx hb hl 2 rfl dX11_mostAtOnce_150 rfl ?_
                  refine x_goi (x_runS (As := [.int (xJ i2_133)]) hx hb hml hown hT hE hW hl.1 cf_X11_bits wq1650 wq1649 (c_X11_bits l D g T h0 s_36 hW.2.1 i2_133 ri2_133) ⟨rfl, rfl, ⟨by decide, by decide⟩, ⟨by decide, by decide⟩⟩ rfl rfl (Nat.le_of_ble_eq_true rfl) dX11_mostAtOnce_151) hW (fun x12 s13 H locs rx12 hp14 hW => ?_)
                  obtain ⟨es13, hp14⟩ := hp14
                  subst es13
                  have ghp14 := hp14
                  refine x_goi (x_runS (As := [.int (xJ i1_133), .int (xJ x12)]) hx hb hml hown hT hE hW hl.1 cf_X11_max wq1677 wq1676 (c_X11_max l D g T h0 s_36 hW.2.1 i1_133 ri1_133 x12 rx12) ⟨rfl, rfl, ⟨by decide, by decide⟩, ⟨by decide, by decide⟩⟩ rfl rfl (Nat.le_of_ble_eq_true rfl) dX11_mostAtOnce_154) hW (fun x15 s16 H locs rx15 hp17 hW => ?_)
                  obtain ⟨es16, hp17⟩ := hp17
                  subst es16
                  have ghp17 := hp17
                  refine lv_istore_n (lv' := [(1, .int (xJ x15)), (0, .ref (h0 + 268)), (2, .int (xJ i2_133))]) hx hb dX11_mostAtOnce_157 rfl hl (by decide) rfl (fun ls hl => ?_)
                  refine x_iinc (lv' := [(2, .int (xJ (i2_133 + 1))), (1, .int (xJ x15)), (0, .ref (h0 + 268))]) hx hb hl 2 rfl dX11_mostAtOnce_158 (by decide) rfl (fun ls hl => ?_)
                  refine lv_goto (tgt := 133) hx hb dX11_mostAtOnce_161 (by decide) ?_
                  exact ih133 x15 (i2_133 + 1) H locs ls rx15 (by omega) (by omega) (by omega) (by omega) hW (lv_sub hl [2, 1, 0] rfl)
              exact L133 ((1024 + 1 - 0 : Int).toNat + 1) 0 0 H locs ls (by decide) (by decide) (by omega) (by omega) (Nat.lt_succ_self _) hW (lv_sub hl [2, 1, 0] rfl)
            refine x_aload_n hx hb hl 0 rfl dX11_mostAtOnce_42 rfl ?_
            refine x_get (j := 40) (v := .ref (h0 + 295)) hx hb hown hT hE hW cls_X11 (Or.inl (by decide)) (so_268 h0 g _) (by decide) rfl wq1225 dX11_mostAtOnce_43 ?_
            refine x_iload_n hx hb hl 1 rfl dX11_mostAtOnce_46 rfl ?_
            refine x_iald hx hb hE hW (Or.inl (by decide)) (sa_295 h0 g _) (by omega) (by decide) dX11_mostAtOnce_47 ?_
            refine x_rd hW (fun x18 ex18 rx18 => ?_)
            refine x_if_ne (tgt := 54) hx hb rx18 dX11_mostAtOnce_48 (by decide) (fun c19 => ?_) (fun c19 => ?_)
            · skip
              refine x_sipush hx hb dX11_mostAtOnce_54 (by decide) ?_
              refine lv_istore_n (lv' := [(2, .int (xJ 1023)), (0, .ref (h0 + 268)), (1, .int (xJ i1_36))]) hx hb dX11_mostAtOnce_57 rfl hl (by decide) rfl (fun ls hl => ?_)
              have L58 : ∀ (fu : Nat) (i2_58 : Int) (s_58 : xS) (H : Heap) (locs : List Loc) (ls : Array Slot), (xR i2_58) → (xFr (fun k => k = 293 ∨ k = 294 ∨ k = 296 ∨ k = 300 ∨ k = 301) s0 s_58) → (s_58 268 8 = s0 268 8) → (s_58 268 58 = s0 268 58) → (IMn s_58) → (IMk s_58) → (IMo s_58) → (-1 ≤ i2_58 ∧ i2_58 ≤ 1023) → (i2_58 + 1).toNat < fu → xW D g h0 s H locs s_58 → lv_has ls 4 [(0, .ref (h0 + 268)), (1, .int (xJ i1_36)), (2, .int (xJ i2_58))] → W p l e { frames := 5, cells := 0, slots := 0, locals := 118 } s m args below meth c H locs 0 0 Q (F0 m 58 ls []) := by
                intro fu
                induction fu with
                | zero => intro i2_58 s_58 H locs ls ri2_58 hF_58 q58_0 q58_1 q58_2 q58_3 q58_4 v58_0 hm; exact absurd hm (Nat.not_lt_zero _)
                | succ fu ih58 =>
                  intro i2_58 s_58 H locs ls ri2_58 hF_58 q58_0 q58_1 q58_2 q58_3 q58_4 v58_0 hm hW hl
                  refine x_iload_n hx hb hl 2 rfl dX11_mostAtOnce_58 rfl ?_
                  refine x_if_lt (tgt := 123) hx hb ri2_58 dX11_mostAtOnce_59 (by decide) (fun c20 => ?_) (fun c20 => ?_)
                  · skip
                    refine x_iinc (lv' := [(1, .int (xJ (i1_36 + 1))), (0, .ref (h0 + 268)), (2, .int (xJ i2_58))]) hx hb hl 1 rfl dX11_mostAtOnce_123 (by decide) rfl (fun ls hl => ?_)
                    refine lv_goto (tgt := 36) hx hb dX11_mostAtOnce_126 (by decide) ?_
                    exact ih36 (i1_36 + 1) s_58 H locs ls (by omega) hF_58 q58_0 q58_1 q58_2 q58_3 q58_4 (by omega) (by omega) (by omega) hW (lv_sub hl [1, 0] rfl)
                  refine x_iconst hx hb dX11_mostAtOnce_62 ?_
                  refine lv_istore_n (lv' := [(3, .int (xJ 0)), (0, .ref (h0 + 268)), (1, .int (xJ i1_36)), (2, .int (xJ i2_58))]) hx hb dX11_mostAtOnce_63 rfl hl (by decide) rfl (fun ls hl => ?_)
                  have L64 : ∀ (fu : Nat) (i3_64 : Int) (s_64 : xS) (H : Heap) (locs : List Loc) (ls : Array Slot), (xR i3_64) → (xFr (fun k => k = 293 ∨ k = 294 ∨ k = 296 ∨ k = 300 ∨ k = 301) s0 s_64) → (s_64 268 8 = s0 268 8) → (s_64 268 58 = s0 268 58) → (IMn s_64) → (IMk s_64) → (IMo s_64) → (0 ≤ i3_64) → (i3_64 ≤ 10) → (10 + 1 - i3_64).toNat < fu → xW D g h0 s H locs s_64 → lv_has ls 4 [(0, .ref (h0 + 268)), (1, .int (xJ i1_36)), (2, .int (xJ i2_58)), (3, .int (xJ i3_64))] → W p l e { frames := 5, cells := 0, slots := 0, locals := 118 } s m args below meth c H locs 0 0 Q (F0 m 64 ls []) := by
                    intro fu
                    induction fu with
                    | zero => intro i3_64 s_64 H locs ls ri3_64 hF_64 q64_0 q64_1 q64_2 q64_3 q64_4 v64_0 v64_1 hm; exact absurd hm (Nat.not_lt_zero _)
                    | succ fu ih64 =>
                      intro i3_64 s_64 H locs ls ri3_64 hF_64 q64_0 q64_1 q64_2 q64_3 q64_4 v64_0 v64_1 hm hW hl
                      refine x_iload_n hx hb hl 3 rfl dX11_mostAtOnce_64 rfl ?_
                      refine x_bipush hx hb dX11_mostAtOnce_65 (by decide) ?_
                      refine x_icmp_ge (tgt := 117) hx hb ri3_64 (by decide) dX11_mostAtOnce_67 (by decide) (fun c21 => ?_) (fun c21 => ?_)
                      · skip
                        refine x_iinc (lv' := [(2, .int (xJ (i2_58 + (-1)))), (0, .ref (h0 + 268)), (1, .int (xJ i1_36)), (3, .int (xJ i3_64))]) hx hb hl 2 rfl dX11_mostAtOnce_117 (by decide) rfl (fun ls hl => ?_)
                        refine lv_goto (tgt := 58) hx hb dX11_mostAtOnce_120 (by decide) ?_
                        exact ih58 (i2_58 + (-1)) s_64 H locs ls (by omega) hF_64 q64_0 q64_1 q64_2 q64_3 q64_4 (by omega) (by omega) hW (lv_sub hl [1, 2, 0] rfl)
                      refine x_aload_n hx hb hl 0 rfl dX11_mostAtOnce_70 rfl ?_
                      refine x_get (j := 50) (v := .ref (h0 + 300)) hx hb hown hT hE hW cls_X11 (Or.inl (by decide)) (so_268 h0 g _) (by decide) rfl wq1235 dX11_mostAtOnce_71 ?_
                      refine x_iload_n hx hb hl 2 rfl dX11_mostAtOnce_74 rfl ?_
                      refine x_zald hx hb hE hW (Or.inl (by decide)) (sa_300 h0 g _) (by omega) (by decide) dX11_mostAtOnce_75 ?_
                      refine x_rd hW (fun x22 ex22 rx22 => ?_)
                      refine x_if_eq (tgt := 117) hx hb rx22 dX11_mostAtOnce_76 (by decide) (fun c23 => ?_) (fun c23 => ?_)
                      · skip
                        refine x_iinc (lv' := [(2, .int (xJ (i2_58 + (-1)))), (0, .ref (h0 + 268)), (1, .int (xJ i1_36)), (3, .int (xJ i3_64))]) hx hb hl 2 rfl dX11_mostAtOnce_117 (by decide) rfl (fun ls hl => ?_)
                        refine lv_goto (tgt := 58) hx hb dX11_mostAtOnce_120 (by decide) ?_
                        exact ih58 (i2_58 + (-1)) s_64 H locs ls (by omega) hF_64 q64_0 q64_1 q64_2 q64_3 q64_4 (by omega) (by omega) hW (lv_sub hl [1, 2, 0] rfl)
                      refine x_iload_n hx hb hl 2 rfl dX11_mostAtOnce_79 rfl ?_
                      refine x_iload_n hx hb hl 3 rfl dX11_mostAtOnce_80 rfl ?_
                      refine x_goi (x_runS (As := [.int (xJ i2_58), .int (xJ i3_64)]) hx hb hml hown hT hE hW hl.1 cf_X11_has wq1415 wq1414 (c_X11_has l D g T h0 s_64 hW.2.1 i2_58 ri2_58 i3_64 ri3_64) ⟨rfl, rfl, ⟨by decide, by decide⟩, ⟨by decide, by decide⟩⟩ rfl rfl (Nat.le_of_ble_eq_true rfl) dX11_mostAtOnce_81) hW (fun x24 s25 H locs rx24 hp26 hW => ?_)
                      obtain ⟨es25, hp26⟩ := hp26
                      subst es25
                      have ghp26 := hp26
                      refine x_if_ne (tgt := 111) hx hb rx24 dX11_mostAtOnce_84 (by decide) (fun c27 => ?_) (fun c27 => ?_)
                      · skip
                        refine x_iinc (lv' := [(3, .int (xJ (i3_64 + 1))), (0, .ref (h0 + 268)), (1, .int (xJ i1_36)), (2, .int (xJ i2_58))]) hx hb hl 3 rfl dX11_mostAtOnce_111 (by decide) rfl (fun ls hl => ?_)
                        refine lv_goto (tgt := 64) hx hb dX11_mostAtOnce_114 (by decide) ?_
                        exact ih64 (i3_64 + 1) s_64 H locs ls (by omega) hF_64 q64_0 q64_1 q64_2 q64_3 q64_4 (by omega) (by omega) (by omega) hW (lv_sub hl [1, 2, 3, 0] rfl)
                      refine x_aload_n hx hb hl 0 rfl dX11_mostAtOnce_87 rfl ?_
                      refine x_get (j := 51) (v := .ref (h0 + 301)) hx hb hown hT hE hW cls_X11 (Or.inl (by decide)) (so_268 h0 g _) (by decide) rfl wq1236 dX11_mostAtOnce_88 ?_
                      refine x_iload_n hx hb hl 1 rfl dX11_mostAtOnce_91 rfl ?_
                      refine x_iald hx hb hE hW (Or.inl (by decide)) (sa_301 h0 g _) (by omega) (by decide) dX11_mostAtOnce_92 ?_
                      refine x_rd hW (fun x28 ex28 rx28 => ?_)
                      refine x_iload_n hx hb hl 3 rfl dX11_mostAtOnce_93 rfl ?_
                      refine x_goi (x_runS (As := [.int (xJ x28), .int (xJ i3_64)]) hx hb hml hown hT hE hW hl.1 cf_X11_has wq1415 wq1414 (c_X11_has l D g T h0 s_64 hW.2.1 x28 rx28 i3_64 ri3_64) ⟨rfl, rfl, ⟨by decide, by decide⟩, ⟨by decide, by decide⟩⟩ rfl rfl (Nat.le_of_ble_eq_true rfl) dX11_mostAtOnce_94) hW (fun x29 s30 H locs rx29 hp31 hW => ?_)
                      obtain ⟨es30, hp31⟩ := hp31
                      subst es30
                      have ghp31 := hp31
                      refine x_if_eq (tgt := 111) hx hb rx29 dX11_mostAtOnce_97 (by decide) (fun c32 => ?_) (fun c32 => ?_)
                      · skip
                        refine x_iinc (lv' := [(3, .int (xJ (i3_64 + 1))), (0, .ref (h0 + 268)), (1, .int (xJ i1_36)), (2, .int (xJ i2_58))]) hx hb hl 3 rfl dX11_mostAtOnce_111 (by decide) rfl (fun ls hl => ?_)
                        refine lv_goto (tgt := 64) hx hb dX11_mostAtOnce_114 (by decide) ?_
                        exact ih64 (i3_64 + 1) s_64 H locs ls (by omega) hF_64 q64_0 q64_1 q64_2 q64_3 q64_4 (by omega) (by omega) (by omega) hW (lv_sub hl [1, 2, 3, 0] rfl)
                      refine x_aload_n hx hb hl 0 rfl dX11_mostAtOnce_100 rfl ?_
                      refine x_get (j := 50) (v := .ref (h0 + 300)) hx hb hown hT hE hW cls_X11 (Or.inl (by decide)) (so_268 h0 g _) (by decide) rfl wq1235 dX11_mostAtOnce_101 ?_
                      refine x_iload_n hx hb hl 2 rfl dX11_mostAtOnce_104 rfl ?_
                      refine x_iconst hx hb dX11_mostAtOnce_105 ?_
                      refine x_iload_n hx hb hl 3 rfl dX11_mostAtOnce_106 rfl ?_
                      refine x_shl1 hx hb (by omega) dX11_mostAtOnce_107 (fun x33 ex33 bx33 => ?_)
                      refine x_ior10 hx hb (by omega) (by rw [ex33]; exact p2_lt (by omega)) dX11_mostAtOnce_108 (fun x34 bx34 => ?_)
                      refine x_iconst hx hb dX11_mostAtOnce_109 ?_
                      refine x_zast hx hb hE hW (by decide) (fun σ => sa_300 h0 g σ) (by omega) (by decide) (by omega) dX11_mostAtOnce_110 (fun H locs s35 es35 hW => ?_)
                      have q36 : s35 268 8 = s0 268 8 := (show s35 268 8 = s_64 268 8 from by rw [es35, xU_k _ _ _ (by omega)]).trans q64_0
                      have q37 : s35 268 58 = s0 268 58 := (show s35 268 58 = s_64 268 58 from by rw [es35, xU_k _ _ _ (by omega)]).trans q64_1
                      have q38 : IMn s35 := by rw [es35]; exact IMn_o (by unfold suIMn; omega) q64_2
                      have q39 : IMk s35 := by rw [es35]; exact IMk_o (by unfold suIMk; omega) q64_3
                      have q40 : IMo s35 := by rw [es35]; exact IMo_o (by unfold suIMo; omega) q64_4
                      have hF41 := hF_64.put es35 (by omega)
                      refine x_iinc (lv' := [(3, .int (xJ (i3_64 + 1))), (0, .ref (h0 + 268)), (1, .int (xJ i1_36)), (2, .int (xJ i2_58))]) hx hb hl 3 rfl dX11_mostAtOnce_111 (by decide) rfl (fun ls hl => ?_)
                      refine lv_goto (tgt := 64) hx hb dX11_mostAtOnce_114 (by decide) ?_
                      exact ih64 (i3_64 + 1) s35 H locs ls (by omega) hF41 q36 q37 q38 q39 q40 (by omega) (by omega) (by omega) hW (lv_sub hl [1, 2, 3, 0] rfl)
                  exact L64 ((10 + 1 - 0 : Int).toNat + 1) 0 s_58 H locs ls (by decide) hF_58 q58_0 q58_1 q58_2 q58_3 q58_4 (by omega) (by omega) (Nat.lt_succ_self _) hW (lv_sub hl [1, 2, 3, 0] rfl)
              exact L58 ((1023 + 1 : Int).toNat + 1) 1023 s_36 H locs ls (by decide) hF_36 q36_0 q36_1 q36_2 q36_3 q36_4 (by omega) (Nat.lt_succ_self _) hW (lv_sub hl [1, 2, 0] rfl)
            refine lv_goto (tgt := 123) hx hb dX11_mostAtOnce_51 (by decide) ?_
            refine x_iinc (lv' := [(1, .int (xJ (i1_36 + 1))), (0, .ref (h0 + 268))]) hx hb hl 1 rfl dX11_mostAtOnce_123 (by decide) rfl (fun ls hl => ?_)
            refine lv_goto (tgt := 36) hx hb dX11_mostAtOnce_126 (by decide) ?_
            exact ih36 (i1_36 + 1) s_36 H locs ls (by omega) hF_36 q36_0 q36_1 q36_2 q36_3 q36_4 (by omega) (by omega) (by omega) hW (lv_sub hl [1, 0] rfl)
        exact L36 ((100 + 1 - 0 : Int).toNat + 1) 0 s_6 H locs ls (by decide) hF_6 q6_0 q6_1 q6_2 q6_3 q6_4 (by omega) (by omega) (Nat.lt_succ_self _) hW (lv_sub hl [1, 0] rfl)
      refine x_aload_n hx hb hl 0 rfl dX11_mostAtOnce_13 rfl ?_
      refine x_get (j := 50) (v := .ref (h0 + 300)) hx hb hown hT hE hW cls_X11 (Or.inl (by decide)) (so_268 h0 g _) (by decide) rfl wq1235 dX11_mostAtOnce_14 ?_
      refine x_iload_n hx hb hl 1 rfl dX11_mostAtOnce_17 rfl ?_
      refine x_iload_n hx hb hl 1 rfl dX11_mostAtOnce_18 rfl ?_
      refine x_if_ne (tgt := 26) hx hb ri1_6 dX11_mostAtOnce_19 (by decide) (fun c42 => ?_) (fun c42 => ?_)
      · skip
        refine x_iconst hx hb dX11_mostAtOnce_26 ?_
        refine x_zast hx hb hE hW (by decide) (fun σ => sa_300 h0 g σ) (by omega) (by decide) (by omega) dX11_mostAtOnce_27 (fun H locs s43 es43 hW => ?_)
        have q44 : s43 268 8 = s0 268 8 := (show s43 268 8 = s_6 268 8 from by rw [es43, xU_k _ _ _ (by omega)]).trans q6_0
        have q45 : s43 268 58 = s0 268 58 := (show s43 268 58 = s_6 268 58 from by rw [es43, xU_k _ _ _ (by omega)]).trans q6_1
        have q46 : IMn s43 := by rw [es43]; exact IMn_o (by unfold suIMn; omega) q6_2
        have q47 : IMk s43 := by rw [es43]; exact IMk_o (by unfold suIMk; omega) q6_3
        have q48 : IMo s43 := by rw [es43]; exact IMo_o (by unfold suIMo; omega) q6_4
        have hF49 := hF_6.put es43 (by omega)
        refine x_iinc (lv' := [(1, .int (xJ (i1_6 + 1))), (0, .ref (h0 + 268))]) hx hb hl 1 rfl dX11_mostAtOnce_28 (by decide) rfl (fun ls hl => ?_)
        refine lv_goto (tgt := 6) hx hb dX11_mostAtOnce_31 (by decide) ?_
        exact ih6 (i1_6 + 1) s43 H locs ls (by omega) hF49 q44 q45 q46 q47 q48 (by omega) (by omega) (by omega) hW (lv_sub hl [1, 0] rfl)
      refine x_iconst hx hb dX11_mostAtOnce_22 ?_
      refine lv_goto (tgt := 27) hx hb dX11_mostAtOnce_23 (by decide) ?_
      refine x_zast hx hb hE hW (by decide) (fun σ => sa_300 h0 g σ) (by omega) (by decide) (by omega) dX11_mostAtOnce_27 (fun H locs s50 es50 hW => ?_)
      have q51 : s50 268 8 = s0 268 8 := (show s50 268 8 = s_6 268 8 from by rw [es50, xU_k _ _ _ (by omega)]).trans q6_0
      have q52 : s50 268 58 = s0 268 58 := (show s50 268 58 = s_6 268 58 from by rw [es50, xU_k _ _ _ (by omega)]).trans q6_1
      have q53 : IMn s50 := by rw [es50]; exact IMn_o (by unfold suIMn; omega) q6_2
      have q54 : IMk s50 := by rw [es50]; exact IMk_o (by unfold suIMk; omega) q6_3
      have q55 : IMo s50 := by rw [es50]; exact IMo_o (by unfold suIMo; omega) q6_4
      have hF56 := hF_6.put es50 (by omega)
      refine x_iinc (lv' := [(1, .int (xJ (i1_6 + 1))), (0, .ref (h0 + 268))]) hx hb hl 1 rfl dX11_mostAtOnce_28 (by decide) rfl (fun ls hl => ?_)
      refine lv_goto (tgt := 6) hx hb dX11_mostAtOnce_31 (by decide) ?_
      exact ih6 (i1_6 + 1) s50 H locs ls (by omega) hF56 q51 q52 q53 q54 q55 (by omega) (by omega) (by omega) hW (lv_sub hl [1, 0] rfl)
  exact L6 ((1024 + 1 - 0 : Int).toNat + 1) 0 s2 H locs ls (by decide) hF4 q5 q6 hp3.1.1 hp3.1.2.1 hp3.1.2.2.1 (by omega) (by omega) (Nat.lt_succ_self _) hW (lv_sub hl [1, 0] rfl)
set_option maxHeartbeats 4000000 in
set_option maxRecDepth 100000 in
theorem c_X11_atOnce (l : Launch) (D : va_G) (g : xG) (T : Nat × Nat × Nat) (h0 : Nat) (s0 : xS) (hσ : xRR s0) (x : Int) (rx : xR x) (p0 : IMn s0) (p1 : IMk s0) (p2 : IMo s0) : Met l yX11_atOnce (xws yX11_atOnce cX11_atOnce 4 (some .int)) { frames := 7, cells := 0, slots := 0, locals := 162 } (xP [.ref (h0 + 268), .int (xJ x)] D g T h0 s0) (xQi D g h0 (fun r τ => xFr (fun k => k = 293 ∨ k = 294 ∨ k = 295 ∨ k = 296 ∨ k = 300 ∨ k = 301) s0 τ ∧ (((IMn τ) ∧ (IMk τ) ∧ (IMo τ) ∧ True) ∧ (True)))) 0 0 (xA h0) := by
  refine x_met hσ (by decide) (Nat.le_of_ble_eq_true rfl) ?_
  intro p e s m args below meth c hx hb hr hml hown hT hlk hnm hE hW ls hl
  have hl : lv_has ls 4 [(0, .ref (h0 + 268)), (1, .int (xJ x))] := hl
  obtain ⟨Q, eQ⟩ : ∃ Q, Q = MQ below (xQi D g h0 (fun r τ => xFr (fun k => k = 293 ∨ k = 294 ∨ k = 295 ∨ k = 296 ∨ k = 300 ∨ k = 301) s0 τ ∧ (((IMn τ) ∧ (IMk τ) ∧ (IMo τ) ∧ True) ∧ (True)))) args s 0 0 (xA h0) := ⟨_, rfl⟩
  rw [← eQ]
  generalize hHe : ([] : List Loc) = locs at hW ⊢
  obtain ⟨H, eH⟩ : ∃ H, H = s.heap := ⟨_, rfl⟩
  rw [← eH] at hW ⊢
  have hF : xFr (fun k => k = 293 ∨ k = 294 ∨ k = 295 ∨ k = 296 ∨ k = 300 ∨ k = 301) s0 s0 := xFr.rf
  have k268_8 : s0 268 8 = s0 268 8 := rfl
  have k268_58 : s0 268 58 = s0 268 58 := rfl
  refine x_iload_n hx hb hl 1 rfl dX11_atOnce_0 rfl ?_
  refine x_iconst hx hb dX11_atOnce_1 ?_
  refine x_iconst hx hb dX11_atOnce_2 ?_
  refine x_goi (x_runS (As := [.int (xJ x), .int (xJ 0), .int (xJ 2)]) hx hb hml hown hT hE hW hl.1 cf_X11_in wq1383 wq1382 (c_X11_in l D g T h0 s0 hW.2.1 x rx 0 (by decide) 2 (by decide)) ⟨rfl, rfl, ⟨by decide, by decide⟩, ⟨by decide, by decide⟩⟩ rfl rfl (Nat.le_of_ble_eq_true rfl) dX11_atOnce_3) hW (fun x1 s2 H locs rx1 hp3 hW => ?_)
  obtain ⟨es2, hp3⟩ := hp3
  subst es2
  have ghp3 := hp3
  refine x_if_ne (tgt := 11) hx hb rx1 dX11_atOnce_6 (by decide) (fun c4 => ?_) (fun c4 => ?_)
  · skip
    refine x_aload_n hx hb hl 0 rfl dX11_atOnce_11 rfl ?_
    refine x_aload_n hx hb hl 0 rfl dX11_atOnce_12 rfl ?_
    refine x_get (j := 0) (v := .ref (h0 + 269)) hx hb hown hT hE hW cls_X11 (Or.inl (by decide)) (so_268 h0 g _) (by decide) rfl wq1185 dX11_atOnce_13 ?_
    refine x_bipush hx hb dX11_atOnce_16 (by decide) ?_
    refine x_iald hx hb hE hW (Or.inl (by decide)) (sa_269 h0 g _) ⟨by decide, by decide⟩ (by decide) dX11_atOnce_18 ?_
    refine x_rd hW (fun x5 ex5 rx5 => ?_)
    have bx5 : 0 ≤ x5 ∧ x5 ≤ 9999 := by rw [ex5]; exact (IMn.n1 p0).2.2.2.1
    refine x_iconst hx hb dX11_atOnce_19 ?_
    refine x_gov (x_runV (As := [.int (xJ x5), .int (xJ 0)]) hx hb hml hown hT hE hW hl.1 (Or.inl (by decide)) (so_268 h0 g _) rfl cf_X11_laysShades wq1588 wq139 wq1586 (c_X11_laysShades l D g T h0 s0 hW.2.1 x5 rx5 0 (by decide) p0 p1 p2) ⟨rfl, rfl, ⟨by decide, by decide⟩, ⟨by decide, by decide⟩⟩ rfl rfl (Nat.le_of_ble_eq_true rfl) dX11_atOnce_20) hW (fun s7 H locs hp8 hW => ?_)
    obtain ⟨fs7, hp8⟩ := hp8
    have hF9 := hF.call fs7 (fun k h => by omega)
    have q10 : s7 268 8 = s0 268 8 := (congrFun (fs7 _ (by omega)) _).trans k268_8
    have q11 : s7 268 58 = s0 268 58 := (congrFun (fs7 _ (by omega)) _).trans k268_58
    have ghp8 := hp8.2
    refine x_iload_n hx hb hl 1 rfl dX11_atOnce_23 rfl ?_
    refine x_if_ne (tgt := 32) hx hb rx dX11_atOnce_24 (by decide) (fun c12 => ?_) (fun c12 => ?_)
    · skip
      refine x_iconst hx hb dX11_atOnce_32 ?_
      refine lv_istore_n (lv' := [(2, .int (xJ 0)), (0, .ref (h0 + 268)), (1, .int (xJ x))]) hx hb dX11_atOnce_33 rfl hl (by decide) rfl (fun ls hl => ?_)
      refine x_iconst hx hb dX11_atOnce_34 ?_
      refine lv_istore_n (lv' := [(3, .int (xJ 0)), (2, .int (xJ 0)), (0, .ref (h0 + 268)), (1, .int (xJ x))]) hx hb dX11_atOnce_35 rfl hl (by decide) rfl (fun ls hl => ?_)
      have L36 : ∀ (fu : Nat) (i2_36 : Int) (i3_36 : Int) (ls : Array Slot), (xR i2_36) → (xR i3_36) → (0 ≤ i3_36) → (i3_36 ≤ 100) → (0 ≤ i2_36 ∧ i2_36 ≤ i3_36) → (100 + 1 - i3_36).toNat < fu → lv_has ls 4 [(0, .ref (h0 + 268)), (1, .int (xJ x)), (2, .int (xJ i2_36)), (3, .int (xJ i3_36))] → W p l e { frames := 7, cells := 0, slots := 0, locals := 162 } s m args below meth c H locs 0 0 Q (F0 m 36 ls []) := by
        intro fu
        induction fu with
        | zero => intro i2_36 i3_36 ls ri2_36 ri3_36 v36_0 v36_1 v36_2 hm; exact absurd hm (Nat.not_lt_zero _)
        | succ fu ih36 =>
          intro i2_36 i3_36 ls ri2_36 ri3_36 v36_0 v36_1 v36_2 hm  hl
          refine x_iload_n hx hb hl 3 rfl dX11_atOnce_36 rfl ?_
          refine x_bipush hx hb dX11_atOnce_37 (by decide) ?_
          refine x_icmp_ge (tgt := 66) hx hb ri3_36 (by decide) dX11_atOnce_39 (by decide) (fun c13 => ?_) (fun c13 => ?_)
          · skip
            refine x_iload_n hx hb hl 2 rfl dX11_atOnce_66 rfl ?_
            rw [eQ]
            exact x_iret hx hb hr hlk hW ri2_36 ⟨hF9, ⟨hp8.1.1, hp8.1.2.1, hp8.1.2.2.1, trivial⟩, trivial⟩ dX11_atOnce_67
          refine x_iload_n hx hb hl 2 rfl dX11_atOnce_42 rfl ?_
          refine x_aload_n hx hb hl 0 rfl dX11_atOnce_43 rfl ?_
          refine x_get (j := 40) (v := .ref (h0 + 295)) hx hb hown hT hE hW cls_X11 (Or.inl (by decide)) (so_268 h0 g _) (by decide) rfl wq1225 dX11_atOnce_44 ?_
          refine x_iload_n hx hb hl 3 rfl dX11_atOnce_47 rfl ?_
          refine x_iald hx hb hE hW (Or.inl (by decide)) (sa_295 h0 g _) (by omega) (by decide) dX11_atOnce_48 ?_
          refine x_rd hW (fun x14 ex14 rx14 => ?_)
          refine x_iload_n hx hb hl 1 rfl dX11_atOnce_49 rfl ?_
          refine x_icmp_lt (tgt := 57) hx hb rx14 rx dX11_atOnce_50 (by decide) (fun c15 => ?_) (fun c15 => ?_)
          · skip
            refine x_iconst hx hb dX11_atOnce_57 ?_
            refine x_iadd hx hb dX11_atOnce_58 ?_
            refine x_nm (fun x16 ex16 => ?_)
            refine lv_istore_n (lv' := [(2, .int (xJ x16)), (0, .ref (h0 + 268)), (1, .int (xJ x)), (3, .int (xJ i3_36))]) hx hb dX11_atOnce_59 rfl hl (by decide) rfl (fun ls hl => ?_)
            refine x_iinc (lv' := [(3, .int (xJ (i3_36 + 1))), (2, .int (xJ x16)), (0, .ref (h0 + 268)), (1, .int (xJ x))]) hx hb hl 3 rfl dX11_atOnce_60 (by decide) rfl (fun ls hl => ?_)
            refine lv_goto (tgt := 36) hx hb dX11_atOnce_63 (by decide) ?_
            exact ih36 x16 (i3_36 + 1) ls (by omega) (by omega) (by omega) (by omega) (by omega) (by omega)  (lv_sub hl [2, 3, 1, 0] rfl)
          refine x_iconst hx hb dX11_atOnce_53 ?_
          refine lv_goto (tgt := 58) hx hb dX11_atOnce_54 (by decide) ?_
          refine x_iadd hx hb dX11_atOnce_58 ?_
          refine x_nm (fun x17 ex17 => ?_)
          refine lv_istore_n (lv' := [(2, .int (xJ x17)), (0, .ref (h0 + 268)), (1, .int (xJ x)), (3, .int (xJ i3_36))]) hx hb dX11_atOnce_59 rfl hl (by decide) rfl (fun ls hl => ?_)
          refine x_iinc (lv' := [(3, .int (xJ (i3_36 + 1))), (2, .int (xJ x17)), (0, .ref (h0 + 268)), (1, .int (xJ x))]) hx hb hl 3 rfl dX11_atOnce_60 (by decide) rfl (fun ls hl => ?_)
          refine lv_goto (tgt := 36) hx hb dX11_atOnce_63 (by decide) ?_
          exact ih36 x17 (i3_36 + 1) ls (by omega) (by omega) (by omega) (by omega) (by omega) (by omega)  (lv_sub hl [2, 3, 1, 0] rfl)
      exact L36 ((100 + 1 - 0 : Int).toNat + 1) 0 0 ls (by decide) (by decide) (by omega) (by omega) (by omega) (Nat.lt_succ_self _)  (lv_sub hl [2, 3, 1, 0] rfl)
    refine x_aload_n hx hb hl 0 rfl dX11_atOnce_27 rfl ?_
    refine x_goi (x_runV (As := []) hx hb hml hown hT hE hW hl.1 (Or.inl (by decide)) (so_268 h0 g _) rfl cf_X11_mostAtOnce wq1670 wq153 wq1668 (c_X11_mostAtOnce l D g T h0 s7 hW.2.1 hp8.1.1 hp8.1.2.1 hp8.1.2.2.1) ⟨rfl, rfl, ⟨by decide, by decide⟩, ⟨by decide, by decide⟩⟩ rfl rfl (Nat.le_of_ble_eq_true rfl) dX11_atOnce_28) hW (fun x18 s19 H locs rx18 hp20 hW => ?_)
    obtain ⟨fs19, hp20⟩ := hp20
    have hF21 := hF9.call fs19 (fun k h => by omega)
    have q22 : s19 268 8 = s0 268 8 := (congrFun (fs19 _ (by omega)) _).trans q10
    have q23 : s19 268 58 = s0 268 58 := (congrFun (fs19 _ (by omega)) _).trans q11
    have ghp20 := hp20.2
    rw [eQ]
    exact x_iret hx hb hr hlk hW rx18 ⟨hF21, ⟨hp20.1.1, hp20.1.2.1, hp20.1.2.2.1, trivial⟩, trivial⟩ dX11_atOnce_31
  refine x_iconst hx hb dX11_atOnce_9 ?_
  rw [eQ]
  exact x_iret hx hb hr hlk hW (by decide) ⟨hF, ⟨p0, p1, p2, trivial⟩, trivial⟩ dX11_atOnce_10
set_option maxHeartbeats 4000000 in
set_option maxRecDepth 100000 in
theorem c_X11_laysSteps (l : Launch) (D : va_G) (g : xG) (T : Nat × Nat × Nat) (h0 : Nat) (s0 : xS) (hσ : xRR s0) (p0 : IMn s0) (p1 : IMk s0) (p2 : IMo s0) : Met l yX11_laysSteps (xws yX11_laysSteps cX11_laysSteps 3 none) { frames := 4, cells := 0, slots := 0, locals := 93 } (xP [.ref (h0 + 268)] D g T h0 s0) (xQv D g h0 (fun τ => xFr (fun k => k = 296 ∨ k = 304) s0 τ ∧ (((IMn τ) ∧ (IMk τ) ∧ (IMo τ) ∧ True) ∧ (True)))) 0 0 (xA h0) := by
  refine x_met hσ (by decide) (Nat.le_of_ble_eq_true rfl) ?_
  intro p e s m args below meth c hx hb hr hml hown hT hlk hnm hE hW ls hl
  have hl : lv_has ls 3 [(0, .ref (h0 + 268))] := hl
  obtain ⟨Q, eQ⟩ : ∃ Q, Q = MQ below (xQv D g h0 (fun τ => xFr (fun k => k = 296 ∨ k = 304) s0 τ ∧ (((IMn τ) ∧ (IMk τ) ∧ (IMo τ) ∧ True) ∧ (True)))) args s 0 0 (xA h0) := ⟨_, rfl⟩
  rw [← eQ]
  generalize hHe : ([] : List Loc) = locs at hW ⊢
  obtain ⟨H, eH⟩ : ∃ H, H = s.heap := ⟨_, rfl⟩
  rw [← eH] at hW ⊢
  have hF : xFr (fun k => k = 296 ∨ k = 304) s0 s0 := xFr.rf
  have k268_8 : s0 268 8 = s0 268 8 := rfl
  have k268_58 : s0 268 58 = s0 268 58 := rfl
  refine x_iconst hx hb dX11_laysSteps_0 ?_
  refine lv_istore_n (lv' := [(1, .int (xJ 0)), (0, .ref (h0 + 268))]) hx hb dX11_laysSteps_1 rfl hl (by decide) rfl (fun ls hl => ?_)
  have L2 : ∀ (fu : Nat) (i1_2 : Int) (s_2 : xS) (H : Heap) (locs : List Loc) (ls : Array Slot), (xR i1_2) → (xFr (fun k => k = 296 ∨ k = 304) s0 s_2) → (IMn s_2) → (IMk s_2) → (IMo s_2) → (s_2 268 8 = s0 268 8) → (s_2 268 58 = s0 268 58) → (0 ≤ i1_2) → (i1_2 ≤ 100) → (100 + 1 - i1_2).toNat < fu → xW D g h0 s H locs s_2 → lv_has ls 3 [(0, .ref (h0 + 268)), (1, .int (xJ i1_2))] → W p l e { frames := 4, cells := 0, slots := 0, locals := 93 } s m args below meth c H locs 0 0 Q (F0 m 2 ls []) := by
    intro fu
    induction fu with
    | zero => intro i1_2 s_2 H locs ls ri1_2 hF_2 q2_0 q2_1 q2_2 q2_3 q2_4 v2_0 v2_1 hm; exact absurd hm (Nat.not_lt_zero _)
    | succ fu ih2 =>
      intro i1_2 s_2 H locs ls ri1_2 hF_2 q2_0 q2_1 q2_2 q2_3 q2_4 v2_0 v2_1 hm hW hl
      refine x_iload_n hx hb hl 1 rfl dX11_laysSteps_2 rfl ?_
      refine x_bipush hx hb dX11_laysSteps_3 (by decide) ?_
      refine x_icmp_ge (tgt := 52) hx hb ri1_2 (by decide) dX11_laysSteps_5 (by decide) (fun c1 => ?_) (fun c1 => ?_)
      · skip
        rw [eQ]
        exact x_vret hx hb hr hlk hW ⟨hF_2, ⟨q2_0, q2_1, q2_2, trivial⟩, trivial⟩ dX11_laysSteps_52
      refine x_aload_n hx hb hl 0 rfl dX11_laysSteps_8 rfl ?_
      refine x_iload_n hx hb hl 1 rfl dX11_laysSteps_9 rfl ?_
      refine x_iconst hx hb dX11_laysSteps_10 ?_
      refine x_iconst hx hb dX11_laysSteps_11 ?_
      refine x_gov (x_runV (As := [.int (xJ i1_2), .int (xJ 3), .int (xJ 1)]) hx hb hml hown hT hE hW hl.1 (Or.inl (by decide)) (so_268 h0 g _) rfl cf_X11_laysCosts wq1637 wq151 wq1635 (c_X11_laysCosts l D g T h0 s_2 hW.2.1 i1_2 ri1_2 3 (by decide) 1 (by decide) q2_0 q2_1 q2_2) ⟨rfl, rfl, ⟨by decide, by decide⟩, ⟨by decide, by decide⟩⟩ rfl rfl (Nat.le_of_ble_eq_true rfl) dX11_laysSteps_12) hW (fun s3 H locs hp4 hW => ?_)
      obtain ⟨fs3, hp4⟩ := hp4
      have hF5 := hF_2.call fs3 (fun k h => by omega)
      have q6 : s3 268 8 = s0 268 8 := (congrFun (fs3 _ (by omega)) _).trans q2_3
      have q7 : s3 268 58 = s0 268 58 := (congrFun (fs3 _ (by omega)) _).trans q2_4
      have ghp4 := hp4.2
      refine x_iconst hx hb dX11_laysSteps_15 ?_
      refine lv_istore_n (lv' := [(2, .int (xJ 0)), (0, .ref (h0 + 268)), (1, .int (xJ i1_2))]) hx hb dX11_laysSteps_16 rfl hl (by decide) rfl (fun ls hl => ?_)
      have L17 : ∀ (fu : Nat) (i2_17 : Int) (s_17 : xS) (H : Heap) (locs : List Loc) (ls : Array Slot), (xR i2_17) → (xFr (fun k => k = 296 ∨ k = 304) s0 s_17) → (s_17 268 8 = s0 268 8) → (s_17 268 58 = s0 268 58) → (IMn s_17) → (IMk s_17) → (IMo s_17) → (0 ≤ i2_17) → (i2_17 ≤ 100) → (100 + 1 - i2_17).toNat < fu → xW D g h0 s H locs s_17 → lv_has ls 3 [(0, .ref (h0 + 268)), (1, .int (xJ i1_2)), (2, .int (xJ i2_17))] → W p l e { frames := 4, cells := 0, slots := 0, locals := 93 } s m args below meth c H locs 0 0 Q (F0 m 17 ls []) := by
        intro fu
        induction fu with
        | zero => intro i2_17 s_17 H locs ls ri2_17 hF_17 q17_0 q17_1 q17_2 q17_3 q17_4 v17_0 v17_1 hm; exact absurd hm (Nat.not_lt_zero _)
        | succ fu ih17 =>
          intro i2_17 s_17 H locs ls ri2_17 hF_17 q17_0 q17_1 q17_2 q17_3 q17_4 v17_0 v17_1 hm hW hl
          refine x_iload_n hx hb hl 2 rfl dX11_laysSteps_17 rfl ?_
          refine x_bipush hx hb dX11_laysSteps_18 (by decide) ?_
          refine x_icmp_ge (tgt := 46) hx hb ri2_17 (by decide) dX11_laysSteps_20 (by decide) (fun c8 => ?_) (fun c8 => ?_)
          · skip
            refine x_iinc (lv' := [(1, .int (xJ (i1_2 + 1))), (0, .ref (h0 + 268)), (2, .int (xJ i2_17))]) hx hb hl 1 rfl dX11_laysSteps_46 (by decide) rfl (fun ls hl => ?_)
            refine lv_goto (tgt := 2) hx hb dX11_laysSteps_49 (by decide) ?_
            exact ih2 (i1_2 + 1) s_17 H locs ls (by omega) hF_17 q17_2 q17_3 q17_4 q17_0 q17_1 (by omega) (by omega) (by omega) hW (lv_sub hl [1, 0] rfl)
          refine x_aload_n hx hb hl 0 rfl dX11_laysSteps_23 rfl ?_
          refine x_get (j := 54) (v := .ref (h0 + 304)) hx hb hown hT hE hW cls_X11 (Or.inl (by decide)) (so_268 h0 g _) (by decide) rfl wq1239 dX11_laysSteps_24 ?_
          refine x_bipush hx hb dX11_laysSteps_27 (by decide) ?_
          refine x_iload_n hx hb hl 1 rfl dX11_laysSteps_29 rfl ?_
          refine x_imul hx hb dX11_laysSteps_30 ?_
          refine x_iload_n hx hb hl 2 rfl dX11_laysSteps_31 rfl ?_
          refine x_iadd hx hb dX11_laysSteps_32 ?_
          refine x_aload_n hx hb hl 0 rfl dX11_laysSteps_33 rfl ?_
          refine x_get (j := 45) (v := .ref (h0 + 296)) hx hb hown hT hE hW cls_X11 (Or.inl (by decide)) (so_268 h0 g _) (by decide) rfl wq1230 dX11_laysSteps_34 ?_
          refine x_iload_n hx hb hl 2 rfl dX11_laysSteps_37 rfl ?_
          refine x_iald hx hb hE hW (Or.inl (by decide)) (sa_296 h0 g _) (by omega) (by decide) dX11_laysSteps_38 ?_
          refine x_rd hW (fun x9 ex9 rx9 => ?_)
          refine x_iast hx hb hE hW (by decide) (fun σ => sa_304 h0 g σ) (by omega) (by decide) rx9 dX11_laysSteps_39 (fun H locs s10 es10 hW => ?_)
          have q11 : s10 268 8 = s0 268 8 := (show s10 268 8 = s_17 268 8 from by rw [es10, xU_k _ _ _ (by omega)]).trans q17_0
          have q12 : s10 268 58 = s0 268 58 := (show s10 268 58 = s_17 268 58 from by rw [es10, xU_k _ _ _ (by omega)]).trans q17_1
          have q13 : IMn s10 := by rw [es10]; exact IMn_o (by unfold suIMn; omega) q17_2
          have q14 : IMk s10 := by rw [es10]; exact IMk_o (by unfold suIMk; omega) q17_3
          have q15 : IMo s10 := by rw [es10]; exact IMo_o (by unfold suIMo; omega) q17_4
          have hF16 := hF_17.put es10 (by omega)
          refine x_iinc (lv' := [(2, .int (xJ (i2_17 + 1))), (0, .ref (h0 + 268)), (1, .int (xJ i1_2))]) hx hb hl 2 rfl dX11_laysSteps_40 (by decide) rfl (fun ls hl => ?_)
          refine lv_goto (tgt := 17) hx hb dX11_laysSteps_43 (by decide) ?_
          exact ih17 (i2_17 + 1) s10 H locs ls (by omega) hF16 q11 q12 q13 q14 q15 (by omega) (by omega) (by omega) hW (lv_sub hl [1, 2, 0] rfl)
      exact L17 ((100 + 1 - 0 : Int).toNat + 1) 0 s3 H locs ls (by decide) hF5 q6 q7 hp4.1.1 hp4.1.2.1 hp4.1.2.2.1 (by omega) (by omega) (Nat.lt_succ_self _) hW (lv_sub hl [1, 2, 0] rfl)
  exact L2 ((100 + 1 - 0 : Int).toNat + 1) 0 s0 H locs ls (by decide) hF p0 p1 p2 k268_8 k268_58 (by omega) (by omega) (Nat.lt_succ_self _) hW (lv_sub hl [1, 0] rfl)
set_option maxHeartbeats 4000000 in
set_option maxRecDepth 100000 in
theorem c_X11_goesFew (l : Launch) (D : va_G) (g : xG) (T : Nat × Nat × Nat) (h0 : Nat) (s0 : xS) (hσ : xRR s0) (n : Int) (rn : xR n) (hn : 1 ≤ n ∧ n ≤ 30) (p0 : IMn s0) (p1 : IMk s0) (p2 : IMo s0) : Met l yX11_goesFew (xws yX11_goesFew cX11_goesFew 7 none) { frames := 1, cells := 0, slots := 0, locals := 21 } (xP [.ref (h0 + 268), .int (xJ n)] D g T h0 s0) (xQv D g h0 (fun τ => xFr (fun k => k = 302 ∨ k = 303) s0 τ ∧ (((IMn τ) ∧ (IMk τ) ∧ (IMo τ) ∧ True) ∧ (True)))) 0 0 (xA h0) := by
  refine x_met hσ (by decide) (Nat.le_of_ble_eq_true rfl) ?_
  intro p e s m args below meth c hx hb hr hml hown hT hlk hnm hE hW ls hl
  have hl : lv_has ls 7 [(0, .ref (h0 + 268)), (1, .int (xJ n))] := hl
  obtain ⟨Q, eQ⟩ : ∃ Q, Q = MQ below (xQv D g h0 (fun τ => xFr (fun k => k = 302 ∨ k = 303) s0 τ ∧ (((IMn τ) ∧ (IMk τ) ∧ (IMo τ) ∧ True) ∧ (True)))) args s 0 0 (xA h0) := ⟨_, rfl⟩
  rw [← eQ]
  generalize hHe : ([] : List Loc) = locs at hW ⊢
  obtain ⟨H, eH⟩ : ∃ H, H = s.heap := ⟨_, rfl⟩
  rw [← eH] at hW ⊢
  have hF : xFr (fun k => k = 302 ∨ k = 303) s0 s0 := xFr.rf
  have k268_8 : s0 268 8 = s0 268 8 := rfl
  have k268_58 : s0 268 58 = s0 268 58 := rfl
  refine x_iconst hx hb dX11_goesFew_0 ?_
  refine lv_istore_n (lv' := [(2, .int (xJ 0)), (0, .ref (h0 + 268)), (1, .int (xJ n))]) hx hb dX11_goesFew_1 rfl hl (by decide) rfl (fun ls hl => ?_)
  have L2 : ∀ (fu : Nat) (i2_2 : Int) (s_2 : xS) (H : Heap) (locs : List Loc) (ls : Array Slot), (xR i2_2) → (xFr (fun k => k = 302 ∨ k = 303) s0 s_2) → (IMn s_2) → (IMk s_2) → (IMo s_2) → (s_2 268 8 = s0 268 8) → (s_2 268 58 = s0 268 58) → (0 ≤ i2_2) → (i2_2 ≤ 3100) → (3100 + 1 - i2_2).toNat < fu → xW D g h0 s H locs s_2 → lv_has ls 7 [(0, .ref (h0 + 268)), (1, .int (xJ n)), (2, .int (xJ i2_2))] → W p l e { frames := 1, cells := 0, slots := 0, locals := 21 } s m args below meth c H locs 0 0 Q (F0 m 2 ls []) := by
    intro fu
    induction fu with
    | zero => intro i2_2 s_2 H locs ls ri2_2 hF_2 q2_0 q2_1 q2_2 q2_3 q2_4 v2_0 v2_1 hm; exact absurd hm (Nat.not_lt_zero _)
    | succ fu ih2 =>
      intro i2_2 s_2 H locs ls ri2_2 hF_2 q2_0 q2_1 q2_2 q2_3 q2_4 v2_0 v2_1 hm hW hl
      refine x_iload_n hx hb hl 2 rfl dX11_goesFew_2 rfl ?_
      refine x_sipush hx hb dX11_goesFew_3 (by decide) ?_
      refine x_icmp_ge (tgt := 24) hx hb ri2_2 (by decide) dX11_goesFew_6 (by decide) (fun c1 => ?_) (fun c1 => ?_)
      · skip
        refine x_iconst hx hb dX11_goesFew_24 ?_
        refine lv_istore_n (lv' := [(2, .int (xJ 0)), (0, .ref (h0 + 268)), (1, .int (xJ n))]) hx hb dX11_goesFew_25 rfl hl (by decide) rfl (fun ls hl => ?_)
        have L26 : ∀ (fu : Nat) (i2_26 : Int) (s_26 : xS) (H : Heap) (locs : List Loc) (ls : Array Slot), (xR i2_26) → (xFr (fun k => k = 302 ∨ k = 303) s0 s_26) → (IMn s_26) → (IMk s_26) → (IMo s_26) → (s_26 268 8 = s0 268 8) → (s_26 268 58 = s0 268 58) → (0 ≤ i2_26) → (i2_26 ≤ 100) → (100 + 1 - i2_26).toNat < fu → xW D g h0 s H locs s_26 → lv_has ls 7 [(0, .ref (h0 + 268)), (1, .int (xJ n)), (2, .int (xJ i2_26))] → W p l e { frames := 1, cells := 0, slots := 0, locals := 21 } s m args below meth c H locs 0 0 Q (F0 m 26 ls []) := by
          intro fu
          induction fu with
          | zero => intro i2_26 s_26 H locs ls ri2_26 hF_26 q26_0 q26_1 q26_2 q26_3 q26_4 v26_0 v26_1 hm; exact absurd hm (Nat.not_lt_zero _)
          | succ fu ih26 =>
            intro i2_26 s_26 H locs ls ri2_26 hF_26 q26_0 q26_1 q26_2 q26_3 q26_4 v26_0 v26_1 hm hW hl
            refine x_iload_n hx hb hl 2 rfl dX11_goesFew_26 rfl ?_
            refine x_bipush hx hb dX11_goesFew_27 (by decide) ?_
            refine x_icmp_ge (tgt := 153) hx hb ri2_26 (by decide) dX11_goesFew_29 (by decide) (fun c2 => ?_) (fun c2 => ?_)
            · skip
              refine x_iconst hx hb dX11_goesFew_153 ?_
              refine lv_istore_n (lv' := [(2, .int (xJ 0)), (0, .ref (h0 + 268)), (1, .int (xJ n))]) hx hb dX11_goesFew_154 rfl hl (by decide) rfl (fun ls hl => ?_)
              have L155 : ∀ (fu : Nat) (i2_155 : Int) (s_155 : xS) (H : Heap) (locs : List Loc) (ls : Array Slot), (xR i2_155) → (xFr (fun k => k = 302 ∨ k = 303) s0 s_155) → (IMn s_155) → (IMk s_155) → (IMo s_155) → (s_155 268 8 = s0 268 8) → (s_155 268 58 = s0 268 58) → (0 ≤ i2_155) → (i2_155 ≤ 3100) → (3100 + 1 - i2_155).toNat < fu → xW D g h0 s H locs s_155 → lv_has ls 7 [(0, .ref (h0 + 268)), (2, .int (xJ i2_155))] → W p l e { frames := 1, cells := 0, slots := 0, locals := 21 } s m args below meth c H locs 0 0 Q (F0 m 155 ls []) := by
                intro fu
                induction fu with
                | zero => intro i2_155 s_155 H locs ls ri2_155 hF_155 q155_0 q155_1 q155_2 q155_3 q155_4 v155_0 v155_1 hm; exact absurd hm (Nat.not_lt_zero _)
                | succ fu ih155 =>
                  intro i2_155 s_155 H locs ls ri2_155 hF_155 q155_0 q155_1 q155_2 q155_3 q155_4 v155_0 v155_1 hm hW hl
                  refine x_iload_n hx hb hl 1 rfl dX11_goesFew_155 rfl ?_
                  refine x_sipush hx hb dX11_goesFew_156 (by decide) ?_
                  refine x_icmp_ge (tgt := 186) hx hb ri2_155 (by decide) dX11_goesFew_159 (by decide) (fun c3 => ?_) (fun c3 => ?_)
                  · skip
                    rw [eQ]
                    exact x_vret hx hb hr hlk hW ⟨hF_155, ⟨q155_0, q155_1, q155_2, trivial⟩, trivial⟩ dX11_goesFew_186
                  refine x_aload_n hx hb hl 0 rfl dX11_goesFew_162 rfl ?_
                  refine x_get (j := 52) (v := .ref (h0 + 302)) hx hb hown hT hE hW cls_X11 (Or.inl (by decide)) (so_268 h0 g _) (by decide) rfl wq1237 dX11_goesFew_163 ?_
                  refine x_iload_n hx hb hl 1 rfl dX11_goesFew_166 rfl ?_
                  refine lv_ldcw (v := xJ 1000000000) hx hb hown (hT _ wq1622) dX11_goesFew_167 ?_
                  refine x_aload_n hx hb hl 0 rfl dX11_goesFew_170 rfl ?_
                  refine x_get (j := 53) (v := .ref (h0 + 303)) hx hb hown hT hE hW cls_X11 (Or.inl (by decide)) (so_268 h0 g _) (by decide) rfl wq1238 dX11_goesFew_171 ?_
                  refine x_iload_n hx hb hl 1 rfl dX11_goesFew_174 rfl ?_
                  refine x_iald hx hb hE hW (Or.inl (by decide)) (sa_303 h0 g _) (by omega) (by decide) dX11_goesFew_175 ?_
                  refine x_rd hW (fun x4 ex4 rx4 => ?_)
                  refine x_goi (x_runS (As := [.int (xJ 1000000000), .int (xJ x4)]) hx hb hml hown hT hE hW hl.1 cf_X11_min wq1640 wq1639 (c_X11_min l D g T h0 s_155 hW.2.1 1000000000 (by decide) x4 rx4) ⟨rfl, rfl, ⟨by decide, by decide⟩, ⟨by decide, by decide⟩⟩ rfl rfl (Nat.le_of_ble_eq_true rfl) dX11_goesFew_176) hW (fun x5 s6 H locs rx5 hp7 hW => ?_)
                  obtain ⟨es6, hp7⟩ := hp7
                  subst es6
                  have ghp7 := hp7
                  refine x_iast hx hb hE hW (by decide) (fun σ => sa_302 h0 g σ) (by omega) (by decide) rx5 dX11_goesFew_179 (fun H locs s8 es8 hW => ?_)
                  have q9 : IMn s8 := by rw [es8]; exact IMn_o (by unfold suIMn; omega) q155_0
                  have q10 : IMk s8 := by rw [es8]; exact IMk_o (by unfold suIMk; omega) q155_1
                  have q11 : IMo s8 := by rw [es8]; exact IMo_o (by unfold suIMo; omega) q155_2
                  have q12 : s8 268 8 = s0 268 8 := (show s8 268 8 = s_155 268 8 from by rw [es8, xU_k _ _ _ (by omega)]).trans q155_3
                  have q13 : s8 268 58 = s0 268 58 := (show s8 268 58 = s_155 268 58 from by rw [es8, xU_k _ _ _ (by omega)]).trans q155_4
                  have hF14 := hF_155.put es8 (by omega)
                  refine x_iinc (lv' := [(2, .int (xJ (i2_155 + 1))), (0, .ref (h0 + 268))]) hx hb hl 1 rfl dX11_goesFew_180 (by decide) rfl (fun ls hl => ?_)
                  refine lv_goto (tgt := 155) hx hb dX11_goesFew_183 (by decide) ?_
                  exact ih155 (i2_155 + 1) s8 H locs ls (by omega) hF14 q9 q10 q11 q12 q13 (by omega) (by omega) (by omega) hW (lv_sub hl [1, 0] rfl)
              exact L155 ((3100 + 1 - 0 : Int).toNat + 1) 0 s_26 H locs ls (by decide) hF_26 q26_0 q26_1 q26_2 q26_3 q26_4 (by omega) (by omega) (Nat.lt_succ_self _) hW (lv_sub hl [1, 0] rfl)
            refine x_iconst hx hb dX11_goesFew_32 ?_
            refine lv_istore_n (lv' := [(3, .int (xJ 0)), (0, .ref (h0 + 268)), (1, .int (xJ n)), (2, .int (xJ i2_26))]) hx hb dX11_goesFew_33 rfl hl (by decide) rfl (fun ls hl => ?_)
            have L34 : ∀ (fu : Nat) (i3_34 : Int) (s_34 : xS) (H : Heap) (locs : List Loc) (ls : Array Slot), (xR i3_34) → (xFr (fun k => k = 302 ∨ k = 303) s0 s_34) → (IMn s_34) → (IMk s_34) → (IMo s_34) → (s_34 268 8 = s0 268 8) → (s_34 268 58 = s0 268 58) → (0 ≤ i3_34) → (i3_34 ≤ 100) → (100 + 1 - i3_34).toNat < fu → xW D g h0 s H locs s_34 → lv_has ls 7 [(0, .ref (h0 + 268)), (1, .int (xJ n)), (2, .int (xJ i2_26)), (3, .int (xJ i3_34))] → W p l e { frames := 1, cells := 0, slots := 0, locals := 21 } s m args below meth c H locs 0 0 Q (F0 m 34 ls []) := by
              intro fu
              induction fu with
              | zero => intro i3_34 s_34 H locs ls ri3_34 hF_34 q34_0 q34_1 q34_2 q34_3 q34_4 v34_0 v34_1 hm; exact absurd hm (Nat.not_lt_zero _)
              | succ fu ih34 =>
                intro i3_34 s_34 H locs ls ri3_34 hF_34 q34_0 q34_1 q34_2 q34_3 q34_4 v34_0 v34_1 hm hW hl
                refine x_iload_n hx hb hl 3 rfl dX11_goesFew_34 rfl ?_
                refine x_bipush hx hb dX11_goesFew_35 (by decide) ?_
                refine x_icmp_ge (tgt := 147) hx hb ri3_34 (by decide) dX11_goesFew_37 (by decide) (fun c15 => ?_) (fun c15 => ?_)
                · skip
                  refine x_iinc (lv' := [(2, .int (xJ (i2_26 + 1))), (0, .ref (h0 + 268)), (1, .int (xJ n)), (3, .int (xJ i3_34))]) hx hb hl 2 rfl dX11_goesFew_147 (by decide) rfl (fun ls hl => ?_)
                  refine lv_goto (tgt := 26) hx hb dX11_goesFew_150 (by decide) ?_
                  exact ih26 (i2_26 + 1) s_34 H locs ls (by omega) hF_34 q34_0 q34_1 q34_2 q34_3 q34_4 (by omega) (by omega) (by omega) hW (lv_sub hl [1, 2, 0] rfl)
                refine x_aload_n hx hb hl 0 rfl dX11_goesFew_40 rfl ?_
                refine x_get (j := 54) (v := .ref (h0 + 304)) hx hb hown hT hE hW cls_X11 (Or.inl (by decide)) (so_268 h0 g _) (by decide) rfl wq1239 dX11_goesFew_41 ?_
                refine x_bipush hx hb dX11_goesFew_44 (by decide) ?_
                refine x_iload_n hx hb hl 2 rfl dX11_goesFew_46 rfl ?_
                refine x_imul hx hb dX11_goesFew_47 ?_
                refine x_iload_n hx hb hl 3 rfl dX11_goesFew_48 rfl ?_
                refine x_iadd hx hb dX11_goesFew_49 ?_
                refine x_iald hx hb hE hW (Or.inl (by decide)) (sa_304 h0 g _) (by omega) (by decide) dX11_goesFew_50 ?_
                refine x_rd hW (fun x16 ex16 rx16 => ?_)
                refine lv_istore (lv' := [(4, .int (xJ x16)), (0, .ref (h0 + 268)), (1, .int (xJ n)), (2, .int (xJ i2_26)), (3, .int (xJ i3_34))]) hx hb dX11_goesFew_51 hl (by decide) rfl (fun ls hl => ?_)
                refine x_iconst hx hb dX11_goesFew_53 ?_
                refine lv_istore (lv' := [(5, .int (xJ 0)), (4, .int (xJ x16)), (0, .ref (h0 + 268)), (1, .int (xJ n)), (2, .int (xJ i2_26)), (3, .int (xJ i3_34))]) hx hb dX11_goesFew_54 hl (by decide) rfl (fun ls hl => ?_)
                have L56 : ∀ (fu : Nat) (i5_56 : Int) (s_56 : xS) (H : Heap) (locs : List Loc) (ls : Array Slot), (xR i5_56) → (xFr (fun k => k = 302 ∨ k = 303) s0 s_56) → (IMn s_56) → (IMk s_56) → (IMo s_56) → (s_56 268 8 = s0 268 8) → (s_56 268 58 = s0 268 58) → (0 ≤ i5_56) → (n + 1 - i5_56).toNat < fu → xW D g h0 s H locs s_56 → lv_has ls 7 [(0, .ref (h0 + 268)), (1, .int (xJ n)), (2, .int (xJ i2_26)), (3, .int (xJ i3_34)), (4, .int (xJ x16)), (5, .int (xJ i5_56))] → W p l e { frames := 1, cells := 0, slots := 0, locals := 21 } s m args below meth c H locs 0 0 Q (F0 m 56 ls []) := by
                  intro fu
                  induction fu with
                  | zero => intro i5_56 s_56 H locs ls ri5_56 hF_56 q56_0 q56_1 q56_2 q56_3 q56_4 v56_0 hm; exact absurd hm (Nat.not_lt_zero _)
                  | succ fu ih56 =>
                    intro i5_56 s_56 H locs ls ri5_56 hF_56 q56_0 q56_1 q56_2 q56_3 q56_4 v56_0 hm hW hl
                    refine x_iload hx hb hl 5 rfl dX11_goesFew_56 ?_
                    refine x_iload_n hx hb hl 1 rfl dX11_goesFew_58 rfl ?_
                    refine x_icmp_gt (tgt := 141) hx hb ri5_56 rn dX11_goesFew_59 (by decide) (fun c17 => ?_) (fun c17 => ?_)
                    · skip
                      refine x_iinc (lv' := [(3, .int (xJ (i3_34 + 1))), (0, .ref (h0 + 268)), (1, .int (xJ n)), (2, .int (xJ i2_26)), (4, .int (xJ x16)), (5, .int (xJ i5_56))]) hx hb hl 3 rfl dX11_goesFew_141 (by decide) rfl (fun ls hl => ?_)
                      refine lv_goto (tgt := 34) hx hb dX11_goesFew_144 (by decide) ?_
                      exact ih34 (i3_34 + 1) s_56 H locs ls (by omega) hF_56 q56_0 q56_1 q56_2 q56_3 q56_4 (by omega) (by omega) (by omega) hW (lv_sub hl [1, 2, 3, 0] rfl)
                    refine x_iload hx hb hl 4 rfl dX11_goesFew_62 ?_
                    refine lv_ldcw (v := xJ 1000000000) hx hb hown (hT _ wq1622) dX11_goesFew_64 ?_
                    refine x_icmp_ge (tgt := 141) hx hb rx16 (by decide) dX11_goesFew_67 (by decide) (fun c18 => ?_) (fun c18 => ?_)
                    · skip
                      refine x_iinc (lv' := [(3, .int (xJ (i3_34 + 1))), (0, .ref (h0 + 268)), (1, .int (xJ n)), (2, .int (xJ i2_26)), (4, .int (xJ x16)), (5, .int (xJ i5_56))]) hx hb hl 3 rfl dX11_goesFew_141 (by decide) rfl (fun ls hl => ?_)
                      refine lv_goto (tgt := 34) hx hb dX11_goesFew_144 (by decide) ?_
                      exact ih34 (i3_34 + 1) s_56 H locs ls (by omega) hF_56 q56_0 q56_1 q56_2 q56_3 q56_4 (by omega) (by omega) (by omega) hW (lv_sub hl [1, 2, 3, 0] rfl)
                    refine x_iload_n hx hb hl 1 rfl dX11_goesFew_70 rfl ?_
                    refine x_iload hx hb hl 5 rfl dX11_goesFew_71 ?_
                    refine x_aload_n hx hb hl 0 rfl dX11_goesFew_73 rfl ?_
                    refine x_get (j := 40) (v := .ref (h0 + 295)) hx hb hown hT hE hW cls_X11 (Or.inl (by decide)) (so_268 h0 g _) (by decide) rfl wq1225 dX11_goesFew_74 ?_
                    refine x_iload_n hx hb hl 3 rfl dX11_goesFew_77 rfl ?_
                    refine x_iald hx hb hE hW (Or.inl (by decide)) (sa_295 h0 g _) (by omega) (by decide) dX11_goesFew_78 ?_
                    refine x_rd hW (fun x19 ex19 rx19 => ?_)
                    have J87 : ∀ (t0_87 : Int) (ls : Array Slot), (xR t0_87) → (0 ≤ t0_87 ∧ t0_87 ≤ 1) → lv_has ls 7 [(0, .ref (h0 + 268)), (1, .int (xJ n)), (2, .int (xJ i2_26)), (3, .int (xJ i3_34)), (4, .int (xJ x16)), (5, .int (xJ i5_56))] → W p l e { frames := 1, cells := 0, slots := 0, locals := 21 } s m args below meth c H locs 0 0 Q (F0 m 87 ls [.int (xJ t0_87), .int (xJ i5_56), .int (xJ n)]) := by
                      intro t0_87 ls rt0_87 v87_0  hl
                      refine x_iadd hx hb dX11_goesFew_87 ?_
                      refine x_goi (x_runS (As := [.int (xJ n), .int (xJ (i5_56 + t0_87))]) hx hb hml hown hT hE hW hl.1 cf_X11_min wq1640 wq1639 (c_X11_min l D g T h0 s_56 hW.2.1 n rn (i5_56 + t0_87) (by omega)) ⟨rfl, rfl, ⟨by decide, by decide⟩, ⟨by decide, by decide⟩⟩ rfl rfl (Nat.le_of_ble_eq_true rfl) dX11_goesFew_88) hW (fun x20 s21 H locs rx20 hp22 hW => ?_)
                      obtain ⟨es21, hp22⟩ := hp22
                      subst es21
                      have ghp22 := hp22
                      refine lv_istore (lv' := [(6, .int (xJ x20)), (0, .ref (h0 + 268)), (1, .int (xJ n)), (2, .int (xJ i2_26)), (3, .int (xJ i3_34)), (4, .int (xJ x16)), (5, .int (xJ i5_56))]) hx hb dX11_goesFew_91 hl (by decide) rfl (fun ls hl => ?_)
                      refine x_aload_n hx hb hl 1 rfl dX11_goesFew_93 rfl ?_
                      refine x_get (j := 53) (v := .ref (h0 + 303)) hx hb hown hT hE hW cls_X11 (Or.inl (by decide)) (so_268 h0 g _) (by decide) rfl wq1238 dX11_goesFew_94 ?_
                      refine x_bipush hx hb dX11_goesFew_97 (by decide) ?_
                      refine x_iload_n hx hb hl 4 rfl dX11_goesFew_99 rfl ?_
                      refine x_imul hx hb dX11_goesFew_100 ?_
                      refine x_iload hx hb hl 0 rfl dX11_goesFew_101 ?_
                      refine x_iadd hx hb dX11_goesFew_103 ?_
                      refine x_aload_n hx hb hl 1 rfl dX11_goesFew_104 rfl ?_
                      refine x_get (j := 53) (v := .ref (h0 + 303)) hx hb hown hT hE hW cls_X11 (Or.inl (by decide)) (so_268 h0 g _) (by decide) rfl wq1238 dX11_goesFew_105 ?_
                      refine x_bipush hx hb dX11_goesFew_108 (by decide) ?_
                      refine x_iload_n hx hb hl 4 rfl dX11_goesFew_110 rfl ?_
                      refine x_imul hx hb dX11_goesFew_111 ?_
                      refine x_iload hx hb hl 0 rfl dX11_goesFew_112 ?_
                      refine x_iadd hx hb dX11_goesFew_114 ?_
                      refine x_iald hx hb hE hW (Or.inl (by decide)) (sa_303 h0 g _) (by omega) (by decide) dX11_goesFew_115 ?_
                      refine x_rd hW (fun x23 ex23 rx23 => ?_)
                      refine x_aload_n hx hb hl 1 rfl dX11_goesFew_116 rfl ?_
                      refine x_get (j := 52) (v := .ref (h0 + 302)) hx hb hown hT hE hW cls_X11 (Or.inl (by decide)) (so_268 h0 g _) (by decide) rfl wq1237 dX11_goesFew_117 ?_
                      refine x_bipush hx hb dX11_goesFew_120 (by decide) ?_
                      refine x_iload_n hx hb hl 3 rfl dX11_goesFew_122 rfl ?_
                      refine x_imul hx hb dX11_goesFew_123 ?_
                      refine x_iload hx hb hl 6 rfl dX11_goesFew_124 ?_
                      refine x_iadd hx hb dX11_goesFew_126 ?_
                      refine x_iald hx hb hE hW (Or.inl (by decide)) (sa_302 h0 g _) (by omega) (by decide) dX11_goesFew_127 ?_
                      refine x_rd hW (fun x24 ex24 rx24 => ?_)
                      refine x_iload hx hb hl 5 rfl dX11_goesFew_128 ?_
                      refine x_iadd hx hb dX11_goesFew_130 ?_
                      refine x_any (fun x25 rx25 => ?_)
                      refine x_goi (x_runS (As := [.int (xJ x23), .int (xJ x25)]) hx hb hml hown hT hE hW hl.1 cf_X11_min wq1640 wq1639 (c_X11_min l D g T h0 s_56 hW.2.1 x23 rx23 x25 rx25) ⟨rfl, rfl, ⟨by decide, by decide⟩, ⟨by decide, by decide⟩⟩ rfl rfl (Nat.le_of_ble_eq_true rfl) dX11_goesFew_131) hW (fun x26 s27 H locs rx26 hp28 hW => ?_)
                      obtain ⟨es27, hp28⟩ := hp28
                      subst es27
                      have ghp28 := hp28
                      refine x_iast hx hb hE hW (by decide) (fun σ => sa_303 h0 g σ) (by omega) (by decide) rx26 dX11_goesFew_134 (fun H locs s29 es29 hW => ?_)
                      have q30 : IMn s29 := by rw [es29]; exact IMn_o (by unfold suIMn; omega) q56_0
                      have q31 : IMk s29 := by rw [es29]; exact IMk_o (by unfold suIMk; omega) q56_1
                      have q32 : IMo s29 := by rw [es29]; exact IMo_o (by unfold suIMo; omega) q56_2
                      have q33 : s29 268 8 = s0 268 8 := (show s29 268 8 = s_56 268 8 from by rw [es29, xU_k _ _ _ (by omega)]).trans q56_3
                      have q34 : s29 268 58 = s0 268 58 := (show s29 268 58 = s_56 268 58 from by rw [es29, xU_k _ _ _ (by omega)]).trans q56_4
                      have hF35 := hF_56.put es29 (by omega)
                      refine x_iinc (lv' := [(5, .int (xJ (i5_56 + 1))), (6, .int (xJ x20)), (0, .ref (h0 + 268)), (1, .int (xJ n)), (2, .int (xJ i2_26)), (3, .int (xJ i3_34)), (4, .int (xJ x16))]) hx hb hl 6 rfl dX11_goesFew_135 (by decide) rfl (fun ls hl => ?_)
                      refine lv_goto (tgt := 56) hx hb dX11_goesFew_138 (by decide) ?_
                      exact ih56 (i5_56 + 1) s29 H locs ls (by omega) hF35 q30 q31 q32 q33 q34 (by omega) (by omega) hW (lv_sub hl [2, 3, 4, 5, 6, 0] rfl)
                    refine x_if_le (tgt := 86) hx hb rx19 dX11_goesFew_79 (by decide) (fun c36 => ?_) (fun c36 => ?_)
                    · skip
                      refine x_iconst hx hb dX11_goesFew_86 ?_
                      exact J87 0 ls (by decide) (by omega)  (lv_sub hl [0, 1, 2, 3, 4, 5] rfl)
                    refine x_iconst hx hb dX11_goesFew_82 ?_
                    refine lv_goto (tgt := 87) hx hb dX11_goesFew_83 (by decide) ?_
                    exact J87 1 ls (by decide) (by omega)  (lv_sub hl [0, 1, 2, 3, 4, 5] rfl)
                exact L56 ((n + 1 - 0 : Int).toNat + 1) 0 s_34 H locs ls (by decide) hF_34 q34_0 q34_1 q34_2 q34_3 q34_4 (by omega) (Nat.lt_succ_self _) hW (lv_sub hl [2, 3, 4, 5, 1, 0] rfl)
            exact L34 ((100 + 1 - 0 : Int).toNat + 1) 0 s_26 H locs ls (by decide) hF_26 q26_0 q26_1 q26_2 q26_3 q26_4 (by omega) (by omega) (Nat.lt_succ_self _) hW (lv_sub hl [1, 2, 3, 0] rfl)
        exact L26 ((100 + 1 - 0 : Int).toNat + 1) 0 s_2 H locs ls (by decide) hF_2 q2_0 q2_1 q2_2 q2_3 q2_4 (by omega) (by omega) (Nat.lt_succ_self _) hW (lv_sub hl [1, 2, 0] rfl)
      refine x_aload_n hx hb hl 0 rfl dX11_goesFew_9 rfl ?_
      refine x_get (j := 53) (v := .ref (h0 + 303)) hx hb hown hT hE hW cls_X11 (Or.inl (by decide)) (so_268 h0 g _) (by decide) rfl wq1238 dX11_goesFew_10 ?_
      refine x_iload_n hx hb hl 2 rfl dX11_goesFew_13 rfl ?_
      refine lv_ldcw (v := xJ 1000000000) hx hb hown (hT _ wq1622) dX11_goesFew_14 ?_
      refine x_iast hx hb hE hW (by decide) (fun σ => sa_303 h0 g σ) (by omega) (by decide) (by decide) dX11_goesFew_17 (fun H locs s37 es37 hW => ?_)
      have q38 : IMn s37 := by rw [es37]; exact IMn_o (by unfold suIMn; omega) q2_0
      have q39 : IMk s37 := by rw [es37]; exact IMk_o (by unfold suIMk; omega) q2_1
      have q40 : IMo s37 := by rw [es37]; exact IMo_o (by unfold suIMo; omega) q2_2
      have q41 : s37 268 8 = s0 268 8 := (show s37 268 8 = s_2 268 8 from by rw [es37, xU_k _ _ _ (by omega)]).trans q2_3
      have q42 : s37 268 58 = s0 268 58 := (show s37 268 58 = s_2 268 58 from by rw [es37, xU_k _ _ _ (by omega)]).trans q2_4
      have hF43 := hF_2.put es37 (by omega)
      refine x_iinc (lv' := [(2, .int (xJ (i2_2 + 1))), (0, .ref (h0 + 268)), (1, .int (xJ n))]) hx hb hl 2 rfl dX11_goesFew_18 (by decide) rfl (fun ls hl => ?_)
      refine lv_goto (tgt := 2) hx hb dX11_goesFew_21 (by decide) ?_
      exact ih2 (i2_2 + 1) s37 H locs ls (by omega) hF43 q38 q39 q40 q41 q42 (by omega) (by omega) (by omega) hW (lv_sub hl [1, 2, 0] rfl)
  exact L2 ((3100 + 1 - 0 : Int).toNat + 1) 0 s0 H locs ls (by decide) hF p0 p1 p2 k268_8 k268_58 (by omega) (by omega) (Nat.lt_succ_self _) hW (lv_sub hl [1, 2, 0] rfl)
set_option maxHeartbeats 4000000 in
set_option maxRecDepth 100000 in
theorem c_X11_fewest (l : Launch) (D : va_G) (g : xG) (T : Nat × Nat × Nat) (h0 : Nat) (s0 : xS) (hσ : xRR s0) (f : Int) (rf : xR f) (n : Int) (rn : xR n) (q : Int) (rq : xR q) (p0 : IMn s0) (p1 : IMk s0) (p2 : IMo s0) : Met l yX11_fewest (xws yX11_fewest cX11_fewest 6 (some .int)) { frames := 5, cells := 0, slots := 0, locals := 115 } (xP [.ref (h0 + 268), .int (xJ f), .int (xJ n), .int (xJ q)] D g T h0 s0) (xQi D g h0 (fun r τ => xFr (fun k => k = 269 ∨ k = 270 ∨ k = 293 ∨ k = 294 ∨ k = 295 ∨ k = 296 ∨ k = 302 ∨ k = 303 ∨ k = 304) s0 τ ∧ (((IMn τ) ∧ (IMk τ) ∧ (IMo τ) ∧ True) ∧ (True)))) 0 0 (xA h0) := by
  refine x_met hσ (by decide) (Nat.le_of_ble_eq_true rfl) ?_
  intro p e s m args below meth c hx hb hr hml hown hT hlk hnm hE hW ls hl
  have hl : lv_has ls 6 [(0, .ref (h0 + 268)), (1, .int (xJ f)), (2, .int (xJ n)), (3, .int (xJ q))] := hl
  obtain ⟨Q, eQ⟩ : ∃ Q, Q = MQ below (xQi D g h0 (fun r τ => xFr (fun k => k = 269 ∨ k = 270 ∨ k = 293 ∨ k = 294 ∨ k = 295 ∨ k = 296 ∨ k = 302 ∨ k = 303 ∨ k = 304) s0 τ ∧ (((IMn τ) ∧ (IMk τ) ∧ (IMo τ) ∧ True) ∧ (True)))) args s 0 0 (xA h0) := ⟨_, rfl⟩
  rw [← eQ]
  generalize hHe : ([] : List Loc) = locs at hW ⊢
  obtain ⟨H, eH⟩ : ∃ H, H = s.heap := ⟨_, rfl⟩
  rw [← eH] at hW ⊢
  have hF : xFr (fun k => k = 269 ∨ k = 270 ∨ k = 293 ∨ k = 294 ∨ k = 295 ∨ k = 296 ∨ k = 302 ∨ k = 303 ∨ k = 304) s0 s0 := xFr.rf
  have k268_8 : s0 268 8 = s0 268 8 := rfl
  have k268_58 : s0 268 58 = s0 268 58 := rfl
  refine x_aload_n hx hb hl 0 rfl dX11_fewest_0 rfl ?_
  refine x_iload_n hx hb hl 1 rfl dX11_fewest_1 rfl ?_
  refine x_goi (x_runV (As := [.int (xJ f)]) hx hb hml hown hT hE hW hl.1 (Or.inl (by decide)) (so_268 h0 g _) rfl cf_X11_isFelon wq1423 wq111 wq1421 (c_X11_isFelon l D g T h0 s0 hW.2.1 f rf p0 p1 p2) ⟨rfl, rfl, ⟨by decide, by decide⟩, ⟨by decide, by decide⟩⟩ rfl rfl (Nat.le_of_ble_eq_true rfl) dX11_fewest_2) hW (fun x1 s2 H locs rx1 hp3 hW => ?_)
  obtain ⟨es2, hp3⟩ := hp3
  subst es2
  have ghp3 := hp3
  refine x_if_eq (tgt := 27) hx hb rx1 dX11_fewest_5 (by decide) (fun c4 => ?_) (fun c4 => ?_)
  · skip
    refine x_iconst hx hb dX11_fewest_27 ?_
    rw [eQ]
    exact x_iret hx hb hr hlk hW (by decide) ⟨hF, ⟨p0, p1, p2, trivial⟩, trivial⟩ dX11_fewest_28
  refine x_iload_n hx hb hl 2 rfl dX11_fewest_8 rfl ?_
  refine x_iconst hx hb dX11_fewest_9 ?_
  refine x_bipush hx hb dX11_fewest_10 (by decide) ?_
  refine x_goi (x_runS (As := [.int (xJ n), .int (xJ 1), .int (xJ 30)]) hx hb hml hown hT hE hW hl.1 cf_X11_in wq1383 wq1382 (c_X11_in l D g T h0 s0 hW.2.1 n rn 1 (by decide) 30 (by decide)) ⟨rfl, rfl, ⟨by decide, by decide⟩, ⟨by decide, by decide⟩⟩ rfl rfl (Nat.le_of_ble_eq_true rfl) dX11_fewest_12) hW (fun x5 s6 H locs rx5 hp7 hW => ?_)
  obtain ⟨es6, hp7⟩ := hp7
  subst es6
  have ghp7 := hp7
  refine x_if_eq (tgt := 27) hx hb rx5 dX11_fewest_15 (by decide) (fun c8 => ?_) (fun c8 => ?_)
  · skip
    refine x_iconst hx hb dX11_fewest_27 ?_
    rw [eQ]
    exact x_iret hx hb hr hlk hW (by decide) ⟨hF, ⟨p0, p1, p2, trivial⟩, trivial⟩ dX11_fewest_28
  refine x_iload_n hx hb hl 3 rfl dX11_fewest_18 rfl ?_
  refine x_iconst hx hb dX11_fewest_19 ?_
  refine x_iload_n hx hb hl 2 rfl dX11_fewest_20 rfl ?_
  refine x_goi (x_runS (As := [.int (xJ q), .int (xJ 1), .int (xJ n)]) hx hb hml hown hT hE hW hl.1 cf_X11_in wq1383 wq1382 (c_X11_in l D g T h0 s0 hW.2.1 q rq 1 (by decide) n rn) ⟨rfl, rfl, ⟨by decide, by decide⟩, ⟨by decide, by decide⟩⟩ rfl rfl (Nat.le_of_ble_eq_true rfl) dX11_fewest_21) hW (fun x9 s10 H locs rx9 hp11 hW => ?_)
  obtain ⟨es10, hp11⟩ := hp11
  subst es10
  have ghp11 := hp11
  refine x_if_ne (tgt := 29) hx hb rx9 dX11_fewest_24 (by decide) (fun c12 => ?_) (fun c12 => ?_)
  · skip
    refine x_aload_n hx hb hl 0 rfl dX11_fewest_29 rfl ?_
    refine x_get (j := 0) (v := .ref (h0 + 269)) hx hb hown hT hE hW cls_X11 (Or.inl (by decide)) (so_268 h0 g _) (by decide) rfl wq1185 dX11_fewest_30 ?_
    refine x_aload_n hx hb hl 0 rfl dX11_fewest_33 rfl ?_
    refine x_get (j := 1) (v := .ref (h0 + 270)) hx hb hown hT hE hW cls_X11 (Or.inl (by decide)) (so_268 h0 g _) (by decide) rfl wq1186 dX11_fewest_34 ?_
    refine x_gov (x_runS (As := [.ref (h0 + 269), .ref (h0 + 270)]) hx hb hml hown hT hE hW hl.1 cf_X11_copies wq1647 wq1646 (c_X11_copiesA l D g T h0 s0 hW.2.1 p0 p1 p2) ⟨rfl, rfl, ⟨by decide, by decide⟩, ⟨by decide, by decide⟩⟩ rfl rfl (Nat.le_of_ble_eq_true rfl) dX11_fewest_37) hW (fun s14 H locs hp15 hW => ?_)
    obtain ⟨fs14, hp15⟩ := hp15
    have hF16 := hF.call fs14 (fun k h => by omega)
    have q17 : s14 268 8 = s0 268 8 := (congrFun (fs14 _ (by omega)) _).trans k268_8
    have q18 : s14 268 58 = s0 268 58 := (congrFun (fs14 _ (by omega)) _).trans k268_58
    have ghp15 := hp15.2
    refine x_aload_n hx hb hl 0 rfl dX11_fewest_40 rfl ?_
    refine x_gov (x_runV (As := []) hx hb hml hown hT hE hW hl.1 (Or.inl (by decide)) (so_268 h0 g _) rfl cf_X11_laysSteps wq1685 wq155 wq1683 (c_X11_laysSteps l D g T h0 s14 hW.2.1 hp15.1.1 hp15.1.2.1 hp15.1.2.2.1) ⟨rfl, rfl, ⟨by decide, by decide⟩, ⟨by decide, by decide⟩⟩ rfl rfl (Nat.le_of_ble_eq_true rfl) dX11_fewest_41) hW (fun s20 H locs hp21 hW => ?_)
    obtain ⟨fs20, hp21⟩ := hp21
    have hF22 := hF16.call fs20 (fun k h => by omega)
    have q23 : s20 268 8 = s0 268 8 := (congrFun (fs20 _ (by omega)) _).trans q17
    have q24 : s20 268 58 = s0 268 58 := (congrFun (fs20 _ (by omega)) _).trans q18
    have ghp21 := hp21.2
    refine x_iconst hx hb dX11_fewest_44 ?_
    refine lv_istore (lv' := [(4, .int (xJ 0)), (0, .ref (h0 + 268)), (1, .int (xJ f)), (2, .int (xJ n)), (3, .int (xJ q))]) hx hb dX11_fewest_45 hl (by decide) rfl (fun ls hl => ?_)
    have L47 : ∀ (fu : Nat) (i4_47 : Int) (s_47 : xS) (H : Heap) (locs : List Loc) (ls : Array Slot), (xR i4_47) → (xFr (fun k => k = 269 ∨ k = 270 ∨ k = 293 ∨ k = 294 ∨ k = 295 ∨ k = 296 ∨ k = 302 ∨ k = 303 ∨ k = 304) s0 s_47) → (s_47 268 8 = s0 268 8) → (s_47 268 58 = s0 268 58) → (IMn s_47) → (IMk s_47) → (IMo s_47) → (0 ≤ i4_47) → (i4_47 ≤ 3100) → (3100 + 1 - i4_47).toNat < fu → xW D g h0 s H locs s_47 → lv_has ls 6 [(0, .ref (h0 + 268)), (1, .int (xJ f)), (2, .int (xJ n)), (3, .int (xJ q)), (4, .int (xJ i4_47))] → W p l e { frames := 5, cells := 0, slots := 0, locals := 115 } s m args below meth c H locs 0 0 Q (F0 m 47 ls []) := by
      intro fu
      induction fu with
      | zero => intro i4_47 s_47 H locs ls ri4_47 hF_47 q47_0 q47_1 q47_2 q47_3 q47_4 v47_0 v47_1 hm; exact absurd hm (Nat.not_lt_zero _)
      | succ fu ih47 =>
        intro i4_47 s_47 H locs ls ri4_47 hF_47 q47_0 q47_1 q47_2 q47_3 q47_4 v47_0 v47_1 hm hW hl
        refine x_iload hx hb hl 4 rfl dX11_fewest_47 ?_
        refine x_sipush hx hb dX11_fewest_49 (by decide) ?_
        refine x_icmp_ge (tgt := 91) hx hb ri4_47 (by decide) dX11_fewest_52 (by decide) (fun c25 => ?_) (fun c25 => ?_)
        · skip
          refine x_iconst hx hb dX11_fewest_91 ?_
          refine lv_istore (lv' := [(4, .int (xJ 0)), (0, .ref (h0 + 268)), (1, .int (xJ f)), (2, .int (xJ n)), (3, .int (xJ q))]) hx hb dX11_fewest_92 hl (by decide) rfl (fun ls hl => ?_)
          have L94 : ∀ (fu : Nat) (i4_94 : Int) (s_94 : xS) (H : Heap) (locs : List Loc) (ls : Array Slot), (xR i4_94) → (xFr (fun k => k = 269 ∨ k = 270 ∨ k = 293 ∨ k = 294 ∨ k = 295 ∨ k = 296 ∨ k = 302 ∨ k = 303 ∨ k = 304) s0 s_94) → (s_94 268 8 = s0 268 8) → (s_94 268 58 = s0 268 58) → (IMn s_94) → (IMk s_94) → (IMo s_94) → (0 ≤ i4_94) → (n + 1 - i4_94).toNat < fu → xW D g h0 s H locs s_94 → lv_has ls 6 [(0, .ref (h0 + 268)), (2, .int (xJ n)), (3, .int (xJ q)), (4, .int (xJ i4_94))] → W p l e { frames := 5, cells := 0, slots := 0, locals := 115 } s m args below meth c H locs 0 0 Q (F0 m 94 ls []) := by
            intro fu
            induction fu with
            | zero => intro i4_94 s_94 H locs ls ri4_94 hF_94 q94_0 q94_1 q94_2 q94_3 q94_4 v94_0 hm; exact absurd hm (Nat.not_lt_zero _)
            | succ fu ih94 =>
              intro i4_94 s_94 H locs ls ri4_94 hF_94 q94_0 q94_1 q94_2 q94_3 q94_4 v94_0 hm hW hl
              refine x_iload hx hb hl 3 rfl dX11_fewest_94 ?_
              refine x_iload_n hx hb hl 1 rfl dX11_fewest_96 rfl ?_
              refine x_icmp_ge (tgt := 165) hx hb ri4_94 rn dX11_fewest_97 (by decide) (fun c26 => ?_) (fun c26 => ?_)
              · skip
                refine x_aload_n hx hb hl 0 rfl dX11_fewest_165 rfl ?_
                refine x_get (j := 1) (v := .ref (h0 + 270)) hx hb hown hT hE hW cls_X11 (Or.inl (by decide)) (so_268 h0 g _) (by decide) rfl wq1186 dX11_fewest_166 ?_
                refine x_aload_n hx hb hl 0 rfl dX11_fewest_169 rfl ?_
                refine x_get (j := 0) (v := .ref (h0 + 269)) hx hb hown hT hE hW cls_X11 (Or.inl (by decide)) (so_268 h0 g _) (by decide) rfl wq1185 dX11_fewest_170 ?_
                refine x_gov (x_runS (As := [.ref (h0 + 270), .ref (h0 + 269)]) hx hb hml hown hT hE hW hl.1 cf_X11_copies wq1647 wq1646 (c_X11_copiesB l D g T h0 s_94 hW.2.1 q94_2 q94_3 q94_4) ⟨rfl, rfl, ⟨by decide, by decide⟩, ⟨by decide, by decide⟩⟩ rfl rfl (Nat.le_of_ble_eq_true rfl) dX11_fewest_173) hW (fun s28 H locs hp29 hW => ?_)
                obtain ⟨fs28, hp29⟩ := hp29
                have hF30 := hF_94.call fs28 (fun k h => by omega)
                have q31 : s28 268 8 = s0 268 8 := (congrFun (fs28 _ (by omega)) _).trans q94_0
                have q32 : s28 268 58 = s0 268 58 := (congrFun (fs28 _ (by omega)) _).trans q94_1
                have ghp29 := hp29.2
                refine lv_ldcw (v := xJ 1000000000) hx hb hown (hT _ wq1622) dX11_fewest_176 ?_
                refine lv_istore (lv' := [(4, .int (xJ 1000000000)), (0, .ref (h0 + 268)), (2, .int (xJ n)), (3, .int (xJ q))]) hx hb dX11_fewest_179 hl (by decide) rfl (fun ls hl => ?_)
                refine x_iconst hx hb dX11_fewest_181 ?_
                refine lv_istore (lv' := [(5, .int (xJ 0)), (4, .int (xJ 1000000000)), (0, .ref (h0 + 268)), (2, .int (xJ n)), (3, .int (xJ q))]) hx hb dX11_fewest_182 hl (by decide) rfl (fun ls hl => ?_)
                have L184 : ∀ (fu : Nat) (i4_184 : Int) (i5_184 : Int) (H : Heap) (locs : List Loc) (ls : Array Slot), (xR i4_184) → (xR i5_184) → (0 ≤ i5_184) → (i5_184 ≤ 100) → (100 + 1 - i5_184).toNat < fu → xW D g h0 s H locs s28 → lv_has ls 6 [(0, .ref (h0 + 268)), (3, .int (xJ q)), (4, .int (xJ i4_184)), (5, .int (xJ i5_184))] → W p l e { frames := 5, cells := 0, slots := 0, locals := 115 } s m args below meth c H locs 0 0 Q (F0 m 184 ls []) := by
                  intro fu
                  induction fu with
                  | zero => intro i4_184 i5_184 H locs ls ri4_184 ri5_184 v184_0 v184_1 hm; exact absurd hm (Nat.not_lt_zero _)
                  | succ fu ih184 =>
                    intro i4_184 i5_184 H locs ls ri4_184 ri5_184 v184_0 v184_1 hm hW hl
                    refine x_iload hx hb hl 3 rfl dX11_fewest_184 ?_
                    refine x_bipush hx hb dX11_fewest_186 (by decide) ?_
                    refine x_icmp_ge (tgt := 216) hx hb ri5_184 (by decide) dX11_fewest_188 (by decide) (fun c33 => ?_) (fun c33 => ?_)
                    · skip
                      refine x_iload hx hb hl 2 rfl dX11_fewest_216 ?_
                      refine lv_ldcw (v := xJ 1000000000) hx hb hown (hT _ wq1622) dX11_fewest_218 ?_
                      refine x_icmp_ne (tgt := 229) hx hb ri4_184 (by decide) dX11_fewest_221 (by decide) (fun c34 => ?_) (fun c34 => ?_)
                      · skip
                        refine x_iload hx hb hl 2 rfl dX11_fewest_229 ?_
                        rw [eQ]
                        exact x_iret hx hb hr hlk hW ri4_184 ⟨hF30, ⟨hp29.1.1, hp29.1.2.1, hp29.1.2.2.1, trivial⟩, trivial⟩ dX11_fewest_231
                      refine x_bipush hx hb dX11_fewest_224 (by decide) ?_
                      refine lv_goto (tgt := 231) hx hb dX11_fewest_226 (by decide) ?_
                      rw [eQ]
                      exact x_iret hx hb hr hlk hW (by decide) ⟨hF30, ⟨hp29.1.1, hp29.1.2.1, hp29.1.2.2.1, trivial⟩, trivial⟩ dX11_fewest_231
                    refine x_iload hx hb hl 2 rfl dX11_fewest_191 ?_
                    refine x_aload_n hx hb hl 0 rfl dX11_fewest_193 rfl ?_
                    refine x_get (j := 52) (v := .ref (h0 + 302)) hx hb hown hT hE hW cls_X11 (Or.inl (by decide)) (so_268 h0 g _) (by decide) rfl wq1237 dX11_fewest_194 ?_
                    refine x_bipush hx hb dX11_fewest_197 (by decide) ?_
                    refine x_iload hx hb hl 3 rfl dX11_fewest_199 ?_
                    refine x_imul hx hb dX11_fewest_201 ?_
                    refine x_iload_n hx hb hl 1 rfl dX11_fewest_202 rfl ?_
                    refine x_iadd hx hb dX11_fewest_203 ?_
                    refine x_iald hx hb hE hW (Or.inl (by decide)) (sa_302 h0 g _) (by omega) (by decide) dX11_fewest_204 ?_
                    refine x_rd hW (fun x35 ex35 rx35 => ?_)
                    refine x_goi (x_runS (As := [.int (xJ i4_184), .int (xJ x35)]) hx hb hml hown hT hE hW hl.1 cf_X11_min wq1640 wq1639 (c_X11_min l D g T h0 s28 hW.2.1 i4_184 ri4_184 x35 rx35) ⟨rfl, rfl, ⟨by decide, by decide⟩, ⟨by decide, by decide⟩⟩ rfl rfl (Nat.le_of_ble_eq_true rfl) dX11_fewest_205) hW (fun x36 s37 H locs rx36 hp38 hW => ?_)
                    obtain ⟨es37, hp38⟩ := hp38
                    subst es37
                    have ghp38 := hp38
                    refine lv_istore (lv' := [(4, .int (xJ x36)), (0, .ref (h0 + 268)), (3, .int (xJ q)), (5, .int (xJ i5_184))]) hx hb dX11_fewest_208 hl (by decide) rfl (fun ls hl => ?_)
                    refine x_iinc (lv' := [(5, .int (xJ (i5_184 + 1))), (4, .int (xJ x36)), (0, .ref (h0 + 268)), (3, .int (xJ q))]) hx hb hl 3 rfl dX11_fewest_210 (by decide) rfl (fun ls hl => ?_)
                    refine lv_goto (tgt := 184) hx hb dX11_fewest_213 (by decide) ?_
                    exact ih184 x36 (i5_184 + 1) H locs ls rx36 (by omega) (by omega) (by omega) (by omega) hW (lv_sub hl [2, 3, 1, 0] rfl)
                exact L184 ((100 + 1 - 0 : Int).toNat + 1) 1000000000 0 H locs ls (by decide) (by decide) (by omega) (by omega) (Nat.lt_succ_self _) hW (lv_sub hl [2, 4, 1, 0] rfl)
              refine x_aload_n hx hb hl 0 rfl dX11_fewest_100 rfl ?_
              refine x_iconst hx hb dX11_fewest_101 ?_
              refine x_gov (x_runV (As := [.int (xJ 0)]) hx hb hml hown hT hE hW hl.1 (Or.inl (by decide)) (so_268 h0 g _) rfl cf_X11_walksOn wq1547 wq132 wq1545 (c_X11_walksOn l D g T h0 s_94 hW.2.1 0 (by decide) (by omega) q94_2 q94_3 q94_4) ⟨rfl, rfl, ⟨by decide, by decide⟩, ⟨by decide, by decide⟩⟩ rfl rfl (Nat.le_of_ble_eq_true rfl) dX11_fewest_102) hW (fun s40 H locs hp41 hW => ?_)
              obtain ⟨fs40, hp41⟩ := hp41
              have hF42 := hF_94.call fs40 (fun k h => by omega)
              have q43 : s40 268 8 = s0 268 8 := (congrFun (fs40 _ (by omega)) _).trans q94_0
              have q44 : s40 268 58 = s0 268 58 := (congrFun (fs40 _ (by omega)) _).trans q94_1
              have ghp41 := hp41.2
              refine x_aload_n hx hb hl 0 rfl dX11_fewest_105 rfl ?_
              refine x_iconst hx hb dX11_fewest_106 ?_
              refine x_gov (x_runV (As := [.int (xJ 1)]) hx hb hml hown hT hE hW hl.1 (Or.inl (by decide)) (so_268 h0 g _) rfl cf_X11_walksOn wq1547 wq132 wq1545 (c_X11_walksOn l D g T h0 s40 hW.2.1 1 (by decide) (by omega) hp41.1.1 hp41.1.2.1 hp41.1.2.2.1) ⟨rfl, rfl, ⟨by decide, by decide⟩, ⟨by decide, by decide⟩⟩ rfl rfl (Nat.le_of_ble_eq_true rfl) dX11_fewest_107) hW (fun s46 H locs hp47 hW => ?_)
              obtain ⟨fs46, hp47⟩ := hp47
              have hF48 := hF42.call fs46 (fun k h => by omega)
              have q49 : s46 268 8 = s0 268 8 := (congrFun (fs46 _ (by omega)) _).trans q43
              have q50 : s46 268 58 = s0 268 58 := (congrFun (fs46 _ (by omega)) _).trans q44
              have ghp47 := hp47.2
              refine x_aload_n hx hb hl 0 rfl dX11_fewest_110 rfl ?_
              refine x_gov (x_runV (As := []) hx hb hml hown hT hE hW hl.1 (Or.inl (by decide)) (so_268 h0 g _) rfl cf_X11_bares wq1592 wq140 wq1590 (c_X11_bares l D g T h0 s46 hW.2.1 hp47.1.1 hp47.1.2.1 hp47.1.2.2.1) ⟨rfl, rfl, ⟨by decide, by decide⟩, ⟨by decide, by decide⟩⟩ rfl rfl (Nat.le_of_ble_eq_true rfl) dX11_fewest_111) hW (fun s52 H locs hp53 hW => ?_)
              obtain ⟨fs52, hp53⟩ := hp53
              have hF54 := hF48.call fs52 (fun k h => by omega)
              have q55 : s52 268 8 = s0 268 8 := (congrFun (fs52 _ (by omega)) _).trans q49
              have q56 : s52 268 58 = s0 268 58 := (congrFun (fs52 _ (by omega)) _).trans q50
              have q57 : s52 269 37 = s_94 269 37 := (congrFun (fs52 _ (by omega)) _).trans (hp47.1.2.2.2.1.trans hp41.1.2.2.2.1)
              have ghp53 := hp53.2
              refine x_iconst hx hb dX11_fewest_114 ?_
              refine lv_istore (lv' := [(5, .int (xJ 0)), (0, .ref (h0 + 268)), (2, .int (xJ n)), (3, .int (xJ q)), (4, .int (xJ i4_94))]) hx hb dX11_fewest_115 hl (by decide) rfl (fun ls hl => ?_)
              have L117 : ∀ (fu : Nat) (i5_117 : Int) (s_117 : xS) (H : Heap) (locs : List Loc) (ls : Array Slot), (xR i5_117) → (xFr (fun k => k = 269 ∨ k = 270 ∨ k = 293 ∨ k = 294 ∨ k = 295 ∨ k = 296 ∨ k = 302 ∨ k = 303 ∨ k = 304) s0 s_117) → (s_117 268 8 = s0 268 8) → (s_117 268 58 = s0 268 58) → (s_117 269 37 = s_94 269 37) → (IMn s_117) → (IMk s_117) → (IMo s_117) → (0 ≤ i5_117) → (i5_117 ≤ 2) → (2 + 1 - i5_117).toNat < fu → xW D g h0 s H locs s_117 → lv_has ls 6 [(0, .ref (h0 + 268)), (2, .int (xJ n)), (3, .int (xJ q)), (4, .int (xJ i4_94)), (5, .int (xJ i5_117))] → W p l e { frames := 5, cells := 0, slots := 0, locals := 115 } s m args below meth c H locs 0 0 Q (F0 m 117 ls []) := by
                intro fu
                induction fu with
                | zero => intro i5_117 s_117 H locs ls ri5_117 hF_117 q117_0 q117_1 q117_2 q117_3 q117_4 q117_5 v117_0 v117_1 hm; exact absurd hm (Nat.not_lt_zero _)
                | succ fu ih117 =>
                  intro i5_117 s_117 H locs ls ri5_117 hF_117 q117_0 q117_1 q117_2 q117_3 q117_4 q117_5 v117_0 v117_1 hm hW hl
                  refine x_iload hx hb hl 4 rfl dX11_fewest_117 ?_
                  refine x_iconst hx hb dX11_fewest_119 ?_
                  refine x_icmp_ge (tgt := 154) hx hb ri5_117 (by decide) dX11_fewest_120 (by decide) (fun c58 => ?_) (fun c58 => ?_)
                  · skip
                    refine x_aload_n hx hb hl 0 rfl dX11_fewest_154 rfl ?_
                    refine x_iload_n hx hb hl 2 rfl dX11_fewest_155 rfl ?_
                    refine x_gov (x_runV (As := [.int (xJ q)]) hx hb hml hown hT hE hW hl.1 (Or.inl (by decide)) (so_268 h0 g _) rfl cf_X11_goesFew wq1689 wq156 wq1687 (c_X11_goesFew l D g T h0 s_117 hW.2.1 q rq (by omega) q117_3 q117_4 q117_5) ⟨rfl, rfl, ⟨by decide, by decide⟩, ⟨by decide, by decide⟩⟩ rfl rfl (Nat.le_of_ble_eq_true rfl) dX11_fewest_156) hW (fun s60 H locs hp61 hW => ?_)
                    obtain ⟨fs60, hp61⟩ := hp61
                    have hF62 := hF_117.call fs60 (fun k h => by omega)
                    have q63 : s60 268 8 = s0 268 8 := (congrFun (fs60 _ (by omega)) _).trans q117_0
                    have q64 : s60 268 58 = s0 268 58 := (congrFun (fs60 _ (by omega)) _).trans q117_1
                    have q65 : s60 269 37 = s_94 269 37 := (congrFun (fs60 _ (by omega)) _).trans q117_2
                    have ghp61 := hp61.2
                    refine x_iinc (lv' := [(4, .int (xJ (i4_94 + 1))), (0, .ref (h0 + 268)), (2, .int (xJ n)), (3, .int (xJ q)), (5, .int (xJ i5_117))]) hx hb hl 3 rfl dX11_fewest_159 (by decide) rfl (fun ls hl => ?_)
                    refine lv_goto (tgt := 94) hx hb dX11_fewest_162 (by decide) ?_
                    exact ih94 (i4_94 + 1) s60 H locs ls (by omega) hF62 q63 q64 hp61.1.1 hp61.1.2.1 hp61.1.2.2.1 (by omega) (by omega) hW (lv_sub hl [1, 2, 3, 0] rfl)
                  refine x_aload_n hx hb hl 0 rfl dX11_fewest_123 rfl ?_
                  refine x_iload hx hb hl 4 rfl dX11_fewest_124 ?_
                  refine x_goi (x_runV (As := [.int (xJ i5_117)]) hx hb hml hown hT hE hW hl.1 (Or.inl (by decide)) (so_268 h0 g _) rfl cf_X11_isJudge wq1409 wq109 wq1407 (c_X11_isJudge l D g T h0 s_117 hW.2.1 i5_117 ri5_117 q117_3 q117_4 q117_5) ⟨rfl, rfl, ⟨by decide, by decide⟩, ⟨by decide, by decide⟩⟩ rfl rfl (Nat.le_of_ble_eq_true rfl) dX11_fewest_126) hW (fun x66 s67 H locs rx66 hp68 hW => ?_)
                  obtain ⟨es67, hp68⟩ := hp68
                  subst es67
                  have ghp68 := hp68
                  refine x_if_eq (tgt := 148) hx hb rx66 dX11_fewest_129 (by decide) (fun c69 => ?_) (fun c69 => ?_)
                  · skip
                    refine x_iinc (lv' := [(5, .int (xJ (i5_117 + 1))), (0, .ref (h0 + 268)), (2, .int (xJ n)), (3, .int (xJ q)), (4, .int (xJ i4_94))]) hx hb hl 4 rfl dX11_fewest_148 (by decide) rfl (fun ls hl => ?_)
                    refine lv_goto (tgt := 117) hx hb dX11_fewest_151 (by decide) ?_
                    exact ih117 (i5_117 + 1) s_117 H locs ls (by omega) hF_117 q117_0 q117_1 q117_2 q117_3 q117_4 q117_5 (by omega) (by omega) (by omega) hW (lv_sub hl [1, 2, 3, 4, 0] rfl)
                  refine x_aload_n hx hb hl 0 rfl dX11_fewest_132 rfl ?_
                  refine x_iload hx hb hl 4 rfl dX11_fewest_133 ?_
                  refine x_aload_n hx hb hl 0 rfl dX11_fewest_135 rfl ?_
                  refine x_get (j := 1) (v := .ref (h0 + 270)) hx hb hown hT hE hW cls_X11 (Or.inl (by decide)) (so_268 h0 g _) (by decide) rfl wq1186 dX11_fewest_136 ?_
                  refine x_bipush hx hb dX11_fewest_139 (by decide) ?_
                  refine x_iald hx hb hE hW (Or.inl (by decide)) (sa_270 h0 g _) ⟨by decide, by decide⟩ (by decide) dX11_fewest_141 ?_
                  refine x_rd hW (fun x70 ex70 rx70 => ?_)
                  have bx70 : 0 ≤ x70 ∧ x70 ≤ 9999 := by rw [ex70]; exact (IMn.n2 q117_3).2.2.2.1
                  refine x_iload hx hb hl 3 rfl dX11_fewest_142 ?_
                  refine x_iadd hx hb dX11_fewest_144 ?_
                  refine x_gov (x_runV (As := [.int (xJ i5_117), .int (xJ (x70 + i4_94))]) hx hb hml hown hT hE hW hl.1 (Or.inl (by decide)) (so_268 h0 g _) rfl cf_X11_fallsOf wq1596 wq141 wq1594 (c_X11_fallsOf l D g T h0 s_117 hW.2.1 i5_117 ri5_117 (x70 + i4_94) (by omega) (by omega) q117_3 q117_4 q117_5) ⟨rfl, rfl, ⟨by decide, by decide⟩, ⟨by decide, by decide⟩⟩ rfl rfl (Nat.le_of_ble_eq_true rfl) dX11_fewest_145) hW (fun s72 H locs hp73 hW => ?_)
                  obtain ⟨fs72, hp73⟩ := hp73
                  have hF74 := hF_117.call fs72 (fun k h => by omega)
                  have q75 : s72 268 8 = s0 268 8 := (congrFun (fs72 _ (by omega)) _).trans q117_0
                  have q76 : s72 268 58 = s0 268 58 := (congrFun (fs72 _ (by omega)) _).trans q117_1
                  have q77 : s72 269 37 = s_94 269 37 := (congrFun (fs72 _ (by omega)) _).trans q117_2
                  have ghp73 := hp73.2
                  refine x_iinc (lv' := [(5, .int (xJ (i5_117 + 1))), (0, .ref (h0 + 268)), (2, .int (xJ n)), (3, .int (xJ q)), (4, .int (xJ i4_94))]) hx hb hl 4 rfl dX11_fewest_148 (by decide) rfl (fun ls hl => ?_)
                  refine lv_goto (tgt := 117) hx hb dX11_fewest_151 (by decide) ?_
                  exact ih117 (i5_117 + 1) s72 H locs ls (by omega) hF74 q75 q76 q77 hp73.1.1 hp73.1.2.1 hp73.1.2.2.1 (by omega) (by omega) (by omega) hW (lv_sub hl [1, 2, 3, 4, 0] rfl)
              exact L117 ((2 + 1 - 0 : Int).toNat + 1) 0 s52 H locs ls (by decide) hF54 q55 q56 q57 hp53.1.1 hp53.1.2.1 hp53.1.2.2.1 (by omega) (by omega) (Nat.lt_succ_self _) hW (lv_sub hl [1, 2, 3, 4, 0] rfl)
          exact L94 ((n + 1 - 0 : Int).toNat + 1) 0 s_47 H locs ls (by decide) hF_47 q47_0 q47_1 q47_2 q47_3 q47_4 (by omega) (Nat.lt_succ_self _) hW (lv_sub hl [1, 3, 4, 0] rfl)
        refine x_aload_n hx hb hl 0 rfl dX11_fewest_55 rfl ?_
        refine x_get (j := 52) (v := .ref (h0 + 302)) hx hb hown hT hE hW cls_X11 (Or.inl (by decide)) (so_268 h0 g _) (by decide) rfl wq1237 dX11_fewest_56 ?_
        refine x_iload hx hb hl 4 rfl dX11_fewest_59 ?_
        refine x_iload hx hb hl 4 rfl dX11_fewest_61 ?_
        refine x_bipush hx hb dX11_fewest_63 (by decide) ?_
        refine x_aload_n hx hb hl 0 rfl dX11_fewest_65 rfl ?_
        refine x_get (j := 0) (v := .ref (h0 + 269)) hx hb hown hT hE hW cls_X11 (Or.inl (by decide)) (so_268 h0 g _) (by decide) rfl wq1185 dX11_fewest_66 ?_
        refine x_iconst hx hb dX11_fewest_69 ?_
        refine x_iload_n hx hb hl 1 rfl dX11_fewest_70 rfl ?_
        refine x_iadd hx hb dX11_fewest_71 ?_
        refine x_iald hx hb hE hW (Or.inl (by decide)) (sa_269 h0 g _) (by omega) (by decide) dX11_fewest_72 ?_
        refine x_rd hW (fun x78 ex78 rx78 => ?_)
        have bx78 : 0 ≤ x78 ∧ x78 ≤ 99 := by rw [ex78]; exact (IMn.n1 q47_2).2.2.1 _ (by omega) (by omega)
        refine x_imul hx hb dX11_fewest_73 ?_
        refine x_icmp_ne (tgt := 81) hx hb ri4_47 (by omega) dX11_fewest_74 (by decide) (fun c79 => ?_) (fun c79 => ?_)
        · skip
          refine lv_ldcw (v := xJ 1000000000) hx hb hown (hT _ wq1622) dX11_fewest_81 ?_
          refine x_iast hx hb hE hW (by decide) (fun σ => sa_302 h0 g σ) (by omega) (by decide) (by decide) dX11_fewest_84 (fun H locs s80 es80 hW => ?_)
          have q81 : s80 268 8 = s0 268 8 := (show s80 268 8 = s_47 268 8 from by rw [es80, xU_k _ _ _ (by omega)]).trans q47_0
          have q82 : s80 268 58 = s0 268 58 := (show s80 268 58 = s_47 268 58 from by rw [es80, xU_k _ _ _ (by omega)]).trans q47_1
          have q83 : IMn s80 := by rw [es80]; exact IMn_o (by unfold suIMn; omega) q47_2
          have q84 : IMk s80 := by rw [es80]; exact IMk_o (by unfold suIMk; omega) q47_3
          have q85 : IMo s80 := by rw [es80]; exact IMo_o (by unfold suIMo; omega) q47_4
          have hF86 := hF_47.put es80 (by omega)
          refine x_iinc (lv' := [(4, .int (xJ (i4_47 + 1))), (0, .ref (h0 + 268)), (1, .int (xJ f)), (2, .int (xJ n)), (3, .int (xJ q))]) hx hb hl 4 rfl dX11_fewest_85 (by decide) rfl (fun ls hl => ?_)
          refine lv_goto (tgt := 47) hx hb dX11_fewest_88 (by decide) ?_
          exact ih47 (i4_47 + 1) s80 H locs ls (by omega) hF86 q81 q82 q83 q84 q85 (by omega) (by omega) (by omega) hW (lv_sub hl [1, 2, 3, 4, 0] rfl)
        refine x_iconst hx hb dX11_fewest_77 ?_
        refine lv_goto (tgt := 84) hx hb dX11_fewest_78 (by decide) ?_
        refine x_iast hx hb hE hW (by decide) (fun σ => sa_302 h0 g σ) (by omega) (by decide) (by decide) dX11_fewest_84 (fun H locs s87 es87 hW => ?_)
        have q88 : s87 268 8 = s0 268 8 := (show s87 268 8 = s_47 268 8 from by rw [es87, xU_k _ _ _ (by omega)]).trans q47_0
        have q89 : s87 268 58 = s0 268 58 := (show s87 268 58 = s_47 268 58 from by rw [es87, xU_k _ _ _ (by omega)]).trans q47_1
        have q90 : IMn s87 := by rw [es87]; exact IMn_o (by unfold suIMn; omega) q47_2
        have q91 : IMk s87 := by rw [es87]; exact IMk_o (by unfold suIMk; omega) q47_3
        have q92 : IMo s87 := by rw [es87]; exact IMo_o (by unfold suIMo; omega) q47_4
        have hF93 := hF_47.put es87 (by omega)
        refine x_iinc (lv' := [(4, .int (xJ (i4_47 + 1))), (0, .ref (h0 + 268)), (1, .int (xJ f)), (2, .int (xJ n)), (3, .int (xJ q))]) hx hb hl 4 rfl dX11_fewest_85 (by decide) rfl (fun ls hl => ?_)
        refine lv_goto (tgt := 47) hx hb dX11_fewest_88 (by decide) ?_
        exact ih47 (i4_47 + 1) s87 H locs ls (by omega) hF93 q88 q89 q90 q91 q92 (by omega) (by omega) (by omega) hW (lv_sub hl [1, 2, 3, 4, 0] rfl)
    exact L47 ((3100 + 1 - 0 : Int).toNat + 1) 0 s20 H locs ls (by decide) hF22 q23 q24 hp21.1.1 hp21.1.2.1 hp21.1.2.2.1 (by omega) (by omega) (Nat.lt_succ_self _) hW (lv_sub hl [1, 2, 3, 4, 0] rfl)
  refine x_iconst hx hb dX11_fewest_27 ?_
  rw [eQ]
  exact x_iret hx hb hr hlk hW (by decide) ⟨hF, ⟨p0, p1, p2, trivial⟩, trivial⟩ dX11_fewest_28
set_option maxHeartbeats 4000000 in
set_option maxRecDepth 100000 in
theorem c_X11_stepIn (l : Launch) (D : va_G) (g : xG) (T : Nat × Nat × Nat) (h0 : Nat) (s0 : xS) (hσ : xRR s0) (a : Int) (ra : xR a) (n : Int) (rn : xR n) (q : Int) (rq : xR q) (hq : 0 ≤ q) : Met l yX11_stepIn (xws yX11_stepIn cX11_stepIn 5 (some .int)) { frames := 0, cells := 0, slots := 0, locals := 0 } (xP [.int (xJ a), .int (xJ n), .int (xJ q)] D g T h0 s0) (xQi D g h0 (fun r τ => s0 = τ ∧ (True))) 0 0 (xA h0) := by
  refine x_met hσ (by decide) (Nat.le_of_ble_eq_true rfl) ?_
  intro p e s m args below meth c hx hb hr hml hown hT hlk hnm hE hW ls hl
  have hl : lv_has ls 5 [(0, .int (xJ a)), (1, .int (xJ n)), (2, .int (xJ q))] := hl
  obtain ⟨Q, eQ⟩ : ∃ Q, Q = MQ below (xQi D g h0 (fun r τ => s0 = τ ∧ (True))) args s 0 0 (xA h0) := ⟨_, rfl⟩
  rw [← eQ]
  generalize hHe : ([] : List Loc) = locs at hW ⊢
  obtain ⟨H, eH⟩ : ∃ H, H = s.heap := ⟨_, rfl⟩
  rw [← eH] at hW ⊢
  refine x_iload_n hx hb hl 0 rfl dX11_stepIn_0 rfl ?_
  refine lv_istore_n (lv' := [(3, .int (xJ a)), (0, .int (xJ a)), (1, .int (xJ n)), (2, .int (xJ q))]) hx hb dX11_stepIn_1 rfl hl (by decide) rfl (fun ls hl => ?_)
  refine x_iload_n hx hb hl 2 rfl dX11_stepIn_2 rfl ?_
  refine x_iconst hx hb dX11_stepIn_3 ?_
  refine x_isub hx hb dX11_stepIn_4 ?_
  refine x_any (fun x1 rx1 => ?_)
  refine lv_istore (lv' := [(4, .int (xJ x1)), (3, .int (xJ a)), (0, .int (xJ a)), (1, .int (xJ n)), (2, .int (xJ q))]) hx hb dX11_stepIn_5 hl (by decide) rfl (fun ls hl => ?_)
  have L7 : ∀ (fu : Nat) (i3_7 : Int) (i4_7 : Int) (ls : Array Slot), (xR i3_7) → (xR i4_7) → (i4_7 - q).toNat < fu → lv_has ls 5 [(2, .int (xJ q)), (3, .int (xJ i3_7)), (4, .int (xJ i4_7))] → W p l e { frames := 0, cells := 0, slots := 0, locals := 0 } s m args below meth c H locs 0 0 Q (F0 m 7 ls []) := by
    intro fu
    induction fu with
    | zero => intro i3_7 i4_7 ls ri3_7 ri4_7 hm; exact absurd hm (Nat.not_lt_zero _)
    | succ fu ih7 =>
      intro i3_7 i4_7 ls ri3_7 ri4_7 hm  hl
      refine x_iload hx hb hl 2 rfl dX11_stepIn_7 ?_
      refine x_iload_n hx hb hl 0 rfl dX11_stepIn_9 rfl ?_
      refine x_icmp_le (tgt := 23) hx hb ri4_7 rq dX11_stepIn_10 (by decide) (fun c2 => ?_) (fun c2 => ?_)
      · skip
        refine x_iconst hx hb dX11_stepIn_23 ?_
        refine x_iload_n hx hb hl 1 rfl dX11_stepIn_24 rfl ?_
        refine x_iconst hx hb dX11_stepIn_25 ?_
        refine x_iremQ hx hb (by decide) (by omega) dX11_stepIn_26 (fun x3 rx3 => ?_)
        refine x_imul hx hb dX11_stepIn_27 ?_
        refine x_any (fun x4 rx4 => ?_)
        rw [eQ]
        exact x_iret hx hb hr hlk hW rx4 ⟨rfl, trivial⟩ dX11_stepIn_28
      refine x_iload_n hx hb hl 1 rfl dX11_stepIn_13 rfl ?_
      refine x_iconst hx hb dX11_stepIn_14 ?_
      refine x_idivQ hx hb (by decide) (by omega) dX11_stepIn_15 (fun x5 rx5 => ?_)
      refine lv_istore_n (lv' := [(3, .int (xJ x5)), (2, .int (xJ q)), (4, .int (xJ i4_7))]) hx hb dX11_stepIn_16 rfl hl (by decide) rfl (fun ls hl => ?_)
      refine x_iinc (lv' := [(4, .int (xJ (i4_7 + (-1)))), (3, .int (xJ x5)), (2, .int (xJ q))]) hx hb hl 2 rfl dX11_stepIn_17 (by decide) rfl (fun ls hl => ?_)
      refine lv_goto (tgt := 7) hx hb dX11_stepIn_20 (by decide) ?_
      exact ih7 x5 (i4_7 + (-1)) ls rx5 (by omega) (by omega)  (lv_sub hl [2, 1, 0] rfl)
  exact L7 ((x1 - q : Int).toNat + 1) a x1 ls ra rx1 (Nat.lt_succ_self _)  (lv_sub hl [4, 1, 0] rfl)
set_option maxHeartbeats 4000000 in
set_option maxRecDepth 100000 in
theorem c_X11_servedIn (l : Launch) (D : va_G) (g : xG) (T : Nat × Nat × Nat) (h0 : Nat) (s0 : xS) (hσ : xRR s0) (j : Int) (rj : xR j) (n : Int) (rn : xR n) (a : Int) (ra : xR a) (hj : 0 ≤ j ∧ j < 2) (p0 : IMn s0) (p1 : IMk s0) (p2 : IMo s0) : Met l yX11_servedIn (xws yX11_servedIn cX11_servedIn 5 (some .int)) { frames := 8, cells := 0, slots := 0, locals := 187 } (xP [.ref (h0 + 268), .int (xJ j), .int (xJ n), .int (xJ a)] D g T h0 s0) (xQi D g h0 (fun r τ => xFr (fun k => k = 268 ∨ k = 269 ∨ k = 270 ∨ k = 293 ∨ k = 294 ∨ k = 295 ∨ k = 296 ∨ k = 297 ∨ k = 298 ∨ k = 299) s0 τ ∧ (((IMn τ) ∧ (IMk τ) ∧ (IMo τ) ∧ (τ 268 8 = s0 268 8) ∧ (τ 268 58 = s0 268 58) ∧ True) ∧ (True)))) 0 0 (xA h0) := by
  refine x_met hσ (by decide) (Nat.le_of_ble_eq_true rfl) ?_
  intro p e s m args below meth c hx hb hr hml hown hT hlk hnm hE hW ls hl
  have hl : lv_has ls 5 [(0, .ref (h0 + 268)), (1, .int (xJ j)), (2, .int (xJ n)), (3, .int (xJ a))] := hl
  obtain ⟨Q, eQ⟩ : ∃ Q, Q = MQ below (xQi D g h0 (fun r τ => xFr (fun k => k = 268 ∨ k = 269 ∨ k = 270 ∨ k = 293 ∨ k = 294 ∨ k = 295 ∨ k = 296 ∨ k = 297 ∨ k = 298 ∨ k = 299) s0 τ ∧ (((IMn τ) ∧ (IMk τ) ∧ (IMo τ) ∧ (τ 268 8 = s0 268 8) ∧ (τ 268 58 = s0 268 58) ∧ True) ∧ (True)))) args s 0 0 (xA h0) := ⟨_, rfl⟩
  rw [← eQ]
  generalize hHe : ([] : List Loc) = locs at hW ⊢
  obtain ⟨H, eH⟩ : ∃ H, H = s.heap := ⟨_, rfl⟩
  rw [← eH] at hW ⊢
  have hF : xFr (fun k => k = 268 ∨ k = 269 ∨ k = 270 ∨ k = 293 ∨ k = 294 ∨ k = 295 ∨ k = 296 ∨ k = 297 ∨ k = 298 ∨ k = 299) s0 s0 := xFr.rf
  have k268_8 : s0 268 8 = s0 268 8 := rfl
  have k268_58 : s0 268 58 = s0 268 58 := rfl
  refine x_aload_n hx hb hl 0 rfl dX11_servedIn_0 rfl ?_
  refine x_get (j := 0) (v := .ref (h0 + 269)) hx hb hown hT hE hW cls_X11 (Or.inl (by decide)) (so_268 h0 g _) (by decide) rfl wq1185 dX11_servedIn_1 ?_
  refine x_aload_n hx hb hl 0 rfl dX11_servedIn_4 rfl ?_
  refine x_get (j := 1) (v := .ref (h0 + 270)) hx hb hown hT hE hW cls_X11 (Or.inl (by decide)) (so_268 h0 g _) (by decide) rfl wq1186 dX11_servedIn_5 ?_
  refine x_gov (x_runS (As := [.ref (h0 + 269), .ref (h0 + 270)]) hx hb hml hown hT hE hW hl.1 cf_X11_copies wq1647 wq1646 (c_X11_copiesA l D g T h0 s0 hW.2.1 p0 p1 p2) ⟨rfl, rfl, ⟨by decide, by decide⟩, ⟨by decide, by decide⟩⟩ rfl rfl (Nat.le_of_ble_eq_true rfl) dX11_servedIn_8) hW (fun s2 H locs hp3 hW => ?_)
  obtain ⟨fs2, hp3⟩ := hp3
  have hF4 := hF.call fs2 (fun k h => by omega)
  have q5 : s2 268 8 = s0 268 8 := (congrFun (fs2 _ (by omega)) _).trans k268_8
  have q6 : s2 268 58 = s0 268 58 := (congrFun (fs2 _ (by omega)) _).trans k268_58
  have ghp3 := hp3.2
  refine x_aload_n hx hb hl 0 rfl dX11_servedIn_11 rfl ?_
  refine x_gov (x_runV (As := []) hx hb hml hown hT hE hW hl.1 (Or.inl (by decide)) (so_268 h0 g _) rfl cf_X11_begins wq1543 wq131 wq1541 (c_X11_begins l D g T h0 s2 hW.2.1 hp3.1.1 hp3.1.2.1 hp3.1.2.2.1) ⟨rfl, rfl, ⟨by decide, by decide⟩, ⟨by decide, by decide⟩⟩ rfl rfl (Nat.le_of_ble_eq_true rfl) dX11_servedIn_12) hW (fun s8 H locs hp9 hW => ?_)
  obtain ⟨fs8, hp9⟩ := hp9
  have hF10 := hF4.call fs8 (fun k h => by omega)
  have ghp9 := hp9.2
  refine x_iconst hx hb dX11_servedIn_15 ?_
  refine lv_istore (lv' := [(4, .int (xJ 0)), (0, .ref (h0 + 268)), (1, .int (xJ j)), (2, .int (xJ n)), (3, .int (xJ a))]) hx hb dX11_servedIn_16 hl (by decide) rfl (fun ls hl => ?_)
  have L18 : ∀ (fu : Nat) (i4_18 : Int) (s_18 : xS) (H : Heap) (locs : List Loc) (ls : Array Slot), (xR i4_18) → (xFr (fun k => k = 268 ∨ k = 269 ∨ k = 270 ∨ k = 293 ∨ k = 294 ∨ k = 295 ∨ k = 296 ∨ k = 297 ∨ k = 298 ∨ k = 299) s0 s_18) → (IMn s_18) → (IMk s_18) → (IMo s_18) → (s_18 268 8 = s0 268 8) → (s_18 268 58 = s0 268 58) → (0 ≤ i4_18) → (n + 1 - i4_18).toNat < fu → xW D g h0 s H locs s_18 → lv_has ls 5 [(0, .ref (h0 + 268)), (1, .int (xJ j)), (2, .int (xJ n)), (3, .int (xJ a)), (4, .int (xJ i4_18))] → W p l e { frames := 8, cells := 0, slots := 0, locals := 187 } s m args below meth c H locs 0 0 Q (F0 m 18 ls []) := by
    intro fu
    induction fu with
    | zero => intro i4_18 s_18 H locs ls ri4_18 hF_18 q18_0 q18_1 q18_2 q18_3 q18_4 v18_0 hm; exact absurd hm (Nat.not_lt_zero _)
    | succ fu ih18 =>
      intro i4_18 s_18 H locs ls ri4_18 hF_18 q18_0 q18_1 q18_2 q18_3 q18_4 v18_0 hm hW hl
      refine x_iload hx hb hl 4 rfl dX11_servedIn_18 ?_
      refine x_iload_n hx hb hl 2 rfl dX11_servedIn_20 rfl ?_
      refine x_icmp_ge (tgt := 87) hx hb ri4_18 rn dX11_servedIn_21 (by decide) (fun c11 => ?_) (fun c11 => ?_)
      · skip
        refine x_aload_n hx hb hl 0 rfl dX11_servedIn_87 rfl ?_
        refine x_get (j := 1) (v := .ref (h0 + 270)) hx hb hown hT hE hW cls_X11 (Or.inl (by decide)) (so_268 h0 g _) (by decide) rfl wq1186 dX11_servedIn_88 ?_
        refine x_aload_n hx hb hl 0 rfl dX11_servedIn_91 rfl ?_
        refine x_get (j := 0) (v := .ref (h0 + 269)) hx hb hown hT hE hW cls_X11 (Or.inl (by decide)) (so_268 h0 g _) (by decide) rfl wq1185 dX11_servedIn_92 ?_
        refine x_gov (x_runS (As := [.ref (h0 + 270), .ref (h0 + 269)]) hx hb hml hown hT hE hW hl.1 cf_X11_copies wq1647 wq1646 (c_X11_copiesB l D g T h0 s_18 hW.2.1 q18_0 q18_1 q18_2) ⟨rfl, rfl, ⟨by decide, by decide⟩, ⟨by decide, by decide⟩⟩ rfl rfl (Nat.le_of_ble_eq_true rfl) dX11_servedIn_95) hW (fun s13 H locs hp14 hW => ?_)
        obtain ⟨fs13, hp14⟩ := hp14
        have hF15 := hF_18.call fs13 (fun k h => by omega)
        have q16 : s13 268 8 = s0 268 8 := (congrFun (fs13 _ (by omega)) _).trans q18_3
        have q17 : s13 268 58 = s0 268 58 := (congrFun (fs13 _ (by omega)) _).trans q18_4
        have ghp14 := hp14.2
        refine x_aload_n hx hb hl 0 rfl dX11_servedIn_98 rfl ?_
        refine x_get (j := 41) (v := .int (xJ (s13 268 41))) hx hb hown hT hE hW cls_X11 (Or.inl (by decide)) (so_268 h0 g _) (by decide) rfl wq1226 dX11_servedIn_99 ?_
        refine x_rd hW (fun x18 ex18 rx18 => ?_)
        rw [eQ]
        exact x_iret hx hb hr hlk hW rx18 ⟨hF15, ⟨hp14.1.1, hp14.1.2.1, hp14.1.2.2.1, q16, q17, trivial⟩, trivial⟩ dX11_servedIn_102
      refine x_aload_n hx hb hl 0 rfl dX11_servedIn_24 rfl ?_
      refine x_get (j := 0) (v := .ref (h0 + 269)) hx hb hown hT hE hW cls_X11 (Or.inl (by decide)) (so_268 h0 g _) (by decide) rfl wq1185 dX11_servedIn_25 ?_
      refine x_bipush hx hb dX11_servedIn_28 (by decide) ?_
      refine x_iald hx hb hE hW (Or.inl (by decide)) (sa_269 h0 g _) ⟨by decide, by decide⟩ (by decide) dX11_servedIn_30 ?_
      refine x_rd hW (fun x19 ex19 rx19 => ?_)
      have bx19 : 0 ≤ x19 ∧ x19 ≤ 9999 := by rw [ex19]; exact (IMn.n1 q18_0).2.2.2.1
      have q20 : s_18 269 37 = x19 := ex19.symm
      refine x_sipush hx hb dX11_servedIn_31 (by decide) ?_
      refine x_icmp_ge (tgt := 87) hx hb rx19 (by decide) dX11_servedIn_34 (by decide) (fun c21 => ?_) (fun c21 => ?_)
      · skip
        refine x_aload_n hx hb hl 0 rfl dX11_servedIn_87 rfl ?_
        refine x_get (j := 1) (v := .ref (h0 + 270)) hx hb hown hT hE hW cls_X11 (Or.inl (by decide)) (so_268 h0 g _) (by decide) rfl wq1186 dX11_servedIn_88 ?_
        refine x_aload_n hx hb hl 0 rfl dX11_servedIn_91 rfl ?_
        refine x_get (j := 0) (v := .ref (h0 + 269)) hx hb hown hT hE hW cls_X11 (Or.inl (by decide)) (so_268 h0 g _) (by decide) rfl wq1185 dX11_servedIn_92 ?_
        refine x_gov (x_runS (As := [.ref (h0 + 270), .ref (h0 + 269)]) hx hb hml hown hT hE hW hl.1 cf_X11_copies wq1647 wq1646 (c_X11_copiesB l D g T h0 s_18 hW.2.1 q18_0 q18_1 q18_2) ⟨rfl, rfl, ⟨by decide, by decide⟩, ⟨by decide, by decide⟩⟩ rfl rfl (Nat.le_of_ble_eq_true rfl) dX11_servedIn_95) hW (fun s23 H locs hp24 hW => ?_)
        obtain ⟨fs23, hp24⟩ := hp24
        have hF25 := hF_18.call fs23 (fun k h => by omega)
        have q26 : s23 268 8 = s0 268 8 := (congrFun (fs23 _ (by omega)) _).trans q18_3
        have q27 : s23 268 58 = s0 268 58 := (congrFun (fs23 _ (by omega)) _).trans q18_4
        have ghp24 := hp24.2
        refine x_aload_n hx hb hl 0 rfl dX11_servedIn_98 rfl ?_
        refine x_get (j := 41) (v := .int (xJ (s23 268 41))) hx hb hown hT hE hW cls_X11 (Or.inl (by decide)) (so_268 h0 g _) (by decide) rfl wq1226 dX11_servedIn_99 ?_
        refine x_rd hW (fun x28 ex28 rx28 => ?_)
        rw [eQ]
        exact x_iret hx hb hr hlk hW rx28 ⟨hF25, ⟨hp24.1.1, hp24.1.2.1, hp24.1.2.2.1, q26, q27, trivial⟩, trivial⟩ dX11_servedIn_102
      refine x_iload_n hx hb hl 1 rfl dX11_servedIn_37 rfl ?_
      have J53 : ∀ (s_53 : xS) (H : Heap) (locs : List Loc) (ls : Array Slot), (xFr (fun k => k = 268 ∨ k = 269 ∨ k = 270 ∨ k = 293 ∨ k = 294 ∨ k = 295 ∨ k = 296 ∨ k = 297 ∨ k = 298 ∨ k = 299) s0 s_53) → (IMn s_53) → (IMk s_53) → (IMo s_53) → (s_53 268 8 = s0 268 8) → (s_53 268 58 = s0 268 58) → (s_53 269 37 = x19) → xW D g h0 s H locs s_53 → lv_has ls 5 [(0, .ref (h0 + 268)), (1, .int (xJ j)), (2, .int (xJ n)), (3, .int (xJ a)), (4, .int (xJ i4_18))] → W p l e { frames := 8, cells := 0, slots := 0, locals := 187 } s m args below meth c H locs 0 0 Q (F0 m 53 ls []) := by
        intro s_53 H locs ls hF_53 q53_0 q53_1 q53_2 q53_3 q53_4 q53_5 hW hl
        refine x_aload_n hx hb hl 0 rfl dX11_servedIn_53 rfl ?_
        refine x_iconst hx hb dX11_servedIn_54 ?_
        refine x_iload_n hx hb hl 1 rfl dX11_servedIn_55 rfl ?_
        refine x_isub hx hb dX11_servedIn_56 ?_
        refine x_gov (x_runV (As := [.int (xJ (1 - j))]) hx hb hml hown hT hE hW hl.1 (Or.inl (by decide)) (so_268 h0 g _) rfl cf_X11_walksOn wq1547 wq132 wq1545 (c_X11_walksOn l D g T h0 s_53 hW.2.1 (1 - j) (by omega) (by omega) q53_0 q53_1 q53_2) ⟨rfl, rfl, ⟨by decide, by decide⟩, ⟨by decide, by decide⟩⟩ rfl rfl (Nat.le_of_ble_eq_true rfl) dX11_servedIn_57) hW (fun s30 H locs hp31 hW => ?_)
        obtain ⟨fs30, hp31⟩ := hp31
        have hF32 := hF_53.call fs30 (fun k h => by omega)
        have q33 : s30 268 8 = s0 268 8 := (congrFun (fs30 _ (by omega)) _).trans q53_3
        have q34 : s30 268 58 = s0 268 58 := (congrFun (fs30 _ (by omega)) _).trans q53_4
        have ghp31 := hp31.2
        refine x_iload_n hx hb hl 1 rfl dX11_servedIn_60 rfl ?_
        refine x_iconst hx hb dX11_servedIn_61 ?_
        refine x_icmp_ne (tgt := 77) hx hb rj (by decide) dX11_servedIn_62 (by decide) (fun c35 => ?_) (fun c35 => ?_)
        · skip
          refine x_aload_n hx hb hl 0 rfl dX11_servedIn_77 rfl ?_
          refine x_gov (x_runV (As := []) hx hb hml hown hT hE hW hl.1 (Or.inl (by decide)) (so_268 h0 g _) rfl cf_X11_shadesGo wq1564 wq134 wq1562 (c_X11_shadesGo l D g T h0 s30 hW.2.1 (by have := (hp31.1.2.2.2.1.trans q53_5); omega) hp31.1.1 hp31.1.2.1 hp31.1.2.2.1) ⟨rfl, rfl, ⟨by decide, by decide⟩, ⟨by decide, by decide⟩⟩ rfl rfl (Nat.le_of_ble_eq_true rfl) dX11_servedIn_78) hW (fun s37 H locs hp38 hW => ?_)
          obtain ⟨fs37, hp38⟩ := hp38
          have hF39 := hF32.call fs37 (fun k h => by omega)
          have ghp38 := hp38.2
          refine x_iinc (lv' := [(4, .int (xJ (i4_18 + 1))), (0, .ref (h0 + 268)), (1, .int (xJ j)), (2, .int (xJ n)), (3, .int (xJ a))]) hx hb hl 4 rfl dX11_servedIn_81 (by decide) rfl (fun ls hl => ?_)
          refine lv_goto (tgt := 18) hx hb dX11_servedIn_84 (by decide) ?_
          exact ih18 (i4_18 + 1) s37 H locs ls (by omega) hF39 hp38.1.1 hp38.1.2.1 hp38.1.2.2.1 (hp38.1.2.2.2.1.trans q33) (hp38.1.2.2.2.2.1.trans q34) (by omega) (by omega) hW (lv_sub hl [1, 2, 3, 4, 0] rfl)
        refine x_aload_n hx hb hl 0 rfl dX11_servedIn_65 rfl ?_
        refine x_iconst hx hb dX11_servedIn_66 ?_
        refine x_iload_n hx hb hl 3 rfl dX11_servedIn_67 rfl ?_
        refine x_iload_n hx hb hl 2 rfl dX11_servedIn_68 rfl ?_
        refine x_iload hx hb hl 4 rfl dX11_servedIn_69 ?_
        refine x_goi (x_runS (As := [.int (xJ a), .int (xJ n), .int (xJ i4_18)]) hx hb hml hown hT hE hW hl.1 cf_X11_stepIn wq1700 wq1699 (c_X11_stepIn l D g T h0 s30 hW.2.1 a ra n rn i4_18 ri4_18 (by omega)) ⟨rfl, rfl, ⟨by decide, by decide⟩, ⟨by decide, by decide⟩⟩ rfl rfl (Nat.le_of_ble_eq_true rfl) dX11_servedIn_71) hW (fun x40 s41 H locs rx40 hp42 hW => ?_)
        obtain ⟨es41, hp42⟩ := hp42
        subst es41
        have ghp42 := hp42
        refine x_gov (x_runV (As := [.int (xJ 1), .int (xJ x40)]) hx hb hml hown hT hE hW hl.1 (Or.inl (by decide)) (so_268 h0 g _) rfl cf_X11_steps wq1551 wq133 wq1549 (c_X11_steps l D g T h0 s30 hW.2.1 1 (by decide) x40 rx40 (by omega) hp31.1.1 hp31.1.2.1 hp31.1.2.2.1) ⟨rfl, rfl, ⟨by decide, by decide⟩, ⟨by decide, by decide⟩⟩ rfl rfl (Nat.le_of_ble_eq_true rfl) dX11_servedIn_74) hW (fun s44 H locs hp45 hW => ?_)
        obtain ⟨fs44, hp45⟩ := hp45
        have hF46 := hF32.call fs44 (fun k h => by omega)
        have q47 : s44 268 8 = s0 268 8 := (congrFun (fs44 _ (by omega)) _).trans q33
        have q48 : s44 268 58 = s0 268 58 := (congrFun (fs44 _ (by omega)) _).trans q34
        have ghp45 := hp45.2
        refine x_aload_n hx hb hl 0 rfl dX11_servedIn_77 rfl ?_
        refine x_gov (x_runV (As := []) hx hb hml hown hT hE hW hl.1 (Or.inl (by decide)) (so_268 h0 g _) rfl cf_X11_shadesGo wq1564 wq134 wq1562 (c_X11_shadesGo l D g T h0 s44 hW.2.1 (by have := (hp45.1.2.2.2.1.trans (hp31.1.2.2.2.1.trans q53_5)); omega) hp45.1.1 hp45.1.2.1 hp45.1.2.2.1) ⟨rfl, rfl, ⟨by decide, by decide⟩, ⟨by decide, by decide⟩⟩ rfl rfl (Nat.le_of_ble_eq_true rfl) dX11_servedIn_78) hW (fun s50 H locs hp51 hW => ?_)
        obtain ⟨fs50, hp51⟩ := hp51
        have hF52 := hF46.call fs50 (fun k h => by omega)
        have ghp51 := hp51.2
        refine x_iinc (lv' := [(4, .int (xJ (i4_18 + 1))), (0, .ref (h0 + 268)), (1, .int (xJ j)), (2, .int (xJ n)), (3, .int (xJ a))]) hx hb hl 4 rfl dX11_servedIn_81 (by decide) rfl (fun ls hl => ?_)
        refine lv_goto (tgt := 18) hx hb dX11_servedIn_84 (by decide) ?_
        exact ih18 (i4_18 + 1) s50 H locs ls (by omega) hF52 hp51.1.1 hp51.1.2.1 hp51.1.2.2.1 (hp51.1.2.2.2.1.trans q47) (hp51.1.2.2.2.2.1.trans q48) (by omega) (by omega) hW (lv_sub hl [1, 2, 3, 4, 0] rfl)
      refine x_if_ne (tgt := 53) hx hb rj dX11_servedIn_38 (by decide) (fun c53 => ?_) (fun c53 => ?_)
      · skip
        exact J53 s_18 H locs ls hF_18 q18_0 q18_1 q18_2 q18_3 q18_4 q20 hW (lv_sub hl [0, 1, 2, 3, 4] rfl)
      refine x_aload_n hx hb hl 0 rfl dX11_servedIn_41 rfl ?_
      refine x_iconst hx hb dX11_servedIn_42 ?_
      refine x_iload_n hx hb hl 3 rfl dX11_servedIn_43 rfl ?_
      refine x_iload_n hx hb hl 2 rfl dX11_servedIn_44 rfl ?_
      refine x_iload hx hb hl 4 rfl dX11_servedIn_45 ?_
      refine x_goi (x_runS (As := [.int (xJ a), .int (xJ n), .int (xJ i4_18)]) hx hb hml hown hT hE hW hl.1 cf_X11_stepIn wq1700 wq1699 (c_X11_stepIn l D g T h0 s_18 hW.2.1 a ra n rn i4_18 ri4_18 (by omega)) ⟨rfl, rfl, ⟨by decide, by decide⟩, ⟨by decide, by decide⟩⟩ rfl rfl (Nat.le_of_ble_eq_true rfl) dX11_servedIn_47) hW (fun x54 s55 H locs rx54 hp56 hW => ?_)
      obtain ⟨es55, hp56⟩ := hp56
      subst es55
      have ghp56 := hp56
      refine x_gov (x_runV (As := [.int (xJ 0), .int (xJ x54)]) hx hb hml hown hT hE hW hl.1 (Or.inl (by decide)) (so_268 h0 g _) rfl cf_X11_steps wq1551 wq133 wq1549 (c_X11_steps l D g T h0 s_18 hW.2.1 0 (by decide) x54 rx54 (by omega) q18_0 q18_1 q18_2) ⟨rfl, rfl, ⟨by decide, by decide⟩, ⟨by decide, by decide⟩⟩ rfl rfl (Nat.le_of_ble_eq_true rfl) dX11_servedIn_50) hW (fun s58 H locs hp59 hW => ?_)
      obtain ⟨fs58, hp59⟩ := hp59
      have hF60 := hF_18.call fs58 (fun k h => by omega)
      have q61 : s58 268 8 = s0 268 8 := (congrFun (fs58 _ (by omega)) _).trans q18_3
      have q62 : s58 268 58 = s0 268 58 := (congrFun (fs58 _ (by omega)) _).trans q18_4
      have ghp59 := hp59.2
      exact J53 s58 H locs ls hF60 hp59.1.1 hp59.1.2.1 hp59.1.2.2.1 q61 q62 (hp59.1.2.2.2.1.trans q20) hW (lv_sub hl [0, 1, 2, 3, 4] rfl)
  exact L18 ((n + 1 - 0 : Int).toNat + 1) 0 s8 H locs ls (by decide) hF10 hp9.1.1 hp9.1.2.1 hp9.1.2.2.1 (hp9.1.2.2.2.1.trans q5) (hp9.1.2.2.2.2.1.trans q6) (by omega) (Nat.lt_succ_self _) hW (lv_sub hl [1, 2, 3, 4, 0] rfl)
set_option maxHeartbeats 4000000 in
set_option maxRecDepth 100000 in
theorem c_X11_home (l : Launch) (D : va_G) (g : xG) (T : Nat × Nat × Nat) (h0 : Nat) (s0 : xS) (hσ : xRR s0) (j : Int) (rj : xR j) (n : Int) (rn : xR n) (x : Int) (rx : xR x) (p0 : IMn s0) (p1 : IMk s0) (p2 : IMo s0) : Met l yX11_home (xws yX11_home cX11_home 9 (some .int)) { frames := 9, cells := 0, slots := 0, locals := 211 } (xP [.ref (h0 + 268), .int (xJ j), .int (xJ n), .int (xJ x)] D g T h0 s0) (xQi D g h0 (fun r τ => xFr (fun k => k = 268 ∨ k = 269 ∨ k = 270 ∨ k = 293 ∨ k = 294 ∨ k = 295 ∨ k = 296 ∨ k = 297 ∨ k = 298 ∨ k = 299) s0 τ ∧ (((IMn τ) ∧ (IMk τ) ∧ (IMo τ) ∧ (τ 268 8 = s0 268 8) ∧ (τ 268 58 = s0 268 58) ∧ True) ∧ (True)))) 0 0 (xA h0) := by
  refine x_met hσ (by decide) (Nat.le_of_ble_eq_true rfl) ?_
  intro p e s m args below meth c hx hb hr hml hown hT hlk hnm hE hW ls hl
  have hl : lv_has ls 9 [(0, .ref (h0 + 268)), (1, .int (xJ j)), (2, .int (xJ n)), (3, .int (xJ x))] := hl
  obtain ⟨Q, eQ⟩ : ∃ Q, Q = MQ below (xQi D g h0 (fun r τ => xFr (fun k => k = 268 ∨ k = 269 ∨ k = 270 ∨ k = 293 ∨ k = 294 ∨ k = 295 ∨ k = 296 ∨ k = 297 ∨ k = 298 ∨ k = 299) s0 τ ∧ (((IMn τ) ∧ (IMk τ) ∧ (IMo τ) ∧ (τ 268 8 = s0 268 8) ∧ (τ 268 58 = s0 268 58) ∧ True) ∧ (True)))) args s 0 0 (xA h0) := ⟨_, rfl⟩
  rw [← eQ]
  generalize hHe : ([] : List Loc) = locs at hW ⊢
  obtain ⟨H, eH⟩ : ∃ H, H = s.heap := ⟨_, rfl⟩
  rw [← eH] at hW ⊢
  have hF : xFr (fun k => k = 268 ∨ k = 269 ∨ k = 270 ∨ k = 293 ∨ k = 294 ∨ k = 295 ∨ k = 296 ∨ k = 297 ∨ k = 298 ∨ k = 299) s0 s0 := xFr.rf
  have k268_8 : s0 268 8 = s0 268 8 := rfl
  have k268_58 : s0 268 58 = s0 268 58 := rfl
  refine x_aload_n hx hb hl 0 rfl dX11_home_0 rfl ?_
  refine x_iload_n hx hb hl 1 rfl dX11_home_1 rfl ?_
  refine x_goi (x_runV (As := [.int (xJ j)]) hx hb hml hown hT hE hW hl.1 (Or.inl (by decide)) (so_268 h0 g _) rfl cf_X11_isJudge wq1409 wq109 wq1407 (c_X11_isJudge l D g T h0 s0 hW.2.1 j rj p0 p1 p2) ⟨rfl, rfl, ⟨by decide, by decide⟩, ⟨by decide, by decide⟩⟩ rfl rfl (Nat.le_of_ble_eq_true rfl) dX11_home_2) hW (fun x1 s2 H locs rx1 hp3 hW => ?_)
  obtain ⟨es2, hp3⟩ := hp3
  subst es2
  have ghp3 := hp3
  refine x_if_eq (tgt := 34) hx hb rx1 dX11_home_5 (by decide) (fun c4 => ?_) (fun c4 => ?_)
  · skip
    refine x_iconst hx hb dX11_home_34 ?_
    rw [eQ]
    exact x_iret hx hb hr hlk hW (by decide) ⟨hF, ⟨p0, p1, p2, k268_8, k268_58, trivial⟩, trivial⟩ dX11_home_35
  refine x_iload_n hx hb hl 2 rfl dX11_home_8 rfl ?_
  refine x_iconst hx hb dX11_home_9 ?_
  refine x_iconst hx hb dX11_home_10 ?_
  refine x_goi (x_runS (As := [.int (xJ n), .int (xJ 1), .int (xJ 5)]) hx hb hml hown hT hE hW hl.1 cf_X11_in wq1383 wq1382 (c_X11_in l D g T h0 s0 hW.2.1 n rn 1 (by decide) 5 (by decide)) ⟨rfl, rfl, ⟨by decide, by decide⟩, ⟨by decide, by decide⟩⟩ rfl rfl (Nat.le_of_ble_eq_true rfl) dX11_home_11) hW (fun x5 s6 H locs rx5 hp7 hW => ?_)
  obtain ⟨es6, hp7⟩ := hp7
  subst es6
  have ghp7 := hp7
  refine x_if_eq (tgt := 34) hx hb rx5 dX11_home_14 (by decide) (fun c8 => ?_) (fun c8 => ?_)
  · skip
    refine x_iconst hx hb dX11_home_34 ?_
    rw [eQ]
    exact x_iret hx hb hr hlk hW (by decide) ⟨hF, ⟨p0, p1, p2, k268_8, k268_58, trivial⟩, trivial⟩ dX11_home_35
  refine x_iload_n hx hb hl 3 rfl dX11_home_17 rfl ?_
  refine x_bipush hx hb dX11_home_18 (by decide) ?_
  refine x_icmp_eq (tgt := 36) hx hb rx (by decide) dX11_home_20 (by decide) (fun c9 => ?_) (fun c9 => ?_)
  · skip
    refine x_iconst hx hb dX11_home_36 ?_
    refine lv_istore (lv' := [(4, .int (xJ 1)), (0, .ref (h0 + 268)), (1, .int (xJ j)), (2, .int (xJ n)), (3, .int (xJ x))]) hx hb dX11_home_37 hl (by decide) rfl (fun ls hl => ?_)
    refine x_iconst hx hb dX11_home_39 ?_
    refine lv_istore (lv' := [(5, .int (xJ 0)), (4, .int (xJ 1)), (0, .ref (h0 + 268)), (1, .int (xJ j)), (2, .int (xJ n)), (3, .int (xJ x))]) hx hb dX11_home_40 hl (by decide) rfl (fun ls hl => ?_)
    have L42 : ∀ (fu : Nat) (i4_42 : Int) (i5_42 : Int) (ls : Array Slot), (xR i4_42) → (xR i5_42) → (0 ≤ i5_42) → (n + 1 - i5_42).toNat < fu → lv_has ls 9 [(0, .ref (h0 + 268)), (1, .int (xJ j)), (2, .int (xJ n)), (3, .int (xJ x)), (4, .int (xJ i4_42)), (5, .int (xJ i5_42))] → W p l e { frames := 9, cells := 0, slots := 0, locals := 211 } s m args below meth c H locs 0 0 Q (F0 m 42 ls []) := by
      intro fu
      induction fu with
      | zero => intro i4_42 i5_42 ls ri4_42 ri5_42 v42_0 hm; exact absurd hm (Nat.not_lt_zero _)
      | succ fu ih42 =>
        intro i4_42 i5_42 ls ri4_42 ri5_42 v42_0 hm  hl
        refine x_iload hx hb hl 5 rfl dX11_home_42 ?_
        refine x_iload_n hx hb hl 2 rfl dX11_home_44 rfl ?_
        refine x_icmp_ge (tgt := 60) hx hb ri5_42 rn dX11_home_45 (by decide) (fun c10 => ?_) (fun c10 => ?_)
        · skip
          refine x_iconst hx hb dX11_home_60 ?_
          refine lv_istore (lv' := [(5, .int (xJ (-1))), (0, .ref (h0 + 268)), (1, .int (xJ j)), (2, .int (xJ n)), (3, .int (xJ x)), (4, .int (xJ i4_42))]) hx hb dX11_home_61 hl (by decide) rfl (fun ls hl => ?_)
          refine x_iconst hx hb dX11_home_63 ?_
          refine lv_istore (lv' := [(6, .int (xJ (-1))), (5, .int (xJ (-1))), (0, .ref (h0 + 268)), (1, .int (xJ j)), (2, .int (xJ n)), (3, .int (xJ x)), (4, .int (xJ i4_42))]) hx hb dX11_home_64 hl (by decide) rfl (fun ls hl => ?_)
          refine x_iconst hx hb dX11_home_66 ?_
          refine lv_istore (lv' := [(7, .int (xJ 0)), (6, .int (xJ (-1))), (5, .int (xJ (-1))), (0, .ref (h0 + 268)), (1, .int (xJ j)), (2, .int (xJ n)), (3, .int (xJ x)), (4, .int (xJ i4_42))]) hx hb dX11_home_67 hl (by decide) rfl (fun ls hl => ?_)
          have L69 : ∀ (fu : Nat) (i5_69 : Int) (i6_69 : Int) (i7_69 : Int) (s_69 : xS) (H : Heap) (locs : List Loc) (ls : Array Slot), (xR i5_69) → (xR i6_69) → (xR i7_69) → (xFr (fun k => k = 268 ∨ k = 269 ∨ k = 270 ∨ k = 293 ∨ k = 294 ∨ k = 295 ∨ k = 296 ∨ k = 297 ∨ k = 298 ∨ k = 299) s0 s_69) → (IMn s_69) → (IMk s_69) → (IMo s_69) → (s_69 268 8 = s0 268 8) → (s_69 268 58 = s0 268 58) → (0 ≤ i7_69) → (i4_42 + 1 - i7_69).toNat < fu → xW D g h0 s H locs s_69 → lv_has ls 9 [(0, .ref (h0 + 268)), (1, .int (xJ j)), (2, .int (xJ n)), (3, .int (xJ x)), (4, .int (xJ i4_42)), (5, .int (xJ i5_69)), (6, .int (xJ i6_69)), (7, .int (xJ i7_69))] → W p l e { frames := 9, cells := 0, slots := 0, locals := 211 } s m args below meth c H locs 0 0 Q (F0 m 69 ls []) := by
            intro fu
            induction fu with
            | zero => intro i5_69 i6_69 i7_69 s_69 H locs ls ri5_69 ri6_69 ri7_69 hF_69 q69_0 q69_1 q69_2 q69_3 q69_4 v69_0 hm; exact absurd hm (Nat.not_lt_zero _)
            | succ fu ih69 =>
              intro i5_69 i6_69 i7_69 s_69 H locs ls ri5_69 ri6_69 ri7_69 hF_69 q69_0 q69_1 q69_2 q69_3 q69_4 v69_0 hm hW hl
              refine x_iload hx hb hl 7 rfl dX11_home_69 ?_
              refine x_iload hx hb hl 4 rfl dX11_home_71 ?_
              refine x_icmp_ge (tgt := 110) hx hb ri7_69 ri4_42 dX11_home_73 (by decide) (fun c11 => ?_) (fun c11 => ?_)
              · skip
                refine x_iload_n hx hb hl 3 rfl dX11_home_110 rfl ?_
                refine x_bipush hx hb dX11_home_111 (by decide) ?_
                refine x_icmp_ne (tgt := 121) hx hb rx (by decide) dX11_home_113 (by decide) (fun c12 => ?_) (fun c12 => ?_)
                · skip
                  refine x_iload hx hb hl 5 rfl dX11_home_121 ?_
                  refine x_iload_n hx hb hl 2 rfl dX11_home_123 rfl ?_
                  refine x_iload_n hx hb hl 3 rfl dX11_home_124 rfl ?_
                  refine x_goi (x_runS (As := [.int (xJ i5_69), .int (xJ n), .int (xJ x)]) hx hb hml hown hT hE hW hl.1 cf_X11_stepIn wq1700 wq1699 (c_X11_stepIn l D g T h0 s_69 hW.2.1 i5_69 ri5_69 n rn x rx (by omega)) ⟨rfl, rfl, ⟨by decide, by decide⟩, ⟨by decide, by decide⟩⟩ rfl rfl (Nat.le_of_ble_eq_true rfl) dX11_home_125) hW (fun x13 s14 H locs rx13 hp15 hW => ?_)
                  obtain ⟨es14, hp15⟩ := hp15
                  subst es14
                  have ghp15 := hp15
                  refine x_iconst hx hb dX11_home_128 ?_
                  refine x_idivQ hx hb (by decide) (by omega) dX11_home_129 (fun x16 rx16 => ?_)
                  rw [eQ]
                  exact x_iret hx hb hr hlk hW rx16 ⟨hF_69, ⟨q69_0, q69_1, q69_2, q69_3, q69_4, trivial⟩, trivial⟩ dX11_home_130
                refine x_iload hx hb hl 6 rfl dX11_home_116 ?_
                refine lv_goto (tgt := 130) hx hb dX11_home_118 (by decide) ?_
                rw [eQ]
                exact x_iret hx hb hr hlk hW ri6_69 ⟨hF_69, ⟨q69_0, q69_1, q69_2, q69_3, q69_4, trivial⟩, trivial⟩ dX11_home_130
              refine x_aload_n hx hb hl 0 rfl dX11_home_76 rfl ?_
              refine x_iload_n hx hb hl 1 rfl dX11_home_77 rfl ?_
              refine x_iload_n hx hb hl 2 rfl dX11_home_78 rfl ?_
              refine x_iload hx hb hl 7 rfl dX11_home_79 ?_
              refine x_goi (x_runV (As := [.int (xJ j), .int (xJ n), .int (xJ i7_69)]) hx hb hml hown hT hE hW hl.1 (Or.inl (by decide)) (so_268 h0 g _) rfl cf_X11_servedIn wq1697 wq157 wq1695 (c_X11_servedIn l D g T h0 s_69 hW.2.1 j rj n rn i7_69 ri7_69 (by omega) q69_0 q69_1 q69_2) ⟨rfl, rfl, ⟨by decide, by decide⟩, ⟨by decide, by decide⟩⟩ rfl rfl (Nat.le_of_ble_eq_true rfl) dX11_home_81) hW (fun x17 s18 H locs rx17 hp19 hW => ?_)
              obtain ⟨fs18, hp19⟩ := hp19
              have hF20 := hF_69.call fs18 (fun k h => by omega)
              have ghp19 := hp19.2
              refine lv_istore (lv' := [(8, .int (xJ x17)), (0, .ref (h0 + 268)), (1, .int (xJ j)), (2, .int (xJ n)), (3, .int (xJ x)), (4, .int (xJ i4_42)), (5, .int (xJ i5_69)), (6, .int (xJ i6_69)), (7, .int (xJ i7_69))]) hx hb dX11_home_84 hl (by decide) rfl (fun ls hl => ?_)
              refine x_iload hx hb hl 0 rfl dX11_home_86 ?_
              refine x_iload hx hb hl 7 rfl dX11_home_88 ?_
              refine x_icmp_gt (tgt := 96) hx hb rx17 ri6_69 dX11_home_90 (by decide) (fun c21 => ?_) (fun c21 => ?_)
              · skip
                refine x_iload hx hb hl 0 rfl dX11_home_96 ?_
                refine lv_istore (lv' := [(6, .int (xJ x17)), (8, .int (xJ x17)), (0, .ref (h0 + 268)), (1, .int (xJ j)), (2, .int (xJ n)), (3, .int (xJ x)), (4, .int (xJ i4_42)), (5, .int (xJ i5_69)), (7, .int (xJ i7_69))]) hx hb dX11_home_98 hl (by decide) rfl (fun ls hl => ?_)
                refine x_iload hx hb hl 8 rfl dX11_home_100 ?_
                refine lv_istore (lv' := [(5, .int (xJ i7_69)), (6, .int (xJ x17)), (8, .int (xJ x17)), (0, .ref (h0 + 268)), (1, .int (xJ j)), (2, .int (xJ n)), (3, .int (xJ x)), (4, .int (xJ i4_42)), (7, .int (xJ i7_69))]) hx hb dX11_home_102 hl (by decide) rfl (fun ls hl => ?_)
                refine x_iinc (lv' := [(7, .int (xJ (i7_69 + 1))), (5, .int (xJ i7_69)), (6, .int (xJ x17)), (8, .int (xJ x17)), (0, .ref (h0 + 268)), (1, .int (xJ j)), (2, .int (xJ n)), (3, .int (xJ x)), (4, .int (xJ i4_42))]) hx hb hl 8 rfl dX11_home_104 (by decide) rfl (fun ls hl => ?_)
                refine lv_goto (tgt := 69) hx hb dX11_home_107 (by decide) ?_
                exact ih69 i7_69 x17 (i7_69 + 1) s18 H locs ls ri7_69 rx17 (by omega) hF20 hp19.1.1 hp19.1.2.1 hp19.1.2.2.1 (hp19.1.2.2.2.1.trans q69_3) (hp19.1.2.2.2.2.1.trans q69_4) (by omega) (by omega) hW (lv_sub hl [4, 5, 6, 7, 8, 1, 2, 0] rfl)
              refine lv_goto (tgt := 104) hx hb dX11_home_93 (by decide) ?_
              refine x_iinc (lv' := [(7, .int (xJ (i7_69 + 1))), (8, .int (xJ x17)), (0, .ref (h0 + 268)), (1, .int (xJ j)), (2, .int (xJ n)), (3, .int (xJ x)), (4, .int (xJ i4_42)), (5, .int (xJ i5_69)), (6, .int (xJ i6_69))]) hx hb hl 8 rfl dX11_home_104 (by decide) rfl (fun ls hl => ?_)
              refine lv_goto (tgt := 69) hx hb dX11_home_107 (by decide) ?_
              exact ih69 i5_69 i6_69 (i7_69 + 1) s18 H locs ls ri5_69 ri6_69 (by omega) hF20 hp19.1.1 hp19.1.2.1 hp19.1.2.2.1 (hp19.1.2.2.2.1.trans q69_3) (hp19.1.2.2.2.2.1.trans q69_4) (by omega) (by omega) hW (lv_sub hl [2, 3, 4, 5, 6, 7, 8, 0] rfl)
          exact L69 ((i4_42 + 1 - 0 : Int).toNat + 1) (-1) (-1) 0 s0 H locs ls (by decide) (by decide) (by decide) hF p0 p1 p2 k268_8 k268_58 (by omega) (Nat.lt_succ_self _) hW (lv_sub hl [3, 4, 5, 6, 7, 2, 1, 0] rfl)
        refine x_iload hx hb hl 4 rfl dX11_home_48 ?_
        refine x_iconst hx hb dX11_home_50 ?_
        refine x_imul hx hb dX11_home_51 ?_
        refine x_any (fun x22 rx22 => ?_)
        refine lv_istore (lv' := [(4, .int (xJ x22)), (0, .ref (h0 + 268)), (1, .int (xJ j)), (2, .int (xJ n)), (3, .int (xJ x)), (5, .int (xJ i5_42))]) hx hb dX11_home_52 hl (by decide) rfl (fun ls hl => ?_)
        refine x_iinc (lv' := [(5, .int (xJ (i5_42 + 1))), (4, .int (xJ x22)), (0, .ref (h0 + 268)), (1, .int (xJ j)), (2, .int (xJ n)), (3, .int (xJ x))]) hx hb hl 5 rfl dX11_home_54 (by decide) rfl (fun ls hl => ?_)
        refine lv_goto (tgt := 42) hx hb dX11_home_57 (by decide) ?_
        exact ih42 x22 (i5_42 + 1) ls rx22 (by omega) (by omega) (by omega)  (lv_sub hl [2, 3, 4, 5, 1, 0] rfl)
    exact L42 ((n + 1 - 0 : Int).toNat + 1) 1 0 ls (by decide) (by decide) (by omega) (Nat.lt_succ_self _)  (lv_sub hl [2, 3, 4, 5, 1, 0] rfl)
  refine x_iload_n hx hb hl 3 rfl dX11_home_23 rfl ?_
  refine x_iconst hx hb dX11_home_24 ?_
  refine x_iload_n hx hb hl 2 rfl dX11_home_25 rfl ?_
  refine x_iconst hx hb dX11_home_26 ?_
  refine x_isub hx hb dX11_home_27 ?_
  refine x_goi (x_runS (As := [.int (xJ x), .int (xJ 0), .int (xJ (n - 1))]) hx hb hml hown hT hE hW hl.1 cf_X11_in wq1383 wq1382 (c_X11_in l D g T h0 s0 hW.2.1 x rx 0 (by decide) (n - 1) (by omega)) ⟨rfl, rfl, ⟨by decide, by decide⟩, ⟨by decide, by decide⟩⟩ rfl rfl (Nat.le_of_ble_eq_true rfl) dX11_home_28) hW (fun x23 s24 H locs rx23 hp25 hW => ?_)
  obtain ⟨es24, hp25⟩ := hp25
  subst es24
  have ghp25 := hp25
  refine x_if_ne (tgt := 36) hx hb rx23 dX11_home_31 (by decide) (fun c26 => ?_) (fun c26 => ?_)
  · skip
    refine x_iconst hx hb dX11_home_36 ?_
    refine lv_istore (lv' := [(4, .int (xJ 1)), (0, .ref (h0 + 268)), (1, .int (xJ j)), (2, .int (xJ n)), (3, .int (xJ x))]) hx hb dX11_home_37 hl (by decide) rfl (fun ls hl => ?_)
    refine x_iconst hx hb dX11_home_39 ?_
    refine lv_istore (lv' := [(5, .int (xJ 0)), (4, .int (xJ 1)), (0, .ref (h0 + 268)), (1, .int (xJ j)), (2, .int (xJ n)), (3, .int (xJ x))]) hx hb dX11_home_40 hl (by decide) rfl (fun ls hl => ?_)
    have L42 : ∀ (fu : Nat) (i4_42 : Int) (i5_42 : Int) (ls : Array Slot), (xR i4_42) → (xR i5_42) → (0 ≤ i5_42) → (n + 1 - i5_42).toNat < fu → lv_has ls 9 [(0, .ref (h0 + 268)), (1, .int (xJ j)), (2, .int (xJ n)), (3, .int (xJ x)), (4, .int (xJ i4_42)), (5, .int (xJ i5_42))] → W p l e { frames := 9, cells := 0, slots := 0, locals := 211 } s m args below meth c H locs 0 0 Q (F0 m 42 ls []) := by
      intro fu
      induction fu with
      | zero => intro i4_42 i5_42 ls ri4_42 ri5_42 v42_0 hm; exact absurd hm (Nat.not_lt_zero _)
      | succ fu ih42 =>
        intro i4_42 i5_42 ls ri4_42 ri5_42 v42_0 hm  hl
        refine x_iload hx hb hl 5 rfl dX11_home_42 ?_
        refine x_iload_n hx hb hl 2 rfl dX11_home_44 rfl ?_
        refine x_icmp_ge (tgt := 60) hx hb ri5_42 rn dX11_home_45 (by decide) (fun c27 => ?_) (fun c27 => ?_)
        · skip
          refine x_iconst hx hb dX11_home_60 ?_
          refine lv_istore (lv' := [(5, .int (xJ (-1))), (0, .ref (h0 + 268)), (1, .int (xJ j)), (2, .int (xJ n)), (3, .int (xJ x)), (4, .int (xJ i4_42))]) hx hb dX11_home_61 hl (by decide) rfl (fun ls hl => ?_)
          refine x_iconst hx hb dX11_home_63 ?_
          refine lv_istore (lv' := [(6, .int (xJ (-1))), (5, .int (xJ (-1))), (0, .ref (h0 + 268)), (1, .int (xJ j)), (2, .int (xJ n)), (3, .int (xJ x)), (4, .int (xJ i4_42))]) hx hb dX11_home_64 hl (by decide) rfl (fun ls hl => ?_)
          refine x_iconst hx hb dX11_home_66 ?_
          refine lv_istore (lv' := [(7, .int (xJ 0)), (6, .int (xJ (-1))), (5, .int (xJ (-1))), (0, .ref (h0 + 268)), (1, .int (xJ j)), (2, .int (xJ n)), (3, .int (xJ x)), (4, .int (xJ i4_42))]) hx hb dX11_home_67 hl (by decide) rfl (fun ls hl => ?_)
          have L69 : ∀ (fu : Nat) (i5_69 : Int) (i6_69 : Int) (i7_69 : Int) (s_69 : xS) (H : Heap) (locs : List Loc) (ls : Array Slot), (xR i5_69) → (xR i6_69) → (xR i7_69) → (xFr (fun k => k = 268 ∨ k = 269 ∨ k = 270 ∨ k = 293 ∨ k = 294 ∨ k = 295 ∨ k = 296 ∨ k = 297 ∨ k = 298 ∨ k = 299) s0 s_69) → (IMn s_69) → (IMk s_69) → (IMo s_69) → (s_69 268 8 = s0 268 8) → (s_69 268 58 = s0 268 58) → (0 ≤ i7_69) → (i4_42 + 1 - i7_69).toNat < fu → xW D g h0 s H locs s_69 → lv_has ls 9 [(0, .ref (h0 + 268)), (1, .int (xJ j)), (2, .int (xJ n)), (3, .int (xJ x)), (4, .int (xJ i4_42)), (5, .int (xJ i5_69)), (6, .int (xJ i6_69)), (7, .int (xJ i7_69))] → W p l e { frames := 9, cells := 0, slots := 0, locals := 211 } s m args below meth c H locs 0 0 Q (F0 m 69 ls []) := by
            intro fu
            induction fu with
            | zero => intro i5_69 i6_69 i7_69 s_69 H locs ls ri5_69 ri6_69 ri7_69 hF_69 q69_0 q69_1 q69_2 q69_3 q69_4 v69_0 hm; exact absurd hm (Nat.not_lt_zero _)
            | succ fu ih69 =>
              intro i5_69 i6_69 i7_69 s_69 H locs ls ri5_69 ri6_69 ri7_69 hF_69 q69_0 q69_1 q69_2 q69_3 q69_4 v69_0 hm hW hl
              refine x_iload hx hb hl 7 rfl dX11_home_69 ?_
              refine x_iload hx hb hl 4 rfl dX11_home_71 ?_
              refine x_icmp_ge (tgt := 110) hx hb ri7_69 ri4_42 dX11_home_73 (by decide) (fun c28 => ?_) (fun c28 => ?_)
              · skip
                refine x_iload_n hx hb hl 3 rfl dX11_home_110 rfl ?_
                refine x_bipush hx hb dX11_home_111 (by decide) ?_
                refine x_icmp_ne (tgt := 121) hx hb rx (by decide) dX11_home_113 (by decide) (fun c29 => ?_) (fun c29 => ?_)
                · skip
                  refine x_iload hx hb hl 5 rfl dX11_home_121 ?_
                  refine x_iload_n hx hb hl 2 rfl dX11_home_123 rfl ?_
                  refine x_iload_n hx hb hl 3 rfl dX11_home_124 rfl ?_
                  refine x_goi (x_runS (As := [.int (xJ i5_69), .int (xJ n), .int (xJ x)]) hx hb hml hown hT hE hW hl.1 cf_X11_stepIn wq1700 wq1699 (c_X11_stepIn l D g T h0 s_69 hW.2.1 i5_69 ri5_69 n rn x rx (by omega)) ⟨rfl, rfl, ⟨by decide, by decide⟩, ⟨by decide, by decide⟩⟩ rfl rfl (Nat.le_of_ble_eq_true rfl) dX11_home_125) hW (fun x30 s31 H locs rx30 hp32 hW => ?_)
                  obtain ⟨es31, hp32⟩ := hp32
                  subst es31
                  have ghp32 := hp32
                  refine x_iconst hx hb dX11_home_128 ?_
                  refine x_idivQ hx hb (by decide) (by omega) dX11_home_129 (fun x33 rx33 => ?_)
                  rw [eQ]
                  exact x_iret hx hb hr hlk hW rx33 ⟨hF_69, ⟨q69_0, q69_1, q69_2, q69_3, q69_4, trivial⟩, trivial⟩ dX11_home_130
                refine x_iload hx hb hl 6 rfl dX11_home_116 ?_
                refine lv_goto (tgt := 130) hx hb dX11_home_118 (by decide) ?_
                rw [eQ]
                exact x_iret hx hb hr hlk hW ri6_69 ⟨hF_69, ⟨q69_0, q69_1, q69_2, q69_3, q69_4, trivial⟩, trivial⟩ dX11_home_130
              refine x_aload_n hx hb hl 0 rfl dX11_home_76 rfl ?_
              refine x_iload_n hx hb hl 1 rfl dX11_home_77 rfl ?_
              refine x_iload_n hx hb hl 2 rfl dX11_home_78 rfl ?_
              refine x_iload hx hb hl 7 rfl dX11_home_79 ?_
              refine x_goi (x_runV (As := [.int (xJ j), .int (xJ n), .int (xJ i7_69)]) hx hb hml hown hT hE hW hl.1 (Or.inl (by decide)) (so_268 h0 g _) rfl cf_X11_servedIn wq1697 wq157 wq1695 (c_X11_servedIn l D g T h0 s_69 hW.2.1 j rj n rn i7_69 ri7_69 (by omega) q69_0 q69_1 q69_2) ⟨rfl, rfl, ⟨by decide, by decide⟩, ⟨by decide, by decide⟩⟩ rfl rfl (Nat.le_of_ble_eq_true rfl) dX11_home_81) hW (fun x34 s35 H locs rx34 hp36 hW => ?_)
              obtain ⟨fs35, hp36⟩ := hp36
              have hF37 := hF_69.call fs35 (fun k h => by omega)
              have ghp36 := hp36.2
              refine lv_istore (lv' := [(8, .int (xJ x34)), (0, .ref (h0 + 268)), (1, .int (xJ j)), (2, .int (xJ n)), (3, .int (xJ x)), (4, .int (xJ i4_42)), (5, .int (xJ i5_69)), (6, .int (xJ i6_69)), (7, .int (xJ i7_69))]) hx hb dX11_home_84 hl (by decide) rfl (fun ls hl => ?_)
              refine x_iload hx hb hl 0 rfl dX11_home_86 ?_
              refine x_iload hx hb hl 7 rfl dX11_home_88 ?_
              refine x_icmp_gt (tgt := 96) hx hb rx34 ri6_69 dX11_home_90 (by decide) (fun c38 => ?_) (fun c38 => ?_)
              · skip
                refine x_iload hx hb hl 0 rfl dX11_home_96 ?_
                refine lv_istore (lv' := [(6, .int (xJ x34)), (8, .int (xJ x34)), (0, .ref (h0 + 268)), (1, .int (xJ j)), (2, .int (xJ n)), (3, .int (xJ x)), (4, .int (xJ i4_42)), (5, .int (xJ i5_69)), (7, .int (xJ i7_69))]) hx hb dX11_home_98 hl (by decide) rfl (fun ls hl => ?_)
                refine x_iload hx hb hl 8 rfl dX11_home_100 ?_
                refine lv_istore (lv' := [(5, .int (xJ i7_69)), (6, .int (xJ x34)), (8, .int (xJ x34)), (0, .ref (h0 + 268)), (1, .int (xJ j)), (2, .int (xJ n)), (3, .int (xJ x)), (4, .int (xJ i4_42)), (7, .int (xJ i7_69))]) hx hb dX11_home_102 hl (by decide) rfl (fun ls hl => ?_)
                refine x_iinc (lv' := [(7, .int (xJ (i7_69 + 1))), (5, .int (xJ i7_69)), (6, .int (xJ x34)), (8, .int (xJ x34)), (0, .ref (h0 + 268)), (1, .int (xJ j)), (2, .int (xJ n)), (3, .int (xJ x)), (4, .int (xJ i4_42))]) hx hb hl 8 rfl dX11_home_104 (by decide) rfl (fun ls hl => ?_)
                refine lv_goto (tgt := 69) hx hb dX11_home_107 (by decide) ?_
                exact ih69 i7_69 x34 (i7_69 + 1) s35 H locs ls ri7_69 rx34 (by omega) hF37 hp36.1.1 hp36.1.2.1 hp36.1.2.2.1 (hp36.1.2.2.2.1.trans q69_3) (hp36.1.2.2.2.2.1.trans q69_4) (by omega) (by omega) hW (lv_sub hl [4, 5, 6, 7, 8, 1, 2, 0] rfl)
              refine lv_goto (tgt := 104) hx hb dX11_home_93 (by decide) ?_
              refine x_iinc (lv' := [(7, .int (xJ (i7_69 + 1))), (8, .int (xJ x34)), (0, .ref (h0 + 268)), (1, .int (xJ j)), (2, .int (xJ n)), (3, .int (xJ x)), (4, .int (xJ i4_42)), (5, .int (xJ i5_69)), (6, .int (xJ i6_69))]) hx hb hl 8 rfl dX11_home_104 (by decide) rfl (fun ls hl => ?_)
              refine lv_goto (tgt := 69) hx hb dX11_home_107 (by decide) ?_
              exact ih69 i5_69 i6_69 (i7_69 + 1) s35 H locs ls ri5_69 ri6_69 (by omega) hF37 hp36.1.1 hp36.1.2.1 hp36.1.2.2.1 (hp36.1.2.2.2.1.trans q69_3) (hp36.1.2.2.2.2.1.trans q69_4) (by omega) (by omega) hW (lv_sub hl [2, 3, 4, 5, 6, 7, 8, 0] rfl)
          exact L69 ((i4_42 + 1 - 0 : Int).toNat + 1) (-1) (-1) 0 s0 H locs ls (by decide) (by decide) (by decide) hF p0 p1 p2 k268_8 k268_58 (by omega) (Nat.lt_succ_self _) hW (lv_sub hl [3, 4, 5, 6, 7, 2, 1, 0] rfl)
        refine x_iload hx hb hl 4 rfl dX11_home_48 ?_
        refine x_iconst hx hb dX11_home_50 ?_
        refine x_imul hx hb dX11_home_51 ?_
        refine x_any (fun x39 rx39 => ?_)
        refine lv_istore (lv' := [(4, .int (xJ x39)), (0, .ref (h0 + 268)), (1, .int (xJ j)), (2, .int (xJ n)), (3, .int (xJ x)), (5, .int (xJ i5_42))]) hx hb dX11_home_52 hl (by decide) rfl (fun ls hl => ?_)
        refine x_iinc (lv' := [(5, .int (xJ (i5_42 + 1))), (4, .int (xJ x39)), (0, .ref (h0 + 268)), (1, .int (xJ j)), (2, .int (xJ n)), (3, .int (xJ x))]) hx hb hl 5 rfl dX11_home_54 (by decide) rfl (fun ls hl => ?_)
        refine lv_goto (tgt := 42) hx hb dX11_home_57 (by decide) ?_
        exact ih42 x39 (i5_42 + 1) ls rx39 (by omega) (by omega) (by omega)  (lv_sub hl [2, 3, 4, 5, 1, 0] rfl)
    exact L42 ((n + 1 - 0 : Int).toNat + 1) 1 0 ls (by decide) (by decide) (by omega) (Nat.lt_succ_self _)  (lv_sub hl [2, 3, 4, 5, 1, 0] rfl)
  refine x_iconst hx hb dX11_home_34 ?_
  rw [eQ]
  exact x_iret hx hb hr hlk hW (by decide) ⟨hF, ⟨p0, p1, p2, k268_8, k268_58, trivial⟩, trivial⟩ dX11_home_35
set_option maxHeartbeats 4000000 in
set_option maxRecDepth 100000 in
theorem c_X11_isFree (l : Launch) (D : va_G) (g : xG) (T : Nat × Nat × Nat) (h0 : Nat) (s0 : xS) (hσ : xRR s0) (x : Int) (rx : xR x) (hx0 : 0 ≤ x ∧ x ≤ 99) (p0 : IMn s0) (p1 : IMk s0) (p2 : IMo s0) : Met l yX11_isFree (xws yX11_isFree cX11_isFree 3 (some .boolean)) { frames := 2, cells := 0, slots := 0, locals := 42 } (xP [.ref (h0 + 268), .int (xJ x)] D g T h0 s0) (xQi D g h0 (fun r τ => s0 = τ ∧ (r = 0 ∨ r = 1))) 0 0 (xA h0) := by
  refine x_met hσ (by decide) (Nat.le_of_ble_eq_true rfl) ?_
  intro p e s m args below meth c hx hb hr hml hown hT hlk hnm hE hW ls hl
  have hl : lv_has ls 3 [(0, .ref (h0 + 268)), (1, .int (xJ x))] := hl
  obtain ⟨Q, eQ⟩ : ∃ Q, Q = MQ below (xQi D g h0 (fun r τ => s0 = τ ∧ (r = 0 ∨ r = 1))) args s 0 0 (xA h0) := ⟨_, rfl⟩
  rw [← eQ]
  generalize hHe : ([] : List Loc) = locs at hW ⊢
  obtain ⟨H, eH⟩ : ∃ H, H = s.heap := ⟨_, rfl⟩
  rw [← eH] at hW ⊢
  have k268_8 : s0 268 8 = s0 268 8 := rfl
  have k268_58 : s0 268 58 = s0 268 58 := rfl
  refine x_aload_n hx hb hl 0 rfl dX11_isFree_0 rfl ?_
  refine x_get (j := 3) (v := .ref (h0 + 272)) hx hb hown hT hE hW cls_X11 (Or.inl (by decide)) (so_268 h0 g _) (by decide) rfl wq1188 dX11_isFree_1 ?_
  refine x_iload_n hx hb hl 1 rfl dX11_isFree_4 rfl ?_
  refine x_iald hx hb hE hW (Or.inl (by decide)) (sa_272 h0 g _) (by omega) (by decide) dX11_isFree_5 ?_
  refine x_rd hW (fun x1 ex1 rx1 => ?_)
  refine x_if_eq (tgt := 11) hx hb rx1 dX11_isFree_6 (by decide) (fun c2 => ?_) (fun c2 => ?_)
  · skip
    refine x_iconst hx hb dX11_isFree_11 ?_
    refine lv_istore_n (lv' := [(2, .int (xJ 0)), (0, .ref (h0 + 268)), (1, .int (xJ x))]) hx hb dX11_isFree_12 rfl hl (by decide) rfl (fun ls hl => ?_)
    have L13 : ∀ (fu : Nat) (i2_13 : Int) (H : Heap) (locs : List Loc) (ls : Array Slot), (xR i2_13) → (0 ≤ i2_13) → (i2_13 ≤ 2) → (2 + 1 - i2_13).toNat < fu → xW D g h0 s H locs s0 → lv_has ls 3 [(0, .ref (h0 + 268)), (1, .int (xJ x)), (2, .int (xJ i2_13))] → W p l e { frames := 2, cells := 0, slots := 0, locals := 42 } s m args below meth c H locs 0 0 Q (F0 m 13 ls []) := by
      intro fu
      induction fu with
      | zero => intro i2_13 H locs ls ri2_13 v13_0 v13_1 hm; exact absurd hm (Nat.not_lt_zero _)
      | succ fu ih13 =>
        intro i2_13 H locs ls ri2_13 v13_0 v13_1 hm hW hl
        refine x_iload_n hx hb hl 2 rfl dX11_isFree_13 rfl ?_
        refine x_iconst hx hb dX11_isFree_14 ?_
        refine x_icmp_ge (tgt := 46) hx hb ri2_13 (by decide) dX11_isFree_15 (by decide) (fun c3 => ?_) (fun c3 => ?_)
        · skip
          refine x_iconst hx hb dX11_isFree_46 ?_
          refine lv_istore_n (lv' := [(2, .int (xJ 0)), (0, .ref (h0 + 268)), (1, .int (xJ x))]) hx hb dX11_isFree_47 rfl hl (by decide) rfl (fun ls hl => ?_)
          have L48 : ∀ (fu : Nat) (i2_48 : Int) (H : Heap) (locs : List Loc) (ls : Array Slot), (xR i2_48) → (0 ≤ i2_48) → (i2_48 ≤ 10) → (10 + 1 - i2_48).toNat < fu → xW D g h0 s H locs s0 → lv_has ls 3 [(0, .ref (h0 + 268)), (1, .int (xJ x)), (2, .int (xJ i2_48))] → W p l e { frames := 2, cells := 0, slots := 0, locals := 42 } s m args below meth c H locs 0 0 Q (F0 m 48 ls []) := by
            intro fu
            induction fu with
            | zero => intro i2_48 H locs ls ri2_48 v48_0 v48_1 hm; exact absurd hm (Nat.not_lt_zero _)
            | succ fu ih48 =>
              intro i2_48 H locs ls ri2_48 v48_0 v48_1 hm hW hl
              refine x_iload_n hx hb hl 2 rfl dX11_isFree_48 rfl ?_
              refine x_bipush hx hb dX11_isFree_49 (by decide) ?_
              refine x_icmp_ge (tgt := 82) hx hb ri2_48 (by decide) dX11_isFree_51 (by decide) (fun c4 => ?_) (fun c4 => ?_)
              · skip
                refine x_iconst hx hb dX11_isFree_82 ?_
                refine lv_istore_n (lv' := [(2, .int (xJ 0)), (0, .ref (h0 + 268)), (1, .int (xJ x))]) hx hb dX11_isFree_83 rfl hl (by decide) rfl (fun ls hl => ?_)
                have L84 : ∀ (fu : Nat) (i2_84 : Int) (ls : Array Slot), (xR i2_84) → (0 ≤ i2_84) → (i2_84 ≤ 4) → (4 + 1 - i2_84).toNat < fu → lv_has ls 3 [(0, .ref (h0 + 268)), (1, .int (xJ x)), (2, .int (xJ i2_84))] → W p l e { frames := 2, cells := 0, slots := 0, locals := 42 } s m args below meth c H locs 0 0 Q (F0 m 84 ls []) := by
                  intro fu
                  induction fu with
                  | zero => intro i2_84 ls ri2_84 v84_0 v84_1 hm; exact absurd hm (Nat.not_lt_zero _)
                  | succ fu ih84 =>
                    intro i2_84 ls ri2_84 v84_0 v84_1 hm  hl
                    refine x_iload_n hx hb hl 2 rfl dX11_isFree_84 rfl ?_
                    refine x_iconst hx hb dX11_isFree_85 ?_
                    refine x_icmp_ge (tgt := 107) hx hb ri2_84 (by decide) dX11_isFree_86 (by decide) (fun c5 => ?_) (fun c5 => ?_)
                    · skip
                      refine x_iconst hx hb dX11_isFree_107 ?_
                      rw [eQ]
                      exact x_zret hx hb hr hlk hW (by omega) ⟨rfl, by omega⟩ dX11_isFree_108
                    refine x_aload_n hx hb hl 0 rfl dX11_isFree_89 rfl ?_
                    refine x_get (j := 4) (v := .ref (h0 + 273)) hx hb hown hT hE hW cls_X11 (Or.inl (by decide)) (so_268 h0 g _) (by decide) rfl wq1189 dX11_isFree_90 ?_
                    refine x_iload_n hx hb hl 2 rfl dX11_isFree_93 rfl ?_
                    refine x_iald hx hb hE hW (Or.inl (by decide)) (sa_273 h0 g _) (by omega) (by decide) dX11_isFree_94 ?_
                    refine x_rd hW (fun x6 ex6 rx6 => ?_)
                    have bx6 : -1 ≤ x6 ∧ x6 ≤ 99 := by rw [ex6]; exact IMn.l p0 _ (by omega) (by omega)
                    refine x_iload_n hx hb hl 1 rfl dX11_isFree_95 rfl ?_
                    refine x_icmp_ne (tgt := 101) hx hb rx6 rx dX11_isFree_96 (by decide) (fun c7 => ?_) (fun c7 => ?_)
                    · skip
                      refine x_iinc (lv' := [(2, .int (xJ (i2_84 + 1))), (0, .ref (h0 + 268)), (1, .int (xJ x))]) hx hb hl 2 rfl dX11_isFree_101 (by decide) rfl (fun ls hl => ?_)
                      refine lv_goto (tgt := 84) hx hb dX11_isFree_104 (by decide) ?_
                      exact ih84 (i2_84 + 1) ls (by omega) (by omega) (by omega) (by omega)  (lv_sub hl [1, 2, 0] rfl)
                    refine x_iconst hx hb dX11_isFree_99 ?_
                    rw [eQ]
                    exact x_zret hx hb hr hlk hW (by omega) ⟨rfl, by omega⟩ dX11_isFree_100
                exact L84 ((4 + 1 - 0 : Int).toNat + 1) 0 ls (by decide) (by omega) (by omega) (Nat.lt_succ_self _)  (lv_sub hl [1, 2, 0] rfl)
              refine x_aload_n hx hb hl 0 rfl dX11_isFree_54 rfl ?_
              refine x_iload_n hx hb hl 2 rfl dX11_isFree_55 rfl ?_
              refine x_goi (x_runV (As := [.int (xJ i2_48)]) hx hb hml hown hT hE hW hl.1 (Or.inl (by decide)) (so_268 h0 g _) rfl cf_X11_isFelon wq1423 wq111 wq1421 (c_X11_isFelon l D g T h0 s0 hW.2.1 i2_48 ri2_48 p0 p1 p2) ⟨rfl, rfl, ⟨by decide, by decide⟩, ⟨by decide, by decide⟩⟩ rfl rfl (Nat.le_of_ble_eq_true rfl) dX11_isFree_56) hW (fun x8 s9 H locs rx8 hp10 hW => ?_)
              obtain ⟨es9, hp10⟩ := hp10
              subst es9
              have ghp10 := hp10
              refine x_if_eq (tgt := 76) hx hb rx8 dX11_isFree_59 (by decide) (fun c11 => ?_) (fun c11 => ?_)
              · skip
                refine x_iinc (lv' := [(2, .int (xJ (i2_48 + 1))), (0, .ref (h0 + 268)), (1, .int (xJ x))]) hx hb hl 2 rfl dX11_isFree_76 (by decide) rfl (fun ls hl => ?_)
                refine lv_goto (tgt := 48) hx hb dX11_isFree_79 (by decide) ?_
                exact ih48 (i2_48 + 1) H locs ls (by omega) (by omega) (by omega) (by omega) hW (lv_sub hl [1, 2, 0] rfl)
              refine x_aload_n hx hb hl 0 rfl dX11_isFree_62 rfl ?_
              refine x_get (j := 0) (v := .ref (h0 + 269)) hx hb hown hT hE hW cls_X11 (Or.inl (by decide)) (so_268 h0 g _) (by decide) rfl wq1185 dX11_isFree_63 ?_
              refine x_iconst hx hb dX11_isFree_66 ?_
              refine x_iload_n hx hb hl 2 rfl dX11_isFree_67 rfl ?_
              refine x_iadd hx hb dX11_isFree_68 ?_
              refine x_iald hx hb hE hW (Or.inl (by decide)) (sa_269 h0 g _) (by omega) (by decide) dX11_isFree_69 ?_
              refine x_rd hW (fun x12 ex12 rx12 => ?_)
              have bx12 : 0 ≤ x12 ∧ x12 ≤ 99 := by rw [ex12]; exact (IMn.n1 p0).2.2.1 _ (by omega) (by omega)
              refine x_iload_n hx hb hl 1 rfl dX11_isFree_70 rfl ?_
              refine x_icmp_ne (tgt := 76) hx hb rx12 rx dX11_isFree_71 (by decide) (fun c13 => ?_) (fun c13 => ?_)
              · skip
                refine x_iinc (lv' := [(2, .int (xJ (i2_48 + 1))), (0, .ref (h0 + 268)), (1, .int (xJ x))]) hx hb hl 2 rfl dX11_isFree_76 (by decide) rfl (fun ls hl => ?_)
                refine lv_goto (tgt := 48) hx hb dX11_isFree_79 (by decide) ?_
                exact ih48 (i2_48 + 1) H locs ls (by omega) (by omega) (by omega) (by omega) hW (lv_sub hl [1, 2, 0] rfl)
              refine x_iconst hx hb dX11_isFree_74 ?_
              rw [eQ]
              exact x_zret hx hb hr hlk hW (by omega) ⟨rfl, by omega⟩ dX11_isFree_75
          exact L48 ((10 + 1 - 0 : Int).toNat + 1) 0 H locs ls (by decide) (by omega) (by omega) (Nat.lt_succ_self _) hW (lv_sub hl [1, 2, 0] rfl)
        refine x_aload_n hx hb hl 0 rfl dX11_isFree_18 rfl ?_
        refine x_iload_n hx hb hl 2 rfl dX11_isFree_19 rfl ?_
        refine x_goi (x_runV (As := [.int (xJ i2_13)]) hx hb hml hown hT hE hW hl.1 (Or.inl (by decide)) (so_268 h0 g _) rfl cf_X11_isJudge wq1409 wq109 wq1407 (c_X11_isJudge l D g T h0 s0 hW.2.1 i2_13 ri2_13 p0 p1 p2) ⟨rfl, rfl, ⟨by decide, by decide⟩, ⟨by decide, by decide⟩⟩ rfl rfl (Nat.le_of_ble_eq_true rfl) dX11_isFree_20) hW (fun x14 s15 H locs rx14 hp16 hW => ?_)
        obtain ⟨es15, hp16⟩ := hp16
        subst es15
        have ghp16 := hp16
        refine x_if_eq (tgt := 40) hx hb rx14 dX11_isFree_23 (by decide) (fun c17 => ?_) (fun c17 => ?_)
        · skip
          refine x_iinc (lv' := [(2, .int (xJ (i2_13 + 1))), (0, .ref (h0 + 268)), (1, .int (xJ x))]) hx hb hl 2 rfl dX11_isFree_40 (by decide) rfl (fun ls hl => ?_)
          refine lv_goto (tgt := 13) hx hb dX11_isFree_43 (by decide) ?_
          exact ih13 (i2_13 + 1) H locs ls (by omega) (by omega) (by omega) (by omega) hW (lv_sub hl [1, 2, 0] rfl)
        refine x_aload_n hx hb hl 0 rfl dX11_isFree_26 rfl ?_
        refine x_get (j := 0) (v := .ref (h0 + 269)) hx hb hown hT hE hW cls_X11 (Or.inl (by decide)) (so_268 h0 g _) (by decide) rfl wq1185 dX11_isFree_27 ?_
        refine x_iconst hx hb dX11_isFree_30 ?_
        refine x_iload_n hx hb hl 2 rfl dX11_isFree_31 rfl ?_
        refine x_iadd hx hb dX11_isFree_32 ?_
        refine x_iald hx hb hE hW (Or.inl (by decide)) (sa_269 h0 g _) (by omega) (by decide) dX11_isFree_33 ?_
        refine x_rd hW (fun x18 ex18 rx18 => ?_)
        have bx18 : 0 ≤ x18 ∧ x18 ≤ 99 := by rw [ex18]; exact (IMn.n1 p0).1 _ (by omega) (by omega)
        refine x_iload_n hx hb hl 1 rfl dX11_isFree_34 rfl ?_
        refine x_icmp_ne (tgt := 40) hx hb rx18 rx dX11_isFree_35 (by decide) (fun c19 => ?_) (fun c19 => ?_)
        · skip
          refine x_iinc (lv' := [(2, .int (xJ (i2_13 + 1))), (0, .ref (h0 + 268)), (1, .int (xJ x))]) hx hb hl 2 rfl dX11_isFree_40 (by decide) rfl (fun ls hl => ?_)
          refine lv_goto (tgt := 13) hx hb dX11_isFree_43 (by decide) ?_
          exact ih13 (i2_13 + 1) H locs ls (by omega) (by omega) (by omega) (by omega) hW (lv_sub hl [1, 2, 0] rfl)
        refine x_iconst hx hb dX11_isFree_38 ?_
        rw [eQ]
        exact x_zret hx hb hr hlk hW (by omega) ⟨rfl, by omega⟩ dX11_isFree_39
    exact L13 ((2 + 1 - 0 : Int).toNat + 1) 0 H locs ls (by decide) (by omega) (by omega) (Nat.lt_succ_self _) hW (lv_sub hl [1, 2, 0] rfl)
  refine x_iconst hx hb dX11_isFree_9 ?_
  rw [eQ]
  exact x_zret hx hb hr hlk hW (by omega) ⟨rfl, by omega⟩ dX11_isFree_10
set_option maxHeartbeats 4000000 in
set_option maxRecDepth 100000 in
theorem c_X11_hung (l : Launch) (D : va_G) (g : xG) (T : Nat × Nat × Nat) (h0 : Nat) (s0 : xS) (hσ : xRR s0) (x : Int) (rx : xR x) (p0 : IMn s0) (p1 : IMk s0) (p2 : IMo s0) : Met l yX11_hung (xws yX11_hung cX11_hung 7 (some .int)) { frames := 6, cells := 0, slots := 0, locals := 139 } (xP [.ref (h0 + 268), .int (xJ x)] D g T h0 s0) (xQi D g h0 (fun r τ => xFr (fun k => k = 295) s0 τ ∧ (((IMn τ) ∧ (IMk τ) ∧ (IMo τ) ∧ True) ∧ (True)))) 0 0 (xA h0) := by
  refine x_met hσ (by decide) (Nat.le_of_ble_eq_true rfl) ?_
  intro p e s m args below meth c hx hb hr hml hown hT hlk hnm hE hW ls hl
  have hl : lv_has ls 7 [(0, .ref (h0 + 268)), (1, .int (xJ x))] := hl
  obtain ⟨Q, eQ⟩ : ∃ Q, Q = MQ below (xQi D g h0 (fun r τ => xFr (fun k => k = 295) s0 τ ∧ (((IMn τ) ∧ (IMk τ) ∧ (IMo τ) ∧ True) ∧ (True)))) args s 0 0 (xA h0) := ⟨_, rfl⟩
  rw [← eQ]
  generalize hHe : ([] : List Loc) = locs at hW ⊢
  obtain ⟨H, eH⟩ : ∃ H, H = s.heap := ⟨_, rfl⟩
  rw [← eH] at hW ⊢
  have hF : xFr (fun k => k = 295) s0 s0 := xFr.rf
  have k268_8 : s0 268 8 = s0 268 8 := rfl
  have k268_58 : s0 268 58 = s0 268 58 := rfl
  refine x_iload_n hx hb hl 1 rfl dX11_hung_0 rfl ?_
  refine x_iconst hx hb dX11_hung_1 ?_
  refine x_iconst hx hb dX11_hung_2 ?_
  refine x_goi (x_runS (As := [.int (xJ x), .int (xJ 0), .int (xJ 1)]) hx hb hml hown hT hE hW hl.1 cf_X11_in wq1383 wq1382 (c_X11_in l D g T h0 s0 hW.2.1 x rx 0 (by decide) 1 (by decide)) ⟨rfl, rfl, ⟨by decide, by decide⟩, ⟨by decide, by decide⟩⟩ rfl rfl (Nat.le_of_ble_eq_true rfl) dX11_hung_3) hW (fun x1 s2 H locs rx1 hp3 hW => ?_)
  obtain ⟨es2, hp3⟩ := hp3
  subst es2
  have ghp3 := hp3
  refine x_if_ne (tgt := 11) hx hb rx1 dX11_hung_6 (by decide) (fun c4 => ?_) (fun c4 => ?_)
  · skip
    refine x_bipush hx hb dX11_hung_11 (by decide) ?_
    refine lv_istore_n (lv' := [(2, .int (xJ (-2))), (0, .ref (h0 + 268)), (1, .int (xJ x))]) hx hb dX11_hung_13 rfl hl (by decide) rfl (fun ls hl => ?_)
    refine x_iconst hx hb dX11_hung_14 ?_
    refine lv_istore_n (lv' := [(3, .int (xJ (-1))), (2, .int (xJ (-2))), (0, .ref (h0 + 268)), (1, .int (xJ x))]) hx hb dX11_hung_15 rfl hl (by decide) rfl (fun ls hl => ?_)
    refine x_iconst hx hb dX11_hung_16 ?_
    refine lv_istore (lv' := [(4, .int (xJ 0)), (3, .int (xJ (-1))), (2, .int (xJ (-2))), (0, .ref (h0 + 268)), (1, .int (xJ x))]) hx hb dX11_hung_17 hl (by decide) rfl (fun ls hl => ?_)
    have L19 : ∀ (fu : Nat) (i2_19 : Int) (i3_19 : Int) (i4_19 : Int) (s_19 : xS) (H : Heap) (locs : List Loc) (ls : Array Slot), (xR i2_19) → (xR i3_19) → (xR i4_19) → (xFr (fun k => k = 295) s0 s_19) → (IMn s_19) → (IMk s_19) → (IMo s_19) → (s_19 268 8 = s0 268 8) → (s_19 268 58 = s0 268 58) → (0 ≤ i4_19) → (i4_19 ≤ 100) → (100 + 1 - i4_19).toNat < fu → xW D g h0 s H locs s_19 → lv_has ls 7 [(0, .ref (h0 + 268)), (1, .int (xJ x)), (2, .int (xJ i2_19)), (3, .int (xJ i3_19)), (4, .int (xJ i4_19))] → W p l e { frames := 6, cells := 0, slots := 0, locals := 139 } s m args below meth c H locs 0 0 Q (F0 m 19 ls []) := by
      intro fu
      induction fu with
      | zero => intro i2_19 i3_19 i4_19 s_19 H locs ls ri2_19 ri3_19 ri4_19 hF_19 q19_0 q19_1 q19_2 q19_3 q19_4 v19_0 v19_1 hm; exact absurd hm (Nat.not_lt_zero _)
      | succ fu ih19 =>
        intro i2_19 i3_19 i4_19 s_19 H locs ls ri2_19 ri3_19 ri4_19 hF_19 q19_0 q19_1 q19_2 q19_3 q19_4 v19_0 v19_1 hm hW hl
        refine x_iload hx hb hl 4 rfl dX11_hung_19 ?_
        refine x_bipush hx hb dX11_hung_21 (by decide) ?_
        refine x_icmp_ge (tgt := 138) hx hb ri4_19 (by decide) dX11_hung_23 (by decide) (fun c5 => ?_) (fun c5 => ?_)
        · skip
          refine x_iload_n hx hb hl 1 rfl dX11_hung_138 rfl ?_
          refine x_if_eq (tgt := 148) hx hb rx dX11_hung_139 (by decide) (fun c6 => ?_) (fun c6 => ?_)
          · skip
            refine x_iload_n hx hb hl 2 rfl dX11_hung_148 rfl ?_
            refine lv_goto (tgt := 153) hx hb dX11_hung_149 (by decide) ?_
            rw [eQ]
            exact x_iret hx hb hr hlk hW ri2_19 ⟨hF_19, ⟨q19_0, q19_1, q19_2, trivial⟩, trivial⟩ dX11_hung_153
          refine x_iload_n hx hb hl 2 rfl dX11_hung_142 rfl ?_
          refine x_bipush hx hb dX11_hung_143 (by decide) ?_
          refine x_icmp_ne (tgt := 152) hx hb ri2_19 (by decide) dX11_hung_145 (by decide) (fun c7 => ?_) (fun c7 => ?_)
          · skip
            refine x_iload_n hx hb hl 3 rfl dX11_hung_152 rfl ?_
            rw [eQ]
            exact x_iret hx hb hr hlk hW ri3_19 ⟨hF_19, ⟨q19_0, q19_1, q19_2, trivial⟩, trivial⟩ dX11_hung_153
          refine x_iload_n hx hb hl 2 rfl dX11_hung_148 rfl ?_
          refine lv_goto (tgt := 153) hx hb dX11_hung_149 (by decide) ?_
          rw [eQ]
          exact x_iret hx hb hr hlk hW ri2_19 ⟨hF_19, ⟨q19_0, q19_1, q19_2, trivial⟩, trivial⟩ dX11_hung_153
        refine x_aload_n hx hb hl 0 rfl dX11_hung_26 rfl ?_
        refine x_iload hx hb hl 4 rfl dX11_hung_27 ?_
        refine x_goi (x_runV (As := [.int (xJ i4_19)]) hx hb hml hown hT hE hW hl.1 (Or.inl (by decide)) (so_268 h0 g _) rfl cf_X11_isFree wq1708 wq158 wq1706 (c_X11_isFree l D g T h0 s_19 hW.2.1 i4_19 ri4_19 (by omega) q19_0 q19_1 q19_2) ⟨rfl, rfl, ⟨by decide, by decide⟩, ⟨by decide, by decide⟩⟩ rfl rfl (Nat.le_of_ble_eq_true rfl) dX11_hung_29) hW (fun x8 s9 H locs rx8 hp10 hW => ?_)
        obtain ⟨es9, hp10⟩ := hp10
        subst es9
        have ghp10 := hp10
        refine x_if_ne (tgt := 38) hx hb rx8 dX11_hung_32 (by decide) (fun c11 => ?_) (fun c11 => ?_)
        · skip
          refine x_aload_n hx hb hl 0 rfl dX11_hung_38 rfl ?_
          refine x_gov (x_runV (As := []) hx hb hml hown hT hE hW hl.1 (Or.inl (by decide)) (so_268 h0 g _) rfl cf_X11_bares wq1592 wq140 wq1590 (c_X11_bares l D g T h0 s_19 hW.2.1 q19_0 q19_1 q19_2) ⟨rfl, rfl, ⟨by decide, by decide⟩, ⟨by decide, by decide⟩⟩ rfl rfl (Nat.le_of_ble_eq_true rfl) dX11_hung_39) hW (fun s13 H locs hp14 hW => ?_)
          obtain ⟨fs13, hp14⟩ := hp14
          have hF15 := hF_19.call fs13 (fun k h => by omega)
          have q16 : s13 268 8 = s0 268 8 := (congrFun (fs13 _ (by omega)) _).trans q19_3
          have q17 : s13 268 58 = s0 268 58 := (congrFun (fs13 _ (by omega)) _).trans q19_4
          have ghp14 := hp14.2
          refine x_aload_n hx hb hl 0 rfl dX11_hung_42 rfl ?_
          refine x_gov (x_runV (As := []) hx hb hml hown hT hE hW hl.1 (Or.inl (by decide)) (so_268 h0 g _) rfl cf_X11_fallsByLamps wq1608 wq144 wq1606 (c_X11_fallsByLamps l D g T h0 s13 hW.2.1 hp14.1.1 hp14.1.2.1 hp14.1.2.2.1) ⟨rfl, rfl, ⟨by decide, by decide⟩, ⟨by decide, by decide⟩⟩ rfl rfl (Nat.le_of_ble_eq_true rfl) dX11_hung_43) hW (fun s19 H locs hp20 hW => ?_)
          obtain ⟨fs19, hp20⟩ := hp20
          have hF21 := hF15.call fs19 (fun k h => by omega)
          have q22 : s19 268 8 = s0 268 8 := (congrFun (fs19 _ (by omega)) _).trans q16
          have q23 : s19 268 58 = s0 268 58 := (congrFun (fs19 _ (by omega)) _).trans q17
          have ghp20 := hp20.2
          refine x_iconst hx hb dX11_hung_46 ?_
          refine lv_istore (lv' := [(5, .int (xJ 0)), (0, .ref (h0 + 268)), (1, .int (xJ x)), (2, .int (xJ i2_19)), (3, .int (xJ i3_19)), (4, .int (xJ i4_19))]) hx hb dX11_hung_47 hl (by decide) rfl (fun ls hl => ?_)
          have L49 : ∀ (fu : Nat) (i5_49 : Int) (s_49 : xS) (H : Heap) (locs : List Loc) (ls : Array Slot), (xR i5_49) → (xFr (fun k => k = 295) s0 s_49) → (s_49 268 8 = s0 268 8) → (s_49 268 58 = s0 268 58) → (IMn s_49) → (IMk s_49) → (IMo s_49) → (0 ≤ i5_49) → (i5_49 ≤ 2) → (2 + 1 - i5_49).toNat < fu → xW D g h0 s H locs s_49 → lv_has ls 7 [(0, .ref (h0 + 268)), (1, .int (xJ x)), (2, .int (xJ i2_19)), (3, .int (xJ i3_19)), (4, .int (xJ i4_19)), (5, .int (xJ i5_49))] → W p l e { frames := 6, cells := 0, slots := 0, locals := 139 } s m args below meth c H locs 0 0 Q (F0 m 49 ls []) := by
            intro fu
            induction fu with
            | zero => intro i5_49 s_49 H locs ls ri5_49 hF_49 q49_0 q49_1 q49_2 q49_3 q49_4 v49_0 v49_1 hm; exact absurd hm (Nat.not_lt_zero _)
            | succ fu ih49 =>
              intro i5_49 s_49 H locs ls ri5_49 hF_49 q49_0 q49_1 q49_2 q49_3 q49_4 v49_0 v49_1 hm hW hl
              refine x_iload hx hb hl 5 rfl dX11_hung_49 ?_
              refine x_iconst hx hb dX11_hung_51 ?_
              refine x_icmp_ge (tgt := 78) hx hb ri5_49 (by decide) dX11_hung_52 (by decide) (fun c24 => ?_) (fun c24 => ?_)
              · skip
                refine x_iconst hx hb dX11_hung_78 ?_
                refine lv_istore (lv' := [(5, .int (xJ 0)), (0, .ref (h0 + 268)), (1, .int (xJ x)), (2, .int (xJ i2_19)), (3, .int (xJ i3_19)), (4, .int (xJ i4_19))]) hx hb dX11_hung_79 hl (by decide) rfl (fun ls hl => ?_)
                refine x_iconst hx hb dX11_hung_81 ?_
                refine lv_istore (lv' := [(6, .int (xJ 0)), (5, .int (xJ 0)), (0, .ref (h0 + 268)), (1, .int (xJ x)), (2, .int (xJ i2_19)), (3, .int (xJ i3_19)), (4, .int (xJ i4_19))]) hx hb dX11_hung_82 hl (by decide) rfl (fun ls hl => ?_)
                have L84 : ∀ (fu : Nat) (i5_84 : Int) (i6_84 : Int) (ls : Array Slot), (xR i5_84) → (xR i6_84) → (0 ≤ i6_84) → (i6_84 ≤ 100) → (0 ≤ i5_84 ∧ i5_84 ≤ i6_84) → (100 + 1 - i6_84).toNat < fu → lv_has ls 7 [(0, .ref (h0 + 268)), (1, .int (xJ x)), (2, .int (xJ i2_19)), (3, .int (xJ i3_19)), (4, .int (xJ i4_19)), (5, .int (xJ i5_84)), (6, .int (xJ i6_84))] → W p l e { frames := 6, cells := 0, slots := 0, locals := 139 } s m args below meth c H locs 0 0 Q (F0 m 84 ls []) := by
                  intro fu
                  induction fu with
                  | zero => intro i5_84 i6_84 ls ri5_84 ri6_84 v84_0 v84_1 v84_2 hm; exact absurd hm (Nat.not_lt_zero _)
                  | succ fu ih84 =>
                    intro i5_84 i6_84 ls ri5_84 ri6_84 v84_0 v84_1 v84_2 hm  hl
                    refine x_iload hx hb hl 6 rfl dX11_hung_84 ?_
                    refine x_bipush hx hb dX11_hung_86 (by decide) ?_
                    refine x_icmp_ge (tgt := 117) hx hb ri6_84 (by decide) dX11_hung_88 (by decide) (fun c25 => ?_) (fun c25 => ?_)
                    · skip
                      refine x_iload hx hb hl 5 rfl dX11_hung_117 ?_
                      refine x_iload_n hx hb hl 3 rfl dX11_hung_119 rfl ?_
                      refine x_icmp_gt (tgt := 126) hx hb ri5_84 ri3_19 dX11_hung_120 (by decide) (fun c26 => ?_) (fun c26 => ?_)
                      · skip
                        refine x_iload hx hb hl 5 rfl dX11_hung_126 ?_
                        refine lv_istore_n (lv' := [(3, .int (xJ i5_84)), (0, .ref (h0 + 268)), (1, .int (xJ x)), (2, .int (xJ i2_19)), (4, .int (xJ i4_19)), (5, .int (xJ i5_84)), (6, .int (xJ i6_84))]) hx hb dX11_hung_128 rfl hl (by decide) rfl (fun ls hl => ?_)
                        refine x_iload hx hb hl 4 rfl dX11_hung_129 ?_
                        refine lv_istore_n (lv' := [(2, .int (xJ i4_19)), (3, .int (xJ i5_84)), (0, .ref (h0 + 268)), (1, .int (xJ x)), (4, .int (xJ i4_19)), (5, .int (xJ i5_84)), (6, .int (xJ i6_84))]) hx hb dX11_hung_131 rfl hl (by decide) rfl (fun ls hl => ?_)
                        refine x_iinc (lv' := [(4, .int (xJ (i4_19 + 1))), (2, .int (xJ i4_19)), (3, .int (xJ i5_84)), (0, .ref (h0 + 268)), (1, .int (xJ x)), (5, .int (xJ i5_84)), (6, .int (xJ i6_84))]) hx hb hl 4 rfl dX11_hung_132 (by decide) rfl (fun ls hl => ?_)
                        refine lv_goto (tgt := 19) hx hb dX11_hung_135 (by decide) ?_
                        exact ih19 i4_19 i5_84 (i4_19 + 1) s_49 H locs ls ri4_19 ri5_84 (by omega) hF_49 q49_2 q49_3 q49_4 q49_0 q49_1 (by omega) (by omega) (by omega) hW (lv_sub hl [3, 4, 1, 2, 0] rfl)
                      refine lv_goto (tgt := 132) hx hb dX11_hung_123 (by decide) ?_
                      refine x_iinc (lv' := [(4, .int (xJ (i4_19 + 1))), (0, .ref (h0 + 268)), (1, .int (xJ x)), (2, .int (xJ i2_19)), (3, .int (xJ i3_19)), (5, .int (xJ i5_84)), (6, .int (xJ i6_84))]) hx hb hl 4 rfl dX11_hung_132 (by decide) rfl (fun ls hl => ?_)
                      refine lv_goto (tgt := 19) hx hb dX11_hung_135 (by decide) ?_
                      exact ih19 i2_19 i3_19 (i4_19 + 1) s_49 H locs ls ri2_19 ri3_19 (by omega) hF_49 q49_2 q49_3 q49_4 q49_0 q49_1 (by omega) (by omega) (by omega) hW (lv_sub hl [1, 2, 3, 4, 0] rfl)
                    refine x_iload hx hb hl 5 rfl dX11_hung_91 ?_
                    refine x_aload_n hx hb hl 0 rfl dX11_hung_93 rfl ?_
                    refine x_get (j := 40) (v := .ref (h0 + 295)) hx hb hown hT hE hW cls_X11 (Or.inl (by decide)) (so_268 h0 g _) (by decide) rfl wq1225 dX11_hung_94 ?_
                    refine x_iload hx hb hl 6 rfl dX11_hung_97 ?_
                    refine x_iald hx hb hE hW (Or.inl (by decide)) (sa_295 h0 g _) (by omega) (by decide) dX11_hung_99 ?_
                    refine x_rd hW (fun x27 ex27 rx27 => ?_)
                    refine x_if_le (tgt := 107) hx hb rx27 dX11_hung_100 (by decide) (fun c28 => ?_) (fun c28 => ?_)
                    · skip
                      refine x_iconst hx hb dX11_hung_107 ?_
                      refine x_iadd hx hb dX11_hung_108 ?_
                      refine x_nm (fun x29 ex29 => ?_)
                      refine lv_istore (lv' := [(5, .int (xJ x29)), (0, .ref (h0 + 268)), (1, .int (xJ x)), (2, .int (xJ i2_19)), (3, .int (xJ i3_19)), (4, .int (xJ i4_19)), (6, .int (xJ i6_84))]) hx hb dX11_hung_109 hl (by decide) rfl (fun ls hl => ?_)
                      refine x_iinc (lv' := [(6, .int (xJ (i6_84 + 1))), (5, .int (xJ x29)), (0, .ref (h0 + 268)), (1, .int (xJ x)), (2, .int (xJ i2_19)), (3, .int (xJ i3_19)), (4, .int (xJ i4_19))]) hx hb hl 6 rfl dX11_hung_111 (by decide) rfl (fun ls hl => ?_)
                      refine lv_goto (tgt := 84) hx hb dX11_hung_114 (by decide) ?_
                      exact ih84 x29 (i6_84 + 1) ls (by omega) (by omega) (by omega) (by omega) (by omega) (by omega)  (lv_sub hl [2, 3, 4, 5, 6, 1, 0] rfl)
                    refine x_iconst hx hb dX11_hung_103 ?_
                    refine lv_goto (tgt := 108) hx hb dX11_hung_104 (by decide) ?_
                    refine x_iadd hx hb dX11_hung_108 ?_
                    refine x_nm (fun x30 ex30 => ?_)
                    refine lv_istore (lv' := [(5, .int (xJ x30)), (0, .ref (h0 + 268)), (1, .int (xJ x)), (2, .int (xJ i2_19)), (3, .int (xJ i3_19)), (4, .int (xJ i4_19)), (6, .int (xJ i6_84))]) hx hb dX11_hung_109 hl (by decide) rfl (fun ls hl => ?_)
                    refine x_iinc (lv' := [(6, .int (xJ (i6_84 + 1))), (5, .int (xJ x30)), (0, .ref (h0 + 268)), (1, .int (xJ x)), (2, .int (xJ i2_19)), (3, .int (xJ i3_19)), (4, .int (xJ i4_19))]) hx hb hl 6 rfl dX11_hung_111 (by decide) rfl (fun ls hl => ?_)
                    refine lv_goto (tgt := 84) hx hb dX11_hung_114 (by decide) ?_
                    exact ih84 x30 (i6_84 + 1) ls (by omega) (by omega) (by omega) (by omega) (by omega) (by omega)  (lv_sub hl [2, 3, 4, 5, 6, 1, 0] rfl)
                exact L84 ((100 + 1 - 0 : Int).toNat + 1) 0 0 ls (by decide) (by decide) (by omega) (by omega) (by omega) (Nat.lt_succ_self _)  (lv_sub hl [2, 3, 4, 5, 6, 1, 0] rfl)
              refine x_aload_n hx hb hl 0 rfl dX11_hung_55 rfl ?_
              refine x_iload hx hb hl 5 rfl dX11_hung_56 ?_
              refine x_goi (x_runV (As := [.int (xJ i5_49)]) hx hb hml hown hT hE hW hl.1 (Or.inl (by decide)) (so_268 h0 g _) rfl cf_X11_isJudge wq1409 wq109 wq1407 (c_X11_isJudge l D g T h0 s_49 hW.2.1 i5_49 ri5_49 q49_2 q49_3 q49_4) ⟨rfl, rfl, ⟨by decide, by decide⟩, ⟨by decide, by decide⟩⟩ rfl rfl (Nat.le_of_ble_eq_true rfl) dX11_hung_58) hW (fun x31 s32 H locs rx31 hp33 hW => ?_)
              obtain ⟨es32, hp33⟩ := hp33
              subst es32
              have ghp33 := hp33
              refine x_if_eq (tgt := 72) hx hb rx31 dX11_hung_61 (by decide) (fun c34 => ?_) (fun c34 => ?_)
              · skip
                refine x_iinc (lv' := [(5, .int (xJ (i5_49 + 1))), (0, .ref (h0 + 268)), (1, .int (xJ x)), (2, .int (xJ i2_19)), (3, .int (xJ i3_19)), (4, .int (xJ i4_19))]) hx hb hl 5 rfl dX11_hung_72 (by decide) rfl (fun ls hl => ?_)
                refine lv_goto (tgt := 49) hx hb dX11_hung_75 (by decide) ?_
                exact ih49 (i5_49 + 1) s_49 H locs ls (by omega) hF_49 q49_0 q49_1 q49_2 q49_3 q49_4 (by omega) (by omega) (by omega) hW (lv_sub hl [1, 2, 3, 4, 5, 0] rfl)
              refine x_aload_n hx hb hl 0 rfl dX11_hung_64 rfl ?_
              refine x_iload hx hb hl 4 rfl dX11_hung_65 ?_
              refine x_iload hx hb hl 5 rfl dX11_hung_67 ?_
              refine x_gov (x_runV (As := [.int (xJ i4_19), .int (xJ i5_49)]) hx hb hml hown hT hE hW hl.1 (Or.inl (by decide)) (so_268 h0 g _) rfl cf_X11_fallsBehind wq1612 wq145 wq1610 (c_X11_fallsBehind l D g T h0 s_49 hW.2.1 i4_19 ri4_19 i5_49 ri5_49 (by omega) (by omega) q49_2 q49_3 q49_4) ⟨rfl, rfl, ⟨by decide, by decide⟩, ⟨by decide, by decide⟩⟩ rfl rfl (Nat.le_of_ble_eq_true rfl) dX11_hung_69) hW (fun s36 H locs hp37 hW => ?_)
              obtain ⟨fs36, hp37⟩ := hp37
              have hF38 := hF_49.call fs36 (fun k h => by omega)
              have q39 : s36 268 8 = s0 268 8 := (congrFun (fs36 _ (by omega)) _).trans q49_0
              have q40 : s36 268 58 = s0 268 58 := (congrFun (fs36 _ (by omega)) _).trans q49_1
              have ghp37 := hp37.2
              refine x_iinc (lv' := [(5, .int (xJ (i5_49 + 1))), (0, .ref (h0 + 268)), (1, .int (xJ x)), (2, .int (xJ i2_19)), (3, .int (xJ i3_19)), (4, .int (xJ i4_19))]) hx hb hl 5 rfl dX11_hung_72 (by decide) rfl (fun ls hl => ?_)
              refine lv_goto (tgt := 49) hx hb dX11_hung_75 (by decide) ?_
              exact ih49 (i5_49 + 1) s36 H locs ls (by omega) hF38 q39 q40 hp37.1.1 hp37.1.2.1 hp37.1.2.2.1 (by omega) (by omega) (by omega) hW (lv_sub hl [1, 2, 3, 4, 5, 0] rfl)
          exact L49 ((2 + 1 - 0 : Int).toNat + 1) 0 s19 H locs ls (by decide) hF21 q22 q23 hp20.1.1 hp20.1.2.1 hp20.1.2.2.1 (by omega) (by omega) (Nat.lt_succ_self _) hW (lv_sub hl [1, 2, 3, 4, 5, 0] rfl)
        refine lv_goto (tgt := 132) hx hb dX11_hung_35 (by decide) ?_
        refine x_iinc (lv' := [(4, .int (xJ (i4_19 + 1))), (0, .ref (h0 + 268)), (1, .int (xJ x)), (2, .int (xJ i2_19)), (3, .int (xJ i3_19))]) hx hb hl 4 rfl dX11_hung_132 (by decide) rfl (fun ls hl => ?_)
        refine lv_goto (tgt := 19) hx hb dX11_hung_135 (by decide) ?_
        exact ih19 i2_19 i3_19 (i4_19 + 1) s_19 H locs ls ri2_19 ri3_19 (by omega) hF_19 q19_0 q19_1 q19_2 q19_3 q19_4 (by omega) (by omega) (by omega) hW (lv_sub hl [1, 2, 3, 4, 0] rfl)
    exact L19 ((100 + 1 - 0 : Int).toNat + 1) (-2) (-1) 0 s0 H locs ls (by decide) (by decide) (by decide) hF p0 p1 p2 k268_8 k268_58 (by omega) (by omega) (Nat.lt_succ_self _) hW (lv_sub hl [3, 4, 2, 1, 0] rfl)
  refine x_iconst hx hb dX11_hung_9 ?_
  rw [eQ]
  exact x_iret hx hb hr hlk hW (by decide) ⟨hF, ⟨p0, p1, p2, trivial⟩, trivial⟩ dX11_hung_10
set_option maxHeartbeats 4000000 in
set_option maxRecDepth 100000 in
theorem c_X11_servedFirst (l : Launch) (D : va_G) (g : xG) (T : Nat × Nat × Nat) (h0 : Nat) (s0 : xS) (hσ : xRR s0) (f : Int) (rf : xR f) (n : Int) (rn : xR n) (p0 : IMn s0) (p1 : IMk s0) (p2 : IMo s0) : Met l yX11_servedFirst (xws yX11_servedFirst cX11_servedFirst 3 (some .int)) { frames := 9, cells := 0, slots := 0, locals := 209 } (xP [.ref (h0 + 268), .int (xJ f), .int (xJ n)] D g T h0 s0) (xQi D g h0 (fun r τ => xFr (fun k => k = 268 ∨ k = 269 ∨ k = 270 ∨ k = 293 ∨ k = 294 ∨ k = 295 ∨ k = 296 ∨ k = 297 ∨ k = 298 ∨ k = 299) s0 τ ∧ (((IMn τ) ∧ (IMk τ) ∧ (IMo τ) ∧ (τ 268 8 = s0 268 8) ∧ (τ 268 58 = s0 268 58) ∧ True) ∧ (True)))) 0 0 (xA h0) := by
  refine x_met hσ (by decide) (Nat.le_of_ble_eq_true rfl) ?_
  intro p e s m args below meth c hx hb hr hml hown hT hlk hnm hE hW ls hl
  have hl : lv_has ls 3 [(0, .ref (h0 + 268)), (1, .int (xJ f)), (2, .int (xJ n))] := hl
  obtain ⟨Q, eQ⟩ : ∃ Q, Q = MQ below (xQi D g h0 (fun r τ => xFr (fun k => k = 268 ∨ k = 269 ∨ k = 270 ∨ k = 293 ∨ k = 294 ∨ k = 295 ∨ k = 296 ∨ k = 297 ∨ k = 298 ∨ k = 299) s0 τ ∧ (((IMn τ) ∧ (IMk τ) ∧ (IMo τ) ∧ (τ 268 8 = s0 268 8) ∧ (τ 268 58 = s0 268 58) ∧ True) ∧ (True)))) args s 0 0 (xA h0) := ⟨_, rfl⟩
  rw [← eQ]
  generalize hHe : ([] : List Loc) = locs at hW ⊢
  obtain ⟨H, eH⟩ : ∃ H, H = s.heap := ⟨_, rfl⟩
  rw [← eH] at hW ⊢
  have hF : xFr (fun k => k = 268 ∨ k = 269 ∨ k = 270 ∨ k = 293 ∨ k = 294 ∨ k = 295 ∨ k = 296 ∨ k = 297 ∨ k = 298 ∨ k = 299) s0 s0 := xFr.rf
  have k268_8 : s0 268 8 = s0 268 8 := rfl
  have k268_58 : s0 268 58 = s0 268 58 := rfl
  refine x_aload_n hx hb hl 0 rfl dX11_servedFirst_0 rfl ?_
  refine x_get (j := 0) (v := .ref (h0 + 269)) hx hb hown hT hE hW cls_X11 (Or.inl (by decide)) (so_268 h0 g _) (by decide) rfl wq1185 dX11_servedFirst_1 ?_
  refine x_aload_n hx hb hl 0 rfl dX11_servedFirst_4 rfl ?_
  refine x_get (j := 1) (v := .ref (h0 + 270)) hx hb hown hT hE hW cls_X11 (Or.inl (by decide)) (so_268 h0 g _) (by decide) rfl wq1186 dX11_servedFirst_5 ?_
  refine x_gov (x_runS (As := [.ref (h0 + 269), .ref (h0 + 270)]) hx hb hml hown hT hE hW hl.1 cf_X11_copies wq1647 wq1646 (c_X11_copiesA l D g T h0 s0 hW.2.1 p0 p1 p2) ⟨rfl, rfl, ⟨by decide, by decide⟩, ⟨by decide, by decide⟩⟩ rfl rfl (Nat.le_of_ble_eq_true rfl) dX11_servedFirst_8) hW (fun s2 H locs hp3 hW => ?_)
  obtain ⟨fs2, hp3⟩ := hp3
  have hF4 := hF.call fs2 (fun k h => by omega)
  have q5 : s2 268 8 = s0 268 8 := (congrFun (fs2 _ (by omega)) _).trans k268_8
  have q6 : s2 268 58 = s0 268 58 := (congrFun (fs2 _ (by omega)) _).trans k268_58
  have ghp3 := hp3.2
  refine x_aload_n hx hb hl 0 rfl dX11_servedFirst_11 rfl ?_
  refine x_iload_n hx hb hl 1 rfl dX11_servedFirst_12 rfl ?_
  refine x_put (j := 48) hx hb hown hT hE hW cls_X11 (by decide) (fun σ => so_268 h0 g σ) (by decide) (st_X11_48 h0 s2 268 f) (ln_X11_48 h0 _ _) wq1233 rfl rfl rfl rf dX11_servedFirst_13 (fun H locs s7 es7 hW => ?_)
  have q8 : s7 268 8 = s0 268 8 := (show s7 268 8 = s2 268 8 from by rw [es7, xU_j _ _ (by decide)]).trans q5
  have q9 : s7 268 58 = s0 268 58 := (show s7 268 58 = s2 268 58 from by rw [es7, xU_j _ _ (by decide)]).trans q6
  have q10 : IMn s7 := by rw [es7]; exact IMn_268 hp3.1.1 (by omega)
  have q11 : IMk s7 := by rw [es7]; exact IMk_268 hp3.1.2.1 (by omega)
  have q12 : IMo s7 := by rw [es7]; exact IMo_o (by unfold suIMo; omega) hp3.1.2.2.1
  have hF13 := hF4.put es7 (by omega)
  refine x_aload_n hx hb hl 0 rfl dX11_servedFirst_16 rfl ?_
  refine x_iload_n hx hb hl 2 rfl dX11_servedFirst_17 rfl ?_
  refine x_gov (x_runV (As := [.int (xJ n)]) hx hb hml hown hT hE hW hl.1 (Or.inl (by decide)) (so_268 h0 g _) rfl cf_X11_minutesGo wq1539 wq130 wq1537 (c_X11_minutesGo l D g T h0 s7 hW.2.1 n rn q10 q11 q12) ⟨rfl, rfl, ⟨by decide, by decide⟩, ⟨by decide, by decide⟩⟩ rfl rfl (Nat.le_of_ble_eq_true rfl) dX11_servedFirst_18) hW (fun s15 H locs hp16 hW => ?_)
  obtain ⟨fs15, hp16⟩ := hp16
  have hF17 := hF13.call fs15 (fun k h => by omega)
  have ghp16 := hp16.2
  refine x_aload_n hx hb hl 0 rfl dX11_servedFirst_21 rfl ?_
  refine x_iconst hx hb dX11_servedFirst_22 ?_
  refine x_put (j := 48) hx hb hown hT hE hW cls_X11 (by decide) (fun σ => so_268 h0 g σ) (by decide) (st_X11_48 h0 s15 268 (-1)) (ln_X11_48 h0 _ _) wq1233 rfl rfl rfl (by decide) dX11_servedFirst_23 (fun H locs s18 es18 hW => ?_)
  have q19 : IMn s18 := by rw [es18]; exact IMn_268 hp16.1.1 (by omega)
  have q20 : IMk s18 := by rw [es18]; exact IMk_268 hp16.1.2.1 (by omega)
  have q21 : IMo s18 := by rw [es18]; exact IMo_o (by unfold suIMo; omega) hp16.1.2.2.1
  have q22 : s18 268 8 = s0 268 8 := (show s18 268 8 = s15 268 8 from by rw [es18, xU_j _ _ (by decide)]).trans (hp16.1.2.2.2.1.trans q8)
  have q23 : s18 268 58 = s0 268 58 := (show s18 268 58 = s15 268 58 from by rw [es18, xU_j _ _ (by decide)]).trans (hp16.1.2.2.2.2.1.trans q9)
  have hF24 := hF17.put es18 (by omega)
  refine x_aload_n hx hb hl 0 rfl dX11_servedFirst_26 rfl ?_
  refine x_get (j := 1) (v := .ref (h0 + 270)) hx hb hown hT hE hW cls_X11 (Or.inl (by decide)) (so_268 h0 g _) (by decide) rfl wq1186 dX11_servedFirst_27 ?_
  refine x_aload_n hx hb hl 0 rfl dX11_servedFirst_30 rfl ?_
  refine x_get (j := 0) (v := .ref (h0 + 269)) hx hb hown hT hE hW cls_X11 (Or.inl (by decide)) (so_268 h0 g _) (by decide) rfl wq1185 dX11_servedFirst_31 ?_
  refine x_gov (x_runS (As := [.ref (h0 + 270), .ref (h0 + 269)]) hx hb hml hown hT hE hW hl.1 cf_X11_copies wq1647 wq1646 (c_X11_copiesB l D g T h0 s18 hW.2.1 q19 q20 q21) ⟨rfl, rfl, ⟨by decide, by decide⟩, ⟨by decide, by decide⟩⟩ rfl rfl (Nat.le_of_ble_eq_true rfl) dX11_servedFirst_34) hW (fun s26 H locs hp27 hW => ?_)
  obtain ⟨fs26, hp27⟩ := hp27
  have hF28 := hF24.call fs26 (fun k h => by omega)
  have q29 : s26 268 8 = s0 268 8 := (congrFun (fs26 _ (by omega)) _).trans q22
  have q30 : s26 268 58 = s0 268 58 := (congrFun (fs26 _ (by omega)) _).trans q23
  have ghp27 := hp27.2
  refine x_aload_n hx hb hl 0 rfl dX11_servedFirst_37 rfl ?_
  refine x_get (j := 41) (v := .int (xJ (s26 268 41))) hx hb hown hT hE hW cls_X11 (Or.inl (by decide)) (so_268 h0 g _) (by decide) rfl wq1226 dX11_servedFirst_38 ?_
  refine x_rd hW (fun x31 ex31 rx31 => ?_)
  rw [eQ]
  exact x_iret hx hb hr hlk hW rx31 ⟨hF28, ⟨hp27.1.1, hp27.1.2.1, hp27.1.2.2.1, q29, q30, trivial⟩, trivial⟩ dX11_servedFirst_41
set_option maxHeartbeats 4000000 in
set_option maxRecDepth 100000 in
theorem c_X11_first (l : Launch) (D : va_G) (g : xG) (T : Nat × Nat × Nat) (h0 : Nat) (s0 : xS) (hσ : xRR s0) (n : Int) (rn : xR n) (x : Int) (rx : xR x) (p0 : IMn s0) (p1 : IMk s0) (p2 : IMo s0) : Met l yX11_first (xws yX11_first cX11_first 7 (some .int)) { frames := 10, cells := 0, slots := 0, locals := 231 } (xP [.ref (h0 + 268), .int (xJ n), .int (xJ x)] D g T h0 s0) (xQi D g h0 (fun r τ => xFr (fun k => k = 268 ∨ k = 269 ∨ k = 270 ∨ k = 293 ∨ k = 294 ∨ k = 295 ∨ k = 296 ∨ k = 297 ∨ k = 298 ∨ k = 299) s0 τ ∧ (((IMn τ) ∧ (IMk τ) ∧ (IMo τ) ∧ (τ 268 8 = s0 268 8) ∧ (τ 268 58 = s0 268 58) ∧ True) ∧ (True)))) 0 0 (xA h0) := by
  refine x_met hσ (by decide) (Nat.le_of_ble_eq_true rfl) ?_
  intro p e s m args below meth c hx hb hr hml hown hT hlk hnm hE hW ls hl
  have hl : lv_has ls 7 [(0, .ref (h0 + 268)), (1, .int (xJ n)), (2, .int (xJ x))] := hl
  obtain ⟨Q, eQ⟩ : ∃ Q, Q = MQ below (xQi D g h0 (fun r τ => xFr (fun k => k = 268 ∨ k = 269 ∨ k = 270 ∨ k = 293 ∨ k = 294 ∨ k = 295 ∨ k = 296 ∨ k = 297 ∨ k = 298 ∨ k = 299) s0 τ ∧ (((IMn τ) ∧ (IMk τ) ∧ (IMo τ) ∧ (τ 268 8 = s0 268 8) ∧ (τ 268 58 = s0 268 58) ∧ True) ∧ (True)))) args s 0 0 (xA h0) := ⟨_, rfl⟩
  rw [← eQ]
  generalize hHe : ([] : List Loc) = locs at hW ⊢
  obtain ⟨H, eH⟩ : ∃ H, H = s.heap := ⟨_, rfl⟩
  rw [← eH] at hW ⊢
  have hF : xFr (fun k => k = 268 ∨ k = 269 ∨ k = 270 ∨ k = 293 ∨ k = 294 ∨ k = 295 ∨ k = 296 ∨ k = 297 ∨ k = 298 ∨ k = 299) s0 s0 := xFr.rf
  have k268_8 : s0 268 8 = s0 268 8 := rfl
  have k268_58 : s0 268 58 = s0 268 58 := rfl
  refine x_iload_n hx hb hl 1 rfl dX11_first_0 rfl ?_
  refine x_iconst hx hb dX11_first_1 ?_
  refine x_bipush hx hb dX11_first_2 (by decide) ?_
  refine x_goi (x_runS (As := [.int (xJ n), .int (xJ 1), .int (xJ 60)]) hx hb hml hown hT hE hW hl.1 cf_X11_in wq1383 wq1382 (c_X11_in l D g T h0 s0 hW.2.1 n rn 1 (by decide) 60 (by decide)) ⟨rfl, rfl, ⟨by decide, by decide⟩, ⟨by decide, by decide⟩⟩ rfl rfl (Nat.le_of_ble_eq_true rfl) dX11_first_4) hW (fun x1 s2 H locs rx1 hp3 hW => ?_)
  obtain ⟨es2, hp3⟩ := hp3
  subst es2
  have ghp3 := hp3
  refine x_if_eq (tgt := 19) hx hb rx1 dX11_first_7 (by decide) (fun c4 => ?_) (fun c4 => ?_)
  · skip
    refine x_iconst hx hb dX11_first_19 ?_
    rw [eQ]
    exact x_iret hx hb hr hlk hW (by decide) ⟨hF, ⟨p0, p1, p2, k268_8, k268_58, trivial⟩, trivial⟩ dX11_first_20
  refine x_iload_n hx hb hl 2 rfl dX11_first_10 rfl ?_
  refine x_iconst hx hb dX11_first_11 ?_
  refine x_iconst hx hb dX11_first_12 ?_
  refine x_goi (x_runS (As := [.int (xJ x), .int (xJ 0), .int (xJ 1)]) hx hb hml hown hT hE hW hl.1 cf_X11_in wq1383 wq1382 (c_X11_in l D g T h0 s0 hW.2.1 x rx 0 (by decide) 1 (by decide)) ⟨rfl, rfl, ⟨by decide, by decide⟩, ⟨by decide, by decide⟩⟩ rfl rfl (Nat.le_of_ble_eq_true rfl) dX11_first_13) hW (fun x5 s6 H locs rx5 hp7 hW => ?_)
  obtain ⟨es6, hp7⟩ := hp7
  subst es6
  have ghp7 := hp7
  refine x_if_ne (tgt := 21) hx hb rx5 dX11_first_16 (by decide) (fun c8 => ?_) (fun c8 => ?_)
  · skip
    refine x_bipush hx hb dX11_first_21 (by decide) ?_
    refine lv_istore_n (lv' := [(3, .int (xJ (-2))), (0, .ref (h0 + 268)), (1, .int (xJ n)), (2, .int (xJ x))]) hx hb dX11_first_23 rfl hl (by decide) rfl (fun ls hl => ?_)
    refine x_aload_n hx hb hl 1 rfl dX11_first_24 rfl ?_
    refine x_iconst hx hb dX11_first_25 ?_
    refine x_iload_n hx hb hl 2 rfl dX11_first_26 rfl ?_
    refine x_goi (x_runV (As := [.int (xJ (-1)), .int (xJ n)]) hx hb hml hown hT hE hW hl.1 (Or.inl (by decide)) (so_268 h0 g _) rfl cf_X11_servedFirst wq1716 wq159 wq1714 (c_X11_servedFirst l D g T h0 s0 hW.2.1 (-1) (by decide) n rn p0 p1 p2) ⟨rfl, rfl, ⟨by decide, by decide⟩, ⟨by decide, by decide⟩⟩ rfl rfl (Nat.le_of_ble_eq_true rfl) dX11_first_27) hW (fun x9 s10 H locs rx9 hp11 hW => ?_)
    obtain ⟨fs10, hp11⟩ := hp11
    have hF12 := hF.call fs10 (fun k h => by omega)
    have ghp11 := hp11.2
    refine lv_istore (lv' := [(4, .int (xJ x9)), (3, .int (xJ (-2))), (0, .ref (h0 + 268)), (1, .int (xJ n)), (2, .int (xJ x))]) hx hb dX11_first_30 hl (by decide) rfl (fun ls hl => ?_)
    refine x_iconst hx hb dX11_first_32 ?_
    refine lv_istore (lv' := [(5, .int (xJ 0)), (4, .int (xJ x9)), (3, .int (xJ (-2))), (0, .ref (h0 + 268)), (1, .int (xJ n)), (2, .int (xJ x))]) hx hb dX11_first_33 hl (by decide) rfl (fun ls hl => ?_)
    have L35 : ∀ (fu : Nat) (i3_35 : Int) (i4_35 : Int) (i5_35 : Int) (s_35 : xS) (H : Heap) (locs : List Loc) (ls : Array Slot), (xR i3_35) → (xR i4_35) → (xR i5_35) → (xFr (fun k => k = 268 ∨ k = 269 ∨ k = 270 ∨ k = 293 ∨ k = 294 ∨ k = 295 ∨ k = 296 ∨ k = 297 ∨ k = 298 ∨ k = 299) s0 s_35) → (IMn s_35) → (IMk s_35) → (IMo s_35) → (s_35 268 8 = s0 268 8) → (s_35 268 58 = s0 268 58) → (0 ≤ i5_35) → (i5_35 ≤ 10) → (10 + 1 - i5_35).toNat < fu → xW D g h0 s H locs s_35 → lv_has ls 7 [(0, .ref (h0 + 268)), (1, .int (xJ n)), (2, .int (xJ x)), (3, .int (xJ i3_35)), (4, .int (xJ i4_35)), (5, .int (xJ i5_35))] → W p l e { frames := 10, cells := 0, slots := 0, locals := 231 } s m args below meth c H locs 0 0 Q (F0 m 35 ls []) := by
      intro fu
      induction fu with
      | zero => intro i3_35 i4_35 i5_35 s_35 H locs ls ri3_35 ri4_35 ri5_35 hF_35 q35_0 q35_1 q35_2 q35_3 q35_4 v35_0 v35_1 hm; exact absurd hm (Nat.not_lt_zero _)
      | succ fu ih35 =>
        intro i3_35 i4_35 i5_35 s_35 H locs ls ri3_35 ri4_35 ri5_35 hF_35 q35_0 q35_1 q35_2 q35_3 q35_4 v35_0 v35_1 hm hW hl
        refine x_iload hx hb hl 5 rfl dX11_first_35 ?_
        refine x_bipush hx hb dX11_first_37 (by decide) ?_
        refine x_icmp_ge (tgt := 86) hx hb ri5_35 (by decide) dX11_first_39 (by decide) (fun c13 => ?_) (fun c13 => ?_)
        · skip
          refine x_iload_n hx hb hl 2 rfl dX11_first_86 rfl ?_
          refine x_if_ne (tgt := 94) hx hb rx dX11_first_87 (by decide) (fun c14 => ?_) (fun c14 => ?_)
          · skip
            refine x_iload hx hb hl 4 rfl dX11_first_94 ?_
            rw [eQ]
            exact x_iret hx hb hr hlk hW ri4_35 ⟨hF_35, ⟨q35_0, q35_1, q35_2, q35_3, q35_4, trivial⟩, trivial⟩ dX11_first_96
          refine x_iload_n hx hb hl 3 rfl dX11_first_90 rfl ?_
          refine lv_goto (tgt := 96) hx hb dX11_first_91 (by decide) ?_
          rw [eQ]
          exact x_iret hx hb hr hlk hW ri3_35 ⟨hF_35, ⟨q35_0, q35_1, q35_2, q35_3, q35_4, trivial⟩, trivial⟩ dX11_first_96
        refine x_aload_n hx hb hl 0 rfl dX11_first_42 rfl ?_
        refine x_iload hx hb hl 5 rfl dX11_first_43 ?_
        refine x_goi (x_runV (As := [.int (xJ i5_35)]) hx hb hml hown hT hE hW hl.1 (Or.inl (by decide)) (so_268 h0 g _) rfl cf_X11_owes wq1620 wq147 wq1618 (c_X11_owes l D g T h0 s_35 hW.2.1 i5_35 ri5_35 q35_0 q35_1 q35_2) ⟨rfl, rfl, ⟨by decide, by decide⟩, ⟨by decide, by decide⟩⟩ rfl rfl (Nat.le_of_ble_eq_true rfl) dX11_first_45) hW (fun x15 s16 H locs rx15 hp17 hW => ?_)
        obtain ⟨es16, hp17⟩ := hp17
        subst es16
        have ghp17 := hp17
        refine x_if_ne (tgt := 54) hx hb rx15 dX11_first_48 (by decide) (fun c18 => ?_) (fun c18 => ?_)
        · skip
          refine x_aload_n hx hb hl 0 rfl dX11_first_54 rfl ?_
          refine x_iload hx hb hl 5 rfl dX11_first_55 ?_
          refine x_iload_n hx hb hl 1 rfl dX11_first_57 rfl ?_
          refine x_goi (x_runV (As := [.int (xJ i5_35), .int (xJ n)]) hx hb hml hown hT hE hW hl.1 (Or.inl (by decide)) (so_268 h0 g _) rfl cf_X11_servedFirst wq1716 wq159 wq1714 (c_X11_servedFirst l D g T h0 s_35 hW.2.1 i5_35 ri5_35 n rn q35_0 q35_1 q35_2) ⟨rfl, rfl, ⟨by decide, by decide⟩, ⟨by decide, by decide⟩⟩ rfl rfl (Nat.le_of_ble_eq_true rfl) dX11_first_58) hW (fun x19 s20 H locs rx19 hp21 hW => ?_)
          obtain ⟨fs20, hp21⟩ := hp21
          have hF22 := hF_35.call fs20 (fun k h => by omega)
          have ghp21 := hp21.2
          refine lv_istore (lv' := [(6, .int (xJ x19)), (0, .ref (h0 + 268)), (1, .int (xJ n)), (2, .int (xJ x)), (3, .int (xJ i3_35)), (4, .int (xJ i4_35)), (5, .int (xJ i5_35))]) hx hb dX11_first_61 hl (by decide) rfl (fun ls hl => ?_)
          refine x_iload hx hb hl 0 rfl dX11_first_63 ?_
          refine x_iload hx hb hl 5 rfl dX11_first_65 ?_
          refine x_icmp_gt (tgt := 73) hx hb rx19 ri4_35 dX11_first_67 (by decide) (fun c23 => ?_) (fun c23 => ?_)
          · skip
            refine x_iload hx hb hl 0 rfl dX11_first_73 ?_
            refine lv_istore (lv' := [(4, .int (xJ x19)), (6, .int (xJ x19)), (0, .ref (h0 + 268)), (1, .int (xJ n)), (2, .int (xJ x)), (3, .int (xJ i3_35)), (5, .int (xJ i5_35))]) hx hb dX11_first_75 hl (by decide) rfl (fun ls hl => ?_)
            refine x_iload hx hb hl 6 rfl dX11_first_77 ?_
            refine lv_istore_n (lv' := [(3, .int (xJ i5_35)), (4, .int (xJ x19)), (6, .int (xJ x19)), (0, .ref (h0 + 268)), (1, .int (xJ n)), (2, .int (xJ x)), (5, .int (xJ i5_35))]) hx hb dX11_first_79 rfl hl (by decide) rfl (fun ls hl => ?_)
            refine x_iinc (lv' := [(5, .int (xJ (i5_35 + 1))), (3, .int (xJ i5_35)), (4, .int (xJ x19)), (6, .int (xJ x19)), (0, .ref (h0 + 268)), (1, .int (xJ n)), (2, .int (xJ x))]) hx hb hl 6 rfl dX11_first_80 (by decide) rfl (fun ls hl => ?_)
            refine lv_goto (tgt := 35) hx hb dX11_first_83 (by decide) ?_
            exact ih35 i5_35 x19 (i5_35 + 1) s20 H locs ls ri5_35 rx19 (by omega) hF22 hp21.1.1 hp21.1.2.1 hp21.1.2.2.1 (hp21.1.2.2.2.1.trans q35_3) (hp21.1.2.2.2.2.1.trans q35_4) (by omega) (by omega) (by omega) hW (lv_sub hl [4, 5, 6, 1, 2, 0] rfl)
          refine lv_goto (tgt := 80) hx hb dX11_first_70 (by decide) ?_
          refine x_iinc (lv' := [(5, .int (xJ (i5_35 + 1))), (6, .int (xJ x19)), (0, .ref (h0 + 268)), (1, .int (xJ n)), (2, .int (xJ x)), (3, .int (xJ i3_35)), (4, .int (xJ i4_35))]) hx hb hl 6 rfl dX11_first_80 (by decide) rfl (fun ls hl => ?_)
          refine lv_goto (tgt := 35) hx hb dX11_first_83 (by decide) ?_
          exact ih35 i3_35 i4_35 (i5_35 + 1) s20 H locs ls ri3_35 ri4_35 (by omega) hF22 hp21.1.1 hp21.1.2.1 hp21.1.2.2.1 (hp21.1.2.2.2.1.trans q35_3) (hp21.1.2.2.2.2.1.trans q35_4) (by omega) (by omega) (by omega) hW (lv_sub hl [2, 3, 4, 5, 6, 0] rfl)
        refine lv_goto (tgt := 80) hx hb dX11_first_51 (by decide) ?_
        refine x_iinc (lv' := [(5, .int (xJ (i5_35 + 1))), (0, .ref (h0 + 268)), (1, .int (xJ n)), (2, .int (xJ x)), (3, .int (xJ i3_35)), (4, .int (xJ i4_35))]) hx hb hl 5 rfl dX11_first_80 (by decide) rfl (fun ls hl => ?_)
        refine lv_goto (tgt := 35) hx hb dX11_first_83 (by decide) ?_
        exact ih35 i3_35 i4_35 (i5_35 + 1) s_35 H locs ls ri3_35 ri4_35 (by omega) hF_35 q35_0 q35_1 q35_2 q35_3 q35_4 (by omega) (by omega) (by omega) hW (lv_sub hl [1, 2, 3, 4, 5, 0] rfl)
    exact L35 ((10 + 1 - 0 : Int).toNat + 1) (-2) x9 0 s10 H locs ls (by decide) rx9 (by decide) hF12 hp11.1.1 hp11.1.2.1 hp11.1.2.2.1 (hp11.1.2.2.2.1.trans k268_8) (hp11.1.2.2.2.2.1.trans k268_58) (by omega) (by omega) (Nat.lt_succ_self _) hW (lv_sub hl [3, 4, 5, 2, 1, 0] rfl)
  refine x_iconst hx hb dX11_first_19 ?_
  rw [eQ]
  exact x_iret hx hb hr hlk hW (by decide) ⟨hF, ⟨p0, p1, p2, k268_8, k268_58, trivial⟩, trivial⟩ dX11_first_20
set_option maxHeartbeats 4000000 in
set_option maxRecDepth 100000 in
theorem c_X11_laysDark (l : Launch) (D : va_G) (g : xG) (T : Nat × Nat × Nat) (h0 : Nat) (s0 : xS) (hσ : xRR s0) (n : Int) (rn : xR n) (hn : 1 ≤ n ∧ n ≤ 60) (p0 : IMn s0) (p1 : IMk s0) (p2 : IMo s0) : Met l yX11_laysDark (xws yX11_laysDark cX11_laysDark 4 none) { frames := 5, cells := 0, slots := 0, locals := 114 } (xP [.ref (h0 + 268), .int (xJ n)] D g T h0 s0) (xQv D g h0 (fun τ => xFr (fun k => k = 269 ∨ k = 270 ∨ k = 293 ∨ k = 294 ∨ k = 295 ∨ k = 305) s0 τ ∧ (((IMn τ) ∧ (IMk τ) ∧ (IMo τ) ∧ True) ∧ (True)))) 0 0 (xA h0) := by
  refine x_met hσ (by decide) (Nat.le_of_ble_eq_true rfl) ?_
  intro p e s m args below meth c hx hb hr hml hown hT hlk hnm hE hW ls hl
  have hl : lv_has ls 4 [(0, .ref (h0 + 268)), (1, .int (xJ n))] := hl
  obtain ⟨Q, eQ⟩ : ∃ Q, Q = MQ below (xQv D g h0 (fun τ => xFr (fun k => k = 269 ∨ k = 270 ∨ k = 293 ∨ k = 294 ∨ k = 295 ∨ k = 305) s0 τ ∧ (((IMn τ) ∧ (IMk τ) ∧ (IMo τ) ∧ True) ∧ (True)))) args s 0 0 (xA h0) := ⟨_, rfl⟩
  rw [← eQ]
  generalize hHe : ([] : List Loc) = locs at hW ⊢
  obtain ⟨H, eH⟩ : ∃ H, H = s.heap := ⟨_, rfl⟩
  rw [← eH] at hW ⊢
  have hF : xFr (fun k => k = 269 ∨ k = 270 ∨ k = 293 ∨ k = 294 ∨ k = 295 ∨ k = 305) s0 s0 := xFr.rf
  have k268_8 : s0 268 8 = s0 268 8 := rfl
  have k268_58 : s0 268 58 = s0 268 58 := rfl
  refine x_iconst hx hb dX11_laysDark_0 ?_
  refine lv_istore_n (lv' := [(2, .int (xJ 0)), (0, .ref (h0 + 268)), (1, .int (xJ n))]) hx hb dX11_laysDark_1 rfl hl (by decide) rfl (fun ls hl => ?_)
  have L2 : ∀ (fu : Nat) (i2_2 : Int) (s_2 : xS) (H : Heap) (locs : List Loc) (ls : Array Slot), (xR i2_2) → (xFr (fun k => k = 269 ∨ k = 270 ∨ k = 293 ∨ k = 294 ∨ k = 295 ∨ k = 305) s0 s_2) → (IMn s_2) → (IMk s_2) → (IMo s_2) → (s_2 268 8 = s0 268 8) → (s_2 268 58 = s0 268 58) → (0 ≤ i2_2) → (i2_2 ≤ 100) → (100 + 1 - i2_2).toNat < fu → xW D g h0 s H locs s_2 → lv_has ls 4 [(0, .ref (h0 + 268)), (1, .int (xJ n)), (2, .int (xJ i2_2))] → W p l e { frames := 5, cells := 0, slots := 0, locals := 114 } s m args below meth c H locs 0 0 Q (F0 m 2 ls []) := by
    intro fu
    induction fu with
    | zero => intro i2_2 s_2 H locs ls ri2_2 hF_2 q2_0 q2_1 q2_2 q2_3 q2_4 v2_0 v2_1 hm; exact absurd hm (Nat.not_lt_zero _)
    | succ fu ih2 =>
      intro i2_2 s_2 H locs ls ri2_2 hF_2 q2_0 q2_1 q2_2 q2_3 q2_4 v2_0 v2_1 hm hW hl
      refine x_iload_n hx hb hl 2 rfl dX11_laysDark_2 rfl ?_
      refine x_bipush hx hb dX11_laysDark_3 (by decide) ?_
      refine x_icmp_ge (tgt := 21) hx hb ri2_2 (by decide) dX11_laysDark_5 (by decide) (fun c1 => ?_) (fun c1 => ?_)
      · skip
        refine x_aload_n hx hb hl 0 rfl dX11_laysDark_21 rfl ?_
        refine x_get (j := 0) (v := .ref (h0 + 269)) hx hb hown hT hE hW cls_X11 (Or.inl (by decide)) (so_268 h0 g _) (by decide) rfl wq1185 dX11_laysDark_22 ?_
        refine x_aload_n hx hb hl 0 rfl dX11_laysDark_25 rfl ?_
        refine x_get (j := 1) (v := .ref (h0 + 270)) hx hb hown hT hE hW cls_X11 (Or.inl (by decide)) (so_268 h0 g _) (by decide) rfl wq1186 dX11_laysDark_26 ?_
        refine x_gov (x_runS (As := [.ref (h0 + 269), .ref (h0 + 270)]) hx hb hml hown hT hE hW hl.1 cf_X11_copies wq1647 wq1646 (c_X11_copiesA l D g T h0 s_2 hW.2.1 q2_0 q2_1 q2_2) ⟨rfl, rfl, ⟨by decide, by decide⟩, ⟨by decide, by decide⟩⟩ rfl rfl (Nat.le_of_ble_eq_true rfl) dX11_laysDark_29) hW (fun s3 H locs hp4 hW => ?_)
        obtain ⟨fs3, hp4⟩ := hp4
        have hF5 := hF_2.call fs3 (fun k h => by omega)
        have q6 : s3 268 8 = s0 268 8 := (congrFun (fs3 _ (by omega)) _).trans q2_3
        have q7 : s3 268 58 = s0 268 58 := (congrFun (fs3 _ (by omega)) _).trans q2_4
        have ghp4 := hp4.2
        refine x_iconst hx hb dX11_laysDark_32 ?_
        refine lv_istore_n (lv' := [(2, .int (xJ 0)), (0, .ref (h0 + 268)), (1, .int (xJ n))]) hx hb dX11_laysDark_33 rfl hl (by decide) rfl (fun ls hl => ?_)
        have L34 : ∀ (fu : Nat) (i2_34 : Int) (s_34 : xS) (H : Heap) (locs : List Loc) (ls : Array Slot), (xR i2_34) → (xFr (fun k => k = 269 ∨ k = 270 ∨ k = 293 ∨ k = 294 ∨ k = 295 ∨ k = 305) s0 s_34) → (s_34 268 8 = s0 268 8) → (s_34 268 58 = s0 268 58) → (IMn s_34) → (IMk s_34) → (IMo s_34) → (0 ≤ i2_34) → (n + 1 - i2_34).toNat < fu → xW D g h0 s H locs s_34 → lv_has ls 4 [(0, .ref (h0 + 268)), (1, .int (xJ n)), (2, .int (xJ i2_34))] → W p l e { frames := 5, cells := 0, slots := 0, locals := 114 } s m args below meth c H locs 0 0 Q (F0 m 34 ls []) := by
          intro fu
          induction fu with
          | zero => intro i2_34 s_34 H locs ls ri2_34 hF_34 q34_0 q34_1 q34_2 q34_3 q34_4 v34_0 hm; exact absurd hm (Nat.not_lt_zero _)
          | succ fu ih34 =>
            intro i2_34 s_34 H locs ls ri2_34 hF_34 q34_0 q34_1 q34_2 q34_3 q34_4 v34_0 hm hW hl
            refine x_iload_n hx hb hl 2 rfl dX11_laysDark_34 rfl ?_
            refine x_iload_n hx hb hl 1 rfl dX11_laysDark_35 rfl ?_
            refine x_icmp_ge (tgt := 135) hx hb ri2_34 rn dX11_laysDark_36 (by decide) (fun c8 => ?_) (fun c8 => ?_)
            · skip
              refine x_aload_n hx hb hl 0 rfl dX11_laysDark_135 rfl ?_
              refine x_get (j := 1) (v := .ref (h0 + 270)) hx hb hown hT hE hW cls_X11 (Or.inl (by decide)) (so_268 h0 g _) (by decide) rfl wq1186 dX11_laysDark_136 ?_
              refine x_aload_n hx hb hl 0 rfl dX11_laysDark_139 rfl ?_
              refine x_get (j := 0) (v := .ref (h0 + 269)) hx hb hown hT hE hW cls_X11 (Or.inl (by decide)) (so_268 h0 g _) (by decide) rfl wq1185 dX11_laysDark_140 ?_
              refine x_gov (x_runS (As := [.ref (h0 + 270), .ref (h0 + 269)]) hx hb hml hown hT hE hW hl.1 cf_X11_copies wq1647 wq1646 (c_X11_copiesB l D g T h0 s_34 hW.2.1 q34_2 q34_3 q34_4) ⟨rfl, rfl, ⟨by decide, by decide⟩, ⟨by decide, by decide⟩⟩ rfl rfl (Nat.le_of_ble_eq_true rfl) dX11_laysDark_143) hW (fun s10 H locs hp11 hW => ?_)
              obtain ⟨fs10, hp11⟩ := hp11
              have hF12 := hF_34.call fs10 (fun k h => by omega)
              have q13 : s10 268 8 = s0 268 8 := (congrFun (fs10 _ (by omega)) _).trans q34_0
              have q14 : s10 268 58 = s0 268 58 := (congrFun (fs10 _ (by omega)) _).trans q34_1
              have ghp11 := hp11.2
              rw [eQ]
              exact x_vret hx hb hr hlk hW ⟨hF12, ⟨hp11.1.1, hp11.1.2.1, hp11.1.2.2.1, trivial⟩, trivial⟩ dX11_laysDark_146
            refine x_aload_n hx hb hl 0 rfl dX11_laysDark_39 rfl ?_
            refine x_iconst hx hb dX11_laysDark_40 ?_
            refine x_gov (x_runV (As := [.int (xJ 0)]) hx hb hml hown hT hE hW hl.1 (Or.inl (by decide)) (so_268 h0 g _) rfl cf_X11_walksOn wq1547 wq132 wq1545 (c_X11_walksOn l D g T h0 s_34 hW.2.1 0 (by decide) (by omega) q34_2 q34_3 q34_4) ⟨rfl, rfl, ⟨by decide, by decide⟩, ⟨by decide, by decide⟩⟩ rfl rfl (Nat.le_of_ble_eq_true rfl) dX11_laysDark_41) hW (fun s16 H locs hp17 hW => ?_)
            obtain ⟨fs16, hp17⟩ := hp17
            have hF18 := hF_34.call fs16 (fun k h => by omega)
            have q19 : s16 268 8 = s0 268 8 := (congrFun (fs16 _ (by omega)) _).trans q34_0
            have q20 : s16 268 58 = s0 268 58 := (congrFun (fs16 _ (by omega)) _).trans q34_1
            have ghp17 := hp17.2
            refine x_aload_n hx hb hl 0 rfl dX11_laysDark_44 rfl ?_
            refine x_iconst hx hb dX11_laysDark_45 ?_
            refine x_gov (x_runV (As := [.int (xJ 1)]) hx hb hml hown hT hE hW hl.1 (Or.inl (by decide)) (so_268 h0 g _) rfl cf_X11_walksOn wq1547 wq132 wq1545 (c_X11_walksOn l D g T h0 s16 hW.2.1 1 (by decide) (by omega) hp17.1.1 hp17.1.2.1 hp17.1.2.2.1) ⟨rfl, rfl, ⟨by decide, by decide⟩, ⟨by decide, by decide⟩⟩ rfl rfl (Nat.le_of_ble_eq_true rfl) dX11_laysDark_46) hW (fun s22 H locs hp23 hW => ?_)
            obtain ⟨fs22, hp23⟩ := hp23
            have hF24 := hF18.call fs22 (fun k h => by omega)
            have q25 : s22 268 8 = s0 268 8 := (congrFun (fs22 _ (by omega)) _).trans q19
            have q26 : s22 268 58 = s0 268 58 := (congrFun (fs22 _ (by omega)) _).trans q20
            have ghp23 := hp23.2
            refine x_aload_n hx hb hl 0 rfl dX11_laysDark_49 rfl ?_
            refine x_gov (x_runV (As := []) hx hb hml hown hT hE hW hl.1 (Or.inl (by decide)) (so_268 h0 g _) rfl cf_X11_bares wq1592 wq140 wq1590 (c_X11_bares l D g T h0 s22 hW.2.1 hp23.1.1 hp23.1.2.1 hp23.1.2.2.1) ⟨rfl, rfl, ⟨by decide, by decide⟩, ⟨by decide, by decide⟩⟩ rfl rfl (Nat.le_of_ble_eq_true rfl) dX11_laysDark_50) hW (fun s28 H locs hp29 hW => ?_)
            obtain ⟨fs28, hp29⟩ := hp29
            have hF30 := hF24.call fs28 (fun k h => by omega)
            have q31 : s28 268 8 = s0 268 8 := (congrFun (fs28 _ (by omega)) _).trans q25
            have q32 : s28 268 58 = s0 268 58 := (congrFun (fs28 _ (by omega)) _).trans q26
            have q33 : s28 269 37 = s_34 269 37 := (congrFun (fs28 _ (by omega)) _).trans (hp23.1.2.2.2.1.trans hp17.1.2.2.2.1)
            have ghp29 := hp29.2
            refine x_iconst hx hb dX11_laysDark_53 ?_
            refine lv_istore_n (lv' := [(3, .int (xJ 0)), (0, .ref (h0 + 268)), (1, .int (xJ n)), (2, .int (xJ i2_34))]) hx hb dX11_laysDark_54 rfl hl (by decide) rfl (fun ls hl => ?_)
            have L55 : ∀ (fu : Nat) (i3_55 : Int) (s_55 : xS) (H : Heap) (locs : List Loc) (ls : Array Slot), (xR i3_55) → (xFr (fun k => k = 269 ∨ k = 270 ∨ k = 293 ∨ k = 294 ∨ k = 295 ∨ k = 305) s0 s_55) → (s_55 268 8 = s0 268 8) → (s_55 268 58 = s0 268 58) → (s_55 269 37 = s_34 269 37) → (IMn s_55) → (IMk s_55) → (IMo s_55) → (0 ≤ i3_55) → (i3_55 ≤ 2) → (2 + 1 - i3_55).toNat < fu → xW D g h0 s H locs s_55 → lv_has ls 4 [(0, .ref (h0 + 268)), (1, .int (xJ n)), (2, .int (xJ i2_34)), (3, .int (xJ i3_55))] → W p l e { frames := 5, cells := 0, slots := 0, locals := 114 } s m args below meth c H locs 0 0 Q (F0 m 55 ls []) := by
              intro fu
              induction fu with
              | zero => intro i3_55 s_55 H locs ls ri3_55 hF_55 q55_0 q55_1 q55_2 q55_3 q55_4 q55_5 v55_0 v55_1 hm; exact absurd hm (Nat.not_lt_zero _)
              | succ fu ih55 =>
                intro i3_55 s_55 H locs ls ri3_55 hF_55 q55_0 q55_1 q55_2 q55_3 q55_4 q55_5 v55_0 v55_1 hm hW hl
                refine x_iload_n hx hb hl 3 rfl dX11_laysDark_55 rfl ?_
                refine x_iconst hx hb dX11_laysDark_56 ?_
                refine x_icmp_ge (tgt := 88) hx hb ri3_55 (by decide) dX11_laysDark_57 (by decide) (fun c34 => ?_) (fun c34 => ?_)
                · skip
                  refine x_iconst hx hb dX11_laysDark_88 ?_
                  refine lv_istore_n (lv' := [(3, .int (xJ 0)), (0, .ref (h0 + 268)), (1, .int (xJ n)), (2, .int (xJ i2_34))]) hx hb dX11_laysDark_89 rfl hl (by decide) rfl (fun ls hl => ?_)
                  have L90 : ∀ (fu : Nat) (i3_90 : Int) (s_90 : xS) (H : Heap) (locs : List Loc) (ls : Array Slot), (xR i3_90) → (xFr (fun k => k = 269 ∨ k = 270 ∨ k = 293 ∨ k = 294 ∨ k = 295 ∨ k = 305) s0 s_90) → (s_90 268 8 = s0 268 8) → (s_90 268 58 = s0 268 58) → (s_90 269 37 = s_34 269 37) → (IMn s_90) → (IMk s_90) → (IMo s_90) → (0 ≤ i3_90) → (i3_90 ≤ 100) → (100 + 1 - i3_90).toNat < fu → xW D g h0 s H locs s_90 → lv_has ls 4 [(0, .ref (h0 + 268)), (1, .int (xJ n)), (2, .int (xJ i2_34)), (3, .int (xJ i3_90))] → W p l e { frames := 5, cells := 0, slots := 0, locals := 114 } s m args below meth c H locs 0 0 Q (F0 m 90 ls []) := by
                    intro fu
                    induction fu with
                    | zero => intro i3_90 s_90 H locs ls ri3_90 hF_90 q90_0 q90_1 q90_2 q90_3 q90_4 q90_5 v90_0 v90_1 hm; exact absurd hm (Nat.not_lt_zero _)
                    | succ fu ih90 =>
                      intro i3_90 s_90 H locs ls ri3_90 hF_90 q90_0 q90_1 q90_2 q90_3 q90_4 q90_5 v90_0 v90_1 hm hW hl
                      refine x_iload_n hx hb hl 3 rfl dX11_laysDark_90 rfl ?_
                      refine x_bipush hx hb dX11_laysDark_91 (by decide) ?_
                      refine x_icmp_ge (tgt := 129) hx hb ri3_90 (by decide) dX11_laysDark_93 (by decide) (fun c35 => ?_) (fun c35 => ?_)
                      · skip
                        refine x_iinc (lv' := [(2, .int (xJ (i2_34 + 1))), (0, .ref (h0 + 268)), (1, .int (xJ n)), (3, .int (xJ i3_90))]) hx hb hl 2 rfl dX11_laysDark_129 (by decide) rfl (fun ls hl => ?_)
                        refine lv_goto (tgt := 34) hx hb dX11_laysDark_132 (by decide) ?_
                        exact ih34 (i2_34 + 1) s_90 H locs ls (by omega) hF_90 q90_0 q90_1 q90_3 q90_4 q90_5 (by omega) (by omega) hW (lv_sub hl [1, 2, 0] rfl)
                      refine x_aload_n hx hb hl 0 rfl dX11_laysDark_96 rfl ?_
                      refine x_get (j := 55) (v := .ref (h0 + 305)) hx hb hown hT hE hW cls_X11 (Or.inl (by decide)) (so_268 h0 g _) (by decide) rfl wq1240 dX11_laysDark_97 ?_
                      refine x_iload_n hx hb hl 3 rfl dX11_laysDark_100 rfl ?_
                      refine x_aload_n hx hb hl 0 rfl dX11_laysDark_101 rfl ?_
                      refine x_get (j := 55) (v := .ref (h0 + 305)) hx hb hown hT hE hW cls_X11 (Or.inl (by decide)) (so_268 h0 g _) (by decide) rfl wq1240 dX11_laysDark_102 ?_
                      refine x_iload_n hx hb hl 3 rfl dX11_laysDark_105 rfl ?_
                      refine x_iald hx hb hE hW (Or.inl (by decide)) (sa_305 h0 g _) (by omega) (by decide) dX11_laysDark_106 ?_
                      refine x_rd hW (fun x36 ex36 rx36 => ?_)
                      refine x_aload_n hx hb hl 0 rfl dX11_laysDark_107 rfl ?_
                      refine x_get (j := 40) (v := .ref (h0 + 295)) hx hb hown hT hE hW cls_X11 (Or.inl (by decide)) (so_268 h0 g _) (by decide) rfl wq1225 dX11_laysDark_108 ?_
                      refine x_iload_n hx hb hl 3 rfl dX11_laysDark_111 rfl ?_
                      refine x_iald hx hb hE hW (Or.inl (by decide)) (sa_295 h0 g _) (by omega) (by decide) dX11_laysDark_112 ?_
                      refine x_rd hW (fun x37 ex37 rx37 => ?_)
                      refine x_if_le (tgt := 120) hx hb rx37 dX11_laysDark_113 (by decide) (fun c38 => ?_) (fun c38 => ?_)
                      · skip
                        refine x_iconst hx hb dX11_laysDark_120 ?_
                        refine x_iadd hx hb dX11_laysDark_121 ?_
                        refine x_any (fun x39 rx39 => ?_)
                        refine x_iast hx hb hE hW (by decide) (fun σ => sa_305 h0 g σ) (by omega) (by decide) rx39 dX11_laysDark_122 (fun H locs s40 es40 hW => ?_)
                        have q41 : s40 268 8 = s0 268 8 := (show s40 268 8 = s_90 268 8 from by rw [es40, xU_k _ _ _ (by omega)]).trans q90_0
                        have q42 : s40 268 58 = s0 268 58 := (show s40 268 58 = s_90 268 58 from by rw [es40, xU_k _ _ _ (by omega)]).trans q90_1
                        have q43 : s40 269 37 = s_34 269 37 := (show s40 269 37 = s_90 269 37 from by rw [es40, xU_k _ _ _ (by omega)]).trans q90_2
                        have q44 : IMn s40 := by rw [es40]; exact IMn_o (by unfold suIMn; omega) q90_3
                        have q45 : IMk s40 := by rw [es40]; exact IMk_o (by unfold suIMk; omega) q90_4
                        have q46 : IMo s40 := by rw [es40]; exact IMo_o (by unfold suIMo; omega) q90_5
                        have hF47 := hF_90.put es40 (by omega)
                        refine x_iinc (lv' := [(3, .int (xJ (i3_90 + 1))), (0, .ref (h0 + 268)), (1, .int (xJ n)), (2, .int (xJ i2_34))]) hx hb hl 3 rfl dX11_laysDark_123 (by decide) rfl (fun ls hl => ?_)
                        refine lv_goto (tgt := 90) hx hb dX11_laysDark_126 (by decide) ?_
                        exact ih90 (i3_90 + 1) s40 H locs ls (by omega) hF47 q41 q42 q43 q44 q45 q46 (by omega) (by omega) (by omega) hW (lv_sub hl [1, 2, 3, 0] rfl)
                      refine x_iconst hx hb dX11_laysDark_116 ?_
                      refine lv_goto (tgt := 121) hx hb dX11_laysDark_117 (by decide) ?_
                      refine x_iadd hx hb dX11_laysDark_121 ?_
                      refine x_any (fun x48 rx48 => ?_)
                      refine x_iast hx hb hE hW (by decide) (fun σ => sa_305 h0 g σ) (by omega) (by decide) rx48 dX11_laysDark_122 (fun H locs s49 es49 hW => ?_)
                      have q50 : s49 268 8 = s0 268 8 := (show s49 268 8 = s_90 268 8 from by rw [es49, xU_k _ _ _ (by omega)]).trans q90_0
                      have q51 : s49 268 58 = s0 268 58 := (show s49 268 58 = s_90 268 58 from by rw [es49, xU_k _ _ _ (by omega)]).trans q90_1
                      have q52 : s49 269 37 = s_34 269 37 := (show s49 269 37 = s_90 269 37 from by rw [es49, xU_k _ _ _ (by omega)]).trans q90_2
                      have q53 : IMn s49 := by rw [es49]; exact IMn_o (by unfold suIMn; omega) q90_3
                      have q54 : IMk s49 := by rw [es49]; exact IMk_o (by unfold suIMk; omega) q90_4
                      have q55 : IMo s49 := by rw [es49]; exact IMo_o (by unfold suIMo; omega) q90_5
                      have hF56 := hF_90.put es49 (by omega)
                      refine x_iinc (lv' := [(3, .int (xJ (i3_90 + 1))), (0, .ref (h0 + 268)), (1, .int (xJ n)), (2, .int (xJ i2_34))]) hx hb hl 3 rfl dX11_laysDark_123 (by decide) rfl (fun ls hl => ?_)
                      refine lv_goto (tgt := 90) hx hb dX11_laysDark_126 (by decide) ?_
                      exact ih90 (i3_90 + 1) s49 H locs ls (by omega) hF56 q50 q51 q52 q53 q54 q55 (by omega) (by omega) (by omega) hW (lv_sub hl [1, 2, 3, 0] rfl)
                  exact L90 ((100 + 1 - 0 : Int).toNat + 1) 0 s_55 H locs ls (by decide) hF_55 q55_0 q55_1 q55_2 q55_3 q55_4 q55_5 (by omega) (by omega) (Nat.lt_succ_self _) hW (lv_sub hl [1, 2, 3, 0] rfl)
                refine x_aload_n hx hb hl 0 rfl dX11_laysDark_60 rfl ?_
                refine x_iload_n hx hb hl 3 rfl dX11_laysDark_61 rfl ?_
                refine x_goi (x_runV (As := [.int (xJ i3_55)]) hx hb hml hown hT hE hW hl.1 (Or.inl (by decide)) (so_268 h0 g _) rfl cf_X11_isJudge wq1409 wq109 wq1407 (c_X11_isJudge l D g T h0 s_55 hW.2.1 i3_55 ri3_55 q55_3 q55_4 q55_5) ⟨rfl, rfl, ⟨by decide, by decide⟩, ⟨by decide, by decide⟩⟩ rfl rfl (Nat.le_of_ble_eq_true rfl) dX11_laysDark_62) hW (fun x57 s58 H locs rx57 hp59 hW => ?_)
                obtain ⟨es58, hp59⟩ := hp59
                subst es58
                have ghp59 := hp59
                refine x_if_eq (tgt := 82) hx hb rx57 dX11_laysDark_65 (by decide) (fun c60 => ?_) (fun c60 => ?_)
                · skip
                  refine x_iinc (lv' := [(3, .int (xJ (i3_55 + 1))), (0, .ref (h0 + 268)), (1, .int (xJ n)), (2, .int (xJ i2_34))]) hx hb hl 3 rfl dX11_laysDark_82 (by decide) rfl (fun ls hl => ?_)
                  refine lv_goto (tgt := 55) hx hb dX11_laysDark_85 (by decide) ?_
                  exact ih55 (i3_55 + 1) s_55 H locs ls (by omega) hF_55 q55_0 q55_1 q55_2 q55_3 q55_4 q55_5 (by omega) (by omega) (by omega) hW (lv_sub hl [1, 2, 3, 0] rfl)
                refine x_aload_n hx hb hl 0 rfl dX11_laysDark_68 rfl ?_
                refine x_iload_n hx hb hl 3 rfl dX11_laysDark_69 rfl ?_
                refine x_aload_n hx hb hl 0 rfl dX11_laysDark_70 rfl ?_
                refine x_get (j := 1) (v := .ref (h0 + 270)) hx hb hown hT hE hW cls_X11 (Or.inl (by decide)) (so_268 h0 g _) (by decide) rfl wq1186 dX11_laysDark_71 ?_
                refine x_bipush hx hb dX11_laysDark_74 (by decide) ?_
                refine x_iald hx hb hE hW (Or.inl (by decide)) (sa_270 h0 g _) ⟨by decide, by decide⟩ (by decide) dX11_laysDark_76 ?_
                refine x_rd hW (fun x61 ex61 rx61 => ?_)
                have bx61 : 0 ≤ x61 ∧ x61 ≤ 9999 := by rw [ex61]; exact (IMn.n2 q55_3).2.2.2.1
                refine x_iload_n hx hb hl 2 rfl dX11_laysDark_77 rfl ?_
                refine x_iadd hx hb dX11_laysDark_78 ?_
                refine x_gov (x_runV (As := [.int (xJ i3_55), .int (xJ (x61 + i2_34))]) hx hb hml hown hT hE hW hl.1 (Or.inl (by decide)) (so_268 h0 g _) rfl cf_X11_fallsOf wq1596 wq141 wq1594 (c_X11_fallsOf l D g T h0 s_55 hW.2.1 i3_55 ri3_55 (x61 + i2_34) (by omega) (by omega) q55_3 q55_4 q55_5) ⟨rfl, rfl, ⟨by decide, by decide⟩, ⟨by decide, by decide⟩⟩ rfl rfl (Nat.le_of_ble_eq_true rfl) dX11_laysDark_79) hW (fun s63 H locs hp64 hW => ?_)
                obtain ⟨fs63, hp64⟩ := hp64
                have hF65 := hF_55.call fs63 (fun k h => by omega)
                have q66 : s63 268 8 = s0 268 8 := (congrFun (fs63 _ (by omega)) _).trans q55_0
                have q67 : s63 268 58 = s0 268 58 := (congrFun (fs63 _ (by omega)) _).trans q55_1
                have q68 : s63 269 37 = s_34 269 37 := (congrFun (fs63 _ (by omega)) _).trans q55_2
                have ghp64 := hp64.2
                refine x_iinc (lv' := [(3, .int (xJ (i3_55 + 1))), (0, .ref (h0 + 268)), (1, .int (xJ n)), (2, .int (xJ i2_34))]) hx hb hl 3 rfl dX11_laysDark_82 (by decide) rfl (fun ls hl => ?_)
                refine lv_goto (tgt := 55) hx hb dX11_laysDark_85 (by decide) ?_
                exact ih55 (i3_55 + 1) s63 H locs ls (by omega) hF65 q66 q67 q68 hp64.1.1 hp64.1.2.1 hp64.1.2.2.1 (by omega) (by omega) (by omega) hW (lv_sub hl [1, 2, 3, 0] rfl)
            exact L55 ((2 + 1 - 0 : Int).toNat + 1) 0 s28 H locs ls (by decide) hF30 q31 q32 q33 hp29.1.1 hp29.1.2.1 hp29.1.2.2.1 (by omega) (by omega) (Nat.lt_succ_self _) hW (lv_sub hl [1, 2, 3, 0] rfl)
        exact L34 ((n + 1 - 0 : Int).toNat + 1) 0 s3 H locs ls (by decide) hF5 q6 q7 hp4.1.1 hp4.1.2.1 hp4.1.2.2.1 (by omega) (Nat.lt_succ_self _) hW (lv_sub hl [1, 2, 0] rfl)
      refine x_aload_n hx hb hl 0 rfl dX11_laysDark_8 rfl ?_
      refine x_get (j := 55) (v := .ref (h0 + 305)) hx hb hown hT hE hW cls_X11 (Or.inl (by decide)) (so_268 h0 g _) (by decide) rfl wq1240 dX11_laysDark_9 ?_
      refine x_iload_n hx hb hl 2 rfl dX11_laysDark_12 rfl ?_
      refine x_iconst hx hb dX11_laysDark_13 ?_
      refine x_iast hx hb hE hW (by decide) (fun σ => sa_305 h0 g σ) (by omega) (by decide) (by decide) dX11_laysDark_14 (fun H locs s69 es69 hW => ?_)
      have q70 : IMn s69 := by rw [es69]; exact IMn_o (by unfold suIMn; omega) q2_0
      have q71 : IMk s69 := by rw [es69]; exact IMk_o (by unfold suIMk; omega) q2_1
      have q72 : IMo s69 := by rw [es69]; exact IMo_o (by unfold suIMo; omega) q2_2
      have q73 : s69 268 8 = s0 268 8 := (show s69 268 8 = s_2 268 8 from by rw [es69, xU_k _ _ _ (by omega)]).trans q2_3
      have q74 : s69 268 58 = s0 268 58 := (show s69 268 58 = s_2 268 58 from by rw [es69, xU_k _ _ _ (by omega)]).trans q2_4
      have hF75 := hF_2.put es69 (by omega)
      refine x_iinc (lv' := [(2, .int (xJ (i2_2 + 1))), (0, .ref (h0 + 268)), (1, .int (xJ n))]) hx hb hl 2 rfl dX11_laysDark_15 (by decide) rfl (fun ls hl => ?_)
      refine lv_goto (tgt := 2) hx hb dX11_laysDark_18 (by decide) ?_
      exact ih2 (i2_2 + 1) s69 H locs ls (by omega) hF75 q70 q71 q72 q73 q74 (by omega) (by omega) (by omega) hW (lv_sub hl [1, 2, 0] rfl)
  exact L2 ((100 + 1 - 0 : Int).toNat + 1) 0 s0 H locs ls (by decide) hF p0 p1 p2 k268_8 k268_58 (by omega) (by omega) (Nat.lt_succ_self _) hW (lv_sub hl [1, 2, 0] rfl)
set_option maxHeartbeats 4000000 in
set_option maxRecDepth 100000 in
theorem c_X11_dark (l : Launch) (D : va_G) (g : xG) (T : Nat × Nat × Nat) (h0 : Nat) (s0 : xS) (hσ : xRR s0) (n : Int) (rn : xR n) (x : Int) (rx : xR x) (p0 : IMn s0) (p1 : IMk s0) (p2 : IMo s0) : Met l yX11_dark (xws yX11_dark cX11_dark 6 (some .int)) { frames := 6, cells := 0, slots := 0, locals := 137 } (xP [.ref (h0 + 268), .int (xJ n), .int (xJ x)] D g T h0 s0) (xQi D g h0 (fun r τ => xFr (fun k => k = 269 ∨ k = 270 ∨ k = 293 ∨ k = 294 ∨ k = 295 ∨ k = 305) s0 τ ∧ (((IMn τ) ∧ (IMk τ) ∧ (IMo τ) ∧ True) ∧ (True)))) 0 0 (xA h0) := by
  refine x_met hσ (by decide) (Nat.le_of_ble_eq_true rfl) ?_
  intro p e s m args below meth c hx hb hr hml hown hT hlk hnm hE hW ls hl
  have hl : lv_has ls 6 [(0, .ref (h0 + 268)), (1, .int (xJ n)), (2, .int (xJ x))] := hl
  obtain ⟨Q, eQ⟩ : ∃ Q, Q = MQ below (xQi D g h0 (fun r τ => xFr (fun k => k = 269 ∨ k = 270 ∨ k = 293 ∨ k = 294 ∨ k = 295 ∨ k = 305) s0 τ ∧ (((IMn τ) ∧ (IMk τ) ∧ (IMo τ) ∧ True) ∧ (True)))) args s 0 0 (xA h0) := ⟨_, rfl⟩
  rw [← eQ]
  generalize hHe : ([] : List Loc) = locs at hW ⊢
  obtain ⟨H, eH⟩ : ∃ H, H = s.heap := ⟨_, rfl⟩
  rw [← eH] at hW ⊢
  have hF : xFr (fun k => k = 269 ∨ k = 270 ∨ k = 293 ∨ k = 294 ∨ k = 295 ∨ k = 305) s0 s0 := xFr.rf
  have k268_8 : s0 268 8 = s0 268 8 := rfl
  have k268_58 : s0 268 58 = s0 268 58 := rfl
  refine x_iload_n hx hb hl 1 rfl dX11_dark_0 rfl ?_
  refine x_iconst hx hb dX11_dark_1 ?_
  refine x_bipush hx hb dX11_dark_2 (by decide) ?_
  refine x_goi (x_runS (As := [.int (xJ n), .int (xJ 1), .int (xJ 60)]) hx hb hml hown hT hE hW hl.1 cf_X11_in wq1383 wq1382 (c_X11_in l D g T h0 s0 hW.2.1 n rn 1 (by decide) 60 (by decide)) ⟨rfl, rfl, ⟨by decide, by decide⟩, ⟨by decide, by decide⟩⟩ rfl rfl (Nat.le_of_ble_eq_true rfl) dX11_dark_4) hW (fun x1 s2 H locs rx1 hp3 hW => ?_)
  obtain ⟨es2, hp3⟩ := hp3
  subst es2
  have ghp3 := hp3
  refine x_if_eq (tgt := 19) hx hb rx1 dX11_dark_7 (by decide) (fun c4 => ?_) (fun c4 => ?_)
  · skip
    refine x_iconst hx hb dX11_dark_19 ?_
    rw [eQ]
    exact x_iret hx hb hr hlk hW (by decide) ⟨hF, ⟨p0, p1, p2, trivial⟩, trivial⟩ dX11_dark_20
  refine x_iload_n hx hb hl 2 rfl dX11_dark_10 rfl ?_
  refine x_iconst hx hb dX11_dark_11 ?_
  refine x_iconst hx hb dX11_dark_12 ?_
  refine x_goi (x_runS (As := [.int (xJ x), .int (xJ 0), .int (xJ 2)]) hx hb hml hown hT hE hW hl.1 cf_X11_in wq1383 wq1382 (c_X11_in l D g T h0 s0 hW.2.1 x rx 0 (by decide) 2 (by decide)) ⟨rfl, rfl, ⟨by decide, by decide⟩, ⟨by decide, by decide⟩⟩ rfl rfl (Nat.le_of_ble_eq_true rfl) dX11_dark_13) hW (fun x5 s6 H locs rx5 hp7 hW => ?_)
  obtain ⟨es6, hp7⟩ := hp7
  subst es6
  have ghp7 := hp7
  refine x_if_ne (tgt := 21) hx hb rx5 dX11_dark_16 (by decide) (fun c8 => ?_) (fun c8 => ?_)
  · skip
    refine x_aload_n hx hb hl 0 rfl dX11_dark_21 rfl ?_
    refine x_iload_n hx hb hl 1 rfl dX11_dark_22 rfl ?_
    refine x_gov (x_runV (As := [.int (xJ n)]) hx hb hml hown hT hE hW hl.1 (Or.inl (by decide)) (so_268 h0 g _) rfl cf_X11_laysDark wq1724 wq160 wq1722 (c_X11_laysDark l D g T h0 s0 hW.2.1 n rn (by omega) p0 p1 p2) ⟨rfl, rfl, ⟨by decide, by decide⟩, ⟨by decide, by decide⟩⟩ rfl rfl (Nat.le_of_ble_eq_true rfl) dX11_dark_23) hW (fun s10 H locs hp11 hW => ?_)
    obtain ⟨fs10, hp11⟩ := hp11
    have hF12 := hF.call fs10 (fun k h => by omega)
    have q13 : s10 268 8 = s0 268 8 := (congrFun (fs10 _ (by omega)) _).trans k268_8
    have q14 : s10 268 58 = s0 268 58 := (congrFun (fs10 _ (by omega)) _).trans k268_58
    have ghp11 := hp11.2
    refine x_iconst hx hb dX11_dark_26 ?_
    refine lv_istore_n (lv' := [(3, .int (xJ 0)), (0, .ref (h0 + 268)), (1, .int (xJ n)), (2, .int (xJ x))]) hx hb dX11_dark_27 rfl hl (by decide) rfl (fun ls hl => ?_)
    refine x_bipush hx hb dX11_dark_28 (by decide) ?_
    refine lv_istore (lv' := [(4, .int (xJ (-2))), (3, .int (xJ 0)), (0, .ref (h0 + 268)), (1, .int (xJ n)), (2, .int (xJ x))]) hx hb dX11_dark_30 hl (by decide) rfl (fun ls hl => ?_)
    refine x_iconst hx hb dX11_dark_32 ?_
    refine lv_istore (lv' := [(5, .int (xJ 0)), (4, .int (xJ (-2))), (3, .int (xJ 0)), (0, .ref (h0 + 268)), (1, .int (xJ n)), (2, .int (xJ x))]) hx hb dX11_dark_33 hl (by decide) rfl (fun ls hl => ?_)
    have L35 : ∀ (fu : Nat) (i3_35 : Int) (i4_35 : Int) (i5_35 : Int) (ls : Array Slot), (xR i3_35) → (xR i4_35) → (xR i5_35) → (0 ≤ i5_35) → (i5_35 ≤ 100) → (0 ≤ i3_35 ∧ i3_35 ≤ i5_35) → (i4_35 = -2 ∨ (0 ≤ i4_35 ∧ i4_35 < 100)) → (100 + 1 - i5_35).toNat < fu → lv_has ls 6 [(0, .ref (h0 + 268)), (2, .int (xJ x)), (3, .int (xJ i3_35)), (4, .int (xJ i4_35)), (5, .int (xJ i5_35))] → W p l e { frames := 6, cells := 0, slots := 0, locals := 137 } s m args below meth c H locs 0 0 Q (F0 m 35 ls []) := by
      intro fu
      induction fu with
      | zero => intro i3_35 i4_35 i5_35 ls ri3_35 ri4_35 ri5_35 v35_0 v35_1 v35_2 v35_3 hm; exact absurd hm (Nat.not_lt_zero _)
      | succ fu ih35 =>
        intro i3_35 i4_35 i5_35 ls ri3_35 ri4_35 ri5_35 v35_0 v35_1 v35_2 v35_3 hm  hl
        refine x_iload hx hb hl 4 rfl dX11_dark_35 ?_
        refine x_bipush hx hb dX11_dark_37 (by decide) ?_
        refine x_icmp_ge (tgt := 108) hx hb ri5_35 (by decide) dX11_dark_39 (by decide) (fun c15 => ?_) (fun c15 => ?_)
        · skip
          refine x_iload_n hx hb hl 1 rfl dX11_dark_108 rfl ?_
          refine x_if_ne (tgt := 116) hx hb rx dX11_dark_109 (by decide) (fun c16 => ?_) (fun c16 => ?_)
          · skip
            refine x_iload_n hx hb hl 1 rfl dX11_dark_116 rfl ?_
            refine x_iconst hx hb dX11_dark_117 ?_
            refine x_icmp_ne (tgt := 126) hx hb rx (by decide) dX11_dark_118 (by decide) (fun c17 => ?_) (fun c17 => ?_)
            · skip
              refine x_iload hx hb hl 3 rfl dX11_dark_126 ?_
              refine x_bipush hx hb dX11_dark_128 (by decide) ?_
              refine x_icmp_ne (tgt := 137) hx hb ri4_35 (by decide) dX11_dark_130 (by decide) (fun c18 => ?_) (fun c18 => ?_)
              · skip
                refine x_aload_n hx hb hl 0 rfl dX11_dark_137 rfl ?_
                refine x_get (j := 55) (v := .ref (h0 + 305)) hx hb hown hT hE hW cls_X11 (Or.inl (by decide)) (so_268 h0 g _) (by decide) rfl wq1240 dX11_dark_138 ?_
                refine x_iload hx hb hl 3 rfl dX11_dark_141 ?_
                refine x_iald hx hb hE hW (Or.inl (by decide)) (sa_305 h0 g _) (by omega) (by decide) dX11_dark_143 ?_
                refine x_rd hW (fun x19 ex19 rx19 => ?_)
                rw [eQ]
                exact x_iret hx hb hr hlk hW rx19 ⟨hF12, ⟨hp11.1.1, hp11.1.2.1, hp11.1.2.2.1, trivial⟩, trivial⟩ dX11_dark_144
              refine x_iconst hx hb dX11_dark_133 ?_
              refine lv_goto (tgt := 144) hx hb dX11_dark_134 (by decide) ?_
              rw [eQ]
              exact x_iret hx hb hr hlk hW (by decide) ⟨hF12, ⟨hp11.1.1, hp11.1.2.1, hp11.1.2.2.1, trivial⟩, trivial⟩ dX11_dark_144
            refine x_iload hx hb hl 3 rfl dX11_dark_121 ?_
            refine lv_goto (tgt := 144) hx hb dX11_dark_123 (by decide) ?_
            rw [eQ]
            exact x_iret hx hb hr hlk hW ri4_35 ⟨hF12, ⟨hp11.1.1, hp11.1.2.1, hp11.1.2.2.1, trivial⟩, trivial⟩ dX11_dark_144
          refine x_iload_n hx hb hl 2 rfl dX11_dark_112 rfl ?_
          refine lv_goto (tgt := 144) hx hb dX11_dark_113 (by decide) ?_
          rw [eQ]
          exact x_iret hx hb hr hlk hW ri3_35 ⟨hF12, ⟨hp11.1.1, hp11.1.2.1, hp11.1.2.2.1, trivial⟩, trivial⟩ dX11_dark_144
        refine x_aload_n hx hb hl 0 rfl dX11_dark_42 rfl ?_
        refine x_get (j := 3) (v := .ref (h0 + 272)) hx hb hown hT hE hW cls_X11 (Or.inl (by decide)) (so_268 h0 g _) (by decide) rfl wq1188 dX11_dark_43 ?_
        refine x_iload hx hb hl 4 rfl dX11_dark_46 ?_
        refine x_iald hx hb hE hW (Or.inl (by decide)) (sa_272 h0 g _) (by omega) (by decide) dX11_dark_48 ?_
        refine x_rd hW (fun x20 ex20 rx20 => ?_)
        refine x_iconst hx hb dX11_dark_49 ?_
        refine x_icmp_ne (tgt := 56) hx hb rx20 (by decide) dX11_dark_50 (by decide) (fun c21 => ?_) (fun c21 => ?_)
        · skip
          refine x_iload_n hx hb hl 2 rfl dX11_dark_56 rfl ?_
          refine x_aload_n hx hb hl 0 rfl dX11_dark_57 rfl ?_
          refine x_get (j := 55) (v := .ref (h0 + 305)) hx hb hown hT hE hW cls_X11 (Or.inl (by decide)) (so_268 h0 g _) (by decide) rfl wq1240 dX11_dark_58 ?_
          refine x_iload hx hb hl 4 rfl dX11_dark_61 ?_
          refine x_iald hx hb hE hW (Or.inl (by decide)) (sa_305 h0 g _) (by omega) (by decide) dX11_dark_63 ?_
          refine x_rd hW (fun x22 ex22 rx22 => ?_)
          have J72 : ∀ (t0_72 : Int) (ls : Array Slot), (xR t0_72) → (0 ≤ t0_72 ∧ t0_72 ≤ 1) → lv_has ls 6 [(0, .ref (h0 + 268)), (2, .int (xJ x)), (4, .int (xJ i4_35)), (5, .int (xJ i5_35))] → W p l e { frames := 6, cells := 0, slots := 0, locals := 137 } s m args below meth c H locs 0 0 Q (F0 m 72 ls [.int (xJ t0_72), .int (xJ i3_35)]) := by
            intro t0_72 ls rt0_72 v72_0  hl
            refine x_iadd hx hb dX11_dark_72 ?_
            refine x_nm (fun x23 ex23 => ?_)
            refine lv_istore_n (lv' := [(3, .int (xJ x23)), (0, .ref (h0 + 268)), (2, .int (xJ x)), (4, .int (xJ i4_35)), (5, .int (xJ i5_35))]) hx hb dX11_dark_73 rfl hl (by decide) rfl (fun ls hl => ?_)
            refine x_iload hx hb hl 3 rfl dX11_dark_74 ?_
            refine x_bipush hx hb dX11_dark_76 (by decide) ?_
            refine x_icmp_eq (tgt := 98) hx hb ri4_35 (by decide) dX11_dark_78 (by decide) (fun c24 => ?_) (fun c24 => ?_)
            · skip
              refine x_iload hx hb hl 4 rfl dX11_dark_98 ?_
              refine lv_istore (lv' := [(4, .int (xJ i5_35)), (3, .int (xJ x23)), (0, .ref (h0 + 268)), (2, .int (xJ x)), (5, .int (xJ i5_35))]) hx hb dX11_dark_100 hl (by decide) rfl (fun ls hl => ?_)
              refine x_iinc (lv' := [(5, .int (xJ (i5_35 + 1))), (4, .int (xJ i5_35)), (3, .int (xJ x23)), (0, .ref (h0 + 268)), (2, .int (xJ x))]) hx hb hl 4 rfl dX11_dark_102 (by decide) rfl (fun ls hl => ?_)
              refine lv_goto (tgt := 35) hx hb dX11_dark_105 (by decide) ?_
              exact ih35 x23 i5_35 (i5_35 + 1) ls (by omega) ri5_35 (by omega) (by omega) (by omega) (by omega) (by omega) (by omega)  (lv_sub hl [3, 4, 2, 1, 0] rfl)
            refine x_aload_n hx hb hl 1 rfl dX11_dark_81 rfl ?_
            refine x_get (j := 55) (v := .ref (h0 + 305)) hx hb hown hT hE hW cls_X11 (Or.inl (by decide)) (so_268 h0 g _) (by decide) rfl wq1240 dX11_dark_82 ?_
            refine x_iload hx hb hl 4 rfl dX11_dark_85 ?_
            refine x_iald hx hb hE hW (Or.inl (by decide)) (sa_305 h0 g _) (by omega) (by decide) dX11_dark_87 ?_
            refine x_rd hW (fun x25 ex25 rx25 => ?_)
            refine x_aload_n hx hb hl 1 rfl dX11_dark_88 rfl ?_
            refine x_get (j := 55) (v := .ref (h0 + 305)) hx hb hown hT hE hW cls_X11 (Or.inl (by decide)) (so_268 h0 g _) (by decide) rfl wq1240 dX11_dark_89 ?_
            refine x_iload hx hb hl 3 rfl dX11_dark_92 ?_
            refine x_iald hx hb hE hW (Or.inl (by decide)) (sa_305 h0 g _) (by omega) (by decide) dX11_dark_94 ?_
            refine x_rd hW (fun x26 ex26 rx26 => ?_)
            refine x_icmp_le (tgt := 102) hx hb rx25 rx26 dX11_dark_95 (by decide) (fun c27 => ?_) (fun c27 => ?_)
            · skip
              refine x_iinc (lv' := [(5, .int (xJ (i5_35 + 1))), (3, .int (xJ x23)), (0, .ref (h0 + 268)), (2, .int (xJ x)), (4, .int (xJ i4_35))]) hx hb hl 4 rfl dX11_dark_102 (by decide) rfl (fun ls hl => ?_)
              refine lv_goto (tgt := 35) hx hb dX11_dark_105 (by decide) ?_
              exact ih35 x23 i4_35 (i5_35 + 1) ls (by omega) ri4_35 (by omega) (by omega) (by omega) (by omega) (by omega) (by omega)  (lv_sub hl [2, 3, 1, 4, 0] rfl)
            refine x_iload hx hb hl 4 rfl dX11_dark_98 ?_
            refine lv_istore (lv' := [(4, .int (xJ i5_35)), (3, .int (xJ x23)), (0, .ref (h0 + 268)), (2, .int (xJ x)), (5, .int (xJ i5_35))]) hx hb dX11_dark_100 hl (by decide) rfl (fun ls hl => ?_)
            refine x_iinc (lv' := [(5, .int (xJ (i5_35 + 1))), (4, .int (xJ i5_35)), (3, .int (xJ x23)), (0, .ref (h0 + 268)), (2, .int (xJ x))]) hx hb hl 4 rfl dX11_dark_102 (by decide) rfl (fun ls hl => ?_)
            refine lv_goto (tgt := 35) hx hb dX11_dark_105 (by decide) ?_
            exact ih35 x23 i5_35 (i5_35 + 1) ls (by omega) ri5_35 (by omega) (by omega) (by omega) (by omega) (by omega) (by omega)  (lv_sub hl [3, 4, 2, 1, 0] rfl)
          refine x_if_ne (tgt := 71) hx hb rx22 dX11_dark_64 (by decide) (fun c28 => ?_) (fun c28 => ?_)
          · skip
            refine x_iconst hx hb dX11_dark_71 ?_
            exact J72 0 ls (by decide) (by omega)  (lv_sub hl [0, 1, 3, 4] rfl)
          refine x_iconst hx hb dX11_dark_67 ?_
          refine lv_goto (tgt := 72) hx hb dX11_dark_68 (by decide) ?_
          exact J72 1 ls (by decide) (by omega)  (lv_sub hl [0, 1, 3, 4] rfl)
        refine lv_goto (tgt := 102) hx hb dX11_dark_53 (by decide) ?_
        refine x_iinc (lv' := [(5, .int (xJ (i5_35 + 1))), (0, .ref (h0 + 268)), (2, .int (xJ x)), (3, .int (xJ i3_35)), (4, .int (xJ i4_35))]) hx hb hl 4 rfl dX11_dark_102 (by decide) rfl (fun ls hl => ?_)
        refine lv_goto (tgt := 35) hx hb dX11_dark_105 (by decide) ?_
        exact ih35 i3_35 i4_35 (i5_35 + 1) ls ri3_35 ri4_35 (by omega) (by omega) (by omega) (by omega) (by omega) (by omega)  (lv_sub hl [1, 2, 3, 4, 0] rfl)
    exact L35 ((100 + 1 - 0 : Int).toNat + 1) 0 (-2) 0 ls (by decide) (by decide) (by decide) (by omega) (by omega) (by omega) (by omega) (Nat.lt_succ_self _)  (lv_sub hl [3, 5, 2, 1, 0] rfl)
  refine x_iconst hx hb dX11_dark_19 ?_
  rw [eQ]
  exact x_iret hx hb hr hlk hW (by decide) ⟨hF, ⟨p0, p1, p2, trivial⟩, trivial⟩ dX11_dark_20
set_option maxHeartbeats 4000000 in
set_option maxRecDepth 100000 in
theorem c_X11_servedBy (l : Launch) (D : va_G) (g : xG) (T : Nat × Nat × Nat) (h0 : Nat) (s0 : xS) (hσ : xRR s0) (n : Int) (rn : xR n) (x : Int) (rx : xR x) (p0 : IMn s0) (p1 : IMk s0) (p2 : IMo s0) : Met l yX11_servedBy (xws yX11_servedBy cX11_servedBy 3 (some .int)) { frames := 9, cells := 0, slots := 0, locals := 209 } (xP [.ref (h0 + 268), .int (xJ n), .int (xJ x)] D g T h0 s0) (xQi D g h0 (fun r τ => xFr (fun k => k = 268 ∨ k = 269 ∨ k = 270 ∨ k = 293 ∨ k = 294 ∨ k = 295 ∨ k = 296 ∨ k = 297 ∨ k = 298 ∨ k = 299) s0 τ ∧ (((IMn τ) ∧ (IMk τ) ∧ (IMo τ) ∧ (τ 268 8 = s0 268 8) ∧ (τ 268 58 = s0 268 58) ∧ True) ∧ (True)))) 0 0 (xA h0) := by
  refine x_met hσ (by decide) (Nat.le_of_ble_eq_true rfl) ?_
  intro p e s m args below meth c hx hb hr hml hown hT hlk hnm hE hW ls hl
  have hl : lv_has ls 3 [(0, .ref (h0 + 268)), (1, .int (xJ n)), (2, .int (xJ x))] := hl
  obtain ⟨Q, eQ⟩ : ∃ Q, Q = MQ below (xQi D g h0 (fun r τ => xFr (fun k => k = 268 ∨ k = 269 ∨ k = 270 ∨ k = 293 ∨ k = 294 ∨ k = 295 ∨ k = 296 ∨ k = 297 ∨ k = 298 ∨ k = 299) s0 τ ∧ (((IMn τ) ∧ (IMk τ) ∧ (IMo τ) ∧ (τ 268 8 = s0 268 8) ∧ (τ 268 58 = s0 268 58) ∧ True) ∧ (True)))) args s 0 0 (xA h0) := ⟨_, rfl⟩
  rw [← eQ]
  generalize hHe : ([] : List Loc) = locs at hW ⊢
  obtain ⟨H, eH⟩ : ∃ H, H = s.heap := ⟨_, rfl⟩
  rw [← eH] at hW ⊢
  have hF : xFr (fun k => k = 268 ∨ k = 269 ∨ k = 270 ∨ k = 293 ∨ k = 294 ∨ k = 295 ∨ k = 296 ∨ k = 297 ∨ k = 298 ∨ k = 299) s0 s0 := xFr.rf
  have k268_8 : s0 268 8 = s0 268 8 := rfl
  have k268_58 : s0 268 58 = s0 268 58 := rfl
  refine x_iload_n hx hb hl 1 rfl dX11_servedBy_0 rfl ?_
  refine x_iconst hx hb dX11_servedBy_1 ?_
  refine x_bipush hx hb dX11_servedBy_2 (by decide) ?_
  refine x_goi (x_runS (As := [.int (xJ n), .int (xJ 1), .int (xJ 60)]) hx hb hml hown hT hE hW hl.1 cf_X11_in wq1383 wq1382 (c_X11_in l D g T h0 s0 hW.2.1 n rn 1 (by decide) 60 (by decide)) ⟨rfl, rfl, ⟨by decide, by decide⟩, ⟨by decide, by decide⟩⟩ rfl rfl (Nat.le_of_ble_eq_true rfl) dX11_servedBy_4) hW (fun x1 s2 H locs rx1 hp3 hW => ?_)
  obtain ⟨es2, hp3⟩ := hp3
  subst es2
  have ghp3 := hp3
  refine x_if_eq (tgt := 19) hx hb rx1 dX11_servedBy_7 (by decide) (fun c4 => ?_) (fun c4 => ?_)
  · skip
    refine x_iconst hx hb dX11_servedBy_19 ?_
    rw [eQ]
    exact x_iret hx hb hr hlk hW (by decide) ⟨hF, ⟨p0, p1, p2, k268_8, k268_58, trivial⟩, trivial⟩ dX11_servedBy_20
  refine x_iload_n hx hb hl 2 rfl dX11_servedBy_10 rfl ?_
  refine x_iconst hx hb dX11_servedBy_11 ?_
  refine x_iconst hx hb dX11_servedBy_12 ?_
  refine x_goi (x_runS (As := [.int (xJ x), .int (xJ 0), .int (xJ 2)]) hx hb hml hown hT hE hW hl.1 cf_X11_in wq1383 wq1382 (c_X11_in l D g T h0 s0 hW.2.1 x rx 0 (by decide) 2 (by decide)) ⟨rfl, rfl, ⟨by decide, by decide⟩, ⟨by decide, by decide⟩⟩ rfl rfl (Nat.le_of_ble_eq_true rfl) dX11_servedBy_13) hW (fun x5 s6 H locs rx5 hp7 hW => ?_)
  obtain ⟨es6, hp7⟩ := hp7
  subst es6
  have ghp7 := hp7
  refine x_if_ne (tgt := 21) hx hb rx5 dX11_servedBy_16 (by decide) (fun c8 => ?_) (fun c8 => ?_)
  · skip
    refine x_iload_n hx hb hl 2 rfl dX11_servedBy_21 rfl ?_
    refine x_iconst hx hb dX11_servedBy_22 ?_
    have J50 : ∀ (H : Heap) (locs : List Loc) (ls : Array Slot), xW D g h0 s H locs s0 → lv_has ls 3 [(0, .ref (h0 + 268)), (1, .int (xJ n)), (2, .int (xJ x))] → W p l e { frames := 9, cells := 0, slots := 0, locals := 209 } s m args below meth c H locs 0 0 Q (F0 m 50 ls []) := by
      intro H locs ls  hW hl
      refine x_aload_n hx hb hl 0 rfl dX11_servedBy_50 rfl ?_
      refine x_get (j := 0) (v := .ref (h0 + 269)) hx hb hown hT hE hW cls_X11 (Or.inl (by decide)) (so_268 h0 g _) (by decide) rfl wq1185 dX11_servedBy_51 ?_
      refine x_aload_n hx hb hl 0 rfl dX11_servedBy_54 rfl ?_
      refine x_get (j := 1) (v := .ref (h0 + 270)) hx hb hown hT hE hW cls_X11 (Or.inl (by decide)) (so_268 h0 g _) (by decide) rfl wq1186 dX11_servedBy_55 ?_
      refine x_gov (x_runS (As := [.ref (h0 + 269), .ref (h0 + 270)]) hx hb hml hown hT hE hW hl.1 cf_X11_copies wq1647 wq1646 (c_X11_copiesA l D g T h0 s0 hW.2.1 p0 p1 p2) ⟨rfl, rfl, ⟨by decide, by decide⟩, ⟨by decide, by decide⟩⟩ rfl rfl (Nat.le_of_ble_eq_true rfl) dX11_servedBy_58) hW (fun s10 H locs hp11 hW => ?_)
      obtain ⟨fs10, hp11⟩ := hp11
      have hF12 := hF.call fs10 (fun k h => by omega)
      have q13 : s10 268 8 = s0 268 8 := (congrFun (fs10 _ (by omega)) _).trans k268_8
      have q14 : s10 268 58 = s0 268 58 := (congrFun (fs10 _ (by omega)) _).trans k268_58
      have ghp11 := hp11.2
      refine x_iload_n hx hb hl 2 rfl dX11_servedBy_61 rfl ?_
      refine x_iconst hx hb dX11_servedBy_62 ?_
      have J76 : ∀ (s_76 : xS) (H : Heap) (locs : List Loc) (ls : Array Slot), (xFr (fun k => k = 268 ∨ k = 269 ∨ k = 270 ∨ k = 293 ∨ k = 294 ∨ k = 295 ∨ k = 296 ∨ k = 297 ∨ k = 298 ∨ k = 299) s0 s_76) → (s_76 268 8 = s0 268 8) → (s_76 268 58 = s0 268 58) → (IMn s_76) → (IMk s_76) → (IMo s_76) → xW D g h0 s H locs s_76 → lv_has ls 3 [(0, .ref (h0 + 268)), (1, .int (xJ n))] → W p l e { frames := 9, cells := 0, slots := 0, locals := 209 } s m args below meth c H locs 0 0 Q (F0 m 76 ls []) := by
        intro s_76 H locs ls hF_76 q76_0 q76_1 q76_2 q76_3 q76_4 hW hl
        refine x_aload_n hx hb hl 0 rfl dX11_servedBy_76 rfl ?_
        refine x_iload_n hx hb hl 1 rfl dX11_servedBy_77 rfl ?_
        refine x_gov (x_runV (As := [.int (xJ n)]) hx hb hml hown hT hE hW hl.1 (Or.inl (by decide)) (so_268 h0 g _) rfl cf_X11_minutesGo wq1539 wq130 wq1537 (c_X11_minutesGo l D g T h0 s_76 hW.2.1 n rn q76_2 q76_3 q76_4) ⟨rfl, rfl, ⟨by decide, by decide⟩, ⟨by decide, by decide⟩⟩ rfl rfl (Nat.le_of_ble_eq_true rfl) dX11_servedBy_78) hW (fun s16 H locs hp17 hW => ?_)
        obtain ⟨fs16, hp17⟩ := hp17
        have hF18 := hF_76.call fs16 (fun k h => by omega)
        have ghp17 := hp17.2
        refine x_aload_n hx hb hl 0 rfl dX11_servedBy_81 rfl ?_
        refine x_get (j := 1) (v := .ref (h0 + 270)) hx hb hown hT hE hW cls_X11 (Or.inl (by decide)) (so_268 h0 g _) (by decide) rfl wq1186 dX11_servedBy_82 ?_
        refine x_aload_n hx hb hl 0 rfl dX11_servedBy_85 rfl ?_
        refine x_get (j := 0) (v := .ref (h0 + 269)) hx hb hown hT hE hW cls_X11 (Or.inl (by decide)) (so_268 h0 g _) (by decide) rfl wq1185 dX11_servedBy_86 ?_
        refine x_gov (x_runS (As := [.ref (h0 + 270), .ref (h0 + 269)]) hx hb hml hown hT hE hW hl.1 cf_X11_copies wq1647 wq1646 (c_X11_copiesB l D g T h0 s16 hW.2.1 hp17.1.1 hp17.1.2.1 hp17.1.2.2.1) ⟨rfl, rfl, ⟨by decide, by decide⟩, ⟨by decide, by decide⟩⟩ rfl rfl (Nat.le_of_ble_eq_true rfl) dX11_servedBy_89) hW (fun s20 H locs hp21 hW => ?_)
        obtain ⟨fs20, hp21⟩ := hp21
        have hF22 := hF18.call fs20 (fun k h => by omega)
        have q23 : s20 268 8 = s0 268 8 := (congrFun (fs20 _ (by omega)) _).trans (hp17.1.2.2.2.1.trans q76_0)
        have q24 : s20 268 58 = s0 268 58 := (congrFun (fs20 _ (by omega)) _).trans (hp17.1.2.2.2.2.1.trans q76_1)
        have ghp21 := hp21.2
        refine x_aload_n hx hb hl 0 rfl dX11_servedBy_92 rfl ?_
        refine x_get (j := 41) (v := .int (xJ (s20 268 41))) hx hb hown hT hE hW cls_X11 (Or.inl (by decide)) (so_268 h0 g _) (by decide) rfl wq1226 dX11_servedBy_93 ?_
        refine x_rd hW (fun x25 ex25 rx25 => ?_)
        rw [eQ]
        exact x_iret hx hb hr hlk hW rx25 ⟨hF22, ⟨hp21.1.1, hp21.1.2.1, hp21.1.2.2.1, q23, q24, trivial⟩, trivial⟩ dX11_servedBy_96
      refine x_icmp_ge (tgt := 76) hx hb rx (by decide) dX11_servedBy_63 (by decide) (fun c26 => ?_) (fun c26 => ?_)
      · skip
        exact J76 s10 H locs ls hF12 q13 q14 hp11.1.1 hp11.1.2.1 hp11.1.2.2.1 hW (lv_sub hl [0, 1] rfl)
      refine x_aload_n hx hb hl 0 rfl dX11_servedBy_66 rfl ?_
      refine x_get (j := 0) (v := .ref (h0 + 269)) hx hb hown hT hE hW cls_X11 (Or.inl (by decide)) (so_268 h0 g _) (by decide) rfl wq1185 dX11_servedBy_67 ?_
      refine x_bipush hx hb dX11_servedBy_70 (by decide) ?_
      refine x_iconst hx hb dX11_servedBy_72 ?_
      refine x_iload_n hx hb hl 2 rfl dX11_servedBy_73 rfl ?_
      refine lv_ishl hx hb dX11_servedBy_74 ?_
      refine x_any (fun x27 rx27 => ?_)
      refine x_iast hx hb hE hW (by decide) (fun σ => sa_269 h0 g σ) ⟨by decide, by decide⟩ (by decide) rx27 dX11_servedBy_75 (fun H locs s28 es28 hW => ?_)
      have q29 : s28 268 8 = s0 268 8 := (show s28 268 8 = s10 268 8 from by rw [es28, xU_k _ _ _ (by omega)]).trans q13
      have q30 : s28 268 58 = s0 268 58 := (show s28 268 58 = s10 268 58 from by rw [es28, xU_k _ _ _ (by omega)]).trans q14
      have q31 : IMn s28 := by rw [es28]; exact IMn_N269 hp11.1.1 (by omega)
      have q32 : IMk s28 := by rw [es28]; exact IMk_o (by unfold suIMk; omega) hp11.1.2.1
      have q33 : IMo s28 := by rw [es28]; exact IMo_o (by unfold suIMo; omega) hp11.1.2.2.1
      have hF34 := hF12.put es28 (by omega)
      exact J76 s28 H locs ls hF34 q29 q30 q31 q32 q33 hW (lv_sub hl [0, 1] rfl)
    refine x_icmp_ne (tgt := 40) hx hb rx (by decide) dX11_servedBy_23 (by decide) (fun c35 => ?_) (fun c35 => ?_)
    · skip
      refine x_aload_n hx hb hl 0 rfl dX11_servedBy_40 rfl ?_
      refine x_iload_n hx hb hl 2 rfl dX11_servedBy_41 rfl ?_
      refine x_goi (x_runV (As := [.int (xJ x)]) hx hb hml hown hT hE hW hl.1 (Or.inl (by decide)) (so_268 h0 g _) rfl cf_X11_isJudge wq1409 wq109 wq1407 (c_X11_isJudge l D g T h0 s0 hW.2.1 x rx p0 p1 p2) ⟨rfl, rfl, ⟨by decide, by decide⟩, ⟨by decide, by decide⟩⟩ rfl rfl (Nat.le_of_ble_eq_true rfl) dX11_servedBy_42) hW (fun x36 s37 H locs rx36 hp38 hW => ?_)
      obtain ⟨es37, hp38⟩ := hp38
      subst es37
      have ghp38 := hp38
      refine x_if_ne (tgt := 50) hx hb rx36 dX11_servedBy_45 (by decide) (fun c39 => ?_) (fun c39 => ?_)
      · skip
        exact J50 H locs ls  hW (lv_sub hl [0, 1, 2] rfl)
      refine x_iconst hx hb dX11_servedBy_48 ?_
      rw [eQ]
      exact x_iret hx hb hr hlk hW (by decide) ⟨hF, ⟨p0, p1, p2, k268_8, k268_58, trivial⟩, trivial⟩ dX11_servedBy_49
    refine x_aload_n hx hb hl 0 rfl dX11_servedBy_26 rfl ?_
    refine x_get (j := 0) (v := .ref (h0 + 269)) hx hb hown hT hE hW cls_X11 (Or.inl (by decide)) (so_268 h0 g _) (by decide) rfl wq1185 dX11_servedBy_27 ?_
    refine x_bipush hx hb dX11_servedBy_30 (by decide) ?_
    refine x_iald hx hb hE hW (Or.inl (by decide)) (sa_269 h0 g _) ⟨by decide, by decide⟩ (by decide) dX11_servedBy_32 ?_
    refine x_rd hW (fun x40 ex40 rx40 => ?_)
    refine x_iconst hx hb dX11_servedBy_33 ?_
    refine x_icmp_eq (tgt := 50) hx hb rx40 (by decide) dX11_servedBy_34 (by decide) (fun c41 => ?_) (fun c41 => ?_)
    · skip
      exact J50 H locs ls  hW (lv_sub hl [0, 1, 2] rfl)
    refine lv_goto (tgt := 48) hx hb dX11_servedBy_37 (by decide) ?_
    refine x_iconst hx hb dX11_servedBy_48 ?_
    rw [eQ]
    exact x_iret hx hb hr hlk hW (by decide) ⟨hF, ⟨p0, p1, p2, k268_8, k268_58, trivial⟩, trivial⟩ dX11_servedBy_49
  refine x_iconst hx hb dX11_servedBy_19 ?_
  rw [eQ]
  exact x_iret hx hb hr hlk hW (by decide) ⟨hF, ⟨p0, p1, p2, k268_8, k268_58, trivial⟩, trivial⟩ dX11_servedBy_20
set_option maxHeartbeats 4000000 in
set_option maxRecDepth 100000 in
theorem c_X11_seed (l : Launch) (D : va_G) (g : xG) (T : Nat × Nat × Nat) (h0 : Nat) (s0 : xS) (hσ : xRR s0) (x : Int) (rx : xR x) (p0 : IMn s0) (p1 : IMk s0) (p2 : IMo s0) : Met l yX11_seed (xws yX11_seed cX11_seed 2 (some .boolean)) { frames := 1, cells := 0, slots := 0, locals := 22 } (xP [.ref (h0 + 268), .int (xJ x)] D g T h0 s0) (xQi D g h0 (fun r τ => xFr (fun k => k = 269) s0 τ ∧ (((IMn τ) ∧ (IMk τ) ∧ (IMo τ) ∧ True) ∧ ((r = 1 ∧ 0 ≤ x ∧ x ≤ 65535) ∨ (r = 0 ∧ (x < 0 ∨ 65535 < x)))))) 0 0 (xA h0) := by
  refine x_met hσ (by decide) (Nat.le_of_ble_eq_true rfl) ?_
  intro p e s m args below meth c hx hb hr hml hown hT hlk hnm hE hW ls hl
  have hl : lv_has ls 2 [(0, .ref (h0 + 268)), (1, .int (xJ x))] := hl
  obtain ⟨Q, eQ⟩ : ∃ Q, Q = MQ below (xQi D g h0 (fun r τ => xFr (fun k => k = 269) s0 τ ∧ (((IMn τ) ∧ (IMk τ) ∧ (IMo τ) ∧ True) ∧ ((r = 1 ∧ 0 ≤ x ∧ x ≤ 65535) ∨ (r = 0 ∧ (x < 0 ∨ 65535 < x)))))) args s 0 0 (xA h0) := ⟨_, rfl⟩
  rw [← eQ]
  generalize hHe : ([] : List Loc) = locs at hW ⊢
  obtain ⟨H, eH⟩ : ∃ H, H = s.heap := ⟨_, rfl⟩
  rw [← eH] at hW ⊢
  have hF : xFr (fun k => k = 269) s0 s0 := xFr.rf
  have k268_8 : s0 268 8 = s0 268 8 := rfl
  have k268_58 : s0 268 58 = s0 268 58 := rfl
  refine x_iload_n hx hb hl 1 rfl dX11_seed_0 rfl ?_
  refine x_iconst hx hb dX11_seed_1 ?_
  refine lv_ldcw (v := xJ 65535) hx hb hown (hT _ wq1758) dX11_seed_2 ?_
  refine x_goi (x_runS (As := [.int (xJ x), .int (xJ 0), .int (xJ 65535)]) hx hb hml hown hT hE hW hl.1 cf_X11_in wq1383 wq1382 (c_X11_in l D g T h0 s0 hW.2.1 x rx 0 (by decide) 65535 (by decide)) ⟨rfl, rfl, ⟨by decide, by decide⟩, ⟨by decide, by decide⟩⟩ rfl rfl (Nat.le_of_ble_eq_true rfl) dX11_seed_5) hW (fun x1 s2 H locs rx1 hp3 hW => ?_)
  obtain ⟨es2, hp3⟩ := hp3
  subst es2
  have ghp3 := hp3
  refine x_if_ne (tgt := 13) hx hb rx1 dX11_seed_8 (by decide) (fun c4 => ?_) (fun c4 => ?_)
  · skip
    refine x_aload_n hx hb hl 0 rfl dX11_seed_13 rfl ?_
    refine x_get (j := 0) (v := .ref (h0 + 269)) hx hb hown hT hE hW cls_X11 (Or.inl (by decide)) (so_268 h0 g _) (by decide) rfl wq1185 dX11_seed_14 ?_
    refine x_bipush hx hb dX11_seed_17 (by decide) ?_
    refine x_iload_n hx hb hl 1 rfl dX11_seed_19 rfl ?_
    refine x_iast hx hb hE hW (by decide) (fun σ => sa_269 h0 g σ) ⟨by decide, by decide⟩ (by decide) rx dX11_seed_20 (fun H locs s5 es5 hW => ?_)
    have q6 : IMn s5 := by rw [es5]; exact IMn_N269 p0 (by omega)
    have q7 : IMk s5 := by rw [es5]; exact IMk_o (by unfold suIMk; omega) p1
    have q8 : IMo s5 := by rw [es5]; exact IMo_o (by unfold suIMo; omega) p2
    have q9 : s5 268 8 = s0 268 8 := (show s5 268 8 = s0 268 8 from by rw [es5, xU_k _ _ _ (by omega)]).trans k268_8
    have q10 : s5 268 58 = s0 268 58 := (show s5 268 58 = s0 268 58 from by rw [es5, xU_k _ _ _ (by omega)]).trans k268_58
    have hF11 := hF.put es5 (by omega)
    refine x_iconst hx hb dX11_seed_21 ?_
    rw [eQ]
    exact x_zret hx hb hr hlk hW (by omega) ⟨hF11, ⟨q6, q7, q8, trivial⟩, by omega⟩ dX11_seed_22
  refine x_iconst hx hb dX11_seed_11 ?_
  rw [eQ]
  exact x_zret hx hb hr hlk hW (by omega) ⟨hF, ⟨p0, p1, p2, trivial⟩, by omega⟩ dX11_seed_12
set_option maxHeartbeats 4000000 in
set_option maxRecDepth 100000 in
theorem c_X11_keep (l : Launch) (D : va_G) (g : xG) (T : Nat × Nat × Nat) (h0 : Nat) (s0 : xS) (hσ : xRR s0) (p0 : IMn s0) (p1 : IMk s0) (p2 : IMo s0) : Met l yX11_keep (xws yX11_keep cX11_keep 1 (some .int)) { frames := 1, cells := 0, slots := 0, locals := 24 } (xP [.ref (h0 + 268)] D g T h0 s0) (xQi D g h0 (fun r τ => xFr (fun k => k = 268 ∨ k = 271 ∨ k = 308 ∨ k = 309) s0 τ ∧ (((IMn τ) ∧ (IMk τ) ∧ (IMo τ) ∧ (τ 268 8 = s0 268 8) ∧ True) ∧ (τ 268 58 = 1)))) 0 0 (xA h0) := by
  refine x_met hσ (by decide) (Nat.le_of_ble_eq_true rfl) ?_
  intro p e s m args below meth c hx hb hr hml hown hT hlk hnm hE hW ls hl
  have hl : lv_has ls 1 [(0, .ref (h0 + 268))] := hl
  obtain ⟨Q, eQ⟩ : ∃ Q, Q = MQ below (xQi D g h0 (fun r τ => xFr (fun k => k = 268 ∨ k = 271 ∨ k = 308 ∨ k = 309) s0 τ ∧ (((IMn τ) ∧ (IMk τ) ∧ (IMo τ) ∧ (τ 268 8 = s0 268 8) ∧ True) ∧ (τ 268 58 = 1)))) args s 0 0 (xA h0) := ⟨_, rfl⟩
  rw [← eQ]
  generalize hHe : ([] : List Loc) = locs at hW ⊢
  obtain ⟨H, eH⟩ : ∃ H, H = s.heap := ⟨_, rfl⟩
  rw [← eH] at hW ⊢
  have hF : xFr (fun k => k = 268 ∨ k = 271 ∨ k = 308 ∨ k = 309) s0 s0 := xFr.rf
  have k268_8 : s0 268 8 = s0 268 8 := rfl
  have k268_58 : s0 268 58 = s0 268 58 := rfl
  refine x_aload_n hx hb hl 0 rfl dX11_keep_0 rfl ?_
  refine x_iconst hx hb dX11_keep_1 ?_
  refine x_put (j := 58) hx hb hown hT hE hW cls_X11 (by decide) (fun σ => so_268 h0 g σ) (by decide) (st_X11_58 h0 s0 268 1) (ln_X11_58 h0 _ _) wq1243 rfl rfl rfl (by decide) dX11_keep_2 (fun H locs s1 es1 hW => ?_)
  have q2 : IMn s1 := by rw [es1]; exact IMn_268 p0 (by omega)
  have q3 : IMk s1 := by rw [es1]; exact IMk_268 p1 (by omega)
  have q4 : IMo s1 := by rw [es1]; exact IMo_o (by unfold suIMo; omega) p2
  have q5 : s1 268 8 = s0 268 8 := (show s1 268 8 = s0 268 8 from by rw [es1, xU_j _ _ (by decide)]).trans k268_8
  have q6 : s1 268 58 = 1 := by rw [es1, xU_s]
  have hF7 := hF.put es1 (by omega)
  refine x_aload_n hx hb hl 0 rfl dX11_keep_5 rfl ?_
  refine x_get (j := 0) (v := .ref (h0 + 269)) hx hb hown hT hE hW cls_X11 (Or.inl (by decide)) (so_268 h0 g _) (by decide) rfl wq1185 dX11_keep_6 ?_
  refine x_aload_n hx hb hl 0 rfl dX11_keep_9 rfl ?_
  refine x_get (j := 2) (v := .ref (h0 + 271)) hx hb hown hT hE hW cls_X11 (Or.inl (by decide)) (so_268 h0 g _) (by decide) rfl wq1187 dX11_keep_10 ?_
  refine x_gov (x_runS (As := [.ref (h0 + 269), .ref (h0 + 271)]) hx hb hml hown hT hE hW hl.1 cf_X11_copies wq1647 wq1646 (c_X11_copiesK l D g T h0 s1 hW.2.1 q2 q3 q4) ⟨rfl, rfl, ⟨by decide, by decide⟩, ⟨by decide, by decide⟩⟩ rfl rfl (Nat.le_of_ble_eq_true rfl) dX11_keep_13) hW (fun s9 H locs hp10 hW => ?_)
  obtain ⟨fs9, hp10⟩ := hp10
  have hF11 := hF7.call fs9 (fun k h => by omega)
  have q12 : s9 268 8 = s0 268 8 := (congrFun (fs9 _ (by omega)) _).trans q5
  have q13 : s9 268 58 = 1 := (congrFun (fs9 _ (by omega)) _).trans q6
  have ghp10 := hp10.2
  refine x_aload_n hx hb hl 0 rfl dX11_keep_16 rfl ?_
  refine x_get (j := 5) (v := .ref (h0 + 274)) hx hb hown hT hE hW cls_X11 (Or.inl (by decide)) (so_268 h0 g _) (by decide) rfl wq1190 dX11_keep_17 ?_
  refine x_aload_n hx hb hl 0 rfl dX11_keep_20 rfl ?_
  refine x_get (j := 6) (v := .ref (h0 + 275)) hx hb hown hT hE hW cls_X11 (Or.inl (by decide)) (so_268 h0 g _) (by decide) rfl wq1191 dX11_keep_21 ?_
  refine x_aload_n hx hb hl 0 rfl dX11_keep_24 rfl ?_
  refine x_get (j := 59) (v := .ref (h0 + 308)) hx hb hown hT hE hW cls_X11 (Or.inl (by decide)) (so_268 h0 g _) (by decide) rfl wq1244 dX11_keep_25 ?_
  refine x_aload_n hx hb hl 0 rfl dX11_keep_28 rfl ?_
  refine x_get (j := 60) (v := .ref (h0 + 309)) hx hb hown hT hE hW cls_X11 (Or.inl (by decide)) (so_268 h0 g _) (by decide) rfl wq1245 dX11_keep_29 ?_
  refine x_gov (x_runS (As := [.ref (h0 + 274), .ref (h0 + 275), .ref (h0 + 308), .ref (h0 + 309)]) hx hb hml hown hT hE hW hl.1 cf_X11_copiesWalks wq1764 wq1763 (c_X11_copiesWalksK l D g T h0 s9 hW.2.1 hp10.1.1 hp10.1.2.1 hp10.1.2.2.1) ⟨rfl, rfl, ⟨by decide, by decide⟩, ⟨by decide, by decide⟩⟩ rfl rfl (Nat.le_of_ble_eq_true rfl) dX11_keep_32) hW (fun s15 H locs hp16 hW => ?_)
  obtain ⟨fs15, hp16⟩ := hp16
  have hF17 := hF11.call fs15 (fun k h => by omega)
  have q18 : s15 268 8 = s0 268 8 := (congrFun (fs15 _ (by omega)) _).trans q12
  have q19 : s15 268 58 = 1 := (congrFun (fs15 _ (by omega)) _).trans q13
  have ghp16 := hp16.2
  refine x_aload_n hx hb hl 0 rfl dX11_keep_35 rfl ?_
  refine x_get (j := 0) (v := .ref (h0 + 269)) hx hb hown hT hE hW cls_X11 (Or.inl (by decide)) (so_268 h0 g _) (by decide) rfl wq1185 dX11_keep_36 ?_
  refine x_bipush hx hb dX11_keep_39 (by decide) ?_
  refine x_iald hx hb hE hW (Or.inl (by decide)) (sa_269 h0 g _) ⟨by decide, by decide⟩ (by decide) dX11_keep_41 ?_
  refine x_rd hW (fun x20 ex20 rx20 => ?_)
  have bx20 : 0 ≤ x20 ∧ x20 ≤ 9999 := by rw [ex20]; exact (IMn.n1 hp16.1.1).2.2.2.1
  rw [eQ]
  exact x_iret hx hb hr hlk hW rx20 ⟨hF17, ⟨hp16.1.1, hp16.1.2.1, hp16.1.2.2.1, q18, trivial⟩, by omega⟩ dX11_keep_42
set_option maxHeartbeats 4000000 in
set_option maxRecDepth 100000 in
theorem c_X11_undo (l : Launch) (D : va_G) (g : xG) (T : Nat × Nat × Nat) (h0 : Nat) (s0 : xS) (hσ : xRR s0) (p0 : IMn s0) (p1 : IMk s0) (p2 : IMo s0) : Met l yX11_undo (xws yX11_undo cX11_undo 1 (some .boolean)) { frames := 1, cells := 0, slots := 0, locals := 24 } (xP [.ref (h0 + 268)] D g T h0 s0) (xQi D g h0 (fun r τ => xFr (fun k => k = 269 ∨ k = 274 ∨ k = 275) s0 τ ∧ (((IMn τ) ∧ (IMk τ) ∧ (IMo τ) ∧ True) ∧ (r = 0 ∨ r = 1)))) 0 0 (xA h0) := by
  refine x_met hσ (by decide) (Nat.le_of_ble_eq_true rfl) ?_
  intro p e s m args below meth c hx hb hr hml hown hT hlk hnm hE hW ls hl
  have hl : lv_has ls 1 [(0, .ref (h0 + 268))] := hl
  obtain ⟨Q, eQ⟩ : ∃ Q, Q = MQ below (xQi D g h0 (fun r τ => xFr (fun k => k = 269 ∨ k = 274 ∨ k = 275) s0 τ ∧ (((IMn τ) ∧ (IMk τ) ∧ (IMo τ) ∧ True) ∧ (r = 0 ∨ r = 1)))) args s 0 0 (xA h0) := ⟨_, rfl⟩
  rw [← eQ]
  generalize hHe : ([] : List Loc) = locs at hW ⊢
  obtain ⟨H, eH⟩ : ∃ H, H = s.heap := ⟨_, rfl⟩
  rw [← eH] at hW ⊢
  have hF : xFr (fun k => k = 269 ∨ k = 274 ∨ k = 275) s0 s0 := xFr.rf
  have k268_8 : s0 268 8 = s0 268 8 := rfl
  have k268_58 : s0 268 58 = s0 268 58 := rfl
  refine x_aload_n hx hb hl 0 rfl dX11_undo_0 rfl ?_
  refine x_get (j := 58) (v := .int (xJ (s0 268 58))) hx hb hown hT hE hW cls_X11 (Or.inl (by decide)) (so_268 h0 g _) (by decide) rfl wq1243 dX11_undo_1 ?_
  refine x_rd hW (fun x1 ex1 rx1 => ?_)
  have fx1 : x1 = s0 268 58 := ex1.trans k268_58
  refine x_if_ne (tgt := 9) hx hb rx1 dX11_undo_4 (by decide) (fun c2 => ?_) (fun c2 => ?_)
  · skip
    refine x_aload_n hx hb hl 0 rfl dX11_undo_9 rfl ?_
    refine x_get (j := 2) (v := .ref (h0 + 271)) hx hb hown hT hE hW cls_X11 (Or.inl (by decide)) (so_268 h0 g _) (by decide) rfl wq1187 dX11_undo_10 ?_
    refine x_aload_n hx hb hl 0 rfl dX11_undo_13 rfl ?_
    refine x_get (j := 0) (v := .ref (h0 + 269)) hx hb hown hT hE hW cls_X11 (Or.inl (by decide)) (so_268 h0 g _) (by decide) rfl wq1185 dX11_undo_14 ?_
    refine x_gov (x_runS (As := [.ref (h0 + 271), .ref (h0 + 269)]) hx hb hml hown hT hE hW hl.1 cf_X11_copies wq1647 wq1646 (c_X11_copiesU l D g T h0 s0 hW.2.1 p0 p1 p2) ⟨rfl, rfl, ⟨by decide, by decide⟩, ⟨by decide, by decide⟩⟩ rfl rfl (Nat.le_of_ble_eq_true rfl) dX11_undo_17) hW (fun s4 H locs hp5 hW => ?_)
    obtain ⟨fs4, hp5⟩ := hp5
    have hF6 := hF.call fs4 (fun k h => by omega)
    have q7 : s4 268 8 = s0 268 8 := (congrFun (fs4 _ (by omega)) _).trans k268_8
    have q8 : s4 268 58 = s0 268 58 := (congrFun (fs4 _ (by omega)) _).trans k268_58
    have ghp5 := hp5.2
    refine x_aload_n hx hb hl 0 rfl dX11_undo_20 rfl ?_
    refine x_get (j := 59) (v := .ref (h0 + 308)) hx hb hown hT hE hW cls_X11 (Or.inl (by decide)) (so_268 h0 g _) (by decide) rfl wq1244 dX11_undo_21 ?_
    refine x_aload_n hx hb hl 0 rfl dX11_undo_24 rfl ?_
    refine x_get (j := 60) (v := .ref (h0 + 309)) hx hb hown hT hE hW cls_X11 (Or.inl (by decide)) (so_268 h0 g _) (by decide) rfl wq1245 dX11_undo_25 ?_
    refine x_aload_n hx hb hl 0 rfl dX11_undo_28 rfl ?_
    refine x_get (j := 5) (v := .ref (h0 + 274)) hx hb hown hT hE hW cls_X11 (Or.inl (by decide)) (so_268 h0 g _) (by decide) rfl wq1190 dX11_undo_29 ?_
    refine x_aload_n hx hb hl 0 rfl dX11_undo_32 rfl ?_
    refine x_get (j := 6) (v := .ref (h0 + 275)) hx hb hown hT hE hW cls_X11 (Or.inl (by decide)) (so_268 h0 g _) (by decide) rfl wq1191 dX11_undo_33 ?_
    refine x_gov (x_runS (As := [.ref (h0 + 308), .ref (h0 + 309), .ref (h0 + 274), .ref (h0 + 275)]) hx hb hml hown hT hE hW hl.1 cf_X11_copiesWalks wq1764 wq1763 (c_X11_copiesWalksU l D g T h0 s4 hW.2.1 hp5.1.1 hp5.1.2.1 hp5.1.2.2.1) ⟨rfl, rfl, ⟨by decide, by decide⟩, ⟨by decide, by decide⟩⟩ rfl rfl (Nat.le_of_ble_eq_true rfl) dX11_undo_36) hW (fun s10 H locs hp11 hW => ?_)
    obtain ⟨fs10, hp11⟩ := hp11
    have hF12 := hF6.call fs10 (fun k h => by omega)
    have q13 : s10 268 8 = s0 268 8 := (congrFun (fs10 _ (by omega)) _).trans q7
    have q14 : s10 268 58 = s0 268 58 := (congrFun (fs10 _ (by omega)) _).trans q8
    have ghp11 := hp11.2
    refine x_iconst hx hb dX11_undo_39 ?_
    rw [eQ]
    exact x_zret hx hb hr hlk hW (by omega) ⟨hF12, ⟨hp11.1.1, hp11.1.2.1, hp11.1.2.2.1, trivial⟩, by omega⟩ dX11_undo_40
  refine x_iconst hx hb dX11_undo_7 ?_
  rw [eQ]
  exact x_zret hx hb hr hlk hW (by omega) ⟨hF, ⟨p0, p1, p2, trivial⟩, by omega⟩ dX11_undo_8
set_option maxHeartbeats 4000000 in
set_option maxRecDepth 100000 in
theorem c_X11_count (l : Launch) (D : va_G) (g : xG) (T : Nat × Nat × Nat) (h0 : Nat) (s0 : xS) (hσ : xRR s0) (x : Int) (rx : xR x) (p0 : IMn s0) (p1 : IMk s0) (p2 : IMo s0) : Met l yX11_count (xws yX11_count cX11_count 2 (some .int)) { frames := 3, cells := 0, slots := 0, locals := 71 } (xP [.ref (h0 + 268), .int (xJ x)] D g T h0 s0) (xQi D g h0 (fun r τ => xFr (fun k => k = 293 ∨ k = 294) s0 τ ∧ (((IMn τ) ∧ (IMk τ) ∧ (IMo τ) ∧ True) ∧ (True)))) 0 0 (xA h0) := by
  refine x_met hσ (by decide) (Nat.le_of_ble_eq_true rfl) ?_
  intro p e s m args below meth c hx hb hr hml hown hT hlk hnm hE hW ls hl
  have hl : lv_has ls 2 [(0, .ref (h0 + 268)), (1, .int (xJ x))] := hl
  obtain ⟨Q, eQ⟩ : ∃ Q, Q = MQ below (xQi D g h0 (fun r τ => xFr (fun k => k = 293 ∨ k = 294) s0 τ ∧ (((IMn τ) ∧ (IMk τ) ∧ (IMo τ) ∧ True) ∧ (True)))) args s 0 0 (xA h0) := ⟨_, rfl⟩
  rw [← eQ]
  generalize hHe : ([] : List Loc) = locs at hW ⊢
  obtain ⟨H, eH⟩ : ∃ H, H = s.heap := ⟨_, rfl⟩
  rw [← eH] at hW ⊢
  have hF : xFr (fun k => k = 293 ∨ k = 294) s0 s0 := xFr.rf
  have k268_8 : s0 268 8 = s0 268 8 := rfl
  have k268_58 : s0 268 58 = s0 268 58 := rfl
  refine x_iload_n hx hb hl 1 rfl dX11_count_0 rfl ?_
  rcases (show (x < 0 ∨ 8 < x) ∨ x = 0 ∨ x = 1 ∨ x = 2 ∨ x = 3 ∨ x = 4 ∨ x = 5 ∨ x = 6 ∨ x = 7 ∨ x = 8 from by omega) with c1 | c1 | c1 | c1 | c1 | c1 | c1 | c1 | c1 | c1
  · refine x_tabOut (tgt := 124) hx hb rx dX11_count_1 c1 (by decide) ?_
    refine x_iload_n hx hb hl 1 rfl dX11_count_124 rfl ?_
    refine x_bipush hx hb dX11_count_125 (by decide) ?_
    refine x_bipush hx hb dX11_count_127 (by decide) ?_
    refine x_goi (x_runS (As := [.int (xJ x), .int (xJ 10), .int (xJ 11)]) hx hb hml hown hT hE hW hl.1 cf_X11_in wq1383 wq1382 (c_X11_in l D g T h0 s0 hW.2.1 x rx 10 (by decide) 11 (by decide)) ⟨rfl, rfl, ⟨by decide, by decide⟩, ⟨by decide, by decide⟩⟩ rfl rfl (Nat.le_of_ble_eq_true rfl) dX11_count_129) hW (fun x2 s3 H locs rx2 hp4 hW => ?_)
    obtain ⟨es3, hp4⟩ := hp4
    subst es3
    have ghp4 := hp4
    have J158 : ∀ (H : Heap) (locs : List Loc) (ls : Array Slot), xW D g h0 s H locs s0 → lv_has ls 2 [(0, .ref (h0 + 268)), (1, .int (xJ x))] → W p l e { frames := 3, cells := 0, slots := 0, locals := 71 } s m args below meth c H locs 0 0 Q (F0 m 158 ls []) := by
      intro H locs ls  hW hl
      refine x_iload_n hx hb hl 1 rfl dX11_count_158 rfl ?_
      refine x_bipush hx hb dX11_count_159 (by decide) ?_
      refine x_bipush hx hb dX11_count_161 (by decide) ?_
      refine x_goi (x_runS (As := [.int (xJ x), .int (xJ 20), .int (xJ 21)]) hx hb hml hown hT hE hW hl.1 cf_X11_in wq1383 wq1382 (c_X11_in l D g T h0 s0 hW.2.1 x rx 20 (by decide) 21 (by decide)) ⟨rfl, rfl, ⟨by decide, by decide⟩, ⟨by decide, by decide⟩⟩ rfl rfl (Nat.le_of_ble_eq_true rfl) dX11_count_163) hW (fun x5 s6 H locs rx5 hp7 hW => ?_)
      obtain ⟨es6, hp7⟩ := hp7
      subst es6
      have ghp7 := hp7
      refine x_if_eq (tgt := 191) hx hb rx5 dX11_count_166 (by decide) (fun c8 => ?_) (fun c8 => ?_)
      · skip
        refine x_iload_n hx hb hl 1 rfl dX11_count_191 rfl ?_
        refine x_bipush hx hb dX11_count_192 (by decide) ?_
        refine x_bipush hx hb dX11_count_194 (by decide) ?_
        refine x_goi (x_runS (As := [.int (xJ x), .int (xJ 30), .int (xJ 33)]) hx hb hml hown hT hE hW hl.1 cf_X11_in wq1383 wq1382 (c_X11_in l D g T h0 s0 hW.2.1 x rx 30 (by decide) 33 (by decide)) ⟨rfl, rfl, ⟨by decide, by decide⟩, ⟨by decide, by decide⟩⟩ rfl rfl (Nat.le_of_ble_eq_true rfl) dX11_count_196) hW (fun x9 s10 H locs rx9 hp11 hW => ?_)
        obtain ⟨es10, hp11⟩ := hp11
        subst es10
        have ghp11 := hp11
        refine x_if_eq (tgt := 212) hx hb rx9 dX11_count_199 (by decide) (fun c12 => ?_) (fun c12 => ?_)
        · skip
          refine x_iload_n hx hb hl 1 rfl dX11_count_212 rfl ?_
          refine x_bipush hx hb dX11_count_213 (by decide) ?_
          refine x_sipush hx hb dX11_count_215 (by decide) ?_
          refine x_goi (x_runS (As := [.int (xJ x), .int (xJ 100), .int (xJ 199)]) hx hb hml hown hT hE hW hl.1 cf_X11_in wq1383 wq1382 (c_X11_in l D g T h0 s0 hW.2.1 x rx 100 (by decide) 199 (by decide)) ⟨rfl, rfl, ⟨by decide, by decide⟩, ⟨by decide, by decide⟩⟩ rfl rfl (Nat.le_of_ble_eq_true rfl) dX11_count_218) hW (fun x13 s14 H locs rx13 hp15 hW => ?_)
          obtain ⟨es14, hp15⟩ := hp15
          subst es14
          have ghp15 := hp15
          refine x_if_eq (tgt := 236) hx hb rx13 dX11_count_221 (by decide) (fun c16 => ?_) (fun c16 => ?_)
          · skip
            refine x_iconst hx hb dX11_count_236 ?_
            rw [eQ]
            exact x_iret hx hb hr hlk hW (by decide) ⟨hF, ⟨p0, p1, p2, trivial⟩, trivial⟩ dX11_count_237
          refine x_aload_n hx hb hl 0 rfl dX11_count_224 rfl ?_
          refine x_get (j := 3) (v := .ref (h0 + 272)) hx hb hown hT hE hW cls_X11 (Or.inl (by decide)) (so_268 h0 g _) (by decide) rfl wq1188 dX11_count_225 ?_
          refine x_iload_n hx hb hl 1 rfl dX11_count_228 rfl ?_
          refine x_bipush hx hb dX11_count_229 (by decide) ?_
          refine x_isub hx hb dX11_count_231 ?_
          refine x_iald hx hb hE hW (Or.inl (by decide)) (sa_272 h0 g _) (by omega) (by decide) dX11_count_232 ?_
          refine x_rd hW (fun x17 ex17 rx17 => ?_)
          refine lv_goto (tgt := 237) hx hb dX11_count_233 (by decide) ?_
          rw [eQ]
          exact x_iret hx hb hr hlk hW rx17 ⟨hF, ⟨p0, p1, p2, trivial⟩, trivial⟩ dX11_count_237
        refine x_aload_n hx hb hl 0 rfl dX11_count_202 rfl ?_
        refine x_get (j := 4) (v := .ref (h0 + 273)) hx hb hown hT hE hW cls_X11 (Or.inl (by decide)) (so_268 h0 g _) (by decide) rfl wq1189 dX11_count_203 ?_
        refine x_iload_n hx hb hl 1 rfl dX11_count_206 rfl ?_
        refine x_bipush hx hb dX11_count_207 (by decide) ?_
        refine x_isub hx hb dX11_count_209 ?_
        refine x_iald hx hb hE hW (Or.inl (by decide)) (sa_273 h0 g _) (by omega) (by decide) dX11_count_210 ?_
        refine x_rd hW (fun x18 ex18 rx18 => ?_)
        have bx18 : -1 ≤ x18 ∧ x18 ≤ 99 := by rw [ex18]; exact IMn.l p0 _ (by omega) (by omega)
        rw [eQ]
        exact x_iret hx hb hr hlk hW rx18 ⟨hF, ⟨p0, p1, p2, trivial⟩, trivial⟩ dX11_count_211
      refine x_aload_n hx hb hl 0 rfl dX11_count_169 rfl ?_
      refine x_get (j := 5) (v := .ref (h0 + 274)) hx hb hown hT hE hW cls_X11 (Or.inl (by decide)) (so_268 h0 g _) (by decide) rfl wq1190 dX11_count_170 ?_
      refine x_iload_n hx hb hl 1 rfl dX11_count_173 rfl ?_
      refine x_bipush hx hb dX11_count_174 (by decide) ?_
      refine x_isub hx hb dX11_count_176 ?_
      refine x_iald hx hb hE hW (Or.inl (by decide)) (sa_274 h0 g _) (by omega) (by decide) dX11_count_177 ?_
      refine x_rd hW (fun x19 ex19 rx19 => ?_)
      have bx19 : 0 ≤ x19 ∧ x19 ≤ 60 := by rw [ex19]; exact IMn.w p0 _ (by omega) (by omega)
      refine x_aload_n hx hb hl 0 rfl dX11_count_178 rfl ?_
      refine x_get (j := 0) (v := .ref (h0 + 269)) hx hb hown hT hE hW cls_X11 (Or.inl (by decide)) (so_268 h0 g _) (by decide) rfl wq1185 dX11_count_179 ?_
      refine x_iconst hx hb dX11_count_182 ?_
      refine x_iload_n hx hb hl 1 rfl dX11_count_183 rfl ?_
      refine x_iadd hx hb dX11_count_184 ?_
      refine x_bipush hx hb dX11_count_185 (by decide) ?_
      refine x_isub hx hb dX11_count_187 ?_
      refine x_iald hx hb hE hW (Or.inl (by decide)) (sa_269 h0 g _) (by omega) (by decide) dX11_count_188 ?_
      refine x_rd hW (fun x20 ex20 rx20 => ?_)
      have bx20 : 0 ≤ x20 := by rw [ex20]; exact (IMn.n1 p0).2.1 _ (by omega) (by omega)
      refine x_isub hx hb dX11_count_189 ?_
      rw [eQ]
      exact x_iret hx hb hr hlk hW (by omega) ⟨hF, ⟨p0, p1, p2, trivial⟩, trivial⟩ dX11_count_190
    refine x_if_eq (tgt := 158) hx hb rx2 dX11_count_132 (by decide) (fun c21 => ?_) (fun c21 => ?_)
    · skip
      exact J158 H locs ls  hW (lv_sub hl [0, 1] rfl)
    refine x_aload_n hx hb hl 0 rfl dX11_count_135 rfl ?_
    refine x_iload_n hx hb hl 1 rfl dX11_count_136 rfl ?_
    refine x_bipush hx hb dX11_count_137 (by decide) ?_
    refine x_isub hx hb dX11_count_139 ?_
    refine x_goi (x_runV (As := [.int (xJ (x - 10))]) hx hb hml hown hT hE hW hl.1 (Or.inl (by decide)) (so_268 h0 g _) rfl cf_X11_isJudge wq1409 wq109 wq1407 (c_X11_isJudge l D g T h0 s0 hW.2.1 (x - 10) (by omega) p0 p1 p2) ⟨rfl, rfl, ⟨by decide, by decide⟩, ⟨by decide, by decide⟩⟩ rfl rfl (Nat.le_of_ble_eq_true rfl) dX11_count_140) hW (fun x22 s23 H locs rx22 hp24 hW => ?_)
    obtain ⟨es23, hp24⟩ := hp24
    subst es23
    have ghp24 := hp24
    refine x_if_eq (tgt := 158) hx hb rx22 dX11_count_143 (by decide) (fun c25 => ?_) (fun c25 => ?_)
    · skip
      exact J158 H locs ls  hW (lv_sub hl [0, 1] rfl)
    refine x_aload_n hx hb hl 0 rfl dX11_count_146 rfl ?_
    refine x_get (j := 0) (v := .ref (h0 + 269)) hx hb hown hT hE hW cls_X11 (Or.inl (by decide)) (so_268 h0 g _) (by decide) rfl wq1185 dX11_count_147 ?_
    refine x_iconst hx hb dX11_count_150 ?_
    refine x_iload_n hx hb hl 1 rfl dX11_count_151 rfl ?_
    refine x_iadd hx hb dX11_count_152 ?_
    refine x_bipush hx hb dX11_count_153 (by decide) ?_
    refine x_isub hx hb dX11_count_155 ?_
    refine x_iald hx hb hE hW (Or.inl (by decide)) (sa_269 h0 g _) (by omega) (by decide) dX11_count_156 ?_
    refine x_rd hW (fun x26 ex26 rx26 => ?_)
    have bx26 : 0 ≤ x26 ∧ x26 ≤ 99 := by rw [ex26]; exact (IMn.n1 p0).1 _ (by omega) (by omega)
    rw [eQ]
    exact x_iret hx hb hr hlk hW rx26 ⟨hF, ⟨p0, p1, p2, trivial⟩, trivial⟩ dX11_count_157
  · refine x_tabIn (v := 0) (tgt := 52) hx hb rx c1 dX11_count_1 (by decide) rfl (by decide) ?_
    refine x_aload_n hx hb hl 0 rfl dX11_count_52 rfl ?_
    refine x_get (j := 0) (v := .ref (h0 + 269)) hx hb hown hT hE hW cls_X11 (Or.inl (by decide)) (so_268 h0 g _) (by decide) rfl wq1185 dX11_count_53 ?_
    refine x_bipush hx hb dX11_count_56 (by decide) ?_
    refine x_iald hx hb hE hW (Or.inl (by decide)) (sa_269 h0 g _) ⟨by decide, by decide⟩ (by decide) dX11_count_58 ?_
    refine x_rd hW (fun x27 ex27 rx27 => ?_)
    have bx27 : 0 ≤ x27 ∧ x27 ≤ 9999 := by rw [ex27]; exact (IMn.n1 p0).2.2.2.1
    rw [eQ]
    exact x_iret hx hb hr hlk hW rx27 ⟨hF, ⟨p0, p1, p2, trivial⟩, trivial⟩ dX11_count_59
  · refine x_tabIn (v := 1) (tgt := 60) hx hb rx c1 dX11_count_1 (by decide) rfl (by decide) ?_
    refine x_aload_n hx hb hl 0 rfl dX11_count_60 rfl ?_
    refine x_get (j := 0) (v := .ref (h0 + 269)) hx hb hown hT hE hW cls_X11 (Or.inl (by decide)) (so_268 h0 g _) (by decide) rfl wq1185 dX11_count_61 ?_
    refine x_bipush hx hb dX11_count_64 (by decide) ?_
    refine x_iald hx hb hE hW (Or.inl (by decide)) (sa_269 h0 g _) ⟨by decide, by decide⟩ (by decide) dX11_count_66 ?_
    refine x_rd hW (fun x28 ex28 rx28 => ?_)
    rw [eQ]
    exact x_iret hx hb hr hlk hW rx28 ⟨hF, ⟨p0, p1, p2, trivial⟩, trivial⟩ dX11_count_67
  · refine x_tabIn (v := 2) (tgt := 68) hx hb rx c1 dX11_count_1 (by decide) rfl (by decide) ?_
    refine x_aload_n hx hb hl 0 rfl dX11_count_68 rfl ?_
    refine x_get (j := 0) (v := .ref (h0 + 269)) hx hb hown hT hE hW cls_X11 (Or.inl (by decide)) (so_268 h0 g _) (by decide) rfl wq1185 dX11_count_69 ?_
    refine x_bipush hx hb dX11_count_72 (by decide) ?_
    refine x_iald hx hb hE hW (Or.inl (by decide)) (sa_269 h0 g _) ⟨by decide, by decide⟩ (by decide) dX11_count_74 ?_
    refine x_rd hW (fun x29 ex29 rx29 => ?_)
    rw [eQ]
    exact x_iret hx hb hr hlk hW rx29 ⟨hF, ⟨p0, p1, p2, trivial⟩, trivial⟩ dX11_count_75
  · refine x_tabIn (v := 3) (tgt := 76) hx hb rx c1 dX11_count_1 (by decide) rfl (by decide) ?_
    refine x_aload_n hx hb hl 0 rfl dX11_count_76 rfl ?_
    refine x_goi (x_runV (As := []) hx hb hml hown hT hE hW hl.1 (Or.inl (by decide)) (so_268 h0 g _) rfl cf_X11_lampSet wq1784 wq165 wq1782 (c_X11_lampSet l D g T h0 s0 hW.2.1 p0 p1 p2) ⟨rfl, rfl, ⟨by decide, by decide⟩, ⟨by decide, by decide⟩⟩ rfl rfl (Nat.le_of_ble_eq_true rfl) dX11_count_77) hW (fun x30 s31 H locs rx30 hp32 hW => ?_)
    obtain ⟨es31, hp32⟩ := hp32
    subst es31
    have ghp32 := hp32
    rw [eQ]
    exact x_iret hx hb hr hlk hW rx30 ⟨hF, ⟨p0, p1, p2, trivial⟩, trivial⟩ dX11_count_80
  · refine x_tabIn (v := 4) (tgt := 81) hx hb rx c1 dX11_count_1 (by decide) rfl (by decide) ?_
    refine x_aload_n hx hb hl 0 rfl dX11_count_81 rfl ?_
    refine x_goi (x_runV (As := []) hx hb hml hown hT hE hW hl.1 (Or.inl (by decide)) (so_268 h0 g _) rfl cf_X11_owedAll wq1788 wq166 wq1786 (c_X11_owedAll l D g T h0 s0 hW.2.1 p0 p1 p2) ⟨rfl, rfl, ⟨by decide, by decide⟩, ⟨by decide, by decide⟩⟩ rfl rfl (Nat.le_of_ble_eq_true rfl) dX11_count_82) hW (fun x33 s34 H locs rx33 hp35 hW => ?_)
    obtain ⟨es34, hp35⟩ := hp35
    subst es34
    have ghp35 := hp35
    rw [eQ]
    exact x_iret hx hb hr hlk hW rx33 ⟨hF, ⟨p0, p1, p2, trivial⟩, trivial⟩ dX11_count_85
  · refine x_tabIn (v := 5) (tgt := 86) hx hb rx c1 dX11_count_1 (by decide) rfl (by decide) ?_
    refine x_aload_n hx hb hl 0 rfl dX11_count_86 rfl ?_
    refine x_get (j := 17) (v := .int (xJ (s0 268 17))) hx hb hown hT hE hW cls_X11 (Or.inl (by decide)) (so_268 h0 g _) (by decide) rfl wq1202 dX11_count_87 ?_
    refine x_rd hW (fun x36 ex36 rx36 => ?_)
    have bx36 : 0 ≤ x36 ∧ x36 ≤ 16 := by rw [ex36]; exact IMk.c p1
    rw [eQ]
    exact x_iret hx hb hr hlk hW rx36 ⟨hF, ⟨p0, p1, p2, trivial⟩, trivial⟩ dX11_count_90
  · refine x_tabIn (v := 6) (tgt := 91) hx hb rx c1 dX11_count_1 (by decide) rfl (by decide) ?_
    refine x_aload_n hx hb hl 0 rfl dX11_count_91 rfl ?_
    refine x_get (j := 8) (v := .int (xJ (s0 268 8))) hx hb hown hT hE hW cls_X11 (Or.inl (by decide)) (so_268 h0 g _) (by decide) rfl wq1193 dX11_count_92 ?_
    refine x_rd hW (fun x37 ex37 rx37 => ?_)
    have bx37 : 0 ≤ x37 ∧ x37 ≤ 260 := by rw [ex37]; exact IMn.t p0
    have fx37 : x37 = s0 268 8 := ex37.trans k268_8
    rw [eQ]
    exact x_iret hx hb hr hlk hW rx37 ⟨hF, ⟨p0, p1, p2, trivial⟩, trivial⟩ dX11_count_95
  · refine x_tabIn (v := 7) (tgt := 96) hx hb rx c1 dX11_count_1 (by decide) rfl (by decide) ?_
    refine x_aload_n hx hb hl 0 rfl dX11_count_96 rfl ?_
    refine x_get (j := 0) (v := .ref (h0 + 269)) hx hb hown hT hE hW cls_X11 (Or.inl (by decide)) (so_268 h0 g _) (by decide) rfl wq1185 dX11_count_97 ?_
    refine x_bipush hx hb dX11_count_100 (by decide) ?_
    refine x_iald hx hb hE hW (Or.inl (by decide)) (sa_269 h0 g _) ⟨by decide, by decide⟩ (by decide) dX11_count_102 ?_
    refine x_rd hW (fun x38 ex38 rx38 => ?_)
    have bx38 : 0 ≤ x38 ∧ x38 ≤ 65535 := by rw [ex38]; exact (IMn.n1 p0).2.2.2.2
    rw [eQ]
    exact x_iret hx hb hr hlk hW rx38 ⟨hF, ⟨p0, p1, p2, trivial⟩, trivial⟩ dX11_count_103
  · refine x_tabIn (v := 8) (tgt := 104) hx hb rx c1 dX11_count_1 (by decide) rfl (by decide) ?_
    refine x_aload_n hx hb hl 0 rfl dX11_count_104 rfl ?_
    refine x_aload_n hx hb hl 0 rfl dX11_count_105 rfl ?_
    refine x_get (j := 0) (v := .ref (h0 + 269)) hx hb hown hT hE hW cls_X11 (Or.inl (by decide)) (so_268 h0 g _) (by decide) rfl wq1185 dX11_count_106 ?_
    refine x_bipush hx hb dX11_count_109 (by decide) ?_
    refine x_iald hx hb hE hW (Or.inl (by decide)) (sa_269 h0 g _) ⟨by decide, by decide⟩ (by decide) dX11_count_111 ?_
    refine x_rd hW (fun x39 ex39 rx39 => ?_)
    have bx39 : 0 ≤ x39 ∧ x39 ≤ 9999 := by rw [ex39]; exact (IMn.n1 p0).2.2.2.1
    refine x_goi (x_runV (As := [.int (xJ x39)]) hx hb hml hown hT hE hW hl.1 (Or.inl (by decide)) (so_268 h0 g _) rfl cf_X11_isNight wq1604 wq143 wq1602 (c_X11_isNight l D g T h0 s0 hW.2.1 x39 rx39 p0 p1 p2) ⟨rfl, rfl, ⟨by decide, by decide⟩, ⟨by decide, by decide⟩⟩ rfl rfl (Nat.le_of_ble_eq_true rfl) dX11_count_112) hW (fun x40 s41 H locs rx40 hp42 hW => ?_)
    obtain ⟨fs41, hp42⟩ := hp42
    have hF43 := hF.call fs41 (fun k h => by omega)
    have q44 : s41 268 8 = s0 268 8 := (congrFun (fs41 _ (by omega)) _).trans k268_8
    have q45 : s41 268 58 = s0 268 58 := (congrFun (fs41 _ (by omega)) _).trans k268_58
    have ghp42 := hp42.2
    refine x_if_eq (tgt := 122) hx hb rx40 dX11_count_115 (by decide) (fun c46 => ?_) (fun c46 => ?_)
    · skip
      refine x_iconst hx hb dX11_count_122 ?_
      rw [eQ]
      exact x_iret hx hb hr hlk hW (by decide) ⟨hF43, ⟨hp42.1.1, hp42.1.2.1, hp42.1.2.2.1, trivial⟩, trivial⟩ dX11_count_123
    refine x_iconst hx hb dX11_count_118 ?_
    refine lv_goto (tgt := 123) hx hb dX11_count_119 (by decide) ?_
    rw [eQ]
    exact x_iret hx hb hr hlk hW (by decide) ⟨hF43, ⟨hp42.1.1, hp42.1.2.1, hp42.1.2.2.1, trivial⟩, trivial⟩ dX11_count_123
set_option maxHeartbeats 4000000 in
set_option maxRecDepth 100000 in
theorem c_X11_judge (l : Launch) (D : va_G) (g : xG) (T : Nat × Nat × Nat) (h0 : Nat) (s0 : xS) (hσ : xRR s0) (j : Int) (rj : xR j) (x : Int) (rx : xR x) (y : Int) (ry : xR y) (p0 : IMn s0) (p1 : IMk s0) (p2 : IMo s0) : Met l yX11_judge (xws yX11_judge cX11_judge 4 (some .boolean)) { frames := 2, cells := 0, slots := 0, locals := 43 } (xP [.ref (h0 + 268), .int (xJ j), .int (xJ x), .int (xJ y)] D g T h0 s0) (xQi D g h0 (fun r τ => xFr (fun k => k = 269) s0 τ ∧ (((IMn τ) ∧ (IMk τ) ∧ (IMo τ) ∧ True) ∧ (r = 0 ∨ r = 1)))) 0 0 (xA h0) := by
  refine x_met hσ (by decide) (Nat.le_of_ble_eq_true rfl) ?_
  intro p e s m args below meth c hx hb hr hml hown hT hlk hnm hE hW ls hl
  have hl : lv_has ls 4 [(0, .ref (h0 + 268)), (1, .int (xJ j)), (2, .int (xJ x)), (3, .int (xJ y))] := hl
  obtain ⟨Q, eQ⟩ : ∃ Q, Q = MQ below (xQi D g h0 (fun r τ => xFr (fun k => k = 269) s0 τ ∧ (((IMn τ) ∧ (IMk τ) ∧ (IMo τ) ∧ True) ∧ (r = 0 ∨ r = 1)))) args s 0 0 (xA h0) := ⟨_, rfl⟩
  rw [← eQ]
  generalize hHe : ([] : List Loc) = locs at hW ⊢
  obtain ⟨H, eH⟩ : ∃ H, H = s.heap := ⟨_, rfl⟩
  rw [← eH] at hW ⊢
  have hF : xFr (fun k => k = 269) s0 s0 := xFr.rf
  have k268_8 : s0 268 8 = s0 268 8 := rfl
  have k268_58 : s0 268 58 = s0 268 58 := rfl
  refine x_iload_n hx hb hl 1 rfl dX11_judge_0 rfl ?_
  refine x_iconst hx hb dX11_judge_1 ?_
  refine x_goi (x_runS (As := [.int (xJ j), .int (xJ 2)]) hx hb hml hown hT hE hW hl.1 cf_X11_isFive wq1412 wq1411 (c_X11_isFive l D g T h0 s0 hW.2.1 j rj 2 (by decide)) ⟨rfl, rfl, ⟨by decide, by decide⟩, ⟨by decide, by decide⟩⟩ rfl rfl (Nat.le_of_ble_eq_true rfl) dX11_judge_2) hW (fun x1 s2 H locs rx1 hp3 hW => ?_)
  obtain ⟨es2, hp3⟩ := hp3
  subst es2
  have ghp3 := hp3
  refine x_if_eq (tgt := 29) hx hb rx1 dX11_judge_5 (by decide) (fun c4 => ?_) (fun c4 => ?_)
  · skip
    refine x_iconst hx hb dX11_judge_29 ?_
    rw [eQ]
    exact x_zret hx hb hr hlk hW (by omega) ⟨hF, ⟨p0, p1, p2, trivial⟩, by omega⟩ dX11_judge_30
  refine x_iload_n hx hb hl 2 rfl dX11_judge_8 rfl ?_
  refine x_iload_n hx hb hl 3 rfl dX11_judge_9 rfl ?_
  refine x_goi (x_runS (As := [.int (xJ x), .int (xJ y)]) hx hb hml hown hT hE hW hl.1 cf_X11_isOn wq1430 wq1429 (c_X11_isOn l D g T h0 s0 hW.2.1 x rx y ry) ⟨rfl, rfl, ⟨by decide, by decide⟩, ⟨by decide, by decide⟩⟩ rfl rfl (Nat.le_of_ble_eq_true rfl) dX11_judge_10) hW (fun x5 s6 H locs rx5 hp7 hW => ?_)
  obtain ⟨es6, hp7⟩ := hp7
  subst es6
  have ghp7 := hp7
  refine x_if_eq (tgt := 29) hx hb rx5 dX11_judge_13 (by decide) (fun c8 => ?_) (fun c8 => ?_)
  · skip
    refine x_iconst hx hb dX11_judge_29 ?_
    rw [eQ]
    exact x_zret hx hb hr hlk hW (by omega) ⟨hF, ⟨p0, p1, p2, trivial⟩, by omega⟩ dX11_judge_30
  refine x_aload_n hx hb hl 0 rfl dX11_judge_16 rfl ?_
  refine x_bipush hx hb dX11_judge_17 (by decide) ?_
  refine x_iload_n hx hb hl 3 rfl dX11_judge_19 rfl ?_
  refine x_imul hx hb dX11_judge_20 ?_
  refine x_iload_n hx hb hl 2 rfl dX11_judge_21 rfl ?_
  refine x_iadd hx hb dX11_judge_22 ?_
  refine x_goi (x_runV (As := [.int (xJ ((10 * y) + x))]) hx hb hml hown hT hE hW hl.1 (Or.inl (by decide)) (so_268 h0 g _) rfl cf_X11_isGround wq1419 wq110 wq1417 (c_X11_isGround l D g T h0 s0 hW.2.1 ((10 * y) + x) (by omega) (by omega) p0 p1 p2) ⟨rfl, rfl, ⟨by decide, by decide⟩, ⟨by decide, by decide⟩⟩ rfl rfl (Nat.le_of_ble_eq_true rfl) dX11_judge_23) hW (fun x9 s10 H locs rx9 hp11 hW => ?_)
  obtain ⟨es10, hp11⟩ := hp11
  subst es10
  have ghp11 := hp11
  refine x_if_ne (tgt := 31) hx hb rx9 dX11_judge_26 (by decide) (fun c12 => ?_) (fun c12 => ?_)
  · skip
    refine x_aload_n hx hb hl 0 rfl dX11_judge_31 rfl ?_
    refine x_iconst hx hb dX11_judge_32 ?_
    refine x_iload_n hx hb hl 1 rfl dX11_judge_33 rfl ?_
    refine x_isub hx hb dX11_judge_34 ?_
    refine x_goi (x_runV (As := [.int (xJ (1 - j))]) hx hb hml hown hT hE hW hl.1 (Or.inl (by decide)) (so_268 h0 g _) rfl cf_X11_isJudge wq1409 wq109 wq1407 (c_X11_isJudge l D g T h0 s0 hW.2.1 (1 - j) (by omega) p0 p1 p2) ⟨rfl, rfl, ⟨by decide, by decide⟩, ⟨by decide, by decide⟩⟩ rfl rfl (Nat.le_of_ble_eq_true rfl) dX11_judge_35) hW (fun x13 s14 H locs rx13 hp15 hW => ?_)
    obtain ⟨es14, hp15⟩ := hp15
    subst es14
    have ghp15 := hp15
    have J60 : ∀ (ls : Array Slot), lv_has ls 4 [(0, .ref (h0 + 268)), (1, .int (xJ j)), (2, .int (xJ x)), (3, .int (xJ y))] → W p l e { frames := 2, cells := 0, slots := 0, locals := 43 } s m args below meth c H locs 0 0 Q (F0 m 60 ls []) := by
      intro ls   hl
      refine x_aload_n hx hb hl 0 rfl dX11_judge_60 rfl ?_
      refine x_get (j := 0) (v := .ref (h0 + 269)) hx hb hown hT hE hW cls_X11 (Or.inl (by decide)) (so_268 h0 g _) (by decide) rfl wq1185 dX11_judge_61 ?_
      refine x_bipush hx hb dX11_judge_64 (by decide) ?_
      refine x_aload_n hx hb hl 0 rfl dX11_judge_66 rfl ?_
      refine x_get (j := 0) (v := .ref (h0 + 269)) hx hb hown hT hE hW cls_X11 (Or.inl (by decide)) (so_268 h0 g _) (by decide) rfl wq1185 dX11_judge_67 ?_
      refine x_bipush hx hb dX11_judge_70 (by decide) ?_
      refine x_iald hx hb hE hW (Or.inl (by decide)) (sa_269 h0 g _) ⟨by decide, by decide⟩ (by decide) dX11_judge_72 ?_
      refine x_rd hW (fun x16 ex16 rx16 => ?_)
      refine x_iconst hx hb dX11_judge_73 ?_
      refine x_iload_n hx hb hl 1 rfl dX11_judge_74 rfl ?_
      refine lv_ishl hx hb dX11_judge_75 ?_
      refine x_any (fun x17 rx17 => ?_)
      refine lv_ior hx hb dX11_judge_76 ?_
      refine x_any (fun x18 rx18 => ?_)
      refine x_iast hx hb hE hW (by decide) (fun σ => sa_269 h0 g σ) ⟨by decide, by decide⟩ (by decide) rx18 dX11_judge_77 (fun H locs s19 es19 hW => ?_)
      have q20 : IMn s19 := by rw [es19]; exact IMn_N269 p0 (by omega)
      have q21 : IMk s19 := by rw [es19]; exact IMk_o (by unfold suIMk; omega) p1
      have q22 : IMo s19 := by rw [es19]; exact IMo_o (by unfold suIMo; omega) p2
      have q23 : s19 268 8 = s0 268 8 := (show s19 268 8 = s0 268 8 from by rw [es19, xU_k _ _ _ (by omega)]).trans k268_8
      have q24 : s19 268 58 = s0 268 58 := (show s19 268 58 = s0 268 58 from by rw [es19, xU_k _ _ _ (by omega)]).trans k268_58
      have hF25 := hF.put es19 (by omega)
      refine x_aload_n hx hb hl 0 rfl dX11_judge_78 rfl ?_
      refine x_get (j := 0) (v := .ref (h0 + 269)) hx hb hown hT hE hW cls_X11 (Or.inl (by decide)) (so_268 h0 g _) (by decide) rfl wq1185 dX11_judge_79 ?_
      refine x_iconst hx hb dX11_judge_82 ?_
      refine x_iload_n hx hb hl 1 rfl dX11_judge_83 rfl ?_
      refine x_iadd hx hb dX11_judge_84 ?_
      refine x_bipush hx hb dX11_judge_85 (by decide) ?_
      refine x_iload_n hx hb hl 3 rfl dX11_judge_87 rfl ?_
      refine x_imul hx hb dX11_judge_88 ?_
      refine x_iload_n hx hb hl 2 rfl dX11_judge_89 rfl ?_
      refine x_iadd hx hb dX11_judge_90 ?_
      refine x_iast hx hb hE hW (by decide) (fun σ => sa_269 h0 g σ) (by omega) (by decide) (by omega) dX11_judge_91 (fun H locs s26 es26 hW => ?_)
      have q27 : IMn s26 := by rw [es26]; exact IMn_N269 q20 (by omega)
      have q28 : IMk s26 := by rw [es26]; exact IMk_o (by unfold suIMk; omega) q21
      have q29 : IMo s26 := by rw [es26]; exact IMo_o (by unfold suIMo; omega) q22
      have q30 : s26 268 8 = s0 268 8 := (show s26 268 8 = s19 268 8 from by rw [es26, xU_k _ _ _ (by omega)]).trans q23
      have q31 : s26 268 58 = s0 268 58 := (show s26 268 58 = s19 268 58 from by rw [es26, xU_k _ _ _ (by omega)]).trans q24
      have hF32 := hF25.put es26 (by omega)
      refine x_iconst hx hb dX11_judge_92 ?_
      rw [eQ]
      exact x_zret hx hb hr hlk hW (by omega) ⟨hF32, ⟨q27, q28, q29, trivial⟩, by omega⟩ dX11_judge_93
    refine x_if_eq (tgt := 60) hx hb rx13 dX11_judge_38 (by decide) (fun c33 => ?_) (fun c33 => ?_)
    · skip
      exact J60 ls   (lv_sub hl [0, 1, 2, 3] rfl)
    refine x_aload_n hx hb hl 0 rfl dX11_judge_41 rfl ?_
    refine x_get (j := 0) (v := .ref (h0 + 269)) hx hb hown hT hE hW cls_X11 (Or.inl (by decide)) (so_268 h0 g _) (by decide) rfl wq1185 dX11_judge_42 ?_
    refine x_iconst hx hb dX11_judge_45 ?_
    refine x_iload_n hx hb hl 1 rfl dX11_judge_46 rfl ?_
    refine x_isub hx hb dX11_judge_47 ?_
    refine x_iald hx hb hE hW (Or.inl (by decide)) (sa_269 h0 g _) (by omega) (by decide) dX11_judge_48 ?_
    refine x_rd hW (fun x34 ex34 rx34 => ?_)
    have bx34 : 0 ≤ x34 ∧ x34 ≤ 99 := by rw [ex34]; exact (IMn.n1 p0).1 _ (by omega) (by omega)
    refine x_bipush hx hb dX11_judge_49 (by decide) ?_
    refine x_iload_n hx hb hl 3 rfl dX11_judge_51 rfl ?_
    refine x_imul hx hb dX11_judge_52 ?_
    refine x_iload_n hx hb hl 2 rfl dX11_judge_53 rfl ?_
    refine x_iadd hx hb dX11_judge_54 ?_
    refine x_icmp_ne (tgt := 60) hx hb rx34 (by omega) dX11_judge_55 (by decide) (fun c35 => ?_) (fun c35 => ?_)
    · skip
      exact J60 ls   (lv_sub hl [0, 1, 2, 3] rfl)
    refine x_iconst hx hb dX11_judge_58 ?_
    rw [eQ]
    exact x_zret hx hb hr hlk hW (by omega) ⟨hF, ⟨p0, p1, p2, trivial⟩, by omega⟩ dX11_judge_59
  refine x_iconst hx hb dX11_judge_29 ?_
  rw [eQ]
  exact x_zret hx hb hr hlk hW (by omega) ⟨hF, ⟨p0, p1, p2, trivial⟩, by omega⟩ dX11_judge_30
set_option maxHeartbeats 4000000 in
set_option maxRecDepth 100000 in
theorem c_X11_felon (l : Launch) (D : va_G) (g : xG) (T : Nat × Nat × Nat) (h0 : Nat) (s0 : xS) (hσ : xRR s0) (f : Int) (rf : xR f) (x : Int) (rx : xR x) (y : Int) (ry : xR y) (w : Int) (rw : xR w) (p0 : IMn s0) (p1 : IMk s0) (p2 : IMo s0) : Met l yX11_felon (xws yX11_felon cX11_felon 5 (some .boolean)) { frames := 2, cells := 0, slots := 0, locals := 43 } (xP [.ref (h0 + 268), .int (xJ f), .int (xJ x), .int (xJ y), .int (xJ w)] D g T h0 s0) (xQi D g h0 (fun r τ => xFr (fun k => k = 269) s0 τ ∧ (((IMn τ) ∧ (IMk τ) ∧ (IMo τ) ∧ True) ∧ (r = 0 ∨ r = 1)))) 0 0 (xA h0) := by
  refine x_met hσ (by decide) (Nat.le_of_ble_eq_true rfl) ?_
  intro p e s m args below meth c hx hb hr hml hown hT hlk hnm hE hW ls hl
  have hl : lv_has ls 5 [(0, .ref (h0 + 268)), (1, .int (xJ f)), (2, .int (xJ x)), (3, .int (xJ y)), (4, .int (xJ w))] := hl
  obtain ⟨Q, eQ⟩ : ∃ Q, Q = MQ below (xQi D g h0 (fun r τ => xFr (fun k => k = 269) s0 τ ∧ (((IMn τ) ∧ (IMk τ) ∧ (IMo τ) ∧ True) ∧ (r = 0 ∨ r = 1)))) args s 0 0 (xA h0) := ⟨_, rfl⟩
  rw [← eQ]
  generalize hHe : ([] : List Loc) = locs at hW ⊢
  obtain ⟨H, eH⟩ : ∃ H, H = s.heap := ⟨_, rfl⟩
  rw [← eH] at hW ⊢
  have hF : xFr (fun k => k = 269) s0 s0 := xFr.rf
  have k268_8 : s0 268 8 = s0 268 8 := rfl
  have k268_58 : s0 268 58 = s0 268 58 := rfl
  refine x_iload_n hx hb hl 1 rfl dX11_felon_0 rfl ?_
  refine x_bipush hx hb dX11_felon_1 (by decide) ?_
  refine x_goi (x_runS (As := [.int (xJ f), .int (xJ 10)]) hx hb hml hown hT hE hW hl.1 cf_X11_isFive wq1412 wq1411 (c_X11_isFive l D g T h0 s0 hW.2.1 f rf 10 (by decide)) ⟨rfl, rfl, ⟨by decide, by decide⟩, ⟨by decide, by decide⟩⟩ rfl rfl (Nat.le_of_ble_eq_true rfl) dX11_felon_3) hW (fun x1 s2 H locs rx1 hp3 hW => ?_)
  obtain ⟨es2, hp3⟩ := hp3
  subst es2
  have ghp3 := hp3
  refine x_if_eq (tgt := 42) hx hb rx1 dX11_felon_6 (by decide) (fun c4 => ?_) (fun c4 => ?_)
  · skip
    refine x_iconst hx hb dX11_felon_42 ?_
    rw [eQ]
    exact x_zret hx hb hr hlk hW (by omega) ⟨hF, ⟨p0, p1, p2, trivial⟩, by omega⟩ dX11_felon_43
  refine x_iload_n hx hb hl 2 rfl dX11_felon_9 rfl ?_
  refine x_iload_n hx hb hl 3 rfl dX11_felon_10 rfl ?_
  refine x_goi (x_runS (As := [.int (xJ x), .int (xJ y)]) hx hb hml hown hT hE hW hl.1 cf_X11_isOn wq1430 wq1429 (c_X11_isOn l D g T h0 s0 hW.2.1 x rx y ry) ⟨rfl, rfl, ⟨by decide, by decide⟩, ⟨by decide, by decide⟩⟩ rfl rfl (Nat.le_of_ble_eq_true rfl) dX11_felon_11) hW (fun x5 s6 H locs rx5 hp7 hW => ?_)
  obtain ⟨es6, hp7⟩ := hp7
  subst es6
  have ghp7 := hp7
  refine x_if_eq (tgt := 42) hx hb rx5 dX11_felon_14 (by decide) (fun c8 => ?_) (fun c8 => ?_)
  · skip
    refine x_iconst hx hb dX11_felon_42 ?_
    rw [eQ]
    exact x_zret hx hb hr hlk hW (by omega) ⟨hF, ⟨p0, p1, p2, trivial⟩, by omega⟩ dX11_felon_43
  refine x_aload_n hx hb hl 0 rfl dX11_felon_17 rfl ?_
  refine x_bipush hx hb dX11_felon_18 (by decide) ?_
  refine x_iload_n hx hb hl 3 rfl dX11_felon_20 rfl ?_
  refine x_imul hx hb dX11_felon_21 ?_
  refine x_iload_n hx hb hl 2 rfl dX11_felon_22 rfl ?_
  refine x_iadd hx hb dX11_felon_23 ?_
  refine x_goi (x_runV (As := [.int (xJ ((10 * y) + x))]) hx hb hml hown hT hE hW hl.1 (Or.inl (by decide)) (so_268 h0 g _) rfl cf_X11_isGround wq1419 wq110 wq1417 (c_X11_isGround l D g T h0 s0 hW.2.1 ((10 * y) + x) (by omega) (by omega) p0 p1 p2) ⟨rfl, rfl, ⟨by decide, by decide⟩, ⟨by decide, by decide⟩⟩ rfl rfl (Nat.le_of_ble_eq_true rfl) dX11_felon_24) hW (fun x9 s10 H locs rx9 hp11 hW => ?_)
  obtain ⟨es10, hp11⟩ := hp11
  subst es10
  have ghp11 := hp11
  refine x_if_eq (tgt := 42) hx hb rx9 dX11_felon_27 (by decide) (fun c12 => ?_) (fun c12 => ?_)
  · skip
    refine x_iconst hx hb dX11_felon_42 ?_
    rw [eQ]
    exact x_zret hx hb hr hlk hW (by omega) ⟨hF, ⟨p0, p1, p2, trivial⟩, by omega⟩ dX11_felon_43
  refine x_iload hx hb hl 4 rfl dX11_felon_30 ?_
  refine x_iconst hx hb dX11_felon_32 ?_
  refine x_sipush hx hb dX11_felon_33 (by decide) ?_
  refine x_goi (x_runS (As := [.int (xJ w), .int (xJ 0), .int (xJ 999)]) hx hb hml hown hT hE hW hl.1 cf_X11_in wq1383 wq1382 (c_X11_in l D g T h0 s0 hW.2.1 w rw 0 (by decide) 999 (by decide)) ⟨rfl, rfl, ⟨by decide, by decide⟩, ⟨by decide, by decide⟩⟩ rfl rfl (Nat.le_of_ble_eq_true rfl) dX11_felon_36) hW (fun x13 s14 H locs rx13 hp15 hW => ?_)
  obtain ⟨es14, hp15⟩ := hp15
  subst es14
  have ghp15 := hp15
  refine x_if_ne (tgt := 44) hx hb rx13 dX11_felon_39 (by decide) (fun c16 => ?_) (fun c16 => ?_)
  · skip
    refine x_aload_n hx hb hl 0 rfl dX11_felon_44 rfl ?_
    refine x_get (j := 0) (v := .ref (h0 + 269)) hx hb hown hT hE hW cls_X11 (Or.inl (by decide)) (so_268 h0 g _) (by decide) rfl wq1185 dX11_felon_45 ?_
    refine x_bipush hx hb dX11_felon_48 (by decide) ?_
    refine x_aload_n hx hb hl 0 rfl dX11_felon_50 rfl ?_
    refine x_get (j := 0) (v := .ref (h0 + 269)) hx hb hown hT hE hW cls_X11 (Or.inl (by decide)) (so_268 h0 g _) (by decide) rfl wq1185 dX11_felon_51 ?_
    refine x_bipush hx hb dX11_felon_54 (by decide) ?_
    refine x_iald hx hb hE hW (Or.inl (by decide)) (sa_269 h0 g _) ⟨by decide, by decide⟩ (by decide) dX11_felon_56 ?_
    refine x_rd hW (fun x17 ex17 rx17 => ?_)
    refine x_iconst hx hb dX11_felon_57 ?_
    refine x_iload_n hx hb hl 1 rfl dX11_felon_58 rfl ?_
    refine lv_ishl hx hb dX11_felon_59 ?_
    refine x_any (fun x18 rx18 => ?_)
    refine lv_ior hx hb dX11_felon_60 ?_
    refine x_any (fun x19 rx19 => ?_)
    refine x_iast hx hb hE hW (by decide) (fun σ => sa_269 h0 g σ) ⟨by decide, by decide⟩ (by decide) rx19 dX11_felon_61 (fun H locs s20 es20 hW => ?_)
    have q21 : IMn s20 := by rw [es20]; exact IMn_N269 p0 (by omega)
    have q22 : IMk s20 := by rw [es20]; exact IMk_o (by unfold suIMk; omega) p1
    have q23 : IMo s20 := by rw [es20]; exact IMo_o (by unfold suIMo; omega) p2
    have q24 : s20 268 8 = s0 268 8 := (show s20 268 8 = s0 268 8 from by rw [es20, xU_k _ _ _ (by omega)]).trans k268_8
    have q25 : s20 268 58 = s0 268 58 := (show s20 268 58 = s0 268 58 from by rw [es20, xU_k _ _ _ (by omega)]).trans k268_58
    have hF26 := hF.put es20 (by omega)
    refine x_aload_n hx hb hl 0 rfl dX11_felon_62 rfl ?_
    refine x_get (j := 0) (v := .ref (h0 + 269)) hx hb hown hT hE hW cls_X11 (Or.inl (by decide)) (so_268 h0 g _) (by decide) rfl wq1185 dX11_felon_63 ?_
    refine x_bipush hx hb dX11_felon_66 (by decide) ?_
    refine x_aload_n hx hb hl 0 rfl dX11_felon_68 rfl ?_
    refine x_get (j := 0) (v := .ref (h0 + 269)) hx hb hown hT hE hW cls_X11 (Or.inl (by decide)) (so_268 h0 g _) (by decide) rfl wq1185 dX11_felon_69 ?_
    refine x_bipush hx hb dX11_felon_72 (by decide) ?_
    refine x_iald hx hb hE hW (Or.inl (by decide)) (sa_269 h0 g _) ⟨by decide, by decide⟩ (by decide) dX11_felon_74 ?_
    refine x_rd hW (fun x27 ex27 rx27 => ?_)
    refine x_iconst hx hb dX11_felon_75 ?_
    refine x_iload_n hx hb hl 1 rfl dX11_felon_76 rfl ?_
    refine lv_ishl hx hb dX11_felon_77 ?_
    refine x_any (fun x28 rx28 => ?_)
    refine x_iconst hx hb dX11_felon_78 ?_
    refine lv_ixor hx hb dX11_felon_79 ?_
    refine x_any (fun x29 rx29 => ?_)
    refine lv_iand hx hb dX11_felon_80 ?_
    refine x_any (fun x30 rx30 => ?_)
    refine x_iast hx hb hE hW (by decide) (fun σ => sa_269 h0 g σ) ⟨by decide, by decide⟩ (by decide) rx30 dX11_felon_81 (fun H locs s31 es31 hW => ?_)
    have q32 : IMn s31 := by rw [es31]; exact IMn_N269 q21 (by omega)
    have q33 : IMk s31 := by rw [es31]; exact IMk_o (by unfold suIMk; omega) q22
    have q34 : IMo s31 := by rw [es31]; exact IMo_o (by unfold suIMo; omega) q23
    have q35 : s31 268 8 = s0 268 8 := (show s31 268 8 = s20 268 8 from by rw [es31, xU_k _ _ _ (by omega)]).trans q24
    have q36 : s31 268 58 = s0 268 58 := (show s31 268 58 = s20 268 58 from by rw [es31, xU_k _ _ _ (by omega)]).trans q25
    have hF37 := hF26.put es31 (by omega)
    refine x_aload_n hx hb hl 0 rfl dX11_felon_82 rfl ?_
    refine x_get (j := 0) (v := .ref (h0 + 269)) hx hb hown hT hE hW cls_X11 (Or.inl (by decide)) (so_268 h0 g _) (by decide) rfl wq1185 dX11_felon_83 ?_
    refine x_iconst hx hb dX11_felon_86 ?_
    refine x_iload_n hx hb hl 1 rfl dX11_felon_87 rfl ?_
    refine x_iadd hx hb dX11_felon_88 ?_
    refine x_bipush hx hb dX11_felon_89 (by decide) ?_
    refine x_iload_n hx hb hl 3 rfl dX11_felon_91 rfl ?_
    refine x_imul hx hb dX11_felon_92 ?_
    refine x_iload_n hx hb hl 2 rfl dX11_felon_93 rfl ?_
    refine x_iadd hx hb dX11_felon_94 ?_
    refine x_iast hx hb hE hW (by decide) (fun σ => sa_269 h0 g σ) (by omega) (by decide) (by omega) dX11_felon_95 (fun H locs s38 es38 hW => ?_)
    have q39 : IMn s38 := by rw [es38]; exact IMn_N269 q32 (by omega)
    have q40 : IMk s38 := by rw [es38]; exact IMk_o (by unfold suIMk; omega) q33
    have q41 : IMo s38 := by rw [es38]; exact IMo_o (by unfold suIMo; omega) q34
    have q42 : s38 268 8 = s0 268 8 := (show s38 268 8 = s31 268 8 from by rw [es38, xU_k _ _ _ (by omega)]).trans q35
    have q43 : s38 268 58 = s0 268 58 := (show s38 268 58 = s31 268 58 from by rw [es38, xU_k _ _ _ (by omega)]).trans q36
    have hF44 := hF37.put es38 (by omega)
    refine x_aload_n hx hb hl 0 rfl dX11_felon_96 rfl ?_
    refine x_get (j := 0) (v := .ref (h0 + 269)) hx hb hown hT hE hW cls_X11 (Or.inl (by decide)) (so_268 h0 g _) (by decide) rfl wq1185 dX11_felon_97 ?_
    refine x_bipush hx hb dX11_felon_100 (by decide) ?_
    refine x_iload_n hx hb hl 1 rfl dX11_felon_102 rfl ?_
    refine x_iadd hx hb dX11_felon_103 ?_
    refine x_iload hx hb hl 4 rfl dX11_felon_104 ?_
    refine x_iast hx hb hE hW (by decide) (fun σ => sa_269 h0 g σ) (by omega) (by decide) rw dX11_felon_106 (fun H locs s45 es45 hW => ?_)
    have q46 : IMn s45 := by rw [es45]; exact IMn_N269 q39 (by omega)
    have q47 : IMk s45 := by rw [es45]; exact IMk_o (by unfold suIMk; omega) q40
    have q48 : IMo s45 := by rw [es45]; exact IMo_o (by unfold suIMo; omega) q41
    have q49 : s45 268 8 = s0 268 8 := (show s45 268 8 = s38 268 8 from by rw [es45, xU_k _ _ _ (by omega)]).trans q42
    have q50 : s45 268 58 = s0 268 58 := (show s45 268 58 = s38 268 58 from by rw [es45, xU_k _ _ _ (by omega)]).trans q43
    have hF51 := hF44.put es45 (by omega)
    refine x_aload_n hx hb hl 0 rfl dX11_felon_107 rfl ?_
    refine x_get (j := 0) (v := .ref (h0 + 269)) hx hb hown hT hE hW cls_X11 (Or.inl (by decide)) (so_268 h0 g _) (by decide) rfl wq1185 dX11_felon_108 ?_
    refine x_bipush hx hb dX11_felon_111 (by decide) ?_
    refine x_iload_n hx hb hl 1 rfl dX11_felon_113 rfl ?_
    refine x_iadd hx hb dX11_felon_114 ?_
    refine x_iconst hx hb dX11_felon_115 ?_
    refine x_iast hx hb hE hW (by decide) (fun σ => sa_269 h0 g σ) (by omega) (by decide) (by decide) dX11_felon_116 (fun H locs s52 es52 hW => ?_)
    have q53 : IMn s52 := by rw [es52]; exact IMn_N269 q46 (by omega)
    have q54 : IMk s52 := by rw [es52]; exact IMk_o (by unfold suIMk; omega) q47
    have q55 : IMo s52 := by rw [es52]; exact IMo_o (by unfold suIMo; omega) q48
    have q56 : s52 268 8 = s0 268 8 := (show s52 268 8 = s45 268 8 from by rw [es52, xU_k _ _ _ (by omega)]).trans q49
    have q57 : s52 268 58 = s0 268 58 := (show s52 268 58 = s45 268 58 from by rw [es52, xU_k _ _ _ (by omega)]).trans q50
    have hF58 := hF51.put es52 (by omega)
    refine x_iconst hx hb dX11_felon_117 ?_
    rw [eQ]
    exact x_zret hx hb hr hlk hW (by omega) ⟨hF58, ⟨q53, q54, q55, trivial⟩, by omega⟩ dX11_felon_118
  refine x_iconst hx hb dX11_felon_42 ?_
  rw [eQ]
  exact x_zret hx hb hr hlk hW (by omega) ⟨hF, ⟨p0, p1, p2, trivial⟩, by omega⟩ dX11_felon_43
set_option maxHeartbeats 4000000 in
set_option maxRecDepth 100000 in
theorem c_X11_lamp (l : Launch) (D : va_G) (g : xG) (T : Nat × Nat × Nat) (h0 : Nat) (s0 : xS) (hσ : xRR s0) (i : Int) (ri : xR i) (x : Int) (rx : xR x) (y : Int) (ry : xR y) (p0 : IMn s0) (p1 : IMk s0) (p2 : IMo s0) : Met l yX11_lamp (xws yX11_lamp cX11_lamp 4 (some .boolean)) { frames := 2, cells := 0, slots := 0, locals := 43 } (xP [.ref (h0 + 268), .int (xJ i), .int (xJ x), .int (xJ y)] D g T h0 s0) (xQi D g h0 (fun r τ => xFr (fun k => k = 273) s0 τ ∧ (((IMn τ) ∧ (IMk τ) ∧ (IMo τ) ∧ True) ∧ (r = 0 ∨ r = 1)))) 0 0 (xA h0) := by
  refine x_met hσ (by decide) (Nat.le_of_ble_eq_true rfl) ?_
  intro p e s m args below meth c hx hb hr hml hown hT hlk hnm hE hW ls hl
  have hl : lv_has ls 4 [(0, .ref (h0 + 268)), (1, .int (xJ i)), (2, .int (xJ x)), (3, .int (xJ y))] := hl
  obtain ⟨Q, eQ⟩ : ∃ Q, Q = MQ below (xQi D g h0 (fun r τ => xFr (fun k => k = 273) s0 τ ∧ (((IMn τ) ∧ (IMk τ) ∧ (IMo τ) ∧ True) ∧ (r = 0 ∨ r = 1)))) args s 0 0 (xA h0) := ⟨_, rfl⟩
  rw [← eQ]
  generalize hHe : ([] : List Loc) = locs at hW ⊢
  obtain ⟨H, eH⟩ : ∃ H, H = s.heap := ⟨_, rfl⟩
  rw [← eH] at hW ⊢
  have hF : xFr (fun k => k = 273) s0 s0 := xFr.rf
  have k268_8 : s0 268 8 = s0 268 8 := rfl
  have k268_58 : s0 268 58 = s0 268 58 := rfl
  refine x_iload_n hx hb hl 1 rfl dX11_lamp_0 rfl ?_
  refine x_iconst hx hb dX11_lamp_1 ?_
  refine x_goi (x_runS (As := [.int (xJ i), .int (xJ 4)]) hx hb hml hown hT hE hW hl.1 cf_X11_isFive wq1412 wq1411 (c_X11_isFive l D g T h0 s0 hW.2.1 i ri 4 (by decide)) ⟨rfl, rfl, ⟨by decide, by decide⟩, ⟨by decide, by decide⟩⟩ rfl rfl (Nat.le_of_ble_eq_true rfl) dX11_lamp_2) hW (fun x1 s2 H locs rx1 hp3 hW => ?_)
  obtain ⟨es2, hp3⟩ := hp3
  subst es2
  have ghp3 := hp3
  refine x_if_ne (tgt := 10) hx hb rx1 dX11_lamp_5 (by decide) (fun c4 => ?_) (fun c4 => ?_)
  · skip
    refine x_iload_n hx hb hl 2 rfl dX11_lamp_10 rfl ?_
    refine x_iconst hx hb dX11_lamp_11 ?_
    refine x_icmp_eq (tgt := 38) hx hb rx (by decide) dX11_lamp_12 (by decide) (fun c5 => ?_) (fun c5 => ?_)
    · skip
      refine x_aload_n hx hb hl 0 rfl dX11_lamp_38 rfl ?_
      refine x_get (j := 4) (v := .ref (h0 + 273)) hx hb hown hT hE hW cls_X11 (Or.inl (by decide)) (so_268 h0 g _) (by decide) rfl wq1189 dX11_lamp_39 ?_
      refine x_iload_n hx hb hl 1 rfl dX11_lamp_42 rfl ?_
      refine x_iload_n hx hb hl 2 rfl dX11_lamp_43 rfl ?_
      refine x_iconst hx hb dX11_lamp_44 ?_
      refine x_icmp_ne (tgt := 52) hx hb rx (by decide) dX11_lamp_45 (by decide) (fun c6 => ?_) (fun c6 => ?_)
      · skip
        refine x_bipush hx hb dX11_lamp_52 (by decide) ?_
        refine x_iload_n hx hb hl 3 rfl dX11_lamp_54 rfl ?_
        refine x_imul hx hb dX11_lamp_55 ?_
        refine x_iload_n hx hb hl 2 rfl dX11_lamp_56 rfl ?_
        refine x_iadd hx hb dX11_lamp_57 ?_
        refine x_iast hx hb hE hW (by decide) (fun σ => sa_273 h0 g σ) (by omega) (by decide) (by omega) dX11_lamp_58 (fun H locs s7 es7 hW => ?_)
        have q8 : IMn s7 := by rw [es7]; exact IMn_273 p0 (by omega)
        have q9 : IMk s7 := by rw [es7]; exact IMk_o (by unfold suIMk; omega) p1
        have q10 : IMo s7 := by rw [es7]; exact IMo_o (by unfold suIMo; omega) p2
        have q11 : s7 268 8 = s0 268 8 := (show s7 268 8 = s0 268 8 from by rw [es7, xU_k _ _ _ (by omega)]).trans k268_8
        have q12 : s7 268 58 = s0 268 58 := (show s7 268 58 = s0 268 58 from by rw [es7, xU_k _ _ _ (by omega)]).trans k268_58
        have hF13 := hF.put es7 (by omega)
        refine x_iconst hx hb dX11_lamp_59 ?_
        rw [eQ]
        exact x_zret hx hb hr hlk hW (by omega) ⟨hF13, ⟨q8, q9, q10, trivial⟩, by omega⟩ dX11_lamp_60
      refine x_iconst hx hb dX11_lamp_48 ?_
      refine lv_goto (tgt := 58) hx hb dX11_lamp_49 (by decide) ?_
      refine x_iast hx hb hE hW (by decide) (fun σ => sa_273 h0 g σ) (by omega) (by decide) (by decide) dX11_lamp_58 (fun H locs s14 es14 hW => ?_)
      have q15 : IMn s14 := by rw [es14]; exact IMn_273 p0 (by omega)
      have q16 : IMk s14 := by rw [es14]; exact IMk_o (by unfold suIMk; omega) p1
      have q17 : IMo s14 := by rw [es14]; exact IMo_o (by unfold suIMo; omega) p2
      have q18 : s14 268 8 = s0 268 8 := (show s14 268 8 = s0 268 8 from by rw [es14, xU_k _ _ _ (by omega)]).trans k268_8
      have q19 : s14 268 58 = s0 268 58 := (show s14 268 58 = s0 268 58 from by rw [es14, xU_k _ _ _ (by omega)]).trans k268_58
      have hF20 := hF.put es14 (by omega)
      refine x_iconst hx hb dX11_lamp_59 ?_
      rw [eQ]
      exact x_zret hx hb hr hlk hW (by omega) ⟨hF20, ⟨q15, q16, q17, trivial⟩, by omega⟩ dX11_lamp_60
    refine x_iload_n hx hb hl 2 rfl dX11_lamp_15 rfl ?_
    refine x_iload_n hx hb hl 3 rfl dX11_lamp_16 rfl ?_
    refine x_goi (x_runS (As := [.int (xJ x), .int (xJ y)]) hx hb hml hown hT hE hW hl.1 cf_X11_isOn wq1430 wq1429 (c_X11_isOn l D g T h0 s0 hW.2.1 x rx y ry) ⟨rfl, rfl, ⟨by decide, by decide⟩, ⟨by decide, by decide⟩⟩ rfl rfl (Nat.le_of_ble_eq_true rfl) dX11_lamp_17) hW (fun x21 s22 H locs rx21 hp23 hW => ?_)
    obtain ⟨es22, hp23⟩ := hp23
    subst es22
    have ghp23 := hp23
    refine x_if_eq (tgt := 36) hx hb rx21 dX11_lamp_20 (by decide) (fun c24 => ?_) (fun c24 => ?_)
    · skip
      refine x_iconst hx hb dX11_lamp_36 ?_
      rw [eQ]
      exact x_zret hx hb hr hlk hW (by omega) ⟨hF, ⟨p0, p1, p2, trivial⟩, by omega⟩ dX11_lamp_37
    refine x_aload_n hx hb hl 0 rfl dX11_lamp_23 rfl ?_
    refine x_bipush hx hb dX11_lamp_24 (by decide) ?_
    refine x_iload_n hx hb hl 3 rfl dX11_lamp_26 rfl ?_
    refine x_imul hx hb dX11_lamp_27 ?_
    refine x_iload_n hx hb hl 2 rfl dX11_lamp_28 rfl ?_
    refine x_iadd hx hb dX11_lamp_29 ?_
    refine x_goi (x_runV (As := [.int (xJ ((10 * y) + x))]) hx hb hml hown hT hE hW hl.1 (Or.inl (by decide)) (so_268 h0 g _) rfl cf_X11_isGround wq1419 wq110 wq1417 (c_X11_isGround l D g T h0 s0 hW.2.1 ((10 * y) + x) (by omega) (by omega) p0 p1 p2) ⟨rfl, rfl, ⟨by decide, by decide⟩, ⟨by decide, by decide⟩⟩ rfl rfl (Nat.le_of_ble_eq_true rfl) dX11_lamp_30) hW (fun x25 s26 H locs rx25 hp27 hW => ?_)
    obtain ⟨es26, hp27⟩ := hp27
    subst es26
    have ghp27 := hp27
    refine x_if_ne (tgt := 38) hx hb rx25 dX11_lamp_33 (by decide) (fun c28 => ?_) (fun c28 => ?_)
    · skip
      refine x_aload_n hx hb hl 0 rfl dX11_lamp_38 rfl ?_
      refine x_get (j := 4) (v := .ref (h0 + 273)) hx hb hown hT hE hW cls_X11 (Or.inl (by decide)) (so_268 h0 g _) (by decide) rfl wq1189 dX11_lamp_39 ?_
      refine x_iload_n hx hb hl 1 rfl dX11_lamp_42 rfl ?_
      refine x_iload_n hx hb hl 2 rfl dX11_lamp_43 rfl ?_
      refine x_iconst hx hb dX11_lamp_44 ?_
      refine x_icmp_ne (tgt := 52) hx hb rx (by decide) dX11_lamp_45 (by decide) (fun c29 => ?_) (fun c29 => ?_)
      · skip
        refine x_bipush hx hb dX11_lamp_52 (by decide) ?_
        refine x_iload_n hx hb hl 3 rfl dX11_lamp_54 rfl ?_
        refine x_imul hx hb dX11_lamp_55 ?_
        refine x_iload_n hx hb hl 2 rfl dX11_lamp_56 rfl ?_
        refine x_iadd hx hb dX11_lamp_57 ?_
        refine x_iast hx hb hE hW (by decide) (fun σ => sa_273 h0 g σ) (by omega) (by decide) (by omega) dX11_lamp_58 (fun H locs s30 es30 hW => ?_)
        have q31 : IMn s30 := by rw [es30]; exact IMn_273 p0 (by omega)
        have q32 : IMk s30 := by rw [es30]; exact IMk_o (by unfold suIMk; omega) p1
        have q33 : IMo s30 := by rw [es30]; exact IMo_o (by unfold suIMo; omega) p2
        have q34 : s30 268 8 = s0 268 8 := (show s30 268 8 = s0 268 8 from by rw [es30, xU_k _ _ _ (by omega)]).trans k268_8
        have q35 : s30 268 58 = s0 268 58 := (show s30 268 58 = s0 268 58 from by rw [es30, xU_k _ _ _ (by omega)]).trans k268_58
        have hF36 := hF.put es30 (by omega)
        refine x_iconst hx hb dX11_lamp_59 ?_
        rw [eQ]
        exact x_zret hx hb hr hlk hW (by omega) ⟨hF36, ⟨q31, q32, q33, trivial⟩, by omega⟩ dX11_lamp_60
      refine x_iconst hx hb dX11_lamp_48 ?_
      refine lv_goto (tgt := 58) hx hb dX11_lamp_49 (by decide) ?_
      refine x_iast hx hb hE hW (by decide) (fun σ => sa_273 h0 g σ) (by omega) (by decide) (by decide) dX11_lamp_58 (fun H locs s37 es37 hW => ?_)
      have q38 : IMn s37 := by rw [es37]; exact IMn_273 p0 (by omega)
      have q39 : IMk s37 := by rw [es37]; exact IMk_o (by unfold suIMk; omega) p1
      have q40 : IMo s37 := by rw [es37]; exact IMo_o (by unfold suIMo; omega) p2
      have q41 : s37 268 8 = s0 268 8 := (show s37 268 8 = s0 268 8 from by rw [es37, xU_k _ _ _ (by omega)]).trans k268_8
      have q42 : s37 268 58 = s0 268 58 := (show s37 268 58 = s0 268 58 from by rw [es37, xU_k _ _ _ (by omega)]).trans k268_58
      have hF43 := hF.put es37 (by omega)
      refine x_iconst hx hb dX11_lamp_59 ?_
      rw [eQ]
      exact x_zret hx hb hr hlk hW (by omega) ⟨hF43, ⟨q38, q39, q40, trivial⟩, by omega⟩ dX11_lamp_60
    refine x_iconst hx hb dX11_lamp_36 ?_
    rw [eQ]
    exact x_zret hx hb hr hlk hW (by omega) ⟨hF, ⟨p0, p1, p2, trivial⟩, by omega⟩ dX11_lamp_37
  refine x_iconst hx hb dX11_lamp_8 ?_
  rw [eQ]
  exact x_zret hx hb hr hlk hW (by omega) ⟨hF, ⟨p0, p1, p2, trivial⟩, by omega⟩ dX11_lamp_9
