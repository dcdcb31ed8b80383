theorem zYN_cg {N N2 : Int → Int} {a c s : Int} (h : ∀ q : Int, 0 ≤ q → q < 39 → N2 q = N q) : zYN N2 a c s = zYN N a c s := funext fun i => by
  have e34 := h 34 (by decide) (by decide)
  have e35 := h 35 (by decide) (by decide)
  have e36 := h 36 (by decide) (by decide)
  unfold zYN zrj
  rw [e34, e35, e36, h 37 (by decide) (by decide), h 38 (by decide) (by decide)]
  by_cases h0 : 0 ≤ i ∧ i < 39
  · rw [h i h0.1 h0.2]
  · by_cases h1 : i < 0
    · rw [if_pos h1, if_pos h1]
    · simp only [if_neg h1, if_neg (show ¬ i < 2 from by omega), if_neg (show ¬ i < 4 from by omega), if_neg (show ¬ i < 14 from by omega), if_neg (show ¬ i < 24 from by omega), if_neg (show ¬ i < 34 from by omega)]
theorem zYN_Fn {N : Int → Int} {a c s f : Int} (hf : 0 ≤ f ∧ f < 10) (h : 0 ≤ N (4 + f)) : zYN N a c s (4 + f) ≠ -1 ↔ xsh (N 35) f % 2 = 1 := by
  rw [zYN_F hf]
  by_cases c : xsh (N 35) f % 2 = 1
  · rw [if_pos c]
    exact ⟨fun _ => c, fun _ => by omega⟩
  · rw [if_neg c]
    exact ⟨fun z => absurd rfl z, fun z => absurd z c⟩
theorem zYN_Jn {N : Int → Int} {a c s j : Int} (hj : 0 ≤ j ∧ j < 2) (h : 0 ≤ N j) : zYN N a c s j ≠ -1 ↔ xsh (N 34) j % 2 = 1 := by
  rw [zYN_J hj]
  unfold zrj
  by_cases c : xsh (N 34) j % 2 = 1
  · rw [if_pos c]
    exact ⟨fun _ => c, fun _ => by omega⟩
  · rw [if_neg c]
    exact ⟨fun z => absurd rfl z, fun z => absurd z c⟩
set_option maxHeartbeats 4000000 in
set_option maxRecDepth 100000 in
theorem c_X11_minutesF (l : Launch) (D : va_G) (g : xG) (T : Nat × Nat × Nat) (h0 : Nat) (s0 : xS) (hσ : xRR s0) (n : Int) (rn : xR n) (K9 : Int → Int) (n9 : Int → Int) (w9 : Int → Int → Int) (q9 : zLaw) (l9 : Int → Int) (hok : zLok q9) (hlr : zLR s0 q9) (hK : ∀ t : Int, 0 ≤ t → t < 100 → s0 272 t = K9 t ∧ 0 ≤ K9 t ∧ K9 t ≤ 3) (hlm : ∀ i : Int, 0 ≤ i → i < 4 → s0 273 i = l9 i) (hw : ∀ j : Int, 0 ≤ j → j < 2 → s0 274 j = n9 j ∧ ∀ i : Int, 0 ≤ i → i < n9 j → s0 275 (60 * j + i) = w9 j i) (hY : zYq (zYr s0)) (hB : 0 ≤ s0 269 36 ∧ s0 269 36 < 1024) (hJt : zJt K9 (zY4 (zYr s0))) (p0 : IMn s0) (p1 : IMk s0) (p2 : IMo s0) : Met l yX11_minutes (xws yX11_minutes cX11_minutes 2 (some .int)) { frames := 9, cells := 0, slots := 0, locals := 209 } (xP [.ref (h0 + 268), .int (xJ n)] D g T h0 s0) (xQi D g h0 (fun r τ => xFr (fun k => k = 268 ∨ k = 269 ∨ k = 293 ∨ k = 294 ∨ k = 295 ∨ k = 296 ∨ k = 297 ∨ k = 298 ∨ k = 299) s0 τ ∧ (((IMn τ) ∧ (IMk τ) ∧ (IMo τ) ∧ (τ 268 8 = s0 268 8) ∧ (τ 268 58 = s0 268 58) ∧ (τ 268 17 = s0 268 17) ∧ (τ 269 34 = s0 269 34) ∧ (τ 268 48 = s0 268 48) ∧ True) ∧ ((1 ≤ n ∧ n ≤ 120 ∧ zYr τ = zmn K9 q9 l9 n9 w9 (s0 268 48) n.toNat (zYN (s0 269) 0 0 0) ∧ r = zSm (zYr s0) - zSm (zYr τ) ∧ zYq (zYr τ) ∧ (0 ≤ τ 269 36 ∧ τ 269 36 < 1024) ∧ τ 269 35 = s0 269 35 ∧ τ 268 48 = s0 268 48) ∨ (¬ (1 ≤ n ∧ n ≤ 120) ∧ τ 269 = s0 269 ∧ τ 268 48 = s0 268 48 ∧ r = -1))))) 0 0 (xA h0) := by
  refine x_met hσ (by decide) (Nat.le_of_ble_eq_true rfl) ?_
  intro p e s m args below meth c hx hb hr hml hown hT hlk hnm hE hW ls hl
  have hl : lv_has ls 2 [(0, .ref (h0 + 268)), (1, .int (xJ n))] := hl
  obtain ⟨Q, eQ⟩ : ∃ Q, Q = MQ below (xQi D g h0 (fun r τ => xFr (fun k => k = 268 ∨ k = 269 ∨ k = 293 ∨ k = 294 ∨ k = 295 ∨ k = 296 ∨ k = 297 ∨ k = 298 ∨ k = 299) s0 τ ∧ (((IMn τ) ∧ (IMk τ) ∧ (IMo τ) ∧ (τ 268 8 = s0 268 8) ∧ (τ 268 58 = s0 268 58) ∧ (τ 268 17 = s0 268 17) ∧ (τ 269 34 = s0 269 34) ∧ (τ 268 48 = s0 268 48) ∧ True) ∧ ((1 ≤ n ∧ n ≤ 120 ∧ zYr τ = zmn K9 q9 l9 n9 w9 (s0 268 48) n.toNat (zYN (s0 269) 0 0 0) ∧ r = zSm (zYr s0) - zSm (zYr τ) ∧ zYq (zYr τ) ∧ (0 ≤ τ 269 36 ∧ τ 269 36 < 1024) ∧ τ 269 35 = s0 269 35 ∧ τ 268 48 = s0 268 48) ∨ (¬ (1 ≤ n ∧ n ≤ 120) ∧ τ 269 = s0 269 ∧ τ 268 48 = s0 268 48 ∧ r = -1))))) args s 0 0 (xA h0) := ⟨_, rfl⟩
  rw [← eQ]
  generalize hHe : ([] : List Loc) = locs at hW ⊢
  obtain ⟨H, eH⟩ : ∃ H, H = s.heap := ⟨_, rfl⟩
  rw [← eH] at hW ⊢
  have hF : xFr (fun k => k = 268 ∨ k = 269 ∨ k = 293 ∨ k = 294 ∨ k = 295 ∨ k = 296 ∨ k = 297 ∨ k = 298 ∨ k = 299) s0 s0 := xFr.rf
  have k268_8 : s0 268 8 = s0 268 8 := rfl
  have k268_58 : s0 268 58 = s0 268 58 := rfl
  have k268_17 : s0 268 17 = s0 268 17 := rfl
  have k269_34 : s0 269 34 = s0 269 34 := rfl
  have k268_48 : s0 268 48 = s0 268 48 := rfl
  have k268_41 : s0 268 41 = s0 268 41 := rfl
  refine x_iload_n hx hb hl 1 rfl dX11_minutes_0 rfl ?_
  refine x_iconst hx hb dX11_minutes_1 ?_
  refine x_bipush hx hb dX11_minutes_2 (by decide) ?_
  refine x_goi (x_runS (As := [.int (xJ n), .int (xJ 1), .int (xJ 120)]) hx hb hml hown hT hE hW hl.1 cf_X11_in wq1383 wq1382 (c_X11_in l D g T h0 s0 hW.2.1 n rn 1 (by decide) 120 (by decide)) ⟨rfl, rfl, ⟨by decide, by decide⟩, ⟨by decide, by decide⟩⟩ rfl rfl (Nat.le_of_ble_eq_true rfl) dX11_minutes_4) hW (fun x1 s2 H locs rx1 hp3 hW => ?_)
  obtain ⟨es2, hp3⟩ := hp3
  subst es2
  have ghp3 := hp3
  refine x_if_ne (tgt := 12) hx hb rx1 dX11_minutes_7 (by decide) (fun c4 => ?_) (fun c4 => ?_)
  · skip
    refine x_aload_n hx hb hl 0 rfl dX11_minutes_12 rfl ?_
    refine x_iload_n hx hb hl 1 rfl dX11_minutes_13 rfl ?_
    refine x_gov (x_runV (As := [.int (xJ n)]) hx hb hml hown hT hE hW hl.1 (Or.inl (by decide)) (so_268 h0 g _) rfl cf_X11_minutesGo wq1539 wq130 wq1537 (c_X11_minutesGoF l D g T h0 s0 hW.2.1 n rn K9 n9 w9 q9 l9 (hok) (by first | exact hlr | exact hlr.f (fun k hk => hF k (by omega)) (by omega)) (by first | exact hK | exact fun t t1 t2 => by rw [hF 272 (by omega)]; exact hK t t1 t2) (by first | exact hlm | exact fun i i1 i2 => by rw [hF 273 (by omega)]; exact hlm i i1 i2) (by first | exact hw | exact (by rw [hF 274 (by omega), hF 275 (by omega)]; exact hw)) (hY) (by first | exact hB | omega) (hJt) (by omega) p0 p1 p2) ⟨rfl, rfl, ⟨by decide, by decide⟩, ⟨by decide, by decide⟩⟩ rfl rfl (Nat.le_of_ble_eq_true rfl) dX11_minutes_14) hW (fun s6 H locs hp7 hW => ?_)
    obtain ⟨fs6, hp7⟩ := hp7
    have hF8 := hF.call fs6 (fun k h => by omega)
    have ghp7 := hp7.2
    have H14 := ghp7
    refine x_aload_n hx hb hl 0 rfl dX11_minutes_17 rfl ?_
    refine x_get (j := 41) (v := .int (xJ (s6 268 41))) hx hb hown hT hE hW cls_X11 (Or.inl (by decide)) (so_268 h0 g _) (by decide) rfl wq1226 dX11_minutes_18 ?_
    refine x_rd hW (fun x9 ex9 rx9 => ?_)
    rw [eQ]
    exact x_iret hx hb hr hlk hW rx9 ⟨hF8, ⟨hp7.1.1, hp7.1.2.1, hp7.1.2.2.1, (hp7.1.2.2.2.1.trans k268_8), (hp7.1.2.2.2.2.1.trans k268_58), (hp7.1.2.2.2.2.2.1.trans k268_17), (hp7.1.2.2.2.2.2.2.1.trans k269_34), (hp7.1.2.2.2.2.2.2.2.1.trans k268_48), trivial⟩, Or.inl ⟨by omega, by omega, H14.1, by rw [← H14.2.1]; omega, H14.2.2.1, H14.2.2.2.1, H14.2.2.2.2.1, H14.2.2.2.2.2⟩⟩ dX11_minutes_21
  refine x_iconst hx hb dX11_minutes_10 ?_
  rw [eQ]
  exact x_iret hx hb hr hlk hW (by decide) ⟨hF, ⟨p0, p1, p2, k268_8, k268_58, k268_17, k269_34, k268_48, trivial⟩, Or.inr ⟨by omega, rfl, rfl, by omega⟩⟩ dX11_minutes_11

set_option maxHeartbeats 4000000 in
set_option maxRecDepth 100000 in
theorem c_X11_servedFirstF (l : Launch) (D : va_G) (g : xG) (T : Nat × Nat × Nat) (h0 : Nat) (s0 : xS) (hσ : xRR s0) (f : Int) (rf : xR f) (n : Int) (rn : xR n) (K9 : Int → Int) (n9 : Int → Int) (w9 : Int → Int → Int) (q9 : zLaw) (l9 : Int → Int) (hok : zLok q9) (hlr : zLR s0 q9) (hK : ∀ t : Int, 0 ≤ t → t < 100 → s0 272 t = K9 t ∧ 0 ≤ K9 t ∧ K9 t ≤ 3) (hlm : ∀ i : Int, 0 ≤ i → i < 4 → s0 273 i = l9 i) (hw : ∀ j : Int, 0 ≤ j → j < 2 → s0 274 j = n9 j ∧ ∀ i : Int, 0 ≤ i → i < n9 j → s0 275 (60 * j + i) = w9 j i) (hY : zYq (zYr s0)) (hB : 0 ≤ s0 269 36 ∧ s0 269 36 < 1024) (hJt : zJt K9 (zY4 (zYr s0))) (hn : 0 ≤ n) (p0 : IMn s0) (p1 : IMk s0) (p2 : IMo s0) : Met l yX11_servedFirst (xws yX11_servedFirst cX11_servedFirst 3 (some .int)) { frames := 9, cells := 0, slots := 0, locals := 209 } (xP [.ref (h0 + 268), .int (xJ f), .int (xJ n)] D g T h0 s0) (xQi D g h0 (fun r τ => xFr (fun k => k = 268 ∨ k = 269 ∨ k = 270 ∨ k = 293 ∨ k = 294 ∨ k = 295 ∨ k = 296 ∨ k = 297 ∨ k = 298 ∨ k = 299) s0 τ ∧ (((IMn τ) ∧ (IMk τ) ∧ (IMo τ) ∧ (τ 268 8 = s0 268 8) ∧ (τ 268 58 = s0 268 58) ∧ (τ 268 17 = s0 268 17) ∧ True) ∧ (r = zSm (zYr s0) - zSm (zmn K9 q9 l9 n9 w9 f n.toNat (zYN (s0 269) 0 0 0)) ∧ (∀ q : Int, 0 ≤ q → q < 39 → τ 269 q = s0 269 q) ∧ τ 268 48 = -1)))) 0 0 (xA h0) := by
  refine x_met hσ (by decide) (Nat.le_of_ble_eq_true rfl) ?_
  intro p e s m args below meth c hx hb hr hml hown hT hlk hnm hE hW ls hl
  have hl : lv_has ls 3 [(0, .ref (h0 + 268)), (1, .int (xJ f)), (2, .int (xJ n))] := hl
  obtain ⟨Q, eQ⟩ : ∃ Q, Q = MQ below (xQi D g h0 (fun r τ => xFr (fun k => k = 268 ∨ k = 269 ∨ k = 270 ∨ k = 293 ∨ k = 294 ∨ k = 295 ∨ k = 296 ∨ k = 297 ∨ k = 298 ∨ k = 299) s0 τ ∧ (((IMn τ) ∧ (IMk τ) ∧ (IMo τ) ∧ (τ 268 8 = s0 268 8) ∧ (τ 268 58 = s0 268 58) ∧ (τ 268 17 = s0 268 17) ∧ True) ∧ (r = zSm (zYr s0) - zSm (zmn K9 q9 l9 n9 w9 f n.toNat (zYN (s0 269) 0 0 0)) ∧ (∀ q : Int, 0 ≤ q → q < 39 → τ 269 q = s0 269 q) ∧ τ 268 48 = -1)))) args s 0 0 (xA h0) := ⟨_, rfl⟩
  rw [← eQ]
  generalize hHe : ([] : List Loc) = locs at hW ⊢
  obtain ⟨H, eH⟩ : ∃ H, H = s.heap := ⟨_, rfl⟩
  rw [← eH] at hW ⊢
  have hF : xFr (fun k => k = 268 ∨ k = 269 ∨ k = 270 ∨ k = 293 ∨ k = 294 ∨ k = 295 ∨ k = 296 ∨ k = 297 ∨ k = 298 ∨ k = 299) s0 s0 := xFr.rf
  have k268_8 : s0 268 8 = s0 268 8 := rfl
  have k268_58 : s0 268 58 = s0 268 58 := rfl
  have k268_17 : s0 268 17 = s0 268 17 := rfl
  refine x_aload_n hx hb hl 0 rfl dX11_servedFirst_0 rfl ?_
  refine x_get (j := 0) (v := .ref (h0 + 269)) hx hb hown hT hE hW cls_X11 (Or.inl (by decide)) (so_268 h0 g _) (by decide) rfl wq1185 dX11_servedFirst_1 ?_
  refine x_aload_n hx hb hl 0 rfl dX11_servedFirst_4 rfl ?_
  refine x_get (j := 1) (v := .ref (h0 + 270)) hx hb hown hT hE hW cls_X11 (Or.inl (by decide)) (so_268 h0 g _) (by decide) rfl wq1186 dX11_servedFirst_5 ?_
  refine x_gov (x_runS (As := [.ref (h0 + 269), .ref (h0 + 270)]) hx hb hml hown hT hE hW hl.1 cf_X11_copies wq1647 wq1646 (c_X11_copiesMA l D g T h0 s0 hW.2.1 p0 p1 p2) ⟨rfl, rfl, ⟨by decide, by decide⟩, ⟨by decide, by decide⟩⟩ rfl rfl (Nat.le_of_ble_eq_true rfl) dX11_servedFirst_8) hW (fun s2 H locs hp3 hW => ?_)
  obtain ⟨fs2, hp3⟩ := hp3
  have hF4 := hF.call fs2 (fun k h => by omega)
  have q5 : s2 268 8 = s0 268 8 := (congrFun (fs2 _ (by omega)) _).trans k268_8
  have q6 : s2 268 58 = s0 268 58 := (congrFun (fs2 _ (by omega)) _).trans k268_58
  have q7 : s2 268 17 = s0 268 17 := (congrFun (fs2 _ (by omega)) _).trans k268_17
  have ghp3 := hp3.2
  have A8 := ghp3
  have B8 : s2 269 = s0 269 ∧ s2 268 = s0 268 := ⟨fs2 269 (by first | decide | omega), fs2 268 (by first | decide | omega)⟩
  refine x_aload_n hx hb hl 0 rfl dX11_servedFirst_11 rfl ?_
  refine x_iload_n hx hb hl 1 rfl dX11_servedFirst_12 rfl ?_
  refine x_put (j := 48) hx hb hown hT hE hW cls_X11 (by decide) (fun σ => so_268 h0 g σ) (by decide) (st_X11_48 h0 s2 268 f) (ln_X11_48 h0 _ _) wq1233 rfl rfl rfl rf dX11_servedFirst_13 (fun H locs s8 es8 hW => ?_)
  have q10 : s8 268 8 = s0 268 8 := (show s8 268 8 = s2 268 8 from by rw [es8, xU_j _ _ (by decide)]).trans q5
  have q11 : s8 268 58 = s0 268 58 := (show s8 268 58 = s2 268 58 from by rw [es8, xU_j _ _ (by decide)]).trans q6
  have q12 : s8 268 17 = s0 268 17 := (show s8 268 17 = s2 268 17 from by rw [es8, xU_j _ _ (by decide)]).trans q7
  have q13 : IMn s8 := by rw [es8]; exact IMn_268 hp3.1.1 (by omega)
  have q14 : IMk s8 := by rw [es8]; exact IMk_268 hp3.1.2.1 (by omega)
  have q15 : IMo s8 := by rw [es8]; exact IMo_o (by unfold suIMo; first | decide | omega) hp3.1.2.2.1
  have hF16 := hF4.put es8 (by omega)
  have E13 := es8
  have N13 : s8 269 = s0 269 := by rw [E13, xU_k _ _ _ (by decide)]; exact B8.1
  have K13 : s8 268 48 = f := by rw [E13, xU_s]
  have Z13 : zYr s8 = zYr s0 := by
    show zYN (s8 269) (s8 268 42) (s8 268 43) (s8 268 44) = zYN (s0 269) (s0 268 42) (s0 268 43) (s0 268 44)
    rw [N13, E13, xU_j _ _ (show (42 : Int) ≠ 48 from by decide), xU_j _ _ (show (43 : Int) ≠ 48 from by decide), xU_j _ _ (show (44 : Int) ≠ 48 from by decide), B8.2]
  refine x_aload_n hx hb hl 0 rfl dX11_servedFirst_16 rfl ?_
  refine x_iload_n hx hb hl 2 rfl dX11_servedFirst_17 rfl ?_
  refine x_gov (x_runV (As := [.int (xJ n)]) hx hb hml hown hT hE hW hl.1 (Or.inl (by decide)) (so_268 h0 g _) rfl cf_X11_minutesGo wq1539 wq130 wq1537 (c_X11_minutesGoF l D g T h0 s8 hW.2.1 n rn K9 n9 w9 q9 l9 (hok) (by first | exact hlr | exact hlr.f (fun k hk => hF16 k (by omega)) (by omega)) (by first | exact hK | exact fun t t1 t2 => by rw [hF16 272 (by first | decide | omega)]; exact hK t t1 t2) (by first | exact hlm | exact fun i i1 i2 => by rw [hF16 273 (by first | decide | omega)]; exact hlm i i1 i2) (by first | exact hw | exact (by rw [hF16 274 (by first | decide | omega), hF16 275 (by first | decide | omega)]; exact hw)) (by rw [Z13]; exact hY) (by rw [N13]; exact hB) (by rw [Z13]; exact hJt) (by omega) q13 q14 q15) ⟨rfl, rfl, ⟨by decide, by decide⟩, ⟨by decide, by decide⟩⟩ rfl rfl (Nat.le_of_ble_eq_true rfl) dX11_servedFirst_18) hW (fun s18 H locs hp19 hW => ?_)
  obtain ⟨fs18, hp19⟩ := hp19
  have hF20 := hF16.call fs18 (fun k h => by omega)
  have ghp19 := hp19.2
  have H18 := ghp19
  have C18 : zYr s18 = zmn K9 q9 l9 n9 w9 f n.toNat (zYN (s0 269) 0 0 0) := by rw [H18.1, N13, K13]
  have W18 : s18 268 41 = zSm (zYr s0) - zSm (zmn K9 q9 l9 n9 w9 f n.toNat (zYN (s0 269) 0 0 0)) := by rw [H18.2.1, C18, Z13]
  have A18 : s18 270 = s2 270 := by rw [fs18 270 (by first | decide | omega), E13, xU_k _ _ _ (by decide)]
  refine x_aload_n hx hb hl 0 rfl dX11_servedFirst_21 rfl ?_
  refine x_iconst hx hb dX11_servedFirst_22 ?_
  refine x_put (j := 48) hx hb hown hT hE hW cls_X11 (by decide) (fun σ => so_268 h0 g σ) (by decide) (st_X11_48 h0 s18 268 (-1)) (ln_X11_48 h0 _ _) wq1233 rfl rfl rfl (by decide) dX11_servedFirst_23 (fun H locs s21 es21 hW => ?_)
  have q22 : IMn s21 := by rw [es21]; exact IMn_268 hp19.1.1 (by omega)
  have q23 : IMk s21 := by rw [es21]; exact IMk_268 hp19.1.2.1 (by omega)
  have q24 : IMo s21 := by rw [es21]; exact IMo_o (by unfold suIMo; first | decide | omega) hp19.1.2.2.1
  have q25 : s21 268 8 = s0 268 8 := (show s21 268 8 = s18 268 8 from by rw [es21, xU_j _ _ (by decide)]).trans (hp19.1.2.2.2.1.trans q10)
  have q26 : s21 268 58 = s0 268 58 := (show s21 268 58 = s18 268 58 from by rw [es21, xU_j _ _ (by decide)]).trans (hp19.1.2.2.2.2.1.trans q11)
  have q27 : s21 268 17 = s0 268 17 := (show s21 268 17 = s18 268 17 from by rw [es21, xU_j _ _ (by decide)]).trans (hp19.1.2.2.2.2.2.1.trans q12)
  have q28 : s21 269 34 = s8 269 34 := (show s21 269 34 = s18 269 34 from by rw [es21, xU_k _ _ _ (by first | decide | omega)]).trans hp19.1.2.2.2.2.2.2.1
  have q29 : s21 268 48 = (-1) := by rw [es21, xU_s]
  have hF30 := hF20.put es21 (by omega)
  have E23 := es21
  refine x_aload_n hx hb hl 0 rfl dX11_servedFirst_26 rfl ?_
  refine x_get (j := 1) (v := .ref (h0 + 270)) hx hb hown hT hE hW cls_X11 (Or.inl (by decide)) (so_268 h0 g _) (by decide) rfl wq1186 dX11_servedFirst_27 ?_
  refine x_aload_n hx hb hl 0 rfl dX11_servedFirst_30 rfl ?_
  refine x_get (j := 0) (v := .ref (h0 + 269)) hx hb hown hT hE hW cls_X11 (Or.inl (by decide)) (so_268 h0 g _) (by decide) rfl wq1185 dX11_servedFirst_31 ?_
  refine x_gov (x_runS (As := [.ref (h0 + 270), .ref (h0 + 269)]) hx hb hml hown hT hE hW hl.1 cf_X11_copies wq1647 wq1646 (c_X11_copiesMB l D g T h0 s21 hW.2.1 q22 q23 q24) ⟨rfl, rfl, ⟨by decide, by decide⟩, ⟨by decide, by decide⟩⟩ rfl rfl (Nat.le_of_ble_eq_true rfl) dX11_servedFirst_34) hW (fun s32 H locs hp33 hW => ?_)
  obtain ⟨fs32, hp33⟩ := hp33
  have hF34 := hF30.call fs32 (fun k h => by omega)
  have q35 : s32 268 8 = s0 268 8 := (congrFun (fs32 _ (by omega)) _).trans q25
  have q36 : s32 268 58 = s0 268 58 := (congrFun (fs32 _ (by omega)) _).trans q26
  have q37 : s32 268 17 = s0 268 17 := (congrFun (fs32 _ (by omega)) _).trans q27
  have q38 : s32 268 48 = (-1) := (congrFun (fs32 _ (by omega)) _).trans q29
  have ghp33 := hp33.2
  have Q34 : ∀ q : Int, 0 ≤ q → q < 39 → s32 269 q = s0 269 q := fun q a b => (ghp33 q a b).trans (by rw [E23, xU_k _ _ _ (by decide), A18]; exact A8 q a b)
  have F34 : s32 268 = s21 268 := fs32 268 (by first | decide | omega)
  refine x_aload_n hx hb hl 0 rfl dX11_servedFirst_37 rfl ?_
  refine x_get (j := 41) (v := .int (xJ (s32 268 41))) hx hb hown hT hE hW cls_X11 (Or.inl (by decide)) (so_268 h0 g _) (by decide) rfl wq1226 dX11_servedFirst_38 ?_
  refine x_rd hW (fun x39 ex39 rx39 => ?_)
  have V38 : x39 = zSm (zYr s0) - zSm (zmn K9 q9 l9 n9 w9 f n.toNat (zYN (s0 269) 0 0 0)) := by rw [ex39, F34, E23, xU_j _ _ (by decide)]; exact W18
  have K38 : s32 268 48 = -1 := by rw [F34, E23, xU_s]
  rw [eQ]
  exact x_iret hx hb hr hlk hW rx39 ⟨hF34, ⟨hp33.1.1, hp33.1.2.1, hp33.1.2.2.1, q35, q36, q37, trivial⟩, ⟨V38, Q34, K38⟩⟩ dX11_servedFirst_41

theorem zY0_Z {N : Int → Int} : zY0 (zYN N 0 0 0) = zYN N 0 0 0 := by
  unfold zY0
  rw [← zYN_ua, ← zYN_uc, ← zYN_us]
theorem zSm_rr {σ : xS} {N : Int → Int} {a c s : Int} (h : ∀ q : Int, 0 ≤ q → q < 39 → σ 269 q = N q) : zSm (zYr σ) = zSm (zYN N a c s) := zSm_o (fun g g1 g2 => by
  show zYN (σ 269) _ _ _ (14 + g) = _
  rw [zYN_O ⟨g1, g2⟩, zYN_O ⟨g1, g2⟩, h 35 (by decide) (by decide), h (14 + g) (by omega) (by omega)])
theorem zYr_qc {σ : xS} {N : Int → Int} {a c s : Int} (h : ∀ q : Int, 0 ≤ q → q < 39 → σ 269 q = N q) (hq : zYq (zYN N a c s)) : zYq (zYr σ) := by
  show zYq (zYN (σ 269) _ _ _)
  rw [zYN_cg h]
  exact zYN_q hq
theorem zYr_gc {σ : xS} {K N : Int → Int} {a c s : Int} (h : ∀ q : Int, 0 ≤ q → q < 39 → σ 269 q = N q) (hg : zJt K (zY4 (zYN N a c s))) : zJt K (zY4 (zYr σ)) := by
  have e : zY4 (zYr σ) = zY4 (zYN N a c s) := by
    show zrt (σ 269) = zrt N
    exact zrt_f (h 0 (by decide) (by decide)) (h 1 (by decide) (by decide)) (h 2 (by decide) (by decide)) (h 3 (by decide) (by decide)) (h 34 (by decide) (by decide))
  rw [e]; exact hg
set_option maxHeartbeats 4000000 in
set_option maxRecDepth 100000 in
theorem c_X11_firstF (l : Launch) (D : va_G) (g : xG) (T : Nat × Nat × Nat) (h0 : Nat) (s0 : xS) (hσ : xRR s0) (n : Int) (rn : xR n) (w : Int) (rw : xR w) (K9 : Int → Int) (n9 : Int → Int) (w9 : Int → Int → Int) (q9 : zLaw) (l9 : Int → Int) (hok : zLok q9) (hlr : zLR s0 q9) (hK : ∀ t : Int, 0 ≤ t → t < 100 → s0 272 t = K9 t ∧ 0 ≤ K9 t ∧ K9 t ≤ 3) (hlm : ∀ i : Int, 0 ≤ i → i < 4 → s0 273 i = l9 i) (hw : ∀ j : Int, 0 ≤ j → j < 2 → s0 274 j = n9 j ∧ ∀ i : Int, 0 ≤ i → i < n9 j → s0 275 (60 * j + i) = w9 j i) (hY : zYq (zYr s0)) (hB : 0 ≤ s0 269 36 ∧ s0 269 36 < 1024) (hJt : zJt K9 (zY4 (zYr s0))) (p0 : IMn s0) (p1 : IMk s0) (p2 : IMo s0) : Met l yX11_first (xws yX11_first cX11_first 7 (some .int)) { frames := 10, cells := 0, slots := 0, locals := 231 } (xP [.ref (h0 + 268), .int (xJ n), .int (xJ w)] D g T h0 s0) (xQi D g h0 (fun r τ => xFr (fun k => k = 268 ∨ k = 269 ∨ k = 270 ∨ k = 293 ∨ k = 294 ∨ k = 295 ∨ k = 296 ∨ k = 297 ∨ k = 298 ∨ k = 299) s0 τ ∧ (((IMn τ) ∧ (IMk τ) ∧ (IMo τ) ∧ (τ 268 8 = s0 268 8) ∧ (τ 268 58 = s0 268 58) ∧ (τ 268 17 = s0 268 17) ∧ True) ∧ (((1 ≤ n ∧ n ≤ 60) ∧ (0 ≤ w ∧ w ≤ 1) ∧ (w = 0 → r = (zba (zsV K9 q9 l9 n9 w9 (zYN (s0 269) 0 0 0) n.toNat) (zYN (s0 269) 0 0 0) 10).2) ∧ (w = 1 → r = (zba (zsV K9 q9 l9 n9 w9 (zYN (s0 269) 0 0 0) n.toNat) (zYN (s0 269) 0 0 0) 10).1) ∧ (∀ q : Int, 0 ≤ q → q < 39 → τ 269 q = s0 269 q) ∧ (τ 268 48 = -1 ∨ τ 268 48 = s0 268 48)) ∨ (¬ ((1 ≤ n ∧ n ≤ 60) ∧ (0 ≤ w ∧ w ≤ 1)) ∧ r = -1 ∧ (∀ q : Int, 0 ≤ q → q < 39 → τ 269 q = s0 269 q) ∧ (τ 268 48 = -1 ∨ τ 268 48 = s0 268 48)))))) 0 0 (xA h0) := by
  refine x_met hσ (by decide) (Nat.le_of_ble_eq_true rfl) ?_
  intro p e s m args below meth c hx hb hr hml hown hT hlk hnm hE hW ls hl
  have hl : lv_has ls 7 [(0, .ref (h0 + 268)), (1, .int (xJ n)), (2, .int (xJ w))] := hl
  obtain ⟨Q, eQ⟩ : ∃ Q, Q = MQ below (xQi D g h0 (fun r τ => xFr (fun k => k = 268 ∨ k = 269 ∨ k = 270 ∨ k = 293 ∨ k = 294 ∨ k = 295 ∨ k = 296 ∨ k = 297 ∨ k = 298 ∨ k = 299) s0 τ ∧ (((IMn τ) ∧ (IMk τ) ∧ (IMo τ) ∧ (τ 268 8 = s0 268 8) ∧ (τ 268 58 = s0 268 58) ∧ (τ 268 17 = s0 268 17) ∧ True) ∧ (((1 ≤ n ∧ n ≤ 60) ∧ (0 ≤ w ∧ w ≤ 1) ∧ (w = 0 → r = (zba (zsV K9 q9 l9 n9 w9 (zYN (s0 269) 0 0 0) n.toNat) (zYN (s0 269) 0 0 0) 10).2) ∧ (w = 1 → r = (zba (zsV K9 q9 l9 n9 w9 (zYN (s0 269) 0 0 0) n.toNat) (zYN (s0 269) 0 0 0) 10).1) ∧ (∀ q : Int, 0 ≤ q → q < 39 → τ 269 q = s0 269 q) ∧ (τ 268 48 = -1 ∨ τ 268 48 = s0 268 48)) ∨ (¬ ((1 ≤ n ∧ n ≤ 60) ∧ (0 ≤ w ∧ w ≤ 1)) ∧ r = -1 ∧ (∀ q : Int, 0 ≤ q → q < 39 → τ 269 q = s0 269 q) ∧ (τ 268 48 = -1 ∨ τ 268 48 = s0 268 48)))))) args s 0 0 (xA h0) := ⟨_, rfl⟩
  rw [← eQ]
  generalize hHe : ([] : List Loc) = locs at hW ⊢
  obtain ⟨H, eH⟩ : ∃ H, H = s.heap := ⟨_, rfl⟩
  rw [← eH] at hW ⊢
  have hF : xFr (fun k => k = 268 ∨ k = 269 ∨ k = 270 ∨ k = 293 ∨ k = 294 ∨ k = 295 ∨ k = 296 ∨ k = 297 ∨ k = 298 ∨ k = 299) s0 s0 := xFr.rf
  have k268_8 : s0 268 8 = s0 268 8 := rfl
  have k268_58 : s0 268 58 = s0 268 58 := rfl
  have k268_17 : s0 268 17 = s0 268 17 := rfl
  have q0 : ∀ q : Int, 0 ≤ q → q < 39 → s0 269 q = s0 269 q := fun _ _ _ => rfl
  refine x_iload_n hx hb hl 1 rfl dX11_first_0 rfl ?_
  refine x_iconst hx hb dX11_first_1 ?_
  refine x_bipush hx hb dX11_first_2 (by decide) ?_
  refine x_goi (x_runS (As := [.int (xJ n), .int (xJ 1), .int (xJ 60)]) hx hb hml hown hT hE hW hl.1 cf_X11_in wq1383 wq1382 (c_X11_in l D g T h0 s0 hW.2.1 n rn 1 (by decide) 60 (by decide)) ⟨rfl, rfl, ⟨by decide, by decide⟩, ⟨by decide, by decide⟩⟩ rfl rfl (Nat.le_of_ble_eq_true rfl) dX11_first_4) hW (fun x1 s2 H locs rx1 hp3 hW => ?_)
  obtain ⟨es2, hp3⟩ := hp3
  subst es2
  have ghp3 := hp3
  refine x_if_eq (tgt := 19) hx hb rx1 dX11_first_7 (by decide) (fun c4 => ?_) (fun c4 => ?_)
  · skip
    refine x_iconst hx hb dX11_first_19 ?_
    rw [eQ]
    exact x_iret hx hb hr hlk hW (by decide) ⟨hF, ⟨p0, p1, p2, k268_8, k268_58, k268_17, trivial⟩, Or.inr ⟨by omega, by omega, fun _ _ _ => rfl, Or.inr rfl⟩⟩ dX11_first_20
  refine x_iload_n hx hb hl 2 rfl dX11_first_10 rfl ?_
  refine x_iconst hx hb dX11_first_11 ?_
  refine x_iconst hx hb dX11_first_12 ?_
  refine x_goi (x_runS (As := [.int (xJ w), .int (xJ 0), .int (xJ 1)]) hx hb hml hown hT hE hW hl.1 cf_X11_in wq1383 wq1382 (c_X11_in l D g T h0 s0 hW.2.1 w rw 0 (by decide) 1 (by decide)) ⟨rfl, rfl, ⟨by decide, by decide⟩, ⟨by decide, by decide⟩⟩ rfl rfl (Nat.le_of_ble_eq_true rfl) dX11_first_13) hW (fun x5 s6 H locs rx5 hp7 hW => ?_)
  obtain ⟨es6, hp7⟩ := hp7
  subst es6
  have ghp7 := hp7
  refine x_if_ne (tgt := 21) hx hb rx5 dX11_first_16 (by decide) (fun c8 => ?_) (fun c8 => ?_)
  · skip
    refine x_bipush hx hb dX11_first_21 (by decide) ?_
    refine lv_istore_n (lv' := [(3, .int (xJ (-2))), (0, .ref (h0 + 268)), (1, .int (xJ n)), (2, .int (xJ w))]) hx hb dX11_first_23 rfl hl (by decide) rfl (fun ls hl => ?_)
    refine x_aload_n hx hb hl 1 rfl dX11_first_24 rfl ?_
    refine x_iconst hx hb dX11_first_25 ?_
    refine x_iload_n hx hb hl 2 rfl dX11_first_26 rfl ?_
    refine x_goi (x_runV (As := [.int (xJ (-1)), .int (xJ n)]) hx hb hml hown hT hE hW hl.1 (Or.inl (by decide)) (so_268 h0 g _) rfl cf_X11_servedFirst wq1716 wq159 wq1714 (c_X11_servedFirstF l D g T h0 s0 hW.2.1 (-1) (by decide) n rn K9 n9 w9 q9 l9 (hok) (by first | exact hlr | exact hlr.f (fun k hk => hF k (by omega)) (by omega)) (by first | exact hK | exact fun t t1 t2 => by rw [hF 272 (by omega)]; exact hK t t1 t2) (by first | exact hlm | exact fun i i1 i2 => by rw [hF 273 (by omega)]; exact hlm i i1 i2) (by first | exact hw | exact (by rw [hF 274 (by omega), hF 275 (by omega)]; exact hw)) (zYr_qc q0 hY) (by rw [q0 36 (by decide) (by decide)]; exact hB) (zYr_gc q0 hJt) (by omega) p0 p1 p2) ⟨rfl, rfl, ⟨by decide, by decide⟩, ⟨by decide, by decide⟩⟩ rfl rfl (Nat.le_of_ble_eq_true rfl) dX11_first_27) hW (fun x9 s10 H locs rx9 hp11 hW => ?_)
    obtain ⟨fs10, hp11⟩ := hp11
    have hF12 := hF.call fs10 (fun k h => by omega)
    have ghp11 := hp11.2
    have H27 := ghp11
    have R27 : x9 = (zsV K9 q9 l9 n9 w9 (zYN (s0 269) 0 0 0) n.toNat) (-1) := by unfold zsV; rw [zY0_Z, H27.1, zSm_rr (a := 0) (c := 0) (s := 0) q0, zYN_cg q0]
    have Q27 : ∀ q : Int, 0 ≤ q → q < 39 → s10 269 q = s0 269 q := fun q a b => (H27.2.1 q a b).trans (q0 q a b)
    refine lv_istore (lv' := [(4, .int (xJ x9)), (3, .int (xJ (-2))), (0, .ref (h0 + 268)), (1, .int (xJ n)), (2, .int (xJ w))]) hx hb dX11_first_30 hl (by decide) rfl (fun ls hl => ?_)
    refine x_iconst hx hb dX11_first_32 ?_
    refine lv_istore (lv' := [(5, .int (xJ 0)), (4, .int (xJ x9)), (3, .int (xJ (-2))), (0, .ref (h0 + 268)), (1, .int (xJ n)), (2, .int (xJ w))]) hx hb dX11_first_33 hl (by decide) rfl (fun ls hl => ?_)
    have L35 : ∀ (fu : Nat) (i3_35 : Int) (i4_35 : Int) (i5_35 : Int) (s_35 : xS) (H : Heap) (locs : List Loc) (ls : Array Slot), (xR i3_35) → (xR i4_35) → (xR i5_35) → (xFr (fun k => k = 268 ∨ k = 269 ∨ k = 270 ∨ k = 293 ∨ k = 294 ∨ k = 295 ∨ k = 296 ∨ k = 297 ∨ k = 298 ∨ k = 299) s0 s_35) → (IMn s_35) → (IMk s_35) → (IMo s_35) → (s_35 268 8 = s0 268 8) → (s_35 268 58 = s0 268 58) → (s_35 268 17 = s0 268 17) → (0 ≤ i5_35 ∧ i5_35 ≤ 10) → ((i4_35, i3_35) = zba (zsV K9 q9 l9 n9 w9 (zYN (s0 269) 0 0 0) n.toNat) (zYN (s0 269) 0 0 0) (i5_35).toNat) → (∀ q : Int, 0 ≤ q → q < 39 → s_35 269 q = s0 269 q) → (s_35 268 48 = -1 ∨ s_35 268 48 = s0 268 48) → (10 - i5_35).toNat < fu → xW D g h0 s H locs s_35 → lv_has ls 7 [(0, .ref (h0 + 268)), (1, .int (xJ n)), (2, .int (xJ w)), (3, .int (xJ i3_35)), (4, .int (xJ i4_35)), (5, .int (xJ i5_35))] → W p l e { frames := 10, cells := 0, slots := 0, locals := 231 } s m args below meth c H locs 0 0 Q (F0 m 35 ls []) := by
      intro fu
      induction fu with
      | zero => intro i3_35 i4_35 i5_35 s_35 H locs ls ri3_35 ri4_35 ri5_35 hF_35 q35_0 q35_1 q35_2 q35_3 q35_4 q35_5 v35_0 v35_1 v35_2 v35_3 hm; exact absurd hm (Nat.not_lt_zero _)
      | succ fu ih35 =>
        intro i3_35 i4_35 i5_35 s_35 H locs ls ri3_35 ri4_35 ri5_35 hF_35 q35_0 q35_1 q35_2 q35_3 q35_4 q35_5 v35_0 v35_1 v35_2 v35_3 hm hW hl
        have hm_35 := fun (_ : Unit) => hm
        clear hm
        refine x_iload hx hb hl 5 rfl dX11_first_35 ?_
        refine x_bipush hx hb dX11_first_37 (by decide) ?_
        refine x_icmp_ge (tgt := 86) hx hb ri5_35 (by decide) dX11_first_39 (by decide) (fun c13 => ?_) (fun c13 => ?_)
        · skip
          refine x_iload_n hx hb hl 2 rfl dX11_first_86 rfl ?_
          refine x_if_ne (tgt := 94) hx hb rw dX11_first_87 (by decide) (fun c14 => ?_) (fun c14 => ?_)
          · skip
            refine x_iload hx hb hl 4 rfl dX11_first_94 ?_
            rw [eQ]
            exact x_iret hx hb hr hlk hW ri4_35 ⟨hF_35, ⟨q35_0, q35_1, q35_2, q35_3, q35_4, q35_5, trivial⟩, by
                have e : i5_35 = 10 := by omega
                have a := v35_1
                rw [e] at a
                have b : i4_35 = (zba (zsV K9 q9 l9 n9 w9 (zYN (s0 269) 0 0 0) n.toNat) (zYN (s0 269) 0 0 0) 10).1 := congrArg Prod.fst a
                have c : i3_35 = (zba (zsV K9 q9 l9 n9 w9 (zYN (s0 269) 0 0 0) n.toNat) (zYN (s0 269) 0 0 0) 10).2 := congrArg Prod.snd a
                first
                  | exact Or.inl ⟨by omega, by omega, fun z => by omega, fun z => absurd z (by omega), v35_2, v35_3⟩
                  | exact Or.inl ⟨by omega, by omega, fun z => absurd z (by omega), fun z => by omega, v35_2, v35_3⟩⟩ dX11_first_96
          refine x_iload_n hx hb hl 3 rfl dX11_first_90 rfl ?_
          refine lv_goto (tgt := 96) hx hb dX11_first_91 (by decide) ?_
          rw [eQ]
          exact x_iret hx hb hr hlk hW ri3_35 ⟨hF_35, ⟨q35_0, q35_1, q35_2, q35_3, q35_4, q35_5, trivial⟩, by
              have e : i5_35 = 10 := by omega
              have a := v35_1
              rw [e] at a
              have b : i4_35 = (zba (zsV K9 q9 l9 n9 w9 (zYN (s0 269) 0 0 0) n.toNat) (zYN (s0 269) 0 0 0) 10).1 := congrArg Prod.fst a
              have c : i3_35 = (zba (zsV K9 q9 l9 n9 w9 (zYN (s0 269) 0 0 0) n.toNat) (zYN (s0 269) 0 0 0) 10).2 := congrArg Prod.snd a
              first
                | exact Or.inl ⟨by omega, by omega, fun z => by omega, fun z => absurd z (by omega), v35_2, v35_3⟩
                | exact Or.inl ⟨by omega, by omega, fun z => absurd z (by omega), fun z => by omega, v35_2, v35_3⟩⟩ dX11_first_96
        refine x_aload_n hx hb hl 0 rfl dX11_first_42 rfl ?_
        refine x_iload hx hb hl 5 rfl dX11_first_43 ?_
        refine x_goi (x_runV (As := [.int (xJ i5_35)]) hx hb hml hown hT hE hW hl.1 (Or.inl (by decide)) (so_268 h0 g _) rfl cf_X11_owes wq1620 wq147 wq1618 (c_X11_owesF l D g T h0 s_35 hW.2.1 i5_35 ri5_35 (by omega) q35_0 q35_1 q35_2) ⟨rfl, rfl, ⟨by decide, by decide⟩, ⟨by decide, by decide⟩⟩ rfl rfl (Nat.le_of_ble_eq_true rfl) dX11_first_45) hW (fun x15 s16 H locs rx15 hp17 hW => ?_)
        obtain ⟨es16, hp17⟩ := hp17
        subst es16
        have ghp17 := hp17
        have H45 := ghp17
        have e45 : zOw (zYr s_35) i5_35 ↔ zOw (zYN (s0 269) 0 0 0) i5_35 := by
          have o := zYN_cg (a := s_35 268 42) (c := s_35 268 43) (s := s_35 268 44) v35_2
          show zOw (zYN (s_35 269) _ _ _) _ ↔ _
          rw [o]
          unfold zOw
          rw [zYN_F (by omega), zYN_O (by omega), zYN_D (by omega), zYN_F (by omega), zYN_O (by omega), zYN_D (by omega)]
        rw [e45] at H45
        have W45 : x15 = 1 → zOw (zYN (s0 269) 0 0 0) i5_35 := fun h => (H45.resolve_right (fun q => by omega)).2
        have W45n : x15 = 0 → ¬ zOw (zYN (s0 269) 0 0 0) i5_35 := fun h => (H45.resolve_left (fun q => by omega)).2
        refine x_if_ne (tgt := 54) hx hb rx15 dX11_first_48 (by decide) (fun c18 => ?_) (fun c18 => ?_)
        · skip
          refine x_aload_n hx hb hl 0 rfl dX11_first_54 rfl ?_
          refine x_iload hx hb hl 5 rfl dX11_first_55 ?_
          have W45 := W45 (by omega)
          refine x_iload_n hx hb hl 1 rfl dX11_first_57 rfl ?_
          refine x_goi (x_runV (As := [.int (xJ i5_35), .int (xJ n)]) hx hb hml hown hT hE hW hl.1 (Or.inl (by decide)) (so_268 h0 g _) rfl cf_X11_servedFirst wq1716 wq159 wq1714 (c_X11_servedFirstF l D g T h0 s_35 hW.2.1 i5_35 ri5_35 n rn K9 n9 w9 q9 l9 (hok) (by first | exact hlr | exact hlr.f (fun k hk => hF_35 k (by omega)) (by omega)) (by first | exact hK | exact fun t t1 t2 => by rw [hF_35 272 (by first | decide | omega)]; exact hK t t1 t2) (by first | exact hlm | exact fun i i1 i2 => by rw [hF_35 273 (by first | decide | omega)]; exact hlm i i1 i2) (by first | exact hw | exact (by rw [hF_35 274 (by first | decide | omega), hF_35 275 (by first | decide | omega)]; exact hw)) (zYr_qc v35_2 hY) (by rw [v35_2 36 (by decide) (by decide)]; exact hB) (zYr_gc v35_2 hJt) (by omega) q35_0 q35_1 q35_2) ⟨rfl, rfl, ⟨by decide, by decide⟩, ⟨by decide, by decide⟩⟩ rfl rfl (Nat.le_of_ble_eq_true rfl) dX11_first_58) hW (fun x19 s20 H locs rx19 hp21 hW => ?_)
          obtain ⟨fs20, hp21⟩ := hp21
          have hF22 := hF_35.call fs20 (fun k h => by omega)
          have ghp21 := hp21.2
          have H58 := ghp21
          have R58 : x19 = (zsV K9 q9 l9 n9 w9 (zYN (s0 269) 0 0 0) n.toNat) i5_35 := by unfold zsV; rw [zY0_Z, H58.1, zSm_rr (a := 0) (c := 0) (s := 0) v35_2, zYN_cg v35_2]
          have Q58 : ∀ q : Int, 0 ≤ q → q < 39 → s20 269 q = s0 269 q := fun q a b => (H58.2.1 q a b).trans (v35_2 q a b)
          refine lv_istore (lv' := [(6, .int (xJ x19)), (0, .ref (h0 + 268)), (1, .int (xJ n)), (2, .int (xJ w)), (3, .int (xJ i3_35)), (4, .int (xJ i4_35)), (5, .int (xJ i5_35))]) hx hb dX11_first_61 hl (by decide) rfl (fun ls hl => ?_)
          refine x_iload hx hb hl 0 rfl dX11_first_63 ?_
          refine x_iload hx hb hl 5 rfl dX11_first_65 ?_
          refine x_icmp_gt (tgt := 73) hx hb rx19 ri4_35 dX11_first_67 (by decide) (fun c23 => ?_) (fun c23 => ?_)
          · skip
            refine x_iload hx hb hl 0 rfl dX11_first_73 ?_
            refine lv_istore (lv' := [(4, .int (xJ x19)), (6, .int (xJ x19)), (0, .ref (h0 + 268)), (1, .int (xJ n)), (2, .int (xJ w)), (3, .int (xJ i3_35)), (5, .int (xJ i5_35))]) hx hb dX11_first_75 hl (by decide) rfl (fun ls hl => ?_)
            refine x_iload hx hb hl 6 rfl dX11_first_77 ?_
            refine lv_istore_n (lv' := [(3, .int (xJ i5_35)), (4, .int (xJ x19)), (6, .int (xJ x19)), (0, .ref (h0 + 268)), (1, .int (xJ n)), (2, .int (xJ w)), (5, .int (xJ i5_35))]) hx hb dX11_first_79 rfl hl (by decide) rfl (fun ls hl => ?_)
            refine x_iinc (lv' := [(5, .int (xJ (i5_35 + 1))), (3, .int (xJ i5_35)), (4, .int (xJ x19)), (6, .int (xJ x19)), (0, .ref (h0 + 268)), (1, .int (xJ n)), (2, .int (xJ w))]) hx hb hl 6 rfl dX11_first_80 (by decide) rfl (fun ls hl => ?_)
            refine lv_goto (tgt := 35) hx hb dX11_first_83 (by decide) ?_
            exact ih35 i5_35 x19 (i5_35 + 1) s20 H locs ls ri5_35 rx19 (by omega) hF22 hp21.1.1 hp21.1.2.1 hp21.1.2.2.1 (hp21.1.2.2.2.1.trans q35_3) (hp21.1.2.2.2.2.1.trans q35_4) (hp21.1.2.2.2.2.2.1.trans q35_5) (by omega) (by
                rw [show (i5_35 + 1).toNat = i5_35.toNat + 1 from by omega]
                have e1 := congrArg Prod.fst v35_1
                have e1 : i4_35 = (zba (zsV K9 q9 l9 n9 w9 (zYN (s0 269) 0 0 0) n.toNat) (zYN (s0 269) 0 0 0) i5_35.toNat).1 := e1
                first
                  | (rw [zba_y (i := i5_35) (by omega) W45 (by rw [← e1, ← R58]; omega), R58])
                  | (rw [zba_n (i := i5_35) (by omega) (Or.inr (by rw [← e1, ← R58]; omega))]; exact v35_1)
                  | (rw [zba_n (i := i5_35) (by omega) (Or.inl W45n)]; exact v35_1)) (by first | exact Q58 | exact v35_2) (by first | exact Or.inl H58.2.2 | exact v35_3) (by have hm := hm_35 (); omega) hW (lv_sub hl [4, 5, 6, 1, 2, 0] rfl)
          refine lv_goto (tgt := 80) hx hb dX11_first_70 (by decide) ?_
          refine x_iinc (lv' := [(5, .int (xJ (i5_35 + 1))), (6, .int (xJ x19)), (0, .ref (h0 + 268)), (1, .int (xJ n)), (2, .int (xJ w)), (3, .int (xJ i3_35)), (4, .int (xJ i4_35))]) hx hb hl 6 rfl dX11_first_80 (by decide) rfl (fun ls hl => ?_)
          refine lv_goto (tgt := 35) hx hb dX11_first_83 (by decide) ?_
          exact ih35 i3_35 i4_35 (i5_35 + 1) s20 H locs ls ri3_35 ri4_35 (by omega) hF22 hp21.1.1 hp21.1.2.1 hp21.1.2.2.1 (hp21.1.2.2.2.1.trans q35_3) (hp21.1.2.2.2.2.1.trans q35_4) (hp21.1.2.2.2.2.2.1.trans q35_5) (by omega) (by
            rw [show (i5_35 + 1).toNat = i5_35.toNat + 1 from by omega]
            have e1 := congrArg Prod.fst v35_1
            have e1 : i4_35 = (zba (zsV K9 q9 l9 n9 w9 (zYN (s0 269) 0 0 0) n.toNat) (zYN (s0 269) 0 0 0) i5_35.toNat).1 := e1
            first
              | (rw [zba_y (i := i5_35) (by omega) W45 (by rw [← e1, ← R58]; omega), R58])
              | (rw [zba_n (i := i5_35) (by omega) (Or.inr (by rw [← e1, ← R58]; omega))]; exact v35_1)
              | (rw [zba_n (i := i5_35) (by omega) (Or.inl W45n)]; exact v35_1)) (by first | exact Q58 | exact v35_2) (by first | exact Or.inl H58.2.2 | exact v35_3) (by have hm := hm_35 (); omega) hW (lv_sub hl [2, 3, 4, 5, 6, 0] rfl)
        refine lv_goto (tgt := 80) hx hb dX11_first_51 (by decide) ?_
        have W45n := W45n (by omega)
        refine x_iinc (lv' := [(5, .int (xJ (i5_35 + 1))), (0, .ref (h0 + 268)), (1, .int (xJ n)), (2, .int (xJ w)), (3, .int (xJ i3_35)), (4, .int (xJ i4_35))]) hx hb hl 5 rfl dX11_first_80 (by decide) rfl (fun ls hl => ?_)
        refine lv_goto (tgt := 35) hx hb dX11_first_83 (by decide) ?_
        exact ih35 i3_35 i4_35 (i5_35 + 1) s_35 H locs ls ri3_35 ri4_35 (by omega) hF_35 q35_0 q35_1 q35_2 q35_3 q35_4 q35_5 (by omega) (by
            rw [show (i5_35 + 1).toNat = i5_35.toNat + 1 from by omega]
            have e1 := congrArg Prod.fst v35_1
            have e1 : i4_35 = (zba (zsV K9 q9 l9 n9 w9 (zYN (s0 269) 0 0 0) n.toNat) (zYN (s0 269) 0 0 0) i5_35.toNat).1 := e1
            first
              | (rw [zba_y (i := i5_35) (by omega) W45 (by rw [← e1, ← R58]; omega), R58])
              | (rw [zba_n (i := i5_35) (by omega) (Or.inr (by rw [← e1, ← R58]; omega))]; exact v35_1)
              | (rw [zba_n (i := i5_35) (by omega) (Or.inl W45n)]; exact v35_1)) (by first | exact Q58 | exact v35_2) (by first | exact Or.inl H58.2.2 | exact v35_3) (by have hm := hm_35 (); omega) hW (lv_sub hl [1, 2, 3, 4, 5, 0] rfl)
    exact L35 ((10 - 0 : Int).toNat + 1) (-2) x9 0 s10 H locs ls (by decide) rx9 (by decide) hF12 hp11.1.1 hp11.1.2.1 hp11.1.2.2.1 (hp11.1.2.2.2.1.trans k268_8) (hp11.1.2.2.2.2.1.trans k268_58) (hp11.1.2.2.2.2.2.1.trans k268_17) (by omega) (by rw [R27]; rfl) (Q27) (Or.inl H27.2.2) (Nat.lt_succ_self _) hW (lv_sub hl [3, 4, 5, 2, 1, 0] rfl)
  refine x_iconst hx hb dX11_first_19 ?_
  rw [eQ]
  exact x_iret hx hb hr hlk hW (by decide) ⟨hF, ⟨p0, p1, p2, k268_8, k268_58, k268_17, trivial⟩, Or.inr ⟨by omega, by omega, fun _ _ _ => rfl, Or.inr rfl⟩⟩ dX11_first_20

theorem z1sh {x v : Int} (hx : 0 ≤ x ∧ x < 2) (rv : xR v) (h : xJ v = xJ 1 <<< (xJ x &&& 31)) : v = x + 1 := by
  have e : v = (xJ 1 <<< (xJ x &&& 31)).toInt := by rw [← h, xJ_toInt rv]
  rw [e]
  rcases (by omega : x = 0 ∨ x = 1) with rfl | rfl <;> decide
theorem zYN_u34 {N : Int → Int} {x : Int} (hx : 0 ≤ x ∧ x < 2) (ht : xsh (N 34) x % 2 = 1) : zYN (xud N 34 (x + 1)) 0 0 0 = xud (zYN N 0 0 0) (1 - x) (-1) := by
  refine zYN_c (i0 := 1 - x) (Y := zYN N 0 0 0) (fun i hi => ?_) ?_
  · by_cases h : 0 ≤ i ∧ i < 2
    · rw [zYN_J h, zYN_J h]
      have e : i = x := by omega
      subst e
      rw [zrj_p ht, zrj_p (by rw [xud_s]; rcases (by omega : i = 0 ∨ i = 1) with rfl | rfl <;> decide), xud_o _ _ (by omega)]
    · by_cases c : i < 0
      · show (if i < 0 then 0 else _) = (if i < 0 then 0 else _)
        rw [if_pos c, if_pos c]
      · unfold zYN
        simp only [if_neg c, if_neg (show ¬ i < 2 from by omega), xud_o _ _ (show (35 : Int) ≠ 34 from by decide), xud_o _ _ (show (36 : Int) ≠ 34 from by decide), xud_o _ _ (show (37 : Int) ≠ 34 from by decide), xud_o _ _ (show (38 : Int) ≠ 34 from by decide)]
        by_cases k : i = 34
        · subst k
          rfl
        · rw [xud_o _ _ k]
  · rw [zYN_J (by omega), zrj_n (by rw [xud_s]; rcases (by omega : x = 0 ∨ x = 1) with rfl | rfl <;> decide)]
theorem zJt_x {K Y : Int → Int} {j : Int} (h : zJt K (zY4 Y)) (hj : 0 ≤ j ∧ j < 2) : zJt K (zY4 (xud Y j (-1))) := by
  obtain ⟨h1, h2, h3⟩ := h
  rcases (by omega : j = 0 ∨ j = 1) with rfl | rfl
  · exact ⟨Or.inl rfl, h2, Or.inr rfl⟩
  · refine ⟨h1, Or.inl rfl, ?_⟩
    show Y 0 ≠ -1 ∨ Y 0 = -1
    omega
set_option maxHeartbeats 4000000 in
set_option maxRecDepth 100000 in
theorem c_X11_servedByF (l : Launch) (D : va_G) (g : xG) (T : Nat × Nat × Nat) (h0 : Nat) (s0 : xS) (hσ : xRR s0) (n : Int) (rn : xR n) (w : Int) (rw : xR w) (K9 : Int → Int) (n9 : Int → Int) (w9 : Int → Int → Int) (q9 : zLaw) (l9 : Int → Int) (hok : zLok q9) (hlr : zLR s0 q9) (hK : ∀ t : Int, 0 ≤ t → t < 100 → s0 272 t = K9 t ∧ 0 ≤ K9 t ∧ K9 t ≤ 3) (hlm : ∀ i : Int, 0 ≤ i → i < 4 → s0 273 i = l9 i) (hw : ∀ j : Int, 0 ≤ j → j < 2 → s0 274 j = n9 j ∧ ∀ i : Int, 0 ≤ i → i < n9 j → s0 275 (60 * j + i) = w9 j i) (hY : zYq (zYr s0)) (hB : 0 ≤ s0 269 36 ∧ s0 269 36 < 1024) (hJt : zJt K9 (zY4 (zYr s0))) (hb34 : 0 ≤ s0 269 34 ∧ s0 269 34 ≤ 3) (p0 : IMn s0) (p1 : IMk s0) (p2 : IMo s0) : Met l yX11_servedBy (xws yX11_servedBy cX11_servedBy 3 (some .int)) { frames := 9, cells := 0, slots := 0, locals := 209 } (xP [.ref (h0 + 268), .int (xJ n), .int (xJ w)] D g T h0 s0) (xQi D g h0 (fun r τ => xFr (fun k => k = 268 ∨ k = 269 ∨ k = 270 ∨ k = 293 ∨ k = 294 ∨ k = 295 ∨ k = 296 ∨ k = 297 ∨ k = 298 ∨ k = 299) s0 τ ∧ (((IMn τ) ∧ (IMk τ) ∧ (IMo τ) ∧ (τ 268 8 = s0 268 8) ∧ (τ 268 58 = s0 268 58) ∧ (τ 268 17 = s0 268 17) ∧ (τ 268 48 = s0 268 48) ∧ True) ∧ (((1 ≤ n ∧ n ≤ 60 ∧ 0 ≤ w ∧ w ≤ 2 ∧ (w ≠ 1 → xsh (s0 269 34) 0 % 2 = 1) ∧ (w ≠ 0 → xsh (s0 269 34) 1 % 2 = 1)) ∧ r = zSm (if w < 2 then xud (zYN (s0 269) 0 0 0) (1 - w) (-1) else (zYN (s0 269) 0 0 0)) - zSm (zmn K9 q9 l9 n9 w9 (s0 268 48) n.toNat (if w < 2 then xud (zYN (s0 269) 0 0 0) (1 - w) (-1) else (zYN (s0 269) 0 0 0))) ∧ (∀ q : Int, 0 ≤ q → q < 39 → τ 269 q = s0 269 q)) ∨ (¬ (1 ≤ n ∧ n ≤ 60 ∧ 0 ≤ w ∧ w ≤ 2 ∧ (w ≠ 1 → xsh (s0 269 34) 0 % 2 = 1) ∧ (w ≠ 0 → xsh (s0 269 34) 1 % 2 = 1)) ∧ r = -1 ∧ (∀ q : Int, 0 ≤ q → q < 39 → τ 269 q = s0 269 q)))))) 0 0 (xA h0) := by
  refine x_met hσ (by decide) (Nat.le_of_ble_eq_true rfl) ?_
  intro p e s m args below meth c hx hb hr hml hown hT hlk hnm hE hW ls hl
  have hl : lv_has ls 3 [(0, .ref (h0 + 268)), (1, .int (xJ n)), (2, .int (xJ w))] := hl
  obtain ⟨Q, eQ⟩ : ∃ Q, Q = MQ below (xQi D g h0 (fun r τ => xFr (fun k => k = 268 ∨ k = 269 ∨ k = 270 ∨ k = 293 ∨ k = 294 ∨ k = 295 ∨ k = 296 ∨ k = 297 ∨ k = 298 ∨ k = 299) s0 τ ∧ (((IMn τ) ∧ (IMk τ) ∧ (IMo τ) ∧ (τ 268 8 = s0 268 8) ∧ (τ 268 58 = s0 268 58) ∧ (τ 268 17 = s0 268 17) ∧ (τ 268 48 = s0 268 48) ∧ True) ∧ (((1 ≤ n ∧ n ≤ 60 ∧ 0 ≤ w ∧ w ≤ 2 ∧ (w ≠ 1 → xsh (s0 269 34) 0 % 2 = 1) ∧ (w ≠ 0 → xsh (s0 269 34) 1 % 2 = 1)) ∧ r = zSm (if w < 2 then xud (zYN (s0 269) 0 0 0) (1 - w) (-1) else (zYN (s0 269) 0 0 0)) - zSm (zmn K9 q9 l9 n9 w9 (s0 268 48) n.toNat (if w < 2 then xud (zYN (s0 269) 0 0 0) (1 - w) (-1) else (zYN (s0 269) 0 0 0))) ∧ (∀ q : Int, 0 ≤ q → q < 39 → τ 269 q = s0 269 q)) ∨ (¬ (1 ≤ n ∧ n ≤ 60 ∧ 0 ≤ w ∧ w ≤ 2 ∧ (w ≠ 1 → xsh (s0 269 34) 0 % 2 = 1) ∧ (w ≠ 0 → xsh (s0 269 34) 1 % 2 = 1)) ∧ r = -1 ∧ (∀ q : Int, 0 ≤ q → q < 39 → τ 269 q = s0 269 q)))))) args s 0 0 (xA h0) := ⟨_, rfl⟩
  rw [← eQ]
  generalize hHe : ([] : List Loc) = locs at hW ⊢
  obtain ⟨H, eH⟩ : ∃ H, H = s.heap := ⟨_, rfl⟩
  rw [← eH] at hW ⊢
  have hF : xFr (fun k => k = 268 ∨ k = 269 ∨ k = 270 ∨ k = 293 ∨ k = 294 ∨ k = 295 ∨ k = 296 ∨ k = 297 ∨ k = 298 ∨ k = 299) s0 s0 := xFr.rf
  have k268_8 : s0 268 8 = s0 268 8 := rfl
  have k268_58 : s0 268 58 = s0 268 58 := rfl
  have k268_17 : s0 268 17 = s0 268 17 := rfl
  have k268_48 : s0 268 48 = s0 268 48 := rfl
  have b0 : xsh (s0 269 34) 0 % 2 = s0 269 34 % 2 ∧ (s0 269 34 = 3 ↔ xsh (s0 269 34) 0 % 2 = 1 ∧ xsh (s0 269 34) 1 % 2 = 1) ∧ True := by
    obtain ⟨z, ez⟩ : ∃ z, z = s0 269 34 := ⟨_, rfl⟩
    rw [← ez] at hb34 ⊢
    rcases (by omega : z = 0 ∨ z = 1 ∨ z = 2 ∨ z = 3) with h | h | h | h <;> (subst h; decide)
  have ww : (w = 0 → xsh (s0 269 34) w = xsh (s0 269 34) 0) ∧ (w = 1 → xsh (s0 269 34) w = xsh (s0 269 34) 1) := ⟨fun h => by rw [h], fun h => by rw [h]⟩
  refine x_iload_n hx hb hl 1 rfl dX11_servedBy_0 rfl ?_
  refine x_iconst hx hb dX11_servedBy_1 ?_
  refine x_bipush hx hb dX11_servedBy_2 (by decide) ?_
  refine x_goi (x_runS (As := [.int (xJ n), .int (xJ 1), .int (xJ 60)]) hx hb hml hown hT hE hW hl.1 cf_X11_in wq1383 wq1382 (c_X11_in l D g T h0 s0 hW.2.1 n rn 1 (by decide) 60 (by decide)) ⟨rfl, rfl, ⟨by decide, by decide⟩, ⟨by decide, by decide⟩⟩ rfl rfl (Nat.le_of_ble_eq_true rfl) dX11_servedBy_4) hW (fun x1 s2 H locs rx1 hp3 hW => ?_)
  obtain ⟨es2, hp3⟩ := hp3
  subst es2
  have ghp3 := hp3
  refine x_if_eq (tgt := 19) hx hb rx1 dX11_servedBy_7 (by decide) (fun c4 => ?_) (fun c4 => ?_)
  · skip
    refine x_iconst hx hb dX11_servedBy_19 ?_
    rw [eQ]
    exact x_iret hx hb hr hlk hW (by decide) ⟨hF, ⟨p0, p1, p2, k268_8, k268_58, k268_17, k268_48, trivial⟩, Or.inr ⟨by omega, by omega, fun _ _ _ => rfl⟩⟩ dX11_servedBy_20
  refine x_iload_n hx hb hl 2 rfl dX11_servedBy_10 rfl ?_
  refine x_iconst hx hb dX11_servedBy_11 ?_
  refine x_iconst hx hb dX11_servedBy_12 ?_
  refine x_goi (x_runS (As := [.int (xJ w), .int (xJ 0), .int (xJ 2)]) hx hb hml hown hT hE hW hl.1 cf_X11_in wq1383 wq1382 (c_X11_in l D g T h0 s0 hW.2.1 w rw 0 (by decide) 2 (by decide)) ⟨rfl, rfl, ⟨by decide, by decide⟩, ⟨by decide, by decide⟩⟩ rfl rfl (Nat.le_of_ble_eq_true rfl) dX11_servedBy_13) hW (fun x5 s6 H locs rx5 hp7 hW => ?_)
  obtain ⟨es6, hp7⟩ := hp7
  subst es6
  have ghp7 := hp7
  refine x_if_ne (tgt := 21) hx hb rx5 dX11_servedBy_16 (by decide) (fun c8 => ?_) (fun c8 => ?_)
  · skip
    refine x_iload_n hx hb hl 2 rfl dX11_servedBy_21 rfl ?_
    refine x_iconst hx hb dX11_servedBy_22 ?_
    have J50 : ∀ (H : Heap) (locs : List Loc) (ls : Array Slot), (((w ≠ 1 → xsh (s0 269 34) 0 % 2 = 1) ∧ (w ≠ 0 → xsh (s0 269 34) 1 % 2 = 1)) ∧ (w < 2 → xsh (s0 269 34) w % 2 = 1)) → xW D g h0 s H locs s0 → lv_has ls 3 [(0, .ref (h0 + 268)), (1, .int (xJ n)), (2, .int (xJ w))] → W p l e { frames := 9, cells := 0, slots := 0, locals := 209 } s m args below meth c H locs 0 0 Q (F0 m 50 ls []) := by
      intro H locs ls v50_0 hW hl
      refine x_aload_n hx hb hl 0 rfl dX11_servedBy_50 rfl ?_
      refine x_get (j := 0) (v := .ref (h0 + 269)) hx hb hown hT hE hW cls_X11 (Or.inl (by decide)) (so_268 h0 g _) (by decide) rfl wq1185 dX11_servedBy_51 ?_
      refine x_aload_n hx hb hl 0 rfl dX11_servedBy_54 rfl ?_
      refine x_get (j := 1) (v := .ref (h0 + 270)) hx hb hown hT hE hW cls_X11 (Or.inl (by decide)) (so_268 h0 g _) (by decide) rfl wq1186 dX11_servedBy_55 ?_
      refine x_gov (x_runS (As := [.ref (h0 + 269), .ref (h0 + 270)]) hx hb hml hown hT hE hW hl.1 cf_X11_copies wq1647 wq1646 (c_X11_copiesMA l D g T h0 s0 hW.2.1 p0 p1 p2) ⟨rfl, rfl, ⟨by decide, by decide⟩, ⟨by decide, by decide⟩⟩ rfl rfl (Nat.le_of_ble_eq_true rfl) dX11_servedBy_58) hW (fun s10 H locs hp11 hW => ?_)
      obtain ⟨fs10, hp11⟩ := hp11
      have hF12 := hF.call fs10 (fun k h => by omega)
      have q13 : s10 268 8 = s0 268 8 := (congrFun (fs10 _ (by omega)) _).trans k268_8
      have q14 : s10 268 58 = s0 268 58 := (congrFun (fs10 _ (by omega)) _).trans k268_58
      have q15 : s10 268 17 = s0 268 17 := (congrFun (fs10 _ (by omega)) _).trans k268_17
      have q16 : s10 268 48 = s0 268 48 := (congrFun (fs10 _ (by omega)) _).trans k268_48
      have ghp11 := hp11.2
      have A58 := ghp11
      have B58 : s10 269 = s0 269 ∧ s10 268 = s0 268 := ⟨fs10 269 (by first | decide | omega), fs10 268 (by first | decide | omega)⟩
      refine x_iload_n hx hb hl 2 rfl dX11_servedBy_61 rfl ?_
      refine x_iconst hx hb dX11_servedBy_62 ?_
      have J76 : ∀ (s_76 : xS) (H : Heap) (locs : List Loc) (ls : Array Slot), (xFr (fun k => k = 268 ∨ k = 269 ∨ k = 270 ∨ k = 293 ∨ k = 294 ∨ k = 295 ∨ k = 296 ∨ k = 297 ∨ k = 298 ∨ k = 299) s0 s_76) → (s_76 268 8 = s0 268 8) → (s_76 268 58 = s0 268 58) → (s_76 268 17 = s0 268 17) → (s_76 268 48 = s0 268 48) → (IMn s_76) → (IMk s_76) → (IMo s_76) → (zYN (s_76 269) 0 0 0 = (if w < 2 then xud (zYN (s0 269) 0 0 0) (1 - w) (-1) else (zYN (s0 269) 0 0 0))) → (∀ q : Int, 0 ≤ q → q < 39 → s_76 270 q = s0 269 q) → (zYr s_76 = zYN (s_76 269) (s0 268 42) (s0 268 43) (s0 268 44)) → (zYq (zYN (s_76 269) (s0 268 42) (s0 268 43) (s0 268 44)) ∧ (0 ≤ s_76 269 36 ∧ s_76 269 36 < 1024) ∧ zJt K9 (zY4 (zYr s_76))) → (((w ≠ 1 → xsh (s0 269 34) 0 % 2 = 1) ∧ (w ≠ 0 → xsh (s0 269 34) 1 % 2 = 1)) ∧ (w < 2 → xsh (s0 269 34) w % 2 = 1)) → xW D g h0 s H locs s_76 → lv_has ls 3 [(0, .ref (h0 + 268)), (1, .int (xJ n))] → W p l e { frames := 9, cells := 0, slots := 0, locals := 209 } s m args below meth c H locs 0 0 Q (F0 m 76 ls []) := by
        intro s_76 H locs ls hF_76 q76_0 q76_1 q76_2 q76_3 q76_4 q76_5 q76_6 v76_0 v76_1 v76_2 v76_3 v76_4 hW hl
        refine x_aload_n hx hb hl 0 rfl dX11_servedBy_76 rfl ?_
        refine x_iload_n hx hb hl 1 rfl dX11_servedBy_77 rfl ?_
        refine x_gov (x_runV (As := [.int (xJ n)]) hx hb hml hown hT hE hW hl.1 (Or.inl (by decide)) (so_268 h0 g _) rfl cf_X11_minutesGo wq1539 wq130 wq1537 (c_X11_minutesGoF l D g T h0 s_76 hW.2.1 n rn K9 n9 w9 q9 l9 (hok) (by first | exact hlr | exact hlr.f (fun k hk => hF_76 k (by omega)) (by omega)) (by first | exact hK | exact fun t t1 t2 => by rw [hF_76 272 (by first | decide | omega)]; exact hK t t1 t2) (by first | exact hlm | exact fun i i1 i2 => by rw [hF_76 273 (by first | decide | omega)]; exact hlm i i1 i2) (by first | exact hw | exact (by rw [hF_76 274 (by first | decide | omega), hF_76 275 (by first | decide | omega)]; exact hw)) (by rw [v76_2]; exact v76_3.1) (v76_3.2.1) (v76_3.2.2) (by omega) q76_4 q76_5 q76_6) ⟨rfl, rfl, ⟨by decide, by decide⟩, ⟨by decide, by decide⟩⟩ rfl rfl (Nat.le_of_ble_eq_true rfl) dX11_servedBy_78) hW (fun s18 H locs hp19 hW => ?_)
        obtain ⟨fs18, hp19⟩ := hp19
        have hF20 := hF_76.call fs18 (fun k h => by omega)
        have ghp19 := hp19.2
        have H78 := ghp19
        have C78 : zYr s18 = zmn K9 q9 l9 n9 w9 (s0 268 48) n.toNat (if w < 2 then xud (zYN (s0 269) 0 0 0) (1 - w) (-1) else (zYN (s0 269) 0 0 0)) := by rw [H78.1, v76_0, show s_76 268 48 = s0 268 48 from by omega]
        have W78 : s18 268 41 = zSm (if w < 2 then xud (zYN (s0 269) 0 0 0) (1 - w) (-1) else (zYN (s0 269) 0 0 0)) - zSm (zmn K9 q9 l9 n9 w9 (s0 268 48) n.toNat (if w < 2 then xud (zYN (s0 269) 0 0 0) (1 - w) (-1) else (zYN (s0 269) 0 0 0))) := by rw [H78.2.1, C78, v76_2, ← v76_0]; congr 1 <;> exact zSm_o (fun g g1 g2 => by rw [zYN_O ⟨g1, g2⟩, zYN_O ⟨g1, g2⟩])
        have A78 : s18 270 = s_76 270 := fs18 270 (by first | decide | omega)
        refine x_aload_n hx hb hl 0 rfl dX11_servedBy_81 rfl ?_
        refine x_get (j := 1) (v := .ref (h0 + 270)) hx hb hown hT hE hW cls_X11 (Or.inl (by decide)) (so_268 h0 g _) (by decide) rfl wq1186 dX11_servedBy_82 ?_
        refine x_aload_n hx hb hl 0 rfl dX11_servedBy_85 rfl ?_
        refine x_get (j := 0) (v := .ref (h0 + 269)) hx hb hown hT hE hW cls_X11 (Or.inl (by decide)) (so_268 h0 g _) (by decide) rfl wq1185 dX11_servedBy_86 ?_
        refine x_gov (x_runS (As := [.ref (h0 + 270), .ref (h0 + 269)]) hx hb hml hown hT hE hW hl.1 cf_X11_copies wq1647 wq1646 (c_X11_copiesMB l D g T h0 s18 hW.2.1 hp19.1.1 hp19.1.2.1 hp19.1.2.2.1) ⟨rfl, rfl, ⟨by decide, by decide⟩, ⟨by decide, by decide⟩⟩ rfl rfl (Nat.le_of_ble_eq_true rfl) dX11_servedBy_89) hW (fun s22 H locs hp23 hW => ?_)
        obtain ⟨fs22, hp23⟩ := hp23
        have hF24 := hF20.call fs22 (fun k h => by omega)
        have q25 : s22 268 8 = s0 268 8 := (congrFun (fs22 _ (by omega)) _).trans (hp19.1.2.2.2.1.trans q76_0)
        have q26 : s22 268 58 = s0 268 58 := (congrFun (fs22 _ (by omega)) _).trans (hp19.1.2.2.2.2.1.trans q76_1)
        have q27 : s22 268 17 = s0 268 17 := (congrFun (fs22 _ (by omega)) _).trans (hp19.1.2.2.2.2.2.1.trans q76_2)
        have q28 : s22 268 48 = s0 268 48 := (congrFun (fs22 _ (by omega)) _).trans (hp19.1.2.2.2.2.2.2.2.1.trans q76_3)
        have ghp23 := hp23.2
        have Q89 : ∀ q : Int, 0 ≤ q → q < 39 → s22 269 q = s0 269 q := fun q a b => (ghp23 q a b).trans (by rw [A78]; exact v76_1 q a b)
        have F89 : s22 268 = s18 268 := fs22 268 (by first | decide | omega)
        refine x_aload_n hx hb hl 0 rfl dX11_servedBy_92 rfl ?_
        refine x_get (j := 41) (v := .int (xJ (s22 268 41))) hx hb hown hT hE hW cls_X11 (Or.inl (by decide)) (so_268 h0 g _) (by decide) rfl wq1226 dX11_servedBy_93 ?_
        refine x_rd hW (fun x29 ex29 rx29 => ?_)
        have V93 : x29 = zSm (if w < 2 then xud (zYN (s0 269) 0 0 0) (1 - w) (-1) else (zYN (s0 269) 0 0 0)) - zSm (zmn K9 q9 l9 n9 w9 (s0 268 48) n.toNat (if w < 2 then xud (zYN (s0 269) 0 0 0) (1 - w) (-1) else (zYN (s0 269) 0 0 0))) := by rw [ex29, F89]; exact W78
        rw [eQ]
        exact x_iret hx hb hr hlk hW rx29 ⟨hF24, ⟨hp23.1.1, hp23.1.2.1, hp23.1.2.2.1, q25, q26, q27, q28, trivial⟩, Or.inl ⟨⟨by omega, by omega, by omega, by omega, v76_4.1.1, v76_4.1.2⟩, V93, Q89⟩⟩ dX11_servedBy_96
      refine x_icmp_ge (tgt := 76) hx hb rw (by decide) dX11_servedBy_63 (by decide) (fun c30 => ?_) (fun c30 => ?_)
      · skip
        exact J76 s10 H locs ls hF12 q13 q14 q15 q16 hp11.1.1 hp11.1.2.1 hp11.1.2.2.1 (by first | (rw [N75, zYN_u34 (by omega) (v50_0.2 (by omega)), if_pos (by omega)]) | (rw [B58.1, if_neg (by omega)])) (by first | (rw [E75, xU_k _ _ _ (by decide)]; exact A58) | exact A58) (by first | (show zYN (s10 269) (s10 268 42) (s10 268 43) (s10 268 44) = _; rw [show s10 268 = s0 268 from by rw [E75, xU_k _ _ _ (by decide)]; exact B58.2]) | (show zYN (s10 269) (s10 268 42) (s10 268 43) (s10 268 44) = _; rw [B58.2])) (by first | exact M75 | exact ⟨by rw [B58.1]; exact hY, by rw [B58.1]; exact hB, by rw [show zYr s10 = zYr s0 from zYr_f B58.1 B58.2]; exact hJt⟩) (v50_0) hW (lv_sub hl [0, 1] rfl)
      refine x_aload_n hx hb hl 0 rfl dX11_servedBy_66 rfl ?_
      refine x_get (j := 0) (v := .ref (h0 + 269)) hx hb hown hT hE hW cls_X11 (Or.inl (by decide)) (so_268 h0 g _) (by decide) rfl wq1185 dX11_servedBy_67 ?_
      refine x_bipush hx hb dX11_servedBy_70 (by decide) ?_
      refine x_iconst hx hb dX11_servedBy_72 ?_
      refine x_iload_n hx hb hl 2 rfl dX11_servedBy_73 rfl ?_
      refine lv_ishl hx hb dX11_servedBy_74 ?_
      refine x_anyE (fun x31 ex31 rx31 => ?_)
      have V74 := ex31
      refine x_iast hx hb hE hW (by decide) (fun σ => sa_269 h0 g σ) ⟨by decide, by decide⟩ (by decide) rx31 dX11_servedBy_75 (fun H locs s32 es32 hW => ?_)
      have q33 : s32 268 8 = s0 268 8 := (show s32 268 8 = s10 268 8 from by rw [es32, xU_k _ _ _ (by first | decide | omega)]).trans q13
      have q34 : s32 268 58 = s0 268 58 := (show s32 268 58 = s10 268 58 from by rw [es32, xU_k _ _ _ (by first | decide | omega)]).trans q14
      have q35 : s32 268 17 = s0 268 17 := (show s32 268 17 = s10 268 17 from by rw [es32, xU_k _ _ _ (by first | decide | omega)]).trans q15
      have q36 : s32 268 48 = s0 268 48 := (show s32 268 48 = s10 268 48 from by rw [es32, xU_k _ _ _ (by first | decide | omega)]).trans q16
      have q37 : IMn s32 := by rw [es32]; exact IMn_N269 hp11.1.1 (by omega)
      have q38 : IMk s32 := by rw [es32]; exact IMk_o (by unfold suIMk; first | decide | omega) hp11.1.2.1
      have q39 : IMo s32 := by rw [es32]; exact IMo_o (by unfold suIMo; first | decide | omega) hp11.1.2.2.1
      have hF40 := hF12.put es32 (by omega)
      have E75 := es32
      have N75 : s32 269 = xud (s0 269) 34 (w + 1) := by
        rw [E75, xU_xud, B58.1]
        congr 1
        exact z1sh (by omega) rx31 V74
      have M75 : zYq (zYN (s32 269) (s0 268 42) (s0 268 43) (s0 268 44)) ∧ (0 ≤ s32 269 36 ∧ s32 269 36 < 1024) ∧ zJt K9 (zY4 (zYr s32)) := by
        have z := zYN_u34 (N := s0 269) (x := w) (by omega) (v50_0.2 (by omega))
        refine ⟨zYN_q (a := 0) (c := 0) (s := 0) (by rw [N75, z]; exact zYq_x (zYN_q hY) (by omega)), by rw [N75, xud_o _ _ (by decide)]; exact hB, ?_⟩
        have e : zY4 (zYr s32) = zY4 (zYN (s32 269) 0 0 0) := rfl
        rw [e, N75, z]
        exact zJt_x (show zJt K9 (zY4 (zYN (s0 269) 0 0 0)) from hJt) (by omega)
      exact J76 s32 H locs ls hF40 q33 q34 q35 q36 q37 q38 q39 (by first | (rw [N75, zYN_u34 (by omega) (v50_0.2 (by omega)), if_pos (by omega)]) | (rw [B58.1, if_neg (by omega)])) (by first | (rw [E75, xU_k _ _ _ (by decide)]; exact A58) | exact A58) (by first | (show zYN (s32 269) (s32 268 42) (s32 268 43) (s32 268 44) = _; rw [show s32 268 = s0 268 from by rw [E75, xU_k _ _ _ (by decide)]; exact B58.2]) | (show zYN (s32 269) (s32 268 42) (s32 268 43) (s32 268 44) = _; rw [B58.2])) (by first | exact M75 | exact ⟨by rw [B58.1]; exact hY, by rw [B58.1]; exact hB, by rw [show zYr s32 = zYr s0 from zYr_f B58.1 B58.2]; exact hJt⟩) (v50_0) hW (lv_sub hl [0, 1] rfl)
    refine x_icmp_ne (tgt := 40) hx hb rw (by decide) dX11_servedBy_23 (by decide) (fun c41 => ?_) (fun c41 => ?_)
    · skip
      refine x_aload_n hx hb hl 0 rfl dX11_servedBy_40 rfl ?_
      refine x_iload_n hx hb hl 2 rfl dX11_servedBy_41 rfl ?_
      refine x_goi (x_runV (As := [.int (xJ w)]) hx hb hml hown hT hE hW hl.1 (Or.inl (by decide)) (so_268 h0 g _) rfl cf_X11_isJudge wq1409 wq109 wq1407 (c_X11_isJudgeJ l D g T h0 s0 hW.2.1 w rw p0 p1 p2) ⟨rfl, rfl, ⟨by decide, by decide⟩, ⟨by decide, by decide⟩⟩ rfl rfl (Nat.le_of_ble_eq_true rfl) dX11_servedBy_42) hW (fun x42 s43 H locs rx42 hp44 hW => ?_)
      obtain ⟨es43, hp44⟩ := hp44
      subst es43
      have ghp44 := hp44
      have H42 := ghp44
      refine x_if_ne (tgt := 50) hx hb rx42 dX11_servedBy_45 (by decide) (fun c45 => ?_) (fun c45 => ?_)
      · skip
        exact J50 H locs ls (by omega) hW (lv_sub hl [0, 1, 2] rfl)
      refine x_iconst hx hb dX11_servedBy_48 ?_
      rw [eQ]
      exact x_iret hx hb hr hlk hW (by decide) ⟨hF, ⟨p0, p1, p2, k268_8, k268_58, k268_17, k268_48, trivial⟩, Or.inr ⟨by omega, by omega, fun _ _ _ => rfl⟩⟩ dX11_servedBy_49
    refine x_aload_n hx hb hl 0 rfl dX11_servedBy_26 rfl ?_
    refine x_get (j := 0) (v := .ref (h0 + 269)) hx hb hown hT hE hW cls_X11 (Or.inl (by decide)) (so_268 h0 g _) (by decide) rfl wq1185 dX11_servedBy_27 ?_
    refine x_bipush hx hb dX11_servedBy_30 (by decide) ?_
    refine x_iald hx hb hE hW (Or.inl (by decide)) (sa_269 h0 g _) ⟨by decide, by decide⟩ (by decide) dX11_servedBy_32 ?_
    refine x_rd hW (fun x46 ex46 rx46 => ?_)
    have V32 := ex46
    refine x_iconst hx hb dX11_servedBy_33 ?_
    refine x_icmp_eq (tgt := 50) hx hb rx46 (by decide) dX11_servedBy_34 (by decide) (fun c47 => ?_) (fun c47 => ?_)
    · skip
      exact J50 H locs ls (by omega) hW (lv_sub hl [0, 1, 2] rfl)
    refine lv_goto (tgt := 48) hx hb dX11_servedBy_37 (by decide) ?_
    refine x_iconst hx hb dX11_servedBy_48 ?_
    rw [eQ]
    exact x_iret hx hb hr hlk hW (by decide) ⟨hF, ⟨p0, p1, p2, k268_8, k268_58, k268_17, k268_48, trivial⟩, Or.inr ⟨by omega, by omega, fun _ _ _ => rfl⟩⟩ dX11_servedBy_49
  refine x_iconst hx hb dX11_servedBy_19 ?_
  rw [eQ]
  exact x_iret hx hb hr hlk hW (by decide) ⟨hF, ⟨p0, p1, p2, k268_8, k268_58, k268_17, k268_48, trivial⟩, Or.inr ⟨by omega, by omega, fun _ _ _ => rfl⟩⟩ dX11_servedBy_20

theorem zYN_e0 {N : Int → Int} {a c s : Int} : zYe (zYN N a c s) (zYN N 0 0 0) := fun i h1 h2 h3 => by
  rw [zYN_us (s := 0), zYN_uc (c := 0), zYN_ua (a := 0), xud_o _ _ h3, xud_o _ _ h2, xud_o _ _ h1]
set_option maxHeartbeats 4000000 in
set_option maxRecDepth 100000 in
theorem c_X11_felonIsF (l : Launch) (D : va_G) (g : xG) (T : Nat × Nat × Nat) (h0 : Nat) (s0 : xS) (hσ : xRR s0) (f : Int) (rf : xR f) (w : Int) (rw : xR w) (K9 : Int → Int) (n9 : Int → Int) (w9 : Int → Int → Int) (q9 : zLaw) (l9 : Int → Int) (hok : zLok q9) (hlr : zLR s0 q9) (hK : ∀ t : Int, 0 ≤ t → t < 100 → s0 272 t = K9 t ∧ 0 ≤ K9 t ∧ K9 t ≤ 3) (hlm : ∀ i : Int, 0 ≤ i → i < 4 → s0 273 i = l9 i) (hw : ∀ j : Int, 0 ≤ j → j < 2 → s0 274 j = n9 j ∧ ∀ i : Int, 0 ≤ i → i < n9 j → s0 275 (60 * j + i) = w9 j i) (hY : zYq (zYr s0)) (hB : 0 ≤ s0 269 36 ∧ s0 269 36 < 1024) (hJt : zJt K9 (zY4 (zYr s0))) (p0 : IMn s0) (p1 : IMk s0) (p2 : IMo s0) : Met l yX11_felonIs (xws yX11_felonIs cX11_felonIs 3 (some .int)) { frames := 7, cells := 0, slots := 0, locals := 162 } (xP [.ref (h0 + 268), .int (xJ f), .int (xJ w)] D g T h0 s0) (xQi D g h0 (fun r τ => xFr (fun k => k = 293 ∨ k = 294 ∨ k = 295) s0 τ ∧ (((IMn τ) ∧ (IMk τ) ∧ (IMo τ) ∧ True) ∧ ((0 ≤ f ∧ f < 10 ∧ xsh (s0 269 35) f % 2 = 1 ∧ r = zfi K9 q9 l9 (zYN (s0 269) 0 0 0) f w) ∨ (¬ (0 ≤ f ∧ f < 10 ∧ xsh (s0 269 35) f % 2 = 1) ∧ r = -1))))) 0 0 (xA h0) := by
  refine x_met hσ (by decide) (Nat.le_of_ble_eq_true rfl) ?_
  intro p e s m args below meth c hx hb hr hml hown hT hlk hnm hE hW ls hl
  have hl : lv_has ls 3 [(0, .ref (h0 + 268)), (1, .int (xJ f)), (2, .int (xJ w))] := hl
  obtain ⟨Q, eQ⟩ : ∃ Q, Q = MQ below (xQi D g h0 (fun r τ => xFr (fun k => k = 293 ∨ k = 294 ∨ k = 295) s0 τ ∧ (((IMn τ) ∧ (IMk τ) ∧ (IMo τ) ∧ True) ∧ ((0 ≤ f ∧ f < 10 ∧ xsh (s0 269 35) f % 2 = 1 ∧ r = zfi K9 q9 l9 (zYN (s0 269) 0 0 0) f w) ∨ (¬ (0 ≤ f ∧ f < 10 ∧ xsh (s0 269 35) f % 2 = 1) ∧ r = -1))))) args s 0 0 (xA h0) := ⟨_, rfl⟩
  rw [← eQ]
  generalize hHe : ([] : List Loc) = locs at hW ⊢
  obtain ⟨H, eH⟩ : ∃ H, H = s.heap := ⟨_, rfl⟩
  rw [← eH] at hW ⊢
  have hF : xFr (fun k => k = 293 ∨ k = 294 ∨ k = 295) s0 s0 := xFr.rf
  have k268_8 : s0 268 8 = s0 268 8 := rfl
  have k268_58 : s0 268 58 = s0 268 58 := rfl
  have k268_17 : s0 268 17 = s0 268 17 := rfl
  have k268_48 : s0 268 48 = s0 268 48 := rfl
  have hm7 := (IMn.n1 p0).2.2.2.1
  have hgj : ∀ j : Int, 0 ≤ j → j < 2 → xsh (s0 269 34) j % 2 = 1 → K9 (s0 269 j) ≠ 1 := zJg_G hJt (fun j j1 j2 => ((IMn.n1 p0).1 j j1 j2).1)
  have hnj : zrj (s0 269) 0 ≠ zrj (s0 269) 1 ∨ zrj (s0 269) 0 = -1 := zJg_N hJt
  refine x_aload_n hx hb hl 0 rfl dX11_felonIs_0 rfl ?_
  refine x_iload_n hx hb hl 1 rfl dX11_felonIs_1 rfl ?_
  refine x_goi (x_runV (As := [.int (xJ f)]) hx hb hml hown hT hE hW hl.1 (Or.inl (by decide)) (so_268 h0 g _) rfl cf_X11_isFelon wq1423 wq111 wq1421 (c_X11_isFelonF l D g T h0 s0 hW.2.1 f rf p0 p1 p2) ⟨rfl, rfl, ⟨by decide, by decide⟩, ⟨by decide, by decide⟩⟩ rfl rfl (Nat.le_of_ble_eq_true rfl) dX11_felonIs_2) hW (fun x1 s2 H locs rx1 hp3 hW => ?_)
  obtain ⟨es2, hp3⟩ := hp3
  subst es2
  have ghp3 := hp3
  have H2 := ghp3
  refine x_if_ne (tgt := 10) hx hb rx1 dX11_felonIs_5 (by decide) (fun c4 => ?_) (fun c4 => ?_)
  · skip
    refine x_iload_n hx hb hl 2 rfl dX11_felonIs_10 rfl ?_
    have f10 : 0 ≤ f ∧ f < 10 := by omega
    have t10 : xsh (s0 269 35) f % 2 = 1 := by omega
    have n10 := (IMn.n1 p0).2.2.1 (4 + f) (by omega) (by omega)
    rcases (show (w < 0 ∨ 5 < w) ∨ w = 0 ∨ w = 1 ∨ w = 2 ∨ w = 3 ∨ w = 4 ∨ w = 5 from by omega) with c5 | c5 | c5 | c5 | c5 | c5 | c5
    · refine x_tabOut (tgt := 132) hx hb rw dX11_felonIs_11 c5 (by decide) ?_
      refine x_iconst hx hb dX11_felonIs_132 ?_
      rw [eQ]
      exact x_iret hx hb hr hlk hW (by decide) ⟨hF, ⟨p0, p1, p2, trivial⟩, Or.inl ⟨f10.1, f10.2, t10, by
          unfold zfi
          (repeat' split) <;> omega⟩⟩ dX11_felonIs_133
    · refine x_tabIn (v := 0) (tgt := 48) hx hb rw c5 dX11_felonIs_11 (by decide) rfl (by decide) ?_
      refine x_aload_n hx hb hl 0 rfl dX11_felonIs_48 rfl ?_
      refine x_get (j := 0) (v := .ref (h0 + 269)) hx hb hown hT hE hW cls_X11 (Or.inl (by decide)) (so_268 h0 g _) (by decide) rfl wq1185 dX11_felonIs_49 ?_
      refine x_iconst hx hb dX11_felonIs_52 ?_
      refine x_iload_n hx hb hl 1 rfl dX11_felonIs_53 rfl ?_
      refine x_iadd hx hb dX11_felonIs_54 ?_
      refine x_iald hx hb hE hW (Or.inl (by decide)) (sa_269 h0 g _) (by omega) (by decide) dX11_felonIs_55 ?_
      refine x_rd hW (fun x6 ex6 rx6 => ?_)
      have bx6 : 0 ≤ x6 ∧ x6 ≤ 99 := by rw [ex6]; exact (IMn.n1 p0).2.2.1 _ (by omega) (by omega)
      have V55 : x6 = zYN (s0 269) 0 0 0 (4 + f) := by rw [zYN_F f10, if_pos t10]; exact ex6
      rw [eQ]
      exact x_iret hx hb hr hlk hW rx6 ⟨hF, ⟨p0, p1, p2, trivial⟩, Or.inl ⟨f10.1, f10.2, t10, by
          unfold zfi
          (repeat' split) <;> omega⟩⟩ dX11_felonIs_56
    · refine x_tabIn (v := 1) (tgt := 57) hx hb rw c5 dX11_felonIs_11 (by decide) rfl (by decide) ?_
      refine x_aload_n hx hb hl 0 rfl dX11_felonIs_57 rfl ?_
      refine x_get (j := 0) (v := .ref (h0 + 269)) hx hb hown hT hE hW cls_X11 (Or.inl (by decide)) (so_268 h0 g _) (by decide) rfl wq1185 dX11_felonIs_58 ?_
      refine x_bipush hx hb dX11_felonIs_61 (by decide) ?_
      refine x_iload_n hx hb hl 1 rfl dX11_felonIs_63 rfl ?_
      refine x_iadd hx hb dX11_felonIs_64 ?_
      refine x_iald hx hb hE hW (Or.inl (by decide)) (sa_269 h0 g _) (by omega) (by decide) dX11_felonIs_65 ?_
      refine x_rd hW (fun x7 ex7 rx7 => ?_)
      have V65 : x7 = zYN (s0 269) 0 0 0 (14 + f) := by rw [zYN_O f10, if_pos t10]; exact ex7
      rw [eQ]
      exact x_iret hx hb hr hlk hW rx7 ⟨hF, ⟨p0, p1, p2, trivial⟩, Or.inl ⟨f10.1, f10.2, t10, by
          unfold zfi
          (repeat' split) <;> omega⟩⟩ dX11_felonIs_66
    · refine x_tabIn (v := 2) (tgt := 67) hx hb rw c5 dX11_felonIs_11 (by decide) rfl (by decide) ?_
      refine x_aload_n hx hb hl 0 rfl dX11_felonIs_67 rfl ?_
      refine x_get (j := 0) (v := .ref (h0 + 269)) hx hb hown hT hE hW cls_X11 (Or.inl (by decide)) (so_268 h0 g _) (by decide) rfl wq1185 dX11_felonIs_68 ?_
      refine x_bipush hx hb dX11_felonIs_71 (by decide) ?_
      refine x_iload_n hx hb hl 1 rfl dX11_felonIs_73 rfl ?_
      refine x_iadd hx hb dX11_felonIs_74 ?_
      refine x_iald hx hb hE hW (Or.inl (by decide)) (sa_269 h0 g _) (by omega) (by decide) dX11_felonIs_75 ?_
      refine x_rd hW (fun x8 ex8 rx8 => ?_)
      have V75 : x8 = zYN (s0 269) 0 0 0 (24 + f) := by rw [zYN_A f10, if_pos t10]; exact ex8
      rw [eQ]
      exact x_iret hx hb hr hlk hW rx8 ⟨hF, ⟨p0, p1, p2, trivial⟩, Or.inl ⟨f10.1, f10.2, t10, by
          unfold zfi
          (repeat' split) <;> omega⟩⟩ dX11_felonIs_76
    · refine x_tabIn (v := 3) (tgt := 77) hx hb rw c5 dX11_felonIs_11 (by decide) rfl (by decide) ?_
      refine x_aload_n hx hb hl 0 rfl dX11_felonIs_77 rfl ?_
      refine x_get (j := 0) (v := .ref (h0 + 269)) hx hb hown hT hE hW cls_X11 (Or.inl (by decide)) (so_268 h0 g _) (by decide) rfl wq1185 dX11_felonIs_78 ?_
      refine x_bipush hx hb dX11_felonIs_81 (by decide) ?_
      refine x_iald hx hb hE hW (Or.inl (by decide)) (sa_269 h0 g _) ⟨by decide, by decide⟩ (by decide) dX11_felonIs_83 ?_
      refine x_rd hW (fun x9 ex9 rx9 => ?_)
      have V83 := ex9
      refine x_iload_n hx hb hl 1 rfl dX11_felonIs_84 rfl ?_
      refine x_goi (x_runS (As := [.int (xJ x9), .int (xJ f)]) hx hb hml hown hT hE hW hl.1 cf_X11_has wq1415 wq1414 (c_X11_has l D g T h0 s0 hW.2.1 x9 rx9 f rf) ⟨rfl, rfl, ⟨by decide, by decide⟩, ⟨by decide, by decide⟩⟩ rfl rfl (Nat.le_of_ble_eq_true rfl) dX11_felonIs_85) hW (fun x10 s11 H locs rx10 hp12 hW => ?_)
      obtain ⟨es11, hp12⟩ := hp12
      subst es11
      have ghp12 := hp12
      have H85 := ghp12.2 (by omega)
      rw [V83] at H85
      have D85 : zYN (s0 269) 0 0 0 (34 + f) = xsh (s0 269 36) f % 2 := by rw [zYN_D f10, if_pos t10]
      refine x_if_eq (tgt := 95) hx hb rx10 dX11_felonIs_88 (by decide) (fun c13 => ?_) (fun c13 => ?_)
      · skip
        refine x_iconst hx hb dX11_felonIs_95 ?_
        rw [eQ]
        exact x_iret hx hb hr hlk hW (by decide) ⟨hF, ⟨p0, p1, p2, trivial⟩, Or.inl ⟨f10.1, f10.2, t10, by
            unfold zfi
            (repeat' split) <;> omega⟩⟩ dX11_felonIs_96
      refine x_iconst hx hb dX11_felonIs_91 ?_
      refine lv_goto (tgt := 96) hx hb dX11_felonIs_92 (by decide) ?_
      rw [eQ]
      exact x_iret hx hb hr hlk hW (by decide) ⟨hF, ⟨p0, p1, p2, trivial⟩, Or.inl ⟨f10.1, f10.2, t10, by
          unfold zfi
          (repeat' split) <;> omega⟩⟩ dX11_felonIs_96
    · refine x_tabIn (v := 4) (tgt := 97) hx hb rw c5 dX11_felonIs_11 (by decide) rfl (by decide) ?_
      refine x_aload_n hx hb hl 0 rfl dX11_felonIs_97 rfl ?_
      refine x_bipush hx hb dX11_felonIs_98 (by decide) ?_
      refine x_iconst hx hb dX11_felonIs_100 ?_
      refine x_iload_n hx hb hl 1 rfl dX11_felonIs_101 rfl ?_
      refine x_goi (x_runV (As := [.int (xJ 118), .int (xJ 3), .int (xJ f)]) hx hb hml hown hT hE hW hl.1 (Or.inl (by decide)) (so_268 h0 g _) rfl cf_X11_byFelon wq1625 wq148 wq1623 (c_X11_byFelonF l D g T h0 s0 hW.2.1 118 (by decide) 3 (by decide) f rf q9 K9 (hok) (by first | exact hlr | exact hlr.f (fun k hk => hF k (by omega)) (by omega)) (by first | exact hK | exact fun t t1 t2 => by rw [hF 272 (by omega)]; exact hK t t1 t2) (f10) (t10) (by decide) (by decide) p0 p1 p2) ⟨rfl, rfl, ⟨by decide, by decide⟩, ⟨by decide, by decide⟩⟩ rfl rfl (Nat.le_of_ble_eq_true rfl) dX11_felonIs_102) hW (fun x14 s15 H locs rx14 hp16 hW => ?_)
      obtain ⟨fs15, hp16⟩ := hp16
      have hF17 := hF.call fs15 (fun k h => by omega)
      have q18 : s15 268 8 = s0 268 8 := (congrFun (fs15 _ (by omega)) _).trans k268_8
      have q19 : s15 268 58 = s0 268 58 := (congrFun (fs15 _ (by omega)) _).trans k268_58
      have q20 : s15 268 17 = s0 268 17 := (congrFun (fs15 _ (by omega)) _).trans k268_17
      have q21 : s15 268 48 = s0 268 48 := (congrFun (fs15 _ (by omega)) _).trans k268_48
      have ghp16 := hp16.2
      have R102 : x14 = zvF K9 q9 (zYN (s0 269) 0 0 0) 118 3 f := by rw [← zYe.vF zYN_e0 f10]; exact ghp16
      rw [eQ]
      exact x_iret hx hb hr hlk hW rx14 ⟨hF17, ⟨hp16.1.1, hp16.1.2.1, hp16.1.2.2.1, trivial⟩, Or.inl ⟨f10.1, f10.2, t10, by
          unfold zfi
          (repeat' split) <;> omega⟩⟩ dX11_felonIs_105
    · refine x_tabIn (v := 5) (tgt := 106) hx hb rw c5 dX11_felonIs_11 (by decide) rfl (by decide) ?_
      refine x_aload_n hx hb hl 0 rfl dX11_felonIs_106 rfl ?_
      refine x_aload_n hx hb hl 0 rfl dX11_felonIs_107 rfl ?_
      refine x_get (j := 0) (v := .ref (h0 + 269)) hx hb hown hT hE hW cls_X11 (Or.inl (by decide)) (so_268 h0 g _) (by decide) rfl wq1185 dX11_felonIs_108 ?_
      refine x_bipush hx hb dX11_felonIs_111 (by decide) ?_
      refine x_iald hx hb hE hW (Or.inl (by decide)) (sa_269 h0 g _) ⟨by decide, by decide⟩ (by decide) dX11_felonIs_113 ?_
      refine x_rd hW (fun x22 ex22 rx22 => ?_)
      have bx22 : 0 ≤ x22 ∧ x22 ≤ 9999 := by rw [ex22]; exact (IMn.n1 p0).2.2.2.1
      have V113 : x22 = zYN (s0 269) 0 0 0 44 := ex22
      refine x_iconst hx hb dX11_felonIs_114 ?_
      refine x_gov (x_runV (As := [.int (xJ x22), .int (xJ 0)]) hx hb hml hown hT hE hW hl.1 (Or.inl (by decide)) (so_268 h0 g _) rfl cf_X11_laysShades wq1588 wq139 wq1586 (c_X11_laysShadesF l D g T h0 s0 hW.2.1 x22 rx22 0 (by decide) q9 K9 l9 (hok) (by first | exact hlr | exact hlr.f (fun k hk => hF k (by omega)) (by omega)) (by first | exact hK | exact fun t t1 t2 => by rw [hF 272 (by omega)]; exact hK t t1 t2) (by first | exact hlm | exact fun i i1 i2 => by rw [hF 273 (by omega)]; exact hlm i i1 i2) (hgj) (hnj) (by omega) p0 p1 p2) ⟨rfl, rfl, ⟨by decide, by decide⟩, ⟨by decide, by decide⟩⟩ rfl rfl (Nat.le_of_ble_eq_true rfl) dX11_felonIs_115) hW (fun s24 H locs hp25 hW => ?_)
      obtain ⟨fs24, hp25⟩ := hp25
      have hF26 := hF.call fs24 (fun k h => by omega)
      have q27 : s24 268 8 = s0 268 8 := (congrFun (fs24 _ (by omega)) _).trans k268_8
      have q28 : s24 268 58 = s0 268 58 := (congrFun (fs24 _ (by omega)) _).trans k268_58
      have q29 : s24 268 17 = s0 268 17 := (congrFun (fs24 _ (by omega)) _).trans k268_17
      have q30 : s24 268 48 = s0 268 48 := (congrFun (fs24 _ (by omega)) _).trans k268_48
      have ghp25 := hp25.2
      have H115 := ghp25
      have F115 : s24 269 = s0 269 := hF26 269 (by first | decide | omega)
      refine x_aload_n hx hb hl 0 rfl dX11_felonIs_118 rfl ?_
      refine x_get (j := 40) (v := .ref (h0 + 295)) hx hb hown hT hE hW cls_X11 (Or.inl (by decide)) (so_268 h0 g _) (by decide) rfl wq1225 dX11_felonIs_119 ?_
      refine x_aload_n hx hb hl 0 rfl dX11_felonIs_122 rfl ?_
      refine x_get (j := 0) (v := .ref (h0 + 269)) hx hb hown hT hE hW cls_X11 (Or.inl (by decide)) (so_268 h0 g _) (by decide) rfl wq1185 dX11_felonIs_123 ?_
      refine x_iconst hx hb dX11_felonIs_126 ?_
      refine x_iload_n hx hb hl 1 rfl dX11_felonIs_127 rfl ?_
      refine x_iadd hx hb dX11_felonIs_128 ?_
      refine x_iald hx hb hE hW (Or.inl (by decide)) (sa_269 h0 g _) (by omega) (by decide) dX11_felonIs_129 ?_
      refine x_rd hW (fun x31 ex31 rx31 => ?_)
      have bx31 : 0 ≤ x31 ∧ x31 ≤ 99 := by rw [ex31]; exact (IMn.n1 hp25.1.1).2.2.1 _ (by omega) (by omega)
      have V129 : x31 = zYN (s0 269) 0 0 0 (4 + f) := by rw [zYN_F f10, if_pos t10, ex31, F115]
      have B129 : 0 ≤ x31 ∧ x31 < 100 := by
        have e : x31 = s0 269 (4 + f) := by rw [ex31, F115]
        omega
      refine x_iald hx hb hE hW (Or.inl (by decide)) (sa_295 h0 g _) (by omega) (by decide) dX11_felonIs_130 ?_
      refine x_rd hW (fun x32 ex32 rx32 => ?_)
      have V130 : x32 = zLy K9 q9 l9 ((zYN (s0 269) 0 0 0) 44) (zYN (s0 269) 0 0 0) 1 (zni q9 ((zYN (s0 269) 0 0 0) 44)) ((zYN (s0 269) 0 0 0) (4 + f)) := by
        rw [ex32, H115 _ (by omega) (by omega), ← V113, ← V129]
        exact (zLy_J (J := (zYN (s0 269) 0 0 0)) rfl rfl)
      rw [eQ]
      exact x_iret hx hb hr hlk hW rx32 ⟨hF26, ⟨hp25.1.1, hp25.1.2.1, hp25.1.2.2.1, trivial⟩, Or.inl ⟨f10.1, f10.2, t10, by
          unfold zfi
          (repeat' split) <;> omega⟩⟩ dX11_felonIs_131
  refine x_iconst hx hb dX11_felonIs_8 ?_
  rw [eQ]
  exact x_iret hx hb hr hlk hW (by decide) ⟨hF, ⟨p0, p1, p2, trivial⟩, Or.inr ⟨fun z => by omega, by omega⟩⟩ dX11_felonIs_9

theorem zYN_fe {N : Int → Int} {x w f : Int} (hf : 0 ≤ f ∧ f < 10) (h35 : 0 ≤ N 35 ∧ N 35 < 1024) (h36 : 0 ≤ N 36 ∧ N 36 < 1024) : zYN (xud (xud (xud (xud (xud N 35 (zbo (N 35) f)) 36 (zbn (N 36) f)) (4 + f) x) (14 + f) w) (24 + f) 0) 0 0 0 = xud (xud (xud (xud (zYN N 0 0 0) (4 + f) x) (14 + f) w) (24 + f) 0) (34 + f) 0 := by
  obtain ⟨M, eM⟩ : ∃ M, M = xud (xud (xud (xud (xud N 35 (zbo (N 35) f)) 36 (zbn (N 36) f)) (4 + f) x) (14 + f) w) (24 + f) 0 := ⟨_, rfl⟩
  rw [← eM]
  have m35 : M 35 = zbo (N 35) f := by rw [eM, xud_o _ _ (by omega), xud_o _ _ (by omega), xud_o _ _ (by omega), xud_o _ _ (by decide), xud_s]
  have m36 : M 36 = zbn (N 36) f := by rw [eM, xud_o _ _ (by omega), xud_o _ _ (by omega), xud_o _ _ (by omega), xud_s]
  have mo : ∀ i : Int, i ≠ 35 → i ≠ 36 → i ≠ 4 + f → i ≠ 14 + f → i ≠ 24 + f → M i = N i := fun i a b c d e => by rw [eM, xud_o _ _ e, xud_o _ _ d, xud_o _ _ c, xud_o _ _ b, xud_o _ _ a]
  have bo := zbo_s h35 hf
  have bn := zbn_s h36 hf
  have go : ∀ g : Int, 0 ≤ g → g < 10 → g ≠ f → xsh (M 35) g % 2 = xsh (N 35) g % 2 ∧ xsh (M 36) g % 2 = xsh (N 36) g % 2 := fun g g1 g2 g3 => by rw [m35, m36]; exact ⟨(zbo_o hf ⟨g1, g2⟩ g3).1, (zbo_o hf ⟨g1, g2⟩ g3).2⟩
  have t : xsh (M 35) f % 2 = 1 := by rw [m35]; exact bo.2
  funext i
  by_cases c4 : i = 34 + f
  · subst c4
    rw [xud_s, zYN_D hf, if_pos t, m36]
    exact bn.2
  by_cases c3 : i = 24 + f
  · subst c3
    rw [xud_o _ _ c4, xud_s, zYN_A hf, if_pos t, eM, xud_s]
  by_cases c2 : i = 14 + f
  · subst c2
    rw [xud_o _ _ c4, xud_o _ _ c3, xud_s, zYN_O hf, if_pos t, eM, xud_o _ _ (by omega), xud_s]
  by_cases c1 : i = 4 + f
  · subst c1
    rw [xud_o _ _ c4, xud_o _ _ c3, xud_o _ _ c2, xud_s, zYN_F hf, if_pos t, eM, xud_o _ _ (by omega), xud_o _ _ (by omega), xud_s]
  rw [xud_o _ _ c4, xud_o _ _ c3, xud_o _ _ c2, xud_o _ _ c1]
  have n34 : M 34 = N 34 := mo 34 (by decide) (by decide) (by omega) (by omega) (by omega)
  by_cases a0 : 0 ≤ i ∧ i < 2
  · rw [zYN_J a0, zYN_J a0]
    unfold zrj
    rw [n34, mo i (by omega) (by omega) (by omega) (by omega) (by omega)]
  by_cases a1 : 2 ≤ i ∧ i < 4
  · rw [zYN_S a1, zYN_S a1, mo i (by omega) (by omega) (by omega) (by omega) (by omega)]
  by_cases a2 : 4 ≤ i ∧ i < 14
  · have g := go (i - 4) (by omega) (by omega) (by omega)
    have p := zYN_F (N := M) (a := 0) (c := 0) (s := 0) (f := i - 4) (by omega)
    have q := zYN_F (N := N) (a := 0) (c := 0) (s := 0) (f := i - 4) (by omega)
    rw [show 4 + (i - 4) = i from by omega] at p q
    rw [p, q, g.1, mo i (by omega) (by omega) (by omega) (by omega) (by omega)]
  by_cases a3 : 14 ≤ i ∧ i < 24
  · have g := go (i - 14) (by omega) (by omega) (by omega)
    have p := zYN_O (N := M) (a := 0) (c := 0) (s := 0) (f := i - 14) (by omega)
    have q := zYN_O (N := N) (a := 0) (c := 0) (s := 0) (f := i - 14) (by omega)
    rw [show 14 + (i - 14) = i from by omega] at p q
    rw [p, q, g.1, mo i (by omega) (by omega) (by omega) (by omega) (by omega)]
  by_cases a4 : 24 ≤ i ∧ i < 34
  · have g := go (i - 24) (by omega) (by omega) (by omega)
    have p := zYN_A (N := M) (a := 0) (c := 0) (s := 0) (f := i - 24) (by omega)
    have q := zYN_A (N := N) (a := 0) (c := 0) (s := 0) (f := i - 24) (by omega)
    rw [show 24 + (i - 24) = i from by omega] at p q
    rw [p, q, g.1, mo i (by omega) (by omega) (by omega) (by omega) (by omega)]
  by_cases a5 : 34 ≤ i ∧ i < 44
  · have g := go (i - 34) (by omega) (by omega) (by omega)
    have p := zYN_D (N := M) (a := 0) (c := 0) (s := 0) (f := i - 34) (by omega)
    have q := zYN_D (N := N) (a := 0) (c := 0) (s := 0) (f := i - 34) (by omega)
    rw [show 34 + (i - 34) = i from by omega] at p q
    rw [p, q, g.1, g.2]
  · unfold zYN
    by_cases b : i < 0
    · rw [if_pos b, if_pos b]
    · simp only [if_neg b, if_neg (show ¬ i < 2 from by omega), if_neg (show ¬ i < 4 from by omega), if_neg (show ¬ i < 14 from by omega), if_neg (show ¬ i < 24 from by omega), if_neg (show ¬ i < 34 from by omega), if_neg (show ¬ i < 44 from by omega)]
      rw [mo 37 (by decide) (by decide) (by omega) (by omega) (by omega), mo 38 (by decide) (by decide) (by omega) (by omega) (by omega)]
set_option maxHeartbeats 4000000 in
set_option maxRecDepth 100000 in
theorem c_X11_felonF (l : Launch) (D : va_G) (g : xG) (T : Nat × Nat × Nat) (h0 : Nat) (s0 : xS) (hσ : xRR s0) (f : Int) (rf : xR f) (x : Int) (rx : xR x) (y : Int) (ry : xR y) (w : Int) (rw : xR w) (hb35 : 0 ≤ s0 269 35 ∧ s0 269 35 < 1024) (hb36 : 0 ≤ s0 269 36 ∧ s0 269 36 < 1024) (p0 : IMn s0) (p1 : IMk s0) (p2 : IMo s0) : Met l yX11_felon (xws yX11_felon cX11_felon 5 (some .boolean)) { frames := 2, cells := 0, slots := 0, locals := 43 } (xP [.ref (h0 + 268), .int (xJ f), .int (xJ x), .int (xJ y), .int (xJ w)] D g T h0 s0) (xQi D g h0 (fun r τ => xFr (fun k => k = 269) s0 τ ∧ (((IMn τ) ∧ (IMk τ) ∧ (IMo τ) ∧ True) ∧ ((r = 1 ∧ (0 ≤ f ∧ f ≤ 9 ∧ (0 ≤ x ∧ x < 10 ∧ 0 ≤ y ∧ y < 10 ∧ (s0 272 (10 * y + x) = 0 ∨ s0 272 (10 * y + x) = 2)) ∧ 0 ≤ w ∧ w ≤ 999) ∧ zYN (τ 269) 0 0 0 = xud (xud (xud (xud (zYN (s0 269) 0 0 0) (4 + f) (10 * y + x)) (14 + f) w) (24 + f) 0) (34 + f) 0 ∧ (0 ≤ τ 269 35 ∧ τ 269 35 < 1024) ∧ (0 ≤ τ 269 36 ∧ τ 269 36 < 1024) ∧ τ 269 34 = s0 269 34) ∨ (r = 0 ∧ ¬ (0 ≤ f ∧ f ≤ 9 ∧ (0 ≤ x ∧ x < 10 ∧ 0 ≤ y ∧ y < 10 ∧ (s0 272 (10 * y + x) = 0 ∨ s0 272 (10 * y + x) = 2)) ∧ 0 ≤ w ∧ w ≤ 999) ∧ τ 269 = s0 269))))) 0 0 (xA h0) := by
  refine x_met hσ (by decide) (Nat.le_of_ble_eq_true rfl) ?_
  intro p e s m args below meth c hx hb hr hml hown hT hlk hnm hE hW ls hl
  have hl : lv_has ls 5 [(0, .ref (h0 + 268)), (1, .int (xJ f)), (2, .int (xJ x)), (3, .int (xJ y)), (4, .int (xJ w))] := hl
  obtain ⟨Q, eQ⟩ : ∃ Q, Q = MQ below (xQi D g h0 (fun r τ => xFr (fun k => k = 269) s0 τ ∧ (((IMn τ) ∧ (IMk τ) ∧ (IMo τ) ∧ True) ∧ ((r = 1 ∧ (0 ≤ f ∧ f ≤ 9 ∧ (0 ≤ x ∧ x < 10 ∧ 0 ≤ y ∧ y < 10 ∧ (s0 272 (10 * y + x) = 0 ∨ s0 272 (10 * y + x) = 2)) ∧ 0 ≤ w ∧ w ≤ 999) ∧ zYN (τ 269) 0 0 0 = xud (xud (xud (xud (zYN (s0 269) 0 0 0) (4 + f) (10 * y + x)) (14 + f) w) (24 + f) 0) (34 + f) 0 ∧ (0 ≤ τ 269 35 ∧ τ 269 35 < 1024) ∧ (0 ≤ τ 269 36 ∧ τ 269 36 < 1024) ∧ τ 269 34 = s0 269 34) ∨ (r = 0 ∧ ¬ (0 ≤ f ∧ f ≤ 9 ∧ (0 ≤ x ∧ x < 10 ∧ 0 ≤ y ∧ y < 10 ∧ (s0 272 (10 * y + x) = 0 ∨ s0 272 (10 * y + x) = 2)) ∧ 0 ≤ w ∧ w ≤ 999) ∧ τ 269 = s0 269))))) args s 0 0 (xA h0) := ⟨_, rfl⟩
  rw [← eQ]
  generalize hHe : ([] : List Loc) = locs at hW ⊢
  obtain ⟨H, eH⟩ : ∃ H, H = s.heap := ⟨_, rfl⟩
  rw [← eH] at hW ⊢
  have hF : xFr (fun k => k = 269) s0 s0 := xFr.rf
  have k268_8 : s0 268 8 = s0 268 8 := rfl
  have k268_58 : s0 268 58 = s0 268 58 := rfl
  have k268_17 : s0 268 17 = s0 268 17 := rfl
  have k268_48 : s0 268 48 = s0 268 48 := rfl
  refine x_iload_n hx hb hl 1 rfl dX11_felon_0 rfl ?_
  refine x_bipush hx hb dX11_felon_1 (by decide) ?_
  refine x_goi (x_runS (As := [.int (xJ f), .int (xJ 10)]) hx hb hml hown hT hE hW hl.1 cf_X11_isFive wq1412 wq1411 (c_X11_isFive l D g T h0 s0 hW.2.1 f rf 10 (by decide)) ⟨rfl, rfl, ⟨by decide, by decide⟩, ⟨by decide, by decide⟩⟩ rfl rfl (Nat.le_of_ble_eq_true rfl) dX11_felon_3) hW (fun x1 s2 H locs rx1 hp3 hW => ?_)
  obtain ⟨es2, hp3⟩ := hp3
  subst es2
  have ghp3 := hp3
  refine x_if_eq (tgt := 42) hx hb rx1 dX11_felon_6 (by decide) (fun c4 => ?_) (fun c4 => ?_)
  · skip
    refine x_iconst hx hb dX11_felon_42 ?_
    rw [eQ]
    exact x_zret hx hb hr hlk hW (by omega) ⟨hF, ⟨p0, p1, p2, trivial⟩, Or.inr ⟨rfl, by omega, rfl⟩⟩ dX11_felon_43
  refine x_iload_n hx hb hl 2 rfl dX11_felon_9 rfl ?_
  refine x_iload_n hx hb hl 3 rfl dX11_felon_10 rfl ?_
  refine x_goi (x_runS (As := [.int (xJ x), .int (xJ y)]) hx hb hml hown hT hE hW hl.1 cf_X11_isOn wq1430 wq1429 (c_X11_isOn l D g T h0 s0 hW.2.1 x rx y ry) ⟨rfl, rfl, ⟨by decide, by decide⟩, ⟨by decide, by decide⟩⟩ rfl rfl (Nat.le_of_ble_eq_true rfl) dX11_felon_11) hW (fun x5 s6 H locs rx5 hp7 hW => ?_)
  obtain ⟨es6, hp7⟩ := hp7
  subst es6
  have ghp7 := hp7
  refine x_if_eq (tgt := 42) hx hb rx5 dX11_felon_14 (by decide) (fun c8 => ?_) (fun c8 => ?_)
  · skip
    refine x_iconst hx hb dX11_felon_42 ?_
    rw [eQ]
    exact x_zret hx hb hr hlk hW (by omega) ⟨hF, ⟨p0, p1, p2, trivial⟩, Or.inr ⟨rfl, by omega, rfl⟩⟩ dX11_felon_43
  refine x_aload_n hx hb hl 0 rfl dX11_felon_17 rfl ?_
  refine x_bipush hx hb dX11_felon_18 (by decide) ?_
  refine x_iload_n hx hb hl 3 rfl dX11_felon_20 rfl ?_
  refine x_imul hx hb dX11_felon_21 ?_
  refine x_iload_n hx hb hl 2 rfl dX11_felon_22 rfl ?_
  refine x_iadd hx hb dX11_felon_23 ?_
  refine x_goi (x_runV (As := [.int (xJ ((10 * y) + x))]) hx hb hml hown hT hE hW hl.1 (Or.inl (by decide)) (so_268 h0 g _) rfl cf_X11_isGround wq1419 wq110 wq1417 (c_X11_isGroundM l D g T h0 s0 hW.2.1 ((10 * y) + x) (by omega) (by omega) p0 p1 p2) ⟨rfl, rfl, ⟨by decide, by decide⟩, ⟨by decide, by decide⟩⟩ rfl rfl (Nat.le_of_ble_eq_true rfl) dX11_felon_24) hW (fun x9 s10 H locs rx9 hp11 hW => ?_)
  obtain ⟨es10, hp11⟩ := hp11
  subst es10
  have ghp11 := hp11
  refine x_if_eq (tgt := 42) hx hb rx9 dX11_felon_27 (by decide) (fun c12 => ?_) (fun c12 => ?_)
  · skip
    refine x_iconst hx hb dX11_felon_42 ?_
    rw [eQ]
    exact x_zret hx hb hr hlk hW (by omega) ⟨hF, ⟨p0, p1, p2, trivial⟩, Or.inr ⟨rfl, by omega, rfl⟩⟩ dX11_felon_43
  refine x_iload hx hb hl 4 rfl dX11_felon_30 ?_
  refine x_iconst hx hb dX11_felon_32 ?_
  refine x_sipush hx hb dX11_felon_33 (by decide) ?_
  refine x_goi (x_runS (As := [.int (xJ w), .int (xJ 0), .int (xJ 999)]) hx hb hml hown hT hE hW hl.1 cf_X11_in wq1383 wq1382 (c_X11_in l D g T h0 s0 hW.2.1 w rw 0 (by decide) 999 (by decide)) ⟨rfl, rfl, ⟨by decide, by decide⟩, ⟨by decide, by decide⟩⟩ rfl rfl (Nat.le_of_ble_eq_true rfl) dX11_felon_36) hW (fun x13 s14 H locs rx13 hp15 hW => ?_)
  obtain ⟨es14, hp15⟩ := hp15
  subst es14
  have ghp15 := hp15
  refine x_if_ne (tgt := 44) hx hb rx13 dX11_felon_39 (by decide) (fun c16 => ?_) (fun c16 => ?_)
  · skip
    refine x_aload_n hx hb hl 0 rfl dX11_felon_44 rfl ?_
    refine x_get (j := 0) (v := .ref (h0 + 269)) hx hb hown hT hE hW cls_X11 (Or.inl (by decide)) (so_268 h0 g _) (by decide) rfl wq1185 dX11_felon_45 ?_
    refine x_bipush hx hb dX11_felon_48 (by decide) ?_
    refine x_aload_n hx hb hl 0 rfl dX11_felon_50 rfl ?_
    refine x_get (j := 0) (v := .ref (h0 + 269)) hx hb hown hT hE hW cls_X11 (Or.inl (by decide)) (so_268 h0 g _) (by decide) rfl wq1185 dX11_felon_51 ?_
    refine x_bipush hx hb dX11_felon_54 (by decide) ?_
    refine x_iald hx hb hE hW (Or.inl (by decide)) (sa_269 h0 g _) ⟨by decide, by decide⟩ (by decide) dX11_felon_56 ?_
    refine x_rd hW (fun x17 ex17 rx17 => ?_)
    have V56 : x17 = s0 269 35 := ex17
    refine x_iconst hx hb dX11_felon_57 ?_
    refine x_iload_n hx hb hl 1 rfl dX11_felon_58 rfl ?_
    refine lv_ishl hx hb dX11_felon_59 ?_
    refine x_anyE (fun x18 ex18 rx18 => ?_)
    have V59 := ex18
    refine lv_ior hx hb dX11_felon_60 ?_
    refine x_anyE (fun x19 ex19 rx19 => ?_)
    have V60 : x19 = zbo (s0 269 35) f := by
      rw [← V56]
      exact zbo_j (by omega) (by omega) V59 rx19 ex19
    refine x_iast hx hb hE hW (by decide) (fun σ => sa_269 h0 g σ) ⟨by decide, by decide⟩ (by decide) rx19 dX11_felon_61 (fun H locs s20 es20 hW => ?_)
    have q21 : IMn s20 := by rw [es20]; exact IMn_N269 p0 (by omega)
    have q22 : IMk s20 := by rw [es20]; exact IMk_o (by unfold suIMk; first | decide | omega) p1
    have q23 : IMo s20 := by rw [es20]; exact IMo_o (by unfold suIMo; first | decide | omega) p2
    have q24 : s20 268 8 = s0 268 8 := (show s20 268 8 = s0 268 8 from by rw [es20, xU_k _ _ _ (by first | decide | omega)]).trans k268_8
    have q25 : s20 268 58 = s0 268 58 := (show s20 268 58 = s0 268 58 from by rw [es20, xU_k _ _ _ (by first | decide | omega)]).trans k268_58
    have q26 : s20 268 17 = s0 268 17 := (show s20 268 17 = s0 268 17 from by rw [es20, xU_k _ _ _ (by first | decide | omega)]).trans k268_17
    have q27 : s20 268 48 = s0 268 48 := (show s20 268 48 = s0 268 48 from by rw [es20, xU_k _ _ _ (by first | decide | omega)]).trans k268_48
    have hF28 := hF.put es20 (by omega)
    have E61 := es20
    refine x_aload_n hx hb hl 0 rfl dX11_felon_62 rfl ?_
    refine x_get (j := 0) (v := .ref (h0 + 269)) hx hb hown hT hE hW cls_X11 (Or.inl (by decide)) (so_268 h0 g _) (by decide) rfl wq1185 dX11_felon_63 ?_
    refine x_bipush hx hb dX11_felon_66 (by decide) ?_
    refine x_aload_n hx hb hl 0 rfl dX11_felon_68 rfl ?_
    refine x_get (j := 0) (v := .ref (h0 + 269)) hx hb hown hT hE hW cls_X11 (Or.inl (by decide)) (so_268 h0 g _) (by decide) rfl wq1185 dX11_felon_69 ?_
    refine x_bipush hx hb dX11_felon_72 (by decide) ?_
    refine x_iald hx hb hE hW (Or.inl (by decide)) (sa_269 h0 g _) ⟨by decide, by decide⟩ (by decide) dX11_felon_74 ?_
    refine x_rd hW (fun x29 ex29 rx29 => ?_)
    have V74 : x29 = s0 269 36 := by rw [ex29, E61, xU_j _ _ (by decide)]
    refine x_iconst hx hb dX11_felon_75 ?_
    refine x_iload_n hx hb hl 1 rfl dX11_felon_76 rfl ?_
    refine lv_ishl hx hb dX11_felon_77 ?_
    refine x_anyE (fun x30 ex30 rx30 => ?_)
    have V77 := ex30
    refine x_iconst hx hb dX11_felon_78 ?_
    refine lv_ixor hx hb dX11_felon_79 ?_
    refine x_anyE (fun x31 ex31 rx31 => ?_)
    have V79 := ex31
    refine lv_iand hx hb dX11_felon_80 ?_
    refine x_anyE (fun x32 ex32 rx32 => ?_)
    have V80 : x32 = zbn (s0 269 36) f := by
      rw [← V74]
      exact zbn_j (by omega) (by omega) V77 V79 rx32 ex32
    refine x_iast hx hb hE hW (by decide) (fun σ => sa_269 h0 g σ) ⟨by decide, by decide⟩ (by decide) rx32 dX11_felon_81 (fun H locs s33 es33 hW => ?_)
    have q34 : IMn s33 := by rw [es33]; exact IMn_N269 q21 (by omega)
    have q35 : IMk s33 := by rw [es33]; exact IMk_o (by unfold suIMk; first | decide | omega) q22
    have q36 : IMo s33 := by rw [es33]; exact IMo_o (by unfold suIMo; first | decide | omega) q23
    have q37 : s33 268 8 = s0 268 8 := (show s33 268 8 = s20 268 8 from by rw [es33, xU_k _ _ _ (by first | decide | omega)]).trans q24
    have q38 : s33 268 58 = s0 268 58 := (show s33 268 58 = s20 268 58 from by rw [es33, xU_k _ _ _ (by first | decide | omega)]).trans q25
    have q39 : s33 268 17 = s0 268 17 := (show s33 268 17 = s20 268 17 from by rw [es33, xU_k _ _ _ (by first | decide | omega)]).trans q26
    have q40 : s33 268 48 = s0 268 48 := (show s33 268 48 = s20 268 48 from by rw [es33, xU_k _ _ _ (by first | decide | omega)]).trans q27
    have hF41 := hF28.put es33 (by omega)
    have E81 := es33
    refine x_aload_n hx hb hl 0 rfl dX11_felon_82 rfl ?_
    refine x_get (j := 0) (v := .ref (h0 + 269)) hx hb hown hT hE hW cls_X11 (Or.inl (by decide)) (so_268 h0 g _) (by decide) rfl wq1185 dX11_felon_83 ?_
    refine x_iconst hx hb dX11_felon_86 ?_
    refine x_iload_n hx hb hl 1 rfl dX11_felon_87 rfl ?_
    refine x_iadd hx hb dX11_felon_88 ?_
    refine x_bipush hx hb dX11_felon_89 (by decide) ?_
    refine x_iload_n hx hb hl 3 rfl dX11_felon_91 rfl ?_
    refine x_imul hx hb dX11_felon_92 ?_
    refine x_iload_n hx hb hl 2 rfl dX11_felon_93 rfl ?_
    refine x_iadd hx hb dX11_felon_94 ?_
    refine x_iast hx hb hE hW (by decide) (fun σ => sa_269 h0 g σ) (by omega) (by decide) (by omega) dX11_felon_95 (fun H locs s42 es42 hW => ?_)
    have q43 : IMn s42 := by rw [es42]; exact IMn_N269 q34 (by omega)
    have q44 : IMk s42 := by rw [es42]; exact IMk_o (by unfold suIMk; first | decide | omega) q35
    have q45 : IMo s42 := by rw [es42]; exact IMo_o (by unfold suIMo; first | decide | omega) q36
    have q46 : s42 268 8 = s0 268 8 := (show s42 268 8 = s33 268 8 from by rw [es42, xU_k _ _ _ (by first | decide | omega)]).trans q37
    have q47 : s42 268 58 = s0 268 58 := (show s42 268 58 = s33 268 58 from by rw [es42, xU_k _ _ _ (by first | decide | omega)]).trans q38
    have q48 : s42 268 17 = s0 268 17 := (show s42 268 17 = s33 268 17 from by rw [es42, xU_k _ _ _ (by first | decide | omega)]).trans q39
    have q49 : s42 268 48 = s0 268 48 := (show s42 268 48 = s33 268 48 from by rw [es42, xU_k _ _ _ (by first | decide | omega)]).trans q40
    have hF50 := hF41.put es42 (by omega)
    have E95 := es42
    refine x_aload_n hx hb hl 0 rfl dX11_felon_96 rfl ?_
    refine x_get (j := 0) (v := .ref (h0 + 269)) hx hb hown hT hE hW cls_X11 (Or.inl (by decide)) (so_268 h0 g _) (by decide) rfl wq1185 dX11_felon_97 ?_
    refine x_bipush hx hb dX11_felon_100 (by decide) ?_
    refine x_iload_n hx hb hl 1 rfl dX11_felon_102 rfl ?_
    refine x_iadd hx hb dX11_felon_103 ?_
    refine x_iload hx hb hl 4 rfl dX11_felon_104 ?_
    refine x_iast hx hb hE hW (by decide) (fun σ => sa_269 h0 g σ) (by omega) (by decide) rw dX11_felon_106 (fun H locs s51 es51 hW => ?_)
    have q52 : IMn s51 := by rw [es51]; exact IMn_N269 q43 (by omega)
    have q53 : IMk s51 := by rw [es51]; exact IMk_o (by unfold suIMk; first | decide | omega) q44
    have q54 : IMo s51 := by rw [es51]; exact IMo_o (by unfold suIMo; first | decide | omega) q45
    have q55 : s51 268 8 = s0 268 8 := (show s51 268 8 = s42 268 8 from by rw [es51, xU_k _ _ _ (by first | decide | omega)]).trans q46
    have q56 : s51 268 58 = s0 268 58 := (show s51 268 58 = s42 268 58 from by rw [es51, xU_k _ _ _ (by first | decide | omega)]).trans q47
    have q57 : s51 268 17 = s0 268 17 := (show s51 268 17 = s42 268 17 from by rw [es51, xU_k _ _ _ (by first | decide | omega)]).trans q48
    have q58 : s51 268 48 = s0 268 48 := (show s51 268 48 = s42 268 48 from by rw [es51, xU_k _ _ _ (by first | decide | omega)]).trans q49
    have hF59 := hF50.put es51 (by omega)
    have E106 := es51
    refine x_aload_n hx hb hl 0 rfl dX11_felon_107 rfl ?_
    refine x_get (j := 0) (v := .ref (h0 + 269)) hx hb hown hT hE hW cls_X11 (Or.inl (by decide)) (so_268 h0 g _) (by decide) rfl wq1185 dX11_felon_108 ?_
    refine x_bipush hx hb dX11_felon_111 (by decide) ?_
    refine x_iload_n hx hb hl 1 rfl dX11_felon_113 rfl ?_
    refine x_iadd hx hb dX11_felon_114 ?_
    refine x_iconst hx hb dX11_felon_115 ?_
    refine x_iast hx hb hE hW (by decide) (fun σ => sa_269 h0 g σ) (by omega) (by decide) (by decide) dX11_felon_116 (fun H locs s60 es60 hW => ?_)
    have q61 : IMn s60 := by rw [es60]; exact IMn_N269 q52 (by omega)
    have q62 : IMk s60 := by rw [es60]; exact IMk_o (by unfold suIMk; first | decide | omega) q53
    have q63 : IMo s60 := by rw [es60]; exact IMo_o (by unfold suIMo; first | decide | omega) q54
    have q64 : s60 268 8 = s0 268 8 := (show s60 268 8 = s51 268 8 from by rw [es60, xU_k _ _ _ (by first | decide | omega)]).trans q55
    have q65 : s60 268 58 = s0 268 58 := (show s60 268 58 = s51 268 58 from by rw [es60, xU_k _ _ _ (by first | decide | omega)]).trans q56
    have q66 : s60 268 17 = s0 268 17 := (show s60 268 17 = s51 268 17 from by rw [es60, xU_k _ _ _ (by first | decide | omega)]).trans q57
    have q67 : s60 268 48 = s0 268 48 := (show s60 268 48 = s51 268 48 from by rw [es60, xU_k _ _ _ (by first | decide | omega)]).trans q58
    have hF68 := hF59.put es60 (by omega)
    have E116 := es60
    have N116 : s60 269 = xud (xud (xud (xud (xud (s0 269) 35 (zbo (s0 269 35) f)) 36 (zbn (s0 269 36) f)) (4 + f) (10 * y + x)) (14 + f) w) (24 + f) 0 := by rw [E116, xU_xud, E106, xU_xud, E95, xU_xud, E81, xU_xud, E61, xU_xud, V60, V80]
    refine x_iconst hx hb dX11_felon_117 ?_
    rw [eQ]
    exact x_zret hx hb hr hlk hW (by omega) ⟨hF68, ⟨q61, q62, q63, trivial⟩, Or.inl ⟨rfl, by omega, by rw [N116]; exact zYN_fe (by omega) hb35 hb36, by rw [N116, xud_o _ _ (by omega), xud_o _ _ (by omega), xud_o _ _ (by omega), xud_o _ _ (by decide), xud_s]; exact (zbo_s hb35 (by omega)).1, by rw [N116, xud_o _ _ (by omega), xud_o _ _ (by omega), xud_o _ _ (by omega), xud_s]; exact (zbn_s hb36 (by omega)).1, by rw [N116, xud_o _ _ (by omega), xud_o _ _ (by omega), xud_o _ _ (by omega), xud_o _ _ (by decide), xud_o _ _ (by decide)]⟩⟩ dX11_felon_118
  refine x_iconst hx hb dX11_felon_42 ?_
  rw [eQ]
  exact x_zret hx hb hr hlk hW (by omega) ⟨hF, ⟨p0, p1, p2, trivial⟩, Or.inr ⟨rfl, by omega, rfl⟩⟩ dX11_felon_43
set_option maxHeartbeats 4000000 in
set_option maxRecDepth 100000 in
theorem c_X11_seedF (l : Launch) (D : va_G) (g : xG) (T : Nat × Nat × Nat) (h0 : Nat) (s0 : xS) (hσ : xRR s0) (x : Int) (rx : xR x) (p0 : IMn s0) (p1 : IMk s0) (p2 : IMo s0) : Met l yX11_seed (xws yX11_seed cX11_seed 2 (some .boolean)) { frames := 1, cells := 0, slots := 0, locals := 22 } (xP [.ref (h0 + 268), .int (xJ x)] D g T h0 s0) (xQi D g h0 (fun r τ => xFr (fun k => k = 269) s0 τ ∧ (((IMn τ) ∧ (IMk τ) ∧ (IMo τ) ∧ True) ∧ ((r = 1 ∧ (0 ≤ x ∧ x ≤ 65535) ∧ τ 269 = xud (s0 269) 38 x) ∨ (r = 0 ∧ ¬ (0 ≤ x ∧ x ≤ 65535) ∧ τ 269 = s0 269))))) 0 0 (xA h0) := by
  refine x_met hσ (by decide) (Nat.le_of_ble_eq_true rfl) ?_
  intro p e s m args below meth c hx hb hr hml hown hT hlk hnm hE hW ls hl
  have hl : lv_has ls 2 [(0, .ref (h0 + 268)), (1, .int (xJ x))] := hl
  obtain ⟨Q, eQ⟩ : ∃ Q, Q = MQ below (xQi D g h0 (fun r τ => xFr (fun k => k = 269) s0 τ ∧ (((IMn τ) ∧ (IMk τ) ∧ (IMo τ) ∧ True) ∧ ((r = 1 ∧ (0 ≤ x ∧ x ≤ 65535) ∧ τ 269 = xud (s0 269) 38 x) ∨ (r = 0 ∧ ¬ (0 ≤ x ∧ x ≤ 65535) ∧ τ 269 = s0 269))))) args s 0 0 (xA h0) := ⟨_, rfl⟩
  rw [← eQ]
  generalize hHe : ([] : List Loc) = locs at hW ⊢
  obtain ⟨H, eH⟩ : ∃ H, H = s.heap := ⟨_, rfl⟩
  rw [← eH] at hW ⊢
  have hF : xFr (fun k => k = 269) s0 s0 := xFr.rf
  have k268_8 : s0 268 8 = s0 268 8 := rfl
  have k268_58 : s0 268 58 = s0 268 58 := rfl
  have k268_17 : s0 268 17 = s0 268 17 := rfl
  have k268_48 : s0 268 48 = s0 268 48 := rfl
  refine x_iload_n hx hb hl 1 rfl dX11_seed_0 rfl ?_
  refine x_iconst hx hb dX11_seed_1 ?_
  refine lv_ldcw (v := xJ 65535) hx hb hown (hT _ wq1758) dX11_seed_2 ?_
  refine x_goi (x_runS (As := [.int (xJ x), .int (xJ 0), .int (xJ 65535)]) hx hb hml hown hT hE hW hl.1 cf_X11_in wq1383 wq1382 (c_X11_in l D g T h0 s0 hW.2.1 x rx 0 (by decide) 65535 (by decide)) ⟨rfl, rfl, ⟨by decide, by decide⟩, ⟨by decide, by decide⟩⟩ rfl rfl (Nat.le_of_ble_eq_true rfl) dX11_seed_5) hW (fun x1 s2 H locs rx1 hp3 hW => ?_)
  obtain ⟨es2, hp3⟩ := hp3
  subst es2
  have ghp3 := hp3
  refine x_if_ne (tgt := 13) hx hb rx1 dX11_seed_8 (by decide) (fun c4 => ?_) (fun c4 => ?_)
  · skip
    refine x_aload_n hx hb hl 0 rfl dX11_seed_13 rfl ?_
    refine x_get (j := 0) (v := .ref (h0 + 269)) hx hb hown hT hE hW cls_X11 (Or.inl (by decide)) (so_268 h0 g _) (by decide) rfl wq1185 dX11_seed_14 ?_
    refine x_bipush hx hb dX11_seed_17 (by decide) ?_
    refine x_iload_n hx hb hl 1 rfl dX11_seed_19 rfl ?_
    refine x_iast hx hb hE hW (by decide) (fun σ => sa_269 h0 g σ) ⟨by decide, by decide⟩ (by decide) rx dX11_seed_20 (fun H locs s5 es5 hW => ?_)
    have q6 : IMn s5 := by rw [es5]; exact IMn_N269 p0 (by omega)
    have q7 : IMk s5 := by rw [es5]; exact IMk_o (by unfold suIMk; first | decide | omega) p1
    have q8 : IMo s5 := by rw [es5]; exact IMo_o (by unfold suIMo; first | decide | omega) p2
    have q9 : s5 268 8 = s0 268 8 := (show s5 268 8 = s0 268 8 from by rw [es5, xU_k _ _ _ (by first | decide | omega)]).trans k268_8
    have q10 : s5 268 58 = s0 268 58 := (show s5 268 58 = s0 268 58 from by rw [es5, xU_k _ _ _ (by first | decide | omega)]).trans k268_58
    have q11 : s5 268 17 = s0 268 17 := (show s5 268 17 = s0 268 17 from by rw [es5, xU_k _ _ _ (by first | decide | omega)]).trans k268_17
    have q12 : s5 268 48 = s0 268 48 := (show s5 268 48 = s0 268 48 from by rw [es5, xU_k _ _ _ (by first | decide | omega)]).trans k268_48
    have hF13 := hF.put es5 (by omega)
    have E20 := es5
    refine x_iconst hx hb dX11_seed_21 ?_
    rw [eQ]
    exact x_zret hx hb hr hlk hW (by omega) ⟨hF13, ⟨q6, q7, q8, trivial⟩, Or.inl ⟨rfl, by omega, by rw [E20, xU_xud]⟩⟩ dX11_seed_22
  refine x_iconst hx hb dX11_seed_11 ?_
  rw [eQ]
  exact x_zret hx hb hr hlk hW (by omega) ⟨hF, ⟨p0, p1, p2, trivial⟩, Or.inr ⟨rfl, by omega, rfl⟩⟩ dX11_seed_12
set_option maxHeartbeats 4000000 in
set_option maxRecDepth 100000 in
theorem c_X11_lampF (l : Launch) (D : va_G) (g : xG) (T : Nat × Nat × Nat) (h0 : Nat) (s0 : xS) (hσ : xRR s0) (i : Int) (ri : xR i) (x : Int) (rx : xR x) (y : Int) (ry : xR y) (p0 : IMn s0) (p1 : IMk s0) (p2 : IMo s0) : Met l yX11_lamp (xws yX11_lamp cX11_lamp 4 (some .boolean)) { frames := 2, cells := 0, slots := 0, locals := 43 } (xP [.ref (h0 + 268), .int (xJ i), .int (xJ x), .int (xJ y)] D g T h0 s0) (xQi D g h0 (fun r τ => xFr (fun k => k = 273) s0 τ ∧ (((IMn τ) ∧ (IMk τ) ∧ (IMo τ) ∧ True) ∧ ((r = 1 ∧ (0 ≤ i ∧ i ≤ 3 ∧ (x = -1 ∨ (0 ≤ x ∧ x < 10 ∧ 0 ≤ y ∧ y < 10 ∧ (s0 272 (10 * y + x) = 0 ∨ s0 272 (10 * y + x) = 2)))) ∧ τ 273 = xud (s0 273) i (if x = -1 then -1 else 10 * y + x)) ∨ (r = 0 ∧ ¬ (0 ≤ i ∧ i ≤ 3 ∧ (x = -1 ∨ (0 ≤ x ∧ x < 10 ∧ 0 ≤ y ∧ y < 10 ∧ (s0 272 (10 * y + x) = 0 ∨ s0 272 (10 * y + x) = 2)))) ∧ τ 273 = s0 273))))) 0 0 (xA h0) := by
  refine x_met hσ (by decide) (Nat.le_of_ble_eq_true rfl) ?_
  intro p e s m args below meth c hx hb hr hml hown hT hlk hnm hE hW ls hl
  have hl : lv_has ls 4 [(0, .ref (h0 + 268)), (1, .int (xJ i)), (2, .int (xJ x)), (3, .int (xJ y))] := hl
  obtain ⟨Q, eQ⟩ : ∃ Q, Q = MQ below (xQi D g h0 (fun r τ => xFr (fun k => k = 273) s0 τ ∧ (((IMn τ) ∧ (IMk τ) ∧ (IMo τ) ∧ True) ∧ ((r = 1 ∧ (0 ≤ i ∧ i ≤ 3 ∧ (x = -1 ∨ (0 ≤ x ∧ x < 10 ∧ 0 ≤ y ∧ y < 10 ∧ (s0 272 (10 * y + x) = 0 ∨ s0 272 (10 * y + x) = 2)))) ∧ τ 273 = xud (s0 273) i (if x = -1 then -1 else 10 * y + x)) ∨ (r = 0 ∧ ¬ (0 ≤ i ∧ i ≤ 3 ∧ (x = -1 ∨ (0 ≤ x ∧ x < 10 ∧ 0 ≤ y ∧ y < 10 ∧ (s0 272 (10 * y + x) = 0 ∨ s0 272 (10 * y + x) = 2)))) ∧ τ 273 = s0 273))))) args s 0 0 (xA h0) := ⟨_, rfl⟩
  rw [← eQ]
  generalize hHe : ([] : List Loc) = locs at hW ⊢
  obtain ⟨H, eH⟩ : ∃ H, H = s.heap := ⟨_, rfl⟩
  rw [← eH] at hW ⊢
  have hF : xFr (fun k => k = 273) s0 s0 := xFr.rf
  have k268_8 : s0 268 8 = s0 268 8 := rfl
  have k268_58 : s0 268 58 = s0 268 58 := rfl
  have k268_17 : s0 268 17 = s0 268 17 := rfl
  have k268_48 : s0 268 48 = s0 268 48 := rfl
  refine x_iload_n hx hb hl 1 rfl dX11_lamp_0 rfl ?_
  refine x_iconst hx hb dX11_lamp_1 ?_
  refine x_goi (x_runS (As := [.int (xJ i), .int (xJ 4)]) hx hb hml hown hT hE hW hl.1 cf_X11_isFive wq1412 wq1411 (c_X11_isFive l D g T h0 s0 hW.2.1 i ri 4 (by decide)) ⟨rfl, rfl, ⟨by decide, by decide⟩, ⟨by decide, by decide⟩⟩ rfl rfl (Nat.le_of_ble_eq_true rfl) dX11_lamp_2) hW (fun x1 s2 H locs rx1 hp3 hW => ?_)
  obtain ⟨es2, hp3⟩ := hp3
  subst es2
  have ghp3 := hp3
  refine x_if_ne (tgt := 10) hx hb rx1 dX11_lamp_5 (by decide) (fun c4 => ?_) (fun c4 => ?_)
  · skip
    refine x_iload_n hx hb hl 2 rfl dX11_lamp_10 rfl ?_
    refine x_iconst hx hb dX11_lamp_11 ?_
    refine x_icmp_eq (tgt := 38) hx hb rx (by decide) dX11_lamp_12 (by decide) (fun c5 => ?_) (fun c5 => ?_)
    · skip
      refine x_aload_n hx hb hl 0 rfl dX11_lamp_38 rfl ?_
      refine x_get (j := 4) (v := .ref (h0 + 273)) hx hb hown hT hE hW cls_X11 (Or.inl (by decide)) (so_268 h0 g _) (by decide) rfl wq1189 dX11_lamp_39 ?_
      refine x_iload_n hx hb hl 1 rfl dX11_lamp_42 rfl ?_
      refine x_iload_n hx hb hl 2 rfl dX11_lamp_43 rfl ?_
      refine x_iconst hx hb dX11_lamp_44 ?_
      refine x_icmp_ne (tgt := 52) hx hb rx (by decide) dX11_lamp_45 (by decide) (fun c6 => ?_) (fun c6 => ?_)
      · skip
        refine x_bipush hx hb dX11_lamp_52 (by decide) ?_
        refine x_iload_n hx hb hl 3 rfl dX11_lamp_54 rfl ?_
        refine x_imul hx hb dX11_lamp_55 ?_
        refine x_iload_n hx hb hl 2 rfl dX11_lamp_56 rfl ?_
        refine x_iadd hx hb dX11_lamp_57 ?_
        refine x_iast hx hb hE hW (by decide) (fun σ => sa_273 h0 g σ) (by omega) (by decide) (by omega) dX11_lamp_58 (fun H locs s7 es7 hW => ?_)
        have q8 : IMn s7 := by rw [es7]; exact IMn_273 p0 (by omega)
        have q9 : IMk s7 := by rw [es7]; exact IMk_o (by unfold suIMk; first | decide | omega) p1
        have q10 : IMo s7 := by rw [es7]; exact IMo_o (by unfold suIMo; first | decide | omega) p2
        have q11 : s7 268 8 = s0 268 8 := (show s7 268 8 = s0 268 8 from by rw [es7, xU_k _ _ _ (by first | decide | omega)]).trans k268_8
        have q12 : s7 268 58 = s0 268 58 := (show s7 268 58 = s0 268 58 from by rw [es7, xU_k _ _ _ (by first | decide | omega)]).trans k268_58
        have q13 : s7 268 17 = s0 268 17 := (show s7 268 17 = s0 268 17 from by rw [es7, xU_k _ _ _ (by first | decide | omega)]).trans k268_17
        have q14 : s7 268 48 = s0 268 48 := (show s7 268 48 = s0 268 48 from by rw [es7, xU_k _ _ _ (by first | decide | omega)]).trans k268_48
        have hF15 := hF.put es7 (by omega)
        have E58 := es7
        refine x_iconst hx hb dX11_lamp_59 ?_
        rw [eQ]
        exact x_zret hx hb hr hlk hW (by omega) ⟨hF15, ⟨q8, q9, q10, trivial⟩, Or.inl ⟨rfl, ⟨by omega, by omega, by first | exact Or.inl (by omega) | exact Or.inr ⟨by omega, by omega, by omega, by omega, by omega⟩⟩, by rw [E58, xU_xud]; congr 1; split <;> omega⟩⟩ dX11_lamp_60
      refine x_iconst hx hb dX11_lamp_48 ?_
      refine lv_goto (tgt := 58) hx hb dX11_lamp_49 (by decide) ?_
      refine x_iast hx hb hE hW (by decide) (fun σ => sa_273 h0 g σ) (by omega) (by decide) (by decide) dX11_lamp_58 (fun H locs s16 es16 hW => ?_)
      have q17 : IMn s16 := by rw [es16]; exact IMn_273 p0 (by omega)
      have q18 : IMk s16 := by rw [es16]; exact IMk_o (by unfold suIMk; first | decide | omega) p1
      have q19 : IMo s16 := by rw [es16]; exact IMo_o (by unfold suIMo; first | decide | omega) p2
      have q20 : s16 268 8 = s0 268 8 := (show s16 268 8 = s0 268 8 from by rw [es16, xU_k _ _ _ (by first | decide | omega)]).trans k268_8
      have q21 : s16 268 58 = s0 268 58 := (show s16 268 58 = s0 268 58 from by rw [es16, xU_k _ _ _ (by first | decide | omega)]).trans k268_58
      have q22 : s16 268 17 = s0 268 17 := (show s16 268 17 = s0 268 17 from by rw [es16, xU_k _ _ _ (by first | decide | omega)]).trans k268_17
      have q23 : s16 268 48 = s0 268 48 := (show s16 268 48 = s0 268 48 from by rw [es16, xU_k _ _ _ (by first | decide | omega)]).trans k268_48
      have hF24 := hF.put es16 (by omega)
      have E58 := es16
      refine x_iconst hx hb dX11_lamp_59 ?_
      rw [eQ]
      exact x_zret hx hb hr hlk hW (by omega) ⟨hF24, ⟨q17, q18, q19, trivial⟩, Or.inl ⟨rfl, ⟨by omega, by omega, by first | exact Or.inl (by omega) | exact Or.inr ⟨by omega, by omega, by omega, by omega, by omega⟩⟩, by rw [E58, xU_xud]; congr 1; split <;> omega⟩⟩ dX11_lamp_60
    refine x_iload_n hx hb hl 2 rfl dX11_lamp_15 rfl ?_
    refine x_iload_n hx hb hl 3 rfl dX11_lamp_16 rfl ?_
    refine x_goi (x_runS (As := [.int (xJ x), .int (xJ y)]) hx hb hml hown hT hE hW hl.1 cf_X11_isOn wq1430 wq1429 (c_X11_isOn l D g T h0 s0 hW.2.1 x rx y ry) ⟨rfl, rfl, ⟨by decide, by decide⟩, ⟨by decide, by decide⟩⟩ rfl rfl (Nat.le_of_ble_eq_true rfl) dX11_lamp_17) hW (fun x25 s26 H locs rx25 hp27 hW => ?_)
    obtain ⟨es26, hp27⟩ := hp27
    subst es26
    have ghp27 := hp27
    refine x_if_eq (tgt := 36) hx hb rx25 dX11_lamp_20 (by decide) (fun c28 => ?_) (fun c28 => ?_)
    · skip
      refine x_iconst hx hb dX11_lamp_36 ?_
      rw [eQ]
      exact x_zret hx hb hr hlk hW (by omega) ⟨hF, ⟨p0, p1, p2, trivial⟩, Or.inr ⟨rfl, fun z => z.2.2.elim (fun z1 => by omega) (fun z1 => by omega), rfl⟩⟩ dX11_lamp_37
    refine x_aload_n hx hb hl 0 rfl dX11_lamp_23 rfl ?_
    refine x_bipush hx hb dX11_lamp_24 (by decide) ?_
    refine x_iload_n hx hb hl 3 rfl dX11_lamp_26 rfl ?_
    refine x_imul hx hb dX11_lamp_27 ?_
    refine x_iload_n hx hb hl 2 rfl dX11_lamp_28 rfl ?_
    refine x_iadd hx hb dX11_lamp_29 ?_
    refine x_goi (x_runV (As := [.int (xJ ((10 * y) + x))]) hx hb hml hown hT hE hW hl.1 (Or.inl (by decide)) (so_268 h0 g _) rfl cf_X11_isGround wq1419 wq110 wq1417 (c_X11_isGroundM l D g T h0 s0 hW.2.1 ((10 * y) + x) (by omega) (by omega) p0 p1 p2) ⟨rfl, rfl, ⟨by decide, by decide⟩, ⟨by decide, by decide⟩⟩ rfl rfl (Nat.le_of_ble_eq_true rfl) dX11_lamp_30) hW (fun x29 s30 H locs rx29 hp31 hW => ?_)
    obtain ⟨es30, hp31⟩ := hp31
    subst es30
    have ghp31 := hp31
    refine x_if_ne (tgt := 38) hx hb rx29 dX11_lamp_33 (by decide) (fun c32 => ?_) (fun c32 => ?_)
    · skip
      refine x_aload_n hx hb hl 0 rfl dX11_lamp_38 rfl ?_
      refine x_get (j := 4) (v := .ref (h0 + 273)) hx hb hown hT hE hW cls_X11 (Or.inl (by decide)) (so_268 h0 g _) (by decide) rfl wq1189 dX11_lamp_39 ?_
      refine x_iload_n hx hb hl 1 rfl dX11_lamp_42 rfl ?_
      refine x_iload_n hx hb hl 2 rfl dX11_lamp_43 rfl ?_
      refine x_iconst hx hb dX11_lamp_44 ?_
      refine x_icmp_ne (tgt := 52) hx hb rx (by decide) dX11_lamp_45 (by decide) (fun c33 => ?_) (fun c33 => ?_)
      · skip
        refine x_bipush hx hb dX11_lamp_52 (by decide) ?_
        refine x_iload_n hx hb hl 3 rfl dX11_lamp_54 rfl ?_
        refine x_imul hx hb dX11_lamp_55 ?_
        refine x_iload_n hx hb hl 2 rfl dX11_lamp_56 rfl ?_
        refine x_iadd hx hb dX11_lamp_57 ?_
        refine x_iast hx hb hE hW (by decide) (fun σ => sa_273 h0 g σ) (by omega) (by decide) (by omega) dX11_lamp_58 (fun H locs s34 es34 hW => ?_)
        have q35 : IMn s34 := by rw [es34]; exact IMn_273 p0 (by omega)
        have q36 : IMk s34 := by rw [es34]; exact IMk_o (by unfold suIMk; first | decide | omega) p1
        have q37 : IMo s34 := by rw [es34]; exact IMo_o (by unfold suIMo; first | decide | omega) p2
        have q38 : s34 268 8 = s0 268 8 := (show s34 268 8 = s0 268 8 from by rw [es34, xU_k _ _ _ (by first | decide | omega)]).trans k268_8
        have q39 : s34 268 58 = s0 268 58 := (show s34 268 58 = s0 268 58 from by rw [es34, xU_k _ _ _ (by first | decide | omega)]).trans k268_58
        have q40 : s34 268 17 = s0 268 17 := (show s34 268 17 = s0 268 17 from by rw [es34, xU_k _ _ _ (by first | decide | omega)]).trans k268_17
        have q41 : s34 268 48 = s0 268 48 := (show s34 268 48 = s0 268 48 from by rw [es34, xU_k _ _ _ (by first | decide | omega)]).trans k268_48
        have hF42 := hF.put es34 (by omega)
        have E58 := es34
        refine x_iconst hx hb dX11_lamp_59 ?_
        rw [eQ]
        exact x_zret hx hb hr hlk hW (by omega) ⟨hF42, ⟨q35, q36, q37, trivial⟩, Or.inl ⟨rfl, ⟨by omega, by omega, by first | exact Or.inl (by omega) | exact Or.inr ⟨by omega, by omega, by omega, by omega, by omega⟩⟩, by rw [E58, xU_xud]; congr 1; split <;> omega⟩⟩ dX11_lamp_60
      refine x_iconst hx hb dX11_lamp_48 ?_
      refine lv_goto (tgt := 58) hx hb dX11_lamp_49 (by decide) ?_
      refine x_iast hx hb hE hW (by decide) (fun σ => sa_273 h0 g σ) (by omega) (by decide) (by decide) dX11_lamp_58 (fun H locs s43 es43 hW => ?_)
      have q44 : IMn s43 := by rw [es43]; exact IMn_273 p0 (by omega)
      have q45 : IMk s43 := by rw [es43]; exact IMk_o (by unfold suIMk; first | decide | omega) p1
      have q46 : IMo s43 := by rw [es43]; exact IMo_o (by unfold suIMo; first | decide | omega) p2
      have q47 : s43 268 8 = s0 268 8 := (show s43 268 8 = s0 268 8 from by rw [es43, xU_k _ _ _ (by first | decide | omega)]).trans k268_8
      have q48 : s43 268 58 = s0 268 58 := (show s43 268 58 = s0 268 58 from by rw [es43, xU_k _ _ _ (by first | decide | omega)]).trans k268_58
      have q49 : s43 268 17 = s0 268 17 := (show s43 268 17 = s0 268 17 from by rw [es43, xU_k _ _ _ (by first | decide | omega)]).trans k268_17
      have q50 : s43 268 48 = s0 268 48 := (show s43 268 48 = s0 268 48 from by rw [es43, xU_k _ _ _ (by first | decide | omega)]).trans k268_48
      have hF51 := hF.put es43 (by omega)
      have E58 := es43
      refine x_iconst hx hb dX11_lamp_59 ?_
      rw [eQ]
      exact x_zret hx hb hr hlk hW (by omega) ⟨hF51, ⟨q44, q45, q46, trivial⟩, Or.inl ⟨rfl, ⟨by omega, by omega, by first | exact Or.inl (by omega) | exact Or.inr ⟨by omega, by omega, by omega, by omega, by omega⟩⟩, by rw [E58, xU_xud]; congr 1; split <;> omega⟩⟩ dX11_lamp_60
    refine x_iconst hx hb dX11_lamp_36 ?_
    rw [eQ]
    exact x_zret hx hb hr hlk hW (by omega) ⟨hF, ⟨p0, p1, p2, trivial⟩, Or.inr ⟨rfl, fun z => z.2.2.elim (fun z1 => by omega) (fun z1 => by omega), rfl⟩⟩ dX11_lamp_37
  refine x_iconst hx hb dX11_lamp_8 ?_
  rw [eQ]
  exact x_zret hx hb hr hlk hW (by omega) ⟨hF, ⟨p0, p1, p2, trivial⟩, Or.inr ⟨rfl, fun z => by
      have z1 := z.1
      have z2 := z.2.1
      omega, rfl⟩⟩ dX11_lamp_9

/-! ===== who can't stand any more is told no more ===== -/
def zoq (K : Int → Int) (s : Int) : Int := if 0 ≤ s ∧ s < 100 ∧ K s ≠ 1 ∧ K s ≠ 3 then s else -1
def zMx (K Y : Int → Int) (i : Int) : Int := if i < 14 then zoq K (Y i) else if zoq K (Y (4 + (i - 4) % 10)) = -1 then 0 else Y i
def zMP (K Y : Int → Int) (kj kf : Int) : Int → Int := fun i => if 0 ≤ i ∧ i < 2 ∧ i < kj then zoq K (Y i) else if 4 ≤ i ∧ i < 44 ∧ (i - 4) % 10 < kf then zMx K Y i else Y i
section MA
variable {K Y : Int → Int} {s j f i : Int}
theorem zoq_y (h : 0 ≤ s ∧ s < 100 ∧ K s ≠ 1 ∧ K s ≠ 3) : zoq K s = s := if_pos h
theorem zoq_n (h : ¬ (0 ≤ s ∧ s < 100 ∧ K s ≠ 1 ∧ K s ≠ 3)) : zoq K s = -1 := if_neg h
theorem zoq_c : zoq K s = s ∨ zoq K s = -1 := by
  unfold zoq
  split
  · exact Or.inl rfl
  · exact Or.inr rfl
theorem zMP_0 : zMP K Y 0 0 = Y := funext fun i => by
  unfold zMP
  rw [if_neg (by omega), if_neg (by omega)]
theorem zMP_J (hj : 0 ≤ j ∧ j < 2) : zMP K Y j 0 j = Y j := by
  unfold zMP
  rw [if_neg (by omega), if_neg (by omega)]
theorem zMP_js (hj : 0 ≤ j ∧ j < 2) : zMP K Y (j + 1) 0 = xud (zMP K Y j 0) j (zoq K (Y j)) := funext fun i => by
  by_cases e : i = j
  · rw [e, xud_s]
    unfold zMP
    rw [if_pos (by omega)]
  · rw [xud_o _ _ e]
    unfold zMP
    by_cases c : 0 ≤ i ∧ i < 2 ∧ i < j
    · rw [if_pos (show 0 ≤ i ∧ i < 2 ∧ i < j + 1 from by omega), if_pos c]
    · rw [if_neg (show ¬ (0 ≤ i ∧ i < 2 ∧ i < j + 1) from by omega), if_neg c]
theorem zMP_o (hi : 4 ≤ i) (h : 44 ≤ i ∨ f ≤ (i - 4) % 10) : zMP K Y 2 f i = Y i := by
  unfold zMP
  rw [if_neg (by omega), if_neg (by omega)]
theorem zMP_p (hi : 4 ≤ i ∧ i < 44) (h : (i - 4) % 10 < f) : zMP K Y 2 f i = zMx K Y i := by
  unfold zMP
  rw [if_neg (by omega), if_pos (by omega)]
theorem zMP_s (hf : 0 ≤ f ∧ f < 10) : zMP K Y 2 (f + 1) = xud (xud (xud (xud (zMP K Y 2 f) (4 + f) (zMx K Y (4 + f))) (14 + f) (zMx K Y (14 + f))) (24 + f) (zMx K Y (24 + f))) (34 + f) (zMx K Y (34 + f)) := funext fun i => by
  by_cases e4 : i = 34 + f
  · rw [e4, xud_s, zMP_p (by omega) (by omega)]
  rw [xud_o _ _ e4]
  by_cases e3 : i = 24 + f
  · rw [e3, xud_s, zMP_p (by omega) (by omega)]
  rw [xud_o _ _ e3]
  by_cases e2 : i = 14 + f
  · rw [e2, xud_s, zMP_p (by omega) (by omega)]
  rw [xud_o _ _ e2]
  by_cases e1 : i = 4 + f
  · rw [e1, xud_s, zMP_p (by omega) (by omega)]
  rw [xud_o _ _ e1]
  by_cases d : 4 ≤ i
  · by_cases c : i < 44 ∧ (i - 4) % 10 < f
    · rw [zMP_p ⟨d, c.1⟩ (by omega), zMP_p ⟨d, c.1⟩ c.2]
    · rw [zMP_o d (by omega), zMP_o d (by omega)]
  · unfold zMP
    by_cases a : 0 ≤ i ∧ i < 2 ∧ i < 2
    · rw [if_pos a, if_pos a]
    · rw [if_neg a, if_neg a, if_neg (by omega), if_neg (by omega)]
theorem zMx_4 (hf : 0 ≤ f ∧ f < 10) : zMx K Y (4 + f) = zoq K (Y (4 + f)) := if_pos (by omega)
theorem zMx_k (hi : 14 ≤ i ∧ i < 44) (h : (i - 4) % 10 = f) : zMx K Y i = if zoq K (Y (4 + f)) = -1 then 0 else Y i := by
  unfold zMx
  rw [if_neg (by omega), h]
theorem zMP_no (hf : 0 ≤ f ∧ f < 10) (h : zoq K (Y (4 + f)) = -1) : zMP K Y 2 (f + 1) = xud (xud (xud (xud (zMP K Y 2 f) (4 + f) (-1)) (14 + f) 0) (24 + f) 0) (34 + f) 0 := by
  rw [zMP_s hf, zMx_4 hf, zMx_k (i := 14 + f) (f := f) (by omega) (by omega), zMx_k (i := 24 + f) (f := f) (by omega) (by omega), zMx_k (i := 34 + f) (f := f) (by omega) (by omega), if_pos h, if_pos h, if_pos h, h]
theorem zMP_ys (hf : 0 ≤ f ∧ f < 10) (h : zoq K (Y (4 + f)) = Y (4 + f)) (h2 : Y (4 + f) ≠ -1) : zMP K Y 2 (f + 1) = zMP K Y 2 f := by
  have hn : ¬ zoq K (Y (4 + f)) = -1 := by rw [h]; exact h2
  rw [zMP_s hf, zMx_4 hf, zMx_k (i := 14 + f) (f := f) (by omega) (by omega), zMx_k (i := 24 + f) (f := f) (by omega) (by omega), zMx_k (i := 34 + f) (f := f) (by omega) (by omega), if_neg hn, if_neg hn, if_neg hn, h,
    ← zxud_e (f := zMP K Y 2 f) (j := 4 + f) (v := Y (4 + f)) (zMP_o (by omega) (by omega)).symm, ← zxud_e (f := zMP K Y 2 f) (j := 14 + f) (v := Y (14 + f)) (zMP_o (by omega) (by omega)).symm, ← zxud_e (f := zMP K Y 2 f) (j := 24 + f) (v := Y (24 + f)) (zMP_o (by omega) (by omega)).symm, ← zxud_e (f := zMP K Y 2 f) (j := 34 + f) (v := Y (34 + f)) (zMP_o (by omega) (by omega)).symm]
theorem zMP_00 (hf : 0 ≤ f ∧ f < 10) (h : Y (4 + f) = -1) (h1 : Y (14 + f) = 0) (h2 : Y (24 + f) = 0) (h3 : Y (34 + f) = 0) : zMP K Y 2 (f + 1) = zMP K Y 2 f := by
  rw [zMP_no hf (by rw [h]; exact zoq_n (by omega)),
    ← zxud_e (f := zMP K Y 2 f) (j := 4 + f) (v := -1) (by rw [zMP_o (by omega) (by omega), h]), ← zxud_e (f := zMP K Y 2 f) (j := 14 + f) (v := 0) (by rw [zMP_o (by omega) (by omega), h1]), ← zxud_e (f := zMP K Y 2 f) (j := 24 + f) (v := 0) (by rw [zMP_o (by omega) (by omega), h2]), ← zxud_e (f := zMP K Y 2 f) (j := 34 + f) (v := 0) (by rw [zMP_o (by omega) (by omega), h3])]
end MA
theorem zLy_r0 {K : Int → Int} {q : zLaw} {lm : Int → Int} {m : Int} {J : Int → Int} {ol t : Int} : 0 ≤ zLy K q lm m J 0 ol t ∧ zLy K q lm m J 0 ol t ≤ 800 := by
  have z := zsu_b (f := fun i => zLL K J (lm i) t) (b := 64) (n := 4) (fun i _ _ => zLL_r K J (lm i) t)
  unfold zLy
  rw [if_neg (fun c => c rfl)]
  split <;> omega
set_option maxHeartbeats 4000000 in
set_option maxRecDepth 100000 in
theorem c_X10_sendAwayWhoCannotStandF (l : Launch) (D : va_G) (g : xG) (T : Nat × Nat × Nat) (h0 : Nat) (s0 : xS) (hσ : xRR s0) (p0 : IC s0) (p1 : IS s0) (p2 : IQ s0) : Met l yX10_sendAwayWhoCannotStand (xws yX10_sendAwayWhoCannotStand cX10_sendAwayWhoCannotStand 2 none) { frames := 2, cells := 0, slots := 0, locals := 43 } (xP [.ref (h0 + 0)] D g T h0 s0) (xQv D g h0 (fun τ => xFr (fun k => k = 129 ∨ k = 137 ∨ k = 142 ∨ k = 143 ∨ k = 144 ∨ k = 145) s0 τ ∧ (((IC τ) ∧ (IS τ) ∧ (IQ τ) ∧ True) ∧ (zYc τ 136 = zMP (s0 4) (zYc s0 136) 2 10 ∧ ∀ i : Int, 0 ≤ i → i < 4 → τ 129 i = zoq (s0 4) (s0 129 i))))) 0 0 (xA h0) := by
  refine x_met hσ (by decide) (Nat.le_of_ble_eq_true rfl) ?_
  intro p e s m args below meth c hx hb hr hml hown hT hlk hnm hE hW ls hl
  have hl : lv_has ls 2 [(0, .ref (h0 + 0))] := hl
  obtain ⟨Q, eQ⟩ : ∃ Q, Q = MQ below (xQv D g h0 (fun τ => xFr (fun k => k = 129 ∨ k = 137 ∨ k = 142 ∨ k = 143 ∨ k = 144 ∨ k = 145) s0 τ ∧ (((IC τ) ∧ (IS τ) ∧ (IQ τ) ∧ True) ∧ (zYc τ 136 = zMP (s0 4) (zYc s0 136) 2 10 ∧ ∀ i : Int, 0 ≤ i → i < 4 → τ 129 i = zoq (s0 4) (s0 129 i))))) args s 0 0 (xA h0) := ⟨_, rfl⟩
  rw [← eQ]
  generalize hHe : ([] : List Loc) = locs at hW ⊢
  obtain ⟨H, eH⟩ : ∃ H, H = s.heap := ⟨_, rfl⟩
  rw [← eH] at hW ⊢
  have hF : xFr (fun k => k = 129 ∨ k = 137 ∨ k = 142 ∨ k = 143 ∨ k = 144 ∨ k = 145) s0 s0 := xFr.rf
  have k1_1 : s0 1 1 = s0 1 1 := rfl
  refine x_iconst hx hb dX10_sendAwayWhoCannotStand_0 ?_
  refine lv_istore_n (lv' := [(1, .int (xJ 0)), (0, .ref (h0 + 0))]) hx hb dX10_sendAwayWhoCannotStand_1 rfl hl (by decide) rfl (fun ls hl => ?_)
  have L2 : ∀ (fu : Nat) (i1_2 : Int) (s_2 : xS) (H : Heap) (locs : List Loc) (ls : Array Slot), (xR i1_2) → (xFr (fun k => k = 129 ∨ k = 137 ∨ k = 142 ∨ k = 143 ∨ k = 144 ∨ k = 145) s0 s_2) → (IC s_2) → (IS s_2) → (IQ s_2) → (s_2 1 1 = s0 1 1) → (0 ≤ i1_2) → (i1_2 ≤ 2) → (zYc s_2 136 = zMP (s0 4) (zYc s0 136) i1_2 0) → (s_2 129 = s0 129) → (2 + 1 - i1_2).toNat < fu → xW D g h0 s H locs s_2 → lv_has ls 2 [(0, .ref (h0 + 0)), (1, .int (xJ i1_2))] → W p l e { frames := 2, cells := 0, slots := 0, locals := 43 } s m args below meth c H locs 0 0 Q (F0 m 2 ls []) := by
    intro fu
    induction fu with
    | zero => intro i1_2 s_2 H locs ls ri1_2 hF_2 q2_0 q2_1 q2_2 q2_3 v2_0 v2_1 v2_2 v2_3 hm; exact absurd hm (Nat.not_lt_zero _)
    | succ fu ih2 =>
      intro i1_2 s_2 H locs ls ri1_2 hF_2 q2_0 q2_1 q2_2 q2_3 v2_0 v2_1 v2_2 v2_3 hm hW hl
      have hm_2 := fun (_ : Unit) => hm
      clear hm
      refine x_iload_n hx hb hl 1 rfl dX10_sendAwayWhoCannotStand_2 rfl ?_
      refine x_iconst hx hb dX10_sendAwayWhoCannotStand_3 ?_
      refine x_icmp_ge (tgt := 42) hx hb ri1_2 (by decide) dX10_sendAwayWhoCannotStand_4 (by decide) (fun c1 => ?_) (fun c1 => ?_)
      · skip
        refine x_iconst hx hb dX10_sendAwayWhoCannotStand_42 ?_
        refine lv_istore_n (lv' := [(1, .int (xJ 0)), (0, .ref (h0 + 0))]) hx hb dX10_sendAwayWhoCannotStand_43 rfl hl (by decide) rfl (fun ls hl => ?_)
        have L44 : ∀ (fu : Nat) (i1_44 : Int) (s_44 : xS) (H : Heap) (locs : List Loc) (ls : Array Slot), (xR i1_44) → (xFr (fun k => k = 129 ∨ k = 137 ∨ k = 142 ∨ k = 143 ∨ k = 144 ∨ k = 145) s0 s_44) → (IC s_44) → (IS s_44) → (IQ s_44) → (s_44 1 1 = s0 1 1) → (0 ≤ i1_44) → (i1_44 ≤ 10) → (zYc s_44 136 = zMP (s0 4) (zYc s0 136) 2 i1_44) → (s_44 129 = s0 129) → (10 + 1 - i1_44).toNat < fu → xW D g h0 s H locs s_44 → lv_has ls 2 [(0, .ref (h0 + 0)), (1, .int (xJ i1_44))] → W p l e { frames := 2, cells := 0, slots := 0, locals := 43 } s m args below meth c H locs 0 0 Q (F0 m 44 ls []) := by
          intro fu
          induction fu with
          | zero => intro i1_44 s_44 H locs ls ri1_44 hF_44 q44_0 q44_1 q44_2 q44_3 v44_0 v44_1 v44_2 v44_3 hm; exact absurd hm (Nat.not_lt_zero _)
          | succ fu ih44 =>
            intro i1_44 s_44 H locs ls ri1_44 hF_44 q44_0 q44_1 q44_2 q44_3 v44_0 v44_1 v44_2 v44_3 hm hW hl
            have hm_44 := fun (_ : Unit) => hm
            clear hm
            refine x_iload_n hx hb hl 1 rfl dX10_sendAwayWhoCannotStand_44 rfl ?_
            refine x_bipush hx hb dX10_sendAwayWhoCannotStand_45 (by decide) ?_
            refine x_icmp_ge (tgt := 85) hx hb ri1_44 (by decide) dX10_sendAwayWhoCannotStand_47 (by decide) (fun c2 => ?_) (fun c2 => ?_)
            · skip
              refine x_iconst hx hb dX10_sendAwayWhoCannotStand_85 ?_
              refine lv_istore_n (lv' := [(1, .int (xJ 0)), (0, .ref (h0 + 0))]) hx hb dX10_sendAwayWhoCannotStand_86 rfl hl (by decide) rfl (fun ls hl => ?_)
              have L87 : ∀ (fu : Nat) (i1_87 : Int) (s_87 : xS) (H : Heap) (locs : List Loc) (ls : Array Slot), (xR i1_87) → (xFr (fun k => k = 129 ∨ k = 137 ∨ k = 142 ∨ k = 143 ∨ k = 144 ∨ k = 145) s0 s_87) → (IC s_87) → (IS s_87) → (IQ s_87) → (s_87 1 1 = s0 1 1) → (0 ≤ i1_87) → (i1_87 ≤ 4) → (zYc s_87 136 = zMP (s0 4) (zYc s0 136) 2 10) → (∀ i : Int, 0 ≤ i → i < i1_87 → s_87 129 i = zoq (s0 4) (s0 129 i)) → (∀ i : Int, i1_87 ≤ i → i < 4 → s_87 129 i = s0 129 i) → (4 + 1 - i1_87).toNat < fu → xW D g h0 s H locs s_87 → lv_has ls 2 [(0, .ref (h0 + 0)), (1, .int (xJ i1_87))] → W p l e { frames := 2, cells := 0, slots := 0, locals := 43 } s m args below meth c H locs 0 0 Q (F0 m 87 ls []) := by
                intro fu
                induction fu with
                | zero => intro i1_87 s_87 H locs ls ri1_87 hF_87 q87_0 q87_1 q87_2 q87_3 v87_0 v87_1 v87_2 v87_3 v87_4 hm; exact absurd hm (Nat.not_lt_zero _)
                | succ fu ih87 =>
                  intro i1_87 s_87 H locs ls ri1_87 hF_87 q87_0 q87_1 q87_2 q87_3 v87_0 v87_1 v87_2 v87_3 v87_4 hm hW hl
                  have hm_87 := fun (_ : Unit) => hm
                  clear hm
                  refine x_iload_n hx hb hl 1 rfl dX10_sendAwayWhoCannotStand_87 rfl ?_
                  refine x_iconst hx hb dX10_sendAwayWhoCannotStand_88 ?_
                  refine x_icmp_ge (tgt := 127) hx hb ri1_87 (by decide) dX10_sendAwayWhoCannotStand_89 (by decide) (fun c3 => ?_) (fun c3 => ?_)
                  · skip
                    rw [eQ]
                    exact x_vret hx hb hr hlk hW ⟨hF_87, ⟨q87_0, q87_1, q87_2, trivial⟩, ⟨v87_2, fun i i1 i2 => v87_3 i i1 (by omega)⟩⟩ dX10_sendAwayWhoCannotStand_127
                  refine x_aload_n hx hb hl 0 rfl dX10_sendAwayWhoCannotStand_92 rfl ?_
                  refine x_get (j := 1) (v := .ref (h0 + 3)) hx hb hown hT hE hW cls_X10 (Or.inl (by decide)) (so_0 h0 g _) (by decide) rfl wq513 dX10_sendAwayWhoCannotStand_93 ?_
                  refine x_aload_n hx hb hl 0 rfl dX10_sendAwayWhoCannotStand_96 rfl ?_
                  refine x_get (j := 5) (v := .ref (h0 + 128)) hx hb hown hT hE hW cls_X10 (Or.inl (by decide)) (so_0 h0 g _) (by decide) rfl wq517 dX10_sendAwayWhoCannotStand_97 ?_
                  refine x_getN (j := 2) (v := .ref (h0 + 129)) hx hb hown hT hE hW cls_X0 (Or.inl (by decide)) (so_128 h0 g _) (by decide) rfl wn356 dX10_sendAwayWhoCannotStand_100 ?_
                  refine x_iload_n hx hb hl 1 rfl dX10_sendAwayWhoCannotStand_103 rfl ?_
                  refine x_iald hx hb hE hW (Or.inl (by decide)) (sa_129 h0 g _) (by omega) (by decide) dX10_sendAwayWhoCannotStand_104 ?_
                  refine x_rd hW (fun x4 ex4 rx4 => ?_)
                  have V104 : x4 = s0 129 i1_87 := by rw [ex4]; exact v87_4 _ (by omega) (by omega)
                  refine x_goi (x_runVN (As := [.int (xJ x4)]) hx hb hml hown hT hE hW hl.1 (Or.inl (by decide)) (so_3 h0 g _) rfl cf_X6_isOpen wq615 wq9 wn613 (c_X6_isOpenM l D g T h0 s_87 hW.2.1 x4 rx4 q87_0) ⟨rfl, rfl, ⟨by decide, by decide⟩, ⟨by decide, by decide⟩⟩ rfl rfl (Nat.le_of_ble_eq_true rfl) dX10_sendAwayWhoCannotStand_105) hW (fun x5 s6 H locs rx5 hp7 hW => ?_)
                  obtain ⟨es6, hp7⟩ := hp7
                  subst es6
                  have ghp7 := hp7
                  have H105 := ghp7
                  rw [hF_87 4 (by first | decide | omega)] at H105
                  refine x_if_ne (tgt := 121) hx hb rx5 dX10_sendAwayWhoCannotStand_108 (by decide) (fun c8 => ?_) (fun c8 => ?_)
                  · skip
                    refine x_iinc (lv' := [(1, .int (xJ (i1_87 + 1))), (0, .ref (h0 + 0))]) hx hb hl 1 rfl dX10_sendAwayWhoCannotStand_121 (by decide) rfl (fun ls hl => ?_)
                    refine lv_goto (tgt := 87) hx hb dX10_sendAwayWhoCannotStand_124 (by decide) ?_
                    exact ih87 (i1_87 + 1) s_87 H locs ls (by omega) hF_87 q87_0 q87_1 q87_2 q87_3 (by omega) (by omega) (by first | (rw [E120, zYc_o (by omega)]; exact v87_2) | exact v87_2) (fun i i1 i2 => by
                        by_cases h : i = i1_87
                        · rw [h]
                          first
                            | (rw [E120, xU_s, zoq_n (by rw [← V104]; omega)])
                            | (rw [zoq_y (by rw [← V104]; omega)]; exact v87_4 _ (by omega) (by omega))
                        · first
                            | (rw [E120, xU_j _ _ h]; exact v87_3 i i1 (by omega))
                            | exact v87_3 i i1 (by omega)) (fun i i1 i2 => by first | (rw [E120, xU_j _ _ (by omega)]; exact v87_4 i (by omega) i2) | exact v87_4 i (by omega) i2) (by have hm := hm_87 (); omega) hW (lv_sub hl [1, 0] rfl)
                  refine x_aload_n hx hb hl 0 rfl dX10_sendAwayWhoCannotStand_111 rfl ?_
                  refine x_get (j := 5) (v := .ref (h0 + 128)) hx hb hown hT hE hW cls_X10 (Or.inl (by decide)) (so_0 h0 g _) (by decide) rfl wq517 dX10_sendAwayWhoCannotStand_112 ?_
                  refine x_getN (j := 2) (v := .ref (h0 + 129)) hx hb hown hT hE hW cls_X0 (Or.inl (by decide)) (so_128 h0 g _) (by decide) rfl wn356 dX10_sendAwayWhoCannotStand_115 ?_
                  refine x_iload_n hx hb hl 1 rfl dX10_sendAwayWhoCannotStand_118 rfl ?_
                  refine x_iconst hx hb dX10_sendAwayWhoCannotStand_119 ?_
                  refine x_iast hx hb hE hW (by decide) (fun σ => sa_129 h0 g σ) (by omega) (by decide) (by decide) dX10_sendAwayWhoCannotStand_120 (fun H locs s9 es9 hW => ?_)
                  have q10 : IC s9 := by rw [es9]; exact IC_o (by decide) q87_0
                  have q11 : IS s9 := by rw [es9]; exact IS_o (by unfold suIS; first | decide | omega) q87_1
                  have q12 : IQ s9 := by rw [es9]; exact IQ_o (by unfold suIQ; first | decide | omega) q87_2
                  have q13 : s9 1 1 = s0 1 1 := (show s9 1 1 = s_87 1 1 from by rw [es9, xU_k _ _ _ (by first | decide | omega)]).trans q87_3
                  have hF14 := hF_87.put es9 (by omega)
                  have E120 := es9
                  refine x_iinc (lv' := [(1, .int (xJ (i1_87 + 1))), (0, .ref (h0 + 0))]) hx hb hl 1 rfl dX10_sendAwayWhoCannotStand_121 (by decide) rfl (fun ls hl => ?_)
                  refine lv_goto (tgt := 87) hx hb dX10_sendAwayWhoCannotStand_124 (by decide) ?_
                  exact ih87 (i1_87 + 1) s9 H locs ls (by omega) hF14 q10 q11 q12 q13 (by omega) (by omega) (by first | (rw [E120, zYc_o (by omega)]; exact v87_2) | exact v87_2) (fun i i1 i2 => by
                      by_cases h : i = i1_87
                      · rw [h]
                        first
                          | (rw [E120, xU_s, zoq_n (by rw [← V104]; omega)])
                          | (rw [zoq_y (by rw [← V104]; omega)]; exact v87_4 _ (by omega) (by omega))
                      · first
                          | (rw [E120, xU_j _ _ h]; exact v87_3 i i1 (by omega))
                          | exact v87_3 i i1 (by omega)) (fun i i1 i2 => by first | (rw [E120, xU_j _ _ (by omega)]; exact v87_4 i (by omega) i2) | exact v87_4 i (by omega) i2) (by have hm := hm_87 (); omega) hW (lv_sub hl [1, 0] rfl)
              exact L87 ((4 + 1 - 0 : Int).toNat + 1) 0 s_44 H locs ls (by decide) hF_44 q44_0 q44_1 q44_2 q44_3 (by omega) (by omega) (by
                  have e : i1_44 = 10 := by omega
                  rw [e] at v44_2
                  exact v44_2) (fun i i1 i2 => absurd i2 (by omega)) (fun i i1 i2 => by rw [v44_3]) (Nat.lt_succ_self _) hW (lv_sub hl [1, 0] rfl)
            refine x_aload_n hx hb hl 0 rfl dX10_sendAwayWhoCannotStand_50 rfl ?_
            refine x_get (j := 1) (v := .ref (h0 + 3)) hx hb hown hT hE hW cls_X10 (Or.inl (by decide)) (so_0 h0 g _) (by decide) rfl wq513 dX10_sendAwayWhoCannotStand_51 ?_
            refine x_aload_n hx hb hl 0 rfl dX10_sendAwayWhoCannotStand_54 rfl ?_
            refine x_get (j := 8) (v := .ref (h0 + 136)) hx hb hown hT hE hW cls_X10 (Or.inl (by decide)) (so_0 h0 g _) (by decide) rfl wq520 dX10_sendAwayWhoCannotStand_55 ?_
            refine x_getN (j := 3) (v := .ref (h0 + 142)) hx hb hown hT hE hW cls_X2 (Or.inl (by decide)) (so_136 h0 g _) (by decide) rfl wn391 dX10_sendAwayWhoCannotStand_58 ?_
            refine x_iload_n hx hb hl 1 rfl dX10_sendAwayWhoCannotStand_61 rfl ?_
            refine x_iald hx hb hE hW (Or.inl (by decide)) (sa_142 h0 g _) (by omega) (by decide) dX10_sendAwayWhoCannotStand_62 ?_
            refine x_rd hW (fun x15 ex15 rx15 => ?_)
            have V62 : x15 = zYc s0 136 (4 + i1_44) := ex15.trans ((show s_44 142 i1_44 = zYc s_44 136 (4 + i1_44) from (zYc_F (by omega)).symm).trans (by rw [v44_2]; exact zMP_o (by omega) (by omega)))
            refine x_goi (x_runVN (As := [.int (xJ x15)]) hx hb hml hown hT hE hW hl.1 (Or.inl (by decide)) (so_3 h0 g _) rfl cf_X6_isOpen wq615 wq9 wn613 (c_X6_isOpenM l D g T h0 s_44 hW.2.1 x15 rx15 q44_0) ⟨rfl, rfl, ⟨by decide, by decide⟩, ⟨by decide, by decide⟩⟩ rfl rfl (Nat.le_of_ble_eq_true rfl) dX10_sendAwayWhoCannotStand_63) hW (fun x16 s17 H locs rx16 hp18 hW => ?_)
            obtain ⟨es17, hp18⟩ := hp18
            subst es17
            have ghp18 := hp18
            have H63 := ghp18
            rw [hF_44 4 (by first | decide | omega)] at H63
            refine x_if_ne (tgt := 79) hx hb rx16 dX10_sendAwayWhoCannotStand_66 (by decide) (fun c19 => ?_) (fun c19 => ?_)
            · skip
              refine x_iinc (lv' := [(1, .int (xJ (i1_44 + 1))), (0, .ref (h0 + 0))]) hx hb hl 1 rfl dX10_sendAwayWhoCannotStand_79 (by decide) rfl (fun ls hl => ?_)
              refine lv_goto (tgt := 44) hx hb dX10_sendAwayWhoCannotStand_82 (by decide) ?_
              exact ih44 (i1_44 + 1) s_44 H locs ls (by omega) hF_44 q44_0 q44_1 q44_2 q44_3 (by omega) (by omega) (by
                  first
                    | (rw [H76, v44_2, zMP_no (by omega) (zoq_n (by rw [← V62]; omega))])
                    | (rw [zMP_ys (by omega) (zoq_y (by rw [← V62]; omega)) (by rw [← V62]; omega)]; exact v44_2)) (by first | exact v44_3 | (rw [fs_44 129 (by omega)]; exact v44_3)) (by have hm := hm_44 (); omega) hW (lv_sub hl [1, 0] rfl)
            refine x_aload_n hx hb hl 0 rfl dX10_sendAwayWhoCannotStand_69 rfl ?_
            refine x_get (j := 8) (v := .ref (h0 + 136)) hx hb hown hT hE hW cls_X10 (Or.inl (by decide)) (so_0 h0 g _) (by decide) rfl wq520 dX10_sendAwayWhoCannotStand_70 ?_
            refine x_iload_n hx hb hl 1 rfl dX10_sendAwayWhoCannotStand_73 rfl ?_
            refine x_iconst hx hb dX10_sendAwayWhoCannotStand_74 ?_
            refine x_iconst hx hb dX10_sendAwayWhoCannotStand_75 ?_
            refine x_gov (x_runVN (As := [.int (xJ i1_44), .int (xJ (-1)), .int (xJ 0)]) hx hb hml hown hT hE hW hl.1 (Or.inl (by decide)) (so_136 h0 g _) rfl cf_X2_setFelon wq623 wq11 wn621 (c_X2_setFelonF l D g T h0 s_44 hW.2.1 136 xd_136 i1_44 ri1_44 (-1) (by decide) 0 (by decide) (by omega) q44_0) ⟨rfl, rfl, ⟨by decide, by decide⟩, ⟨by decide, by decide⟩⟩ rfl rfl (Nat.le_of_ble_eq_true rfl) dX10_sendAwayWhoCannotStand_76) hW (fun s21 H locs hp22 hW => ?_)
            obtain ⟨fs21, hp22⟩ := hp22
            have hF23 := hF_44.call fs21 (fun k h => by omega)
            have q24 : IS s21 := IS_f (fun k hk => fs21 k (by unfold suIS at hk; omega)) q44_1
            have q25 : IQ s21 := IQ_f (fun k hk => fs21 k (by unfold suIQ at hk; omega)) q44_2
            have q26 : s21 1 1 = s0 1 1 := (congrFun (fs21 _ (by omega)) _).trans q44_3
            have ghp22 := hp22.2
            have H76 := ghp22
            refine x_iinc (lv' := [(1, .int (xJ (i1_44 + 1))), (0, .ref (h0 + 0))]) hx hb hl 1 rfl dX10_sendAwayWhoCannotStand_79 (by decide) rfl (fun ls hl => ?_)
            refine lv_goto (tgt := 44) hx hb dX10_sendAwayWhoCannotStand_82 (by decide) ?_
            exact ih44 (i1_44 + 1) s21 H locs ls (by omega) hF23 hp22.1.1 q24 q25 q26 (by omega) (by omega) (by
                first
                  | (rw [H76, v44_2, zMP_no (by omega) (zoq_n (by rw [← V62]; omega))])
                  | (rw [zMP_ys (by omega) (zoq_y (by rw [← V62]; omega)) (by rw [← V62]; omega)]; exact v44_2)) (by first | exact v44_3 | (rw [fs21 129 (by first | decide | omega)]; exact v44_3)) (by have hm := hm_44 (); omega) hW (lv_sub hl [1, 0] rfl)
        exact L44 ((10 + 1 - 0 : Int).toNat + 1) 0 s_2 H locs ls (by decide) hF_2 q2_0 q2_1 q2_2 q2_3 (by omega) (by omega) (by
          have e : i1_2 = 2 := by omega
          rw [e] at v2_2
          exact v2_2) (v2_3) (Nat.lt_succ_self _) hW (lv_sub hl [1, 0] rfl)
      refine x_aload_n hx hb hl 0 rfl dX10_sendAwayWhoCannotStand_7 rfl ?_
      refine x_get (j := 1) (v := .ref (h0 + 3)) hx hb hown hT hE hW cls_X10 (Or.inl (by decide)) (so_0 h0 g _) (by decide) rfl wq513 dX10_sendAwayWhoCannotStand_8 ?_
      refine x_aload_n hx hb hl 0 rfl dX10_sendAwayWhoCannotStand_11 rfl ?_
      refine x_get (j := 8) (v := .ref (h0 + 136)) hx hb hown hT hE hW cls_X10 (Or.inl (by decide)) (so_0 h0 g _) (by decide) rfl wq520 dX10_sendAwayWhoCannotStand_12 ?_
      refine x_getN (j := 0) (v := .ref (h0 + 137)) hx hb hown hT hE hW cls_X2 (Or.inl (by decide)) (so_136 h0 g _) (by decide) rfl wn385 dX10_sendAwayWhoCannotStand_15 ?_
      refine x_iload_n hx hb hl 1 rfl dX10_sendAwayWhoCannotStand_18 rfl ?_
      refine x_iald hx hb hE hW (Or.inl (by decide)) (sa_137 h0 g _) (by omega) (by decide) dX10_sendAwayWhoCannotStand_19 ?_
      refine x_rd hW (fun x27 ex27 rx27 => ?_)
      have V19 : x27 = zYc s0 136 i1_2 := ex27.trans ((show s_2 137 i1_2 = zYc s_2 136 i1_2 from (zYc_J (by omega)).symm).trans (by rw [v2_2]; exact zMP_J (by omega)))
      refine x_goi (x_runVN (As := [.int (xJ x27)]) hx hb hml hown hT hE hW hl.1 (Or.inl (by decide)) (so_3 h0 g _) rfl cf_X6_isOpen wq615 wq9 wn613 (c_X6_isOpenM l D g T h0 s_2 hW.2.1 x27 rx27 q2_0) ⟨rfl, rfl, ⟨by decide, by decide⟩, ⟨by decide, by decide⟩⟩ rfl rfl (Nat.le_of_ble_eq_true rfl) dX10_sendAwayWhoCannotStand_20) hW (fun x28 s29 H locs rx28 hp30 hW => ?_)
      obtain ⟨es29, hp30⟩ := hp30
      subst es29
      have ghp30 := hp30
      have H20 := ghp30
      rw [hF_2 4 (by first | decide | omega)] at H20
      refine x_if_ne (tgt := 36) hx hb rx28 dX10_sendAwayWhoCannotStand_23 (by decide) (fun c31 => ?_) (fun c31 => ?_)
      · skip
        refine x_iinc (lv' := [(1, .int (xJ (i1_2 + 1))), (0, .ref (h0 + 0))]) hx hb hl 1 rfl dX10_sendAwayWhoCannotStand_36 (by decide) rfl (fun ls hl => ?_)
        refine lv_goto (tgt := 2) hx hb dX10_sendAwayWhoCannotStand_39 (by decide) ?_
        exact ih2 (i1_2 + 1) s_2 H locs ls (by omega) hF_2 q2_0 q2_1 q2_2 q2_3 (by omega) (by omega) (by
            first
              | (rw [E35, zYc_uJ (d := 136) (f := i1_2) (by omega), v2_2, zMP_js (by omega), zoq_n (by rw [← V19]; omega)])
              | (rw [zMP_js (by omega), zoq_y (by rw [← V19]; omega)]; exact v2_2.trans (zxud_e (zMP_J (by omega)).symm))) (by first | exact v2_3 | (rw [E35, xU_k _ _ _ (by first | decide | omega)]; exact v2_3)) (by have hm := hm_2 (); omega) hW (lv_sub hl [1, 0] rfl)
      refine x_aload_n hx hb hl 0 rfl dX10_sendAwayWhoCannotStand_26 rfl ?_
      refine x_get (j := 8) (v := .ref (h0 + 136)) hx hb hown hT hE hW cls_X10 (Or.inl (by decide)) (so_0 h0 g _) (by decide) rfl wq520 dX10_sendAwayWhoCannotStand_27 ?_
      refine x_getN (j := 0) (v := .ref (h0 + 137)) hx hb hown hT hE hW cls_X2 (Or.inl (by decide)) (so_136 h0 g _) (by decide) rfl wn385 dX10_sendAwayWhoCannotStand_30 ?_
      refine x_iload_n hx hb hl 1 rfl dX10_sendAwayWhoCannotStand_33 rfl ?_
      refine x_iconst hx hb dX10_sendAwayWhoCannotStand_34 ?_
      refine x_iast hx hb hE hW (by decide) (fun σ => sa_137 h0 g σ) (by omega) (by decide) (by decide) dX10_sendAwayWhoCannotStand_35 (fun H locs s32 es32 hW => ?_)
      have q33 : IC s32 := by rw [es32]; exact IC_o (by decide) q2_0
      have q34 : IS s32 := by rw [es32]; exact IS_o (by unfold suIS; first | decide | omega) q2_1
      have q35 : IQ s32 := by rw [es32]; exact IQ_o (by unfold suIQ; first | decide | omega) q2_2
      have q36 : s32 1 1 = s0 1 1 := (show s32 1 1 = s_2 1 1 from by rw [es32, xU_k _ _ _ (by first | decide | omega)]).trans q2_3
      have hF37 := hF_2.put es32 (by omega)
      have E35 := es32
      refine x_iinc (lv' := [(1, .int (xJ (i1_2 + 1))), (0, .ref (h0 + 0))]) hx hb hl 1 rfl dX10_sendAwayWhoCannotStand_36 (by decide) rfl (fun ls hl => ?_)
      refine lv_goto (tgt := 2) hx hb dX10_sendAwayWhoCannotStand_39 (by decide) ?_
      exact ih2 (i1_2 + 1) s32 H locs ls (by omega) hF37 q33 q34 q35 q36 (by omega) (by omega) (by
            first
              | (rw [E35, zYc_uJ (d := 136) (f := i1_2) (by omega), v2_2, zMP_js (by omega), zoq_n (by rw [← V19]; omega)])
              | (rw [zMP_js (by omega), zoq_y (by rw [← V19]; omega)]; exact v2_2.trans (zxud_e (zMP_J (by omega)).symm))) (by first | exact v2_3 | (rw [E35, xU_k _ _ _ (by first | decide | omega)]; exact v2_3)) (by have hm := hm_2 (); omega) hW (lv_sub hl [1, 0] rfl)
  exact L2 ((2 + 1 - 0 : Int).toNat + 1) 0 s0 H locs ls (by decide) hF p0 p1 p2 k1_1 (by omega) (by omega) (zMP_0.symm) (rfl) (Nat.lt_succ_self _) hW (lv_sub hl [1, 0] rfl)

set_option maxHeartbeats 4000000 in
set_option maxRecDepth 100000 in
theorem c_X6_readFromF (l : Launch) (D : va_G) (g : xG) (T : Nat × Nat × Nat) (h0 : Nat) (s0 : xS) (hσ : xRR s0) (hat : s0 1 3 = 0 ∧ 0 ≤ s0 1 2 ∧ s0 1 2 ≤ 260) (p0 : IC s0) (p1 : IQ s0) : Met l yX6_readFrom (xws yX6_readFrom cX6_readFrom 3 (some .boolean)) { frames := 2, cells := 0, slots := 0, locals := 49 } (xP [.ref (h0 + 3), .ref (h0 + 1)] D g T h0 s0) (xQi D g h0 (fun r τ => xFr (fun k => k = 1 ∨ k = 107 ∨ k = 4 ∨ k = 5) s0 τ ∧ (((IC τ) ∧ (IQ τ) ∧ (τ 1 1 = s0 1 1) ∧ (τ 1 2 = s0 1 2) ∧ True) ∧ (τ 5 = (zMk (s0 2) (s0 1 2) (s0 5)).2.2 ∧ ((r = 1 ∧ (zMk (s0 2) (s0 1 2) (s0 5)).1 = 0 ∧ ∀ j, 0 ≤ j → j < 100 → τ 4 j = (zMk (s0 2) (s0 1 2) (s0 5)).2.2 j) ∨ (r = 0 ∧ (zMk (s0 2) (s0 1 2) (s0 5)).1 ≠ 0 ∧ τ 1 4 = (zMk (s0 2) (s0 1 2) (s0 5)).1 ∧ τ 4 = s0 4)))))) 0 0 (xA h0) := by
  refine x_met hσ (by decide) (Nat.le_of_ble_eq_true rfl) ?_
  intro p e s m args below meth c hx hb hr hml hown hT hlk hnm hE hW ls hl
  have hl : lv_has ls 3 [(0, .ref (h0 + 3)), (1, .ref (h0 + 1))] := hl
  obtain ⟨Q, eQ⟩ : ∃ Q, Q = MQ below (xQi D g h0 (fun r τ => xFr (fun k => k = 1 ∨ k = 107 ∨ k = 4 ∨ k = 5) s0 τ ∧ (((IC τ) ∧ (IQ τ) ∧ (τ 1 1 = s0 1 1) ∧ (τ 1 2 = s0 1 2) ∧ True) ∧ (τ 5 = (zMk (s0 2) (s0 1 2) (s0 5)).2.2 ∧ ((r = 1 ∧ (zMk (s0 2) (s0 1 2) (s0 5)).1 = 0 ∧ ∀ j, 0 ≤ j → j < 100 → τ 4 j = (zMk (s0 2) (s0 1 2) (s0 5)).2.2 j) ∨ (r = 0 ∧ (zMk (s0 2) (s0 1 2) (s0 5)).1 ≠ 0 ∧ τ 1 4 = (zMk (s0 2) (s0 1 2) (s0 5)).1 ∧ τ 4 = s0 4)))))) args s 0 0 (xA h0) := ⟨_, rfl⟩
  rw [← eQ]
  generalize hHe : ([] : List Loc) = locs at hW ⊢
  obtain ⟨H, eH⟩ : ∃ H, H = s.heap := ⟨_, rfl⟩
  rw [← eH] at hW ⊢
  have hF : xFr (fun k => k = 1 ∨ k = 107 ∨ k = 4 ∨ k = 5) s0 s0 := xFr.rf
  have k1_1 : s0 1 1 = s0 1 1 := rfl
  have k1_2 : s0 1 2 = s0 1 2 := rfl
  refine x_iconst hx hb dX6_readFrom_0 ?_
  refine lv_istore_n (lv' := [(2, .int (xJ 0)), (0, .ref (h0 + 3)), (1, .ref (h0 + 1))]) hx hb dX6_readFrom_1 rfl hl (by decide) rfl (fun ls hl => ?_)
  have L2 : ∀ (fu : Nat) (i2_2 : Int) (s_2 : xS) (H : Heap) (locs : List Loc) (ls : Array Slot), (xR i2_2) → (xFr (fun k => k = 1 ∨ k = 107 ∨ k = 4 ∨ k = 5) s0 s_2) → (IC s_2) → (IQ s_2) → (s_2 1 1 = s0 1 1) → (s_2 1 2 = s0 1 2) → (0 ≤ i2_2 ∧ i2_2 ≤ 10) → (0 ≤ s_2 1 3 ∧ (i2_2 < 10 → s_2 1 3 ≤ s0 1 2)) → ((i2_2 < 10 ∧ zMk (s0 2) (s0 1 2) (s0 5) = zN (s0 2) (s0 1 2) (9 - i2_2).toNat i2_2 (s_2 1 3) (s_2 5)) ∨ (i2_2 = 10 ∧ (zMk (s0 2) (s0 1 2) (s0 5)).1 = 0 ∧ (zMk (s0 2) (s0 1 2) (s0 5)).2.2 = s_2 5)) → (s_2 4 = s0 4) → (10 - i2_2).toNat < fu → xW D g h0 s H locs s_2 → lv_has ls 3 [(0, .ref (h0 + 3)), (1, .ref (h0 + 1)), (2, .int (xJ i2_2))] → W p l e { frames := 2, cells := 0, slots := 0, locals := 49 } s m args below meth c H locs 0 0 Q (F0 m 2 ls []) := by
    intro fu
    induction fu with
    | zero => intro i2_2 s_2 H locs ls ri2_2 hF_2 q2_0 q2_1 q2_2 q2_3 v2_0 v2_1 v2_2 v2_3 hm; exact absurd hm (Nat.not_lt_zero _)
    | succ fu ih2 =>
      intro i2_2 s_2 H locs ls ri2_2 hF_2 q2_0 q2_1 q2_2 q2_3 v2_0 v2_1 v2_2 v2_3 hm hW hl
      have hm_2 := fun (_ : Unit) => hm
      clear hm
      refine x_iload_n hx hb hl 2 rfl dX6_readFrom_2 rfl ?_
      refine x_bipush hx hb dX6_readFrom_3 (by decide) ?_
      refine x_icmp_ge (tgt := 78) hx hb ri2_2 (by decide) dX6_readFrom_5 (by decide) (fun c1 => ?_) (fun c1 => ?_)
      · skip
        refine x_aload_n hx hb hl 0 rfl dX6_readFrom_78 rfl ?_
        refine x_get (j := 1) (v := .ref (h0 + 5)) hx hb hown hT hE hW cls_X6 (Or.inl (by decide)) (so_3 h0 g _) (by decide) rfl wq227 dX6_readFrom_79 ?_
        refine x_iconst hx hb dX6_readFrom_82 ?_
        refine x_aload_n hx hb hl 0 rfl dX6_readFrom_83 rfl ?_
        refine x_get (j := 0) (v := .ref (h0 + 4)) hx hb hown hT hE hW cls_X6 (Or.inl (by decide)) (so_3 h0 g _) (by decide) rfl wq226 dX6_readFrom_84 ?_
        refine x_iconst hx hb dX6_readFrom_87 ?_
        refine x_bipush hx hb dX6_readFrom_88 (by decide) ?_
        refine x_copyi (ns := 100) (nd := 100) hx hb hml hl.1 hown hT hE hW wq602 wq604 wq603 wq181 (Or.inl (by decide)) (sa_5 h0 g _) (by decide) (fun σ => sa_4 h0 g σ) (by omega) ⟨by decide, Nat.le_of_ble_eq_true rfl⟩ dX6_readFrom_90 (fun H locs s2 es2 hW => ?_)
        have q3 : IC s2 := IC_f (fun k hk => by rw [es2]; exact xC_k _ _ _ (fun q => hk (q ▸ (by decide)))) q2_0
        have q5 : s2 1 1 = s0 1 1 := (show s2 1 1 = s_2 1 1 from by rw [es2, xC_k _ _ _ (by omega)]).trans q2_2
        have q6 : s2 1 2 = s0 1 2 := (show s2 1 2 = s_2 1 2 from by rw [es2, xC_k _ _ _ (by omega)]).trans q2_3
        have hF7 := hF_2.cpy es2 (by omega)
        have E90 : ∀ j, 0 ≤ j → j < 100 → s2 4 j = s_2 5 j := fun j a b => by rw [es2, xC_j, if_pos ⟨a, b⟩]
        have E91 : s2 5 = s_2 5 := by rw [es2, xC_k _ _ _ (by omega)]
        refine x_iconst hx hb dX6_readFrom_93 ?_
        refine lv_istore_n (lv' := [(2, .int (xJ 0)), (0, .ref (h0 + 3)), (1, .ref (h0 + 1))]) hx hb dX6_readFrom_94 rfl hl (by decide) rfl (fun ls hl => ?_)
        have L95 : ∀ (fu : Nat) (i2_95 : Int) (s_95 : xS) (H : Heap) (locs : List Loc) (ls : Array Slot), (xR i2_95) → (xFr (fun k => k = 1 ∨ k = 107 ∨ k = 4 ∨ k = 5) s0 s_95) → (IC s_95) → (s_95 1 1 = s0 1 1) → (s_95 1 2 = s0 1 2) → (0 ≤ i2_95) → (∀ j, 0 ≤ j → j < 100 → s_95 4 j = s_2 5 j) → (s_95 5 = s_2 5) → (∀ t : Int, 0 ≤ t → t < i2_95 → s_95 107 t = 0) → (100 - i2_95).toNat < fu → xW D g h0 s H locs s_95 → lv_has ls 3 [(0, .ref (h0 + 3)), (2, .int (xJ i2_95))] → W p l e { frames := 2, cells := 0, slots := 0, locals := 49 } s m args below meth c H locs 0 0 Q (F0 m 95 ls []) := by
          intro fu
          induction fu with
          | zero => intro i2_95 s_95 H locs ls ri2_95 hF_95 q95_0 q95_1 q95_2 v95_0 v95_1 v95_2 v95_3 hm; exact absurd hm (Nat.not_lt_zero _)
          | succ fu ih95 =>
            intro i2_95 s_95 H locs ls ri2_95 hF_95 q95_0 q95_1 q95_2 v95_0 v95_1 v95_2 v95_3 hm hW hl
            have hm_95 := fun (_ : Unit) => hm
            clear hm
            refine x_iload_n hx hb hl 1 rfl dX6_readFrom_95 rfl ?_
            refine x_aload_n hx hb hl 0 rfl dX6_readFrom_96 rfl ?_
            refine x_get (j := 3) (v := .ref (h0 + 107)) hx hb hown hT hE hW cls_X6 (Or.inl (by decide)) (so_3 h0 g _) (by decide) rfl wq229 dX6_readFrom_97 ?_
            refine x_alen (n := 100) (t0 := 1) hx hb hE hW (Or.inl (by decide)) (sa_107 h0 g _) rfl rfl dX6_readFrom_100 ?_
            refine x_icmp_ge (tgt := 117) hx hb ri2_95 (by decide) dX6_readFrom_101 (by decide) (fun c8 => ?_) (fun c8 => ?_)
            · skip
              refine x_iconst hx hb dX6_readFrom_117 ?_
              rw [eQ]
              exact x_zret hx hb hr hlk hW (by omega) ⟨hF_95, ⟨q95_0, (fun a2 a21 a22 a23 => absurd (v95_3 a2 a21 (by omega)) a23), q95_1, q95_2, trivial⟩, by
                  have z := v2_2.resolve_left (fun q => by omega)
                  exact ⟨v95_2.trans z.2.2.symm, Or.inl ⟨by omega, z.2.1, fun j a b => by rw [z.2.2]; exact v95_1 j a b⟩⟩⟩ dX6_readFrom_118
            refine x_aload_n hx hb hl 0 rfl dX6_readFrom_104 rfl ?_
            refine x_get (j := 3) (v := .ref (h0 + 107)) hx hb hown hT hE hW cls_X6 (Or.inl (by decide)) (so_3 h0 g _) (by decide) rfl wq229 dX6_readFrom_105 ?_
            refine x_iload_n hx hb hl 1 rfl dX6_readFrom_108 rfl ?_
            refine x_iconst hx hb dX6_readFrom_109 ?_
            refine x_zast hx hb hE hW (by decide) (fun σ => sa_107 h0 g σ) (by omega) (by decide) (by omega) dX6_readFrom_110 (fun H locs s9 es9 hW => ?_)
            have q10 : IC s9 := by rw [es9]; exact IC_o (by decide) q95_0
            have q11 : s9 1 1 = s0 1 1 := (show s9 1 1 = s_95 1 1 from by rw [es9, xU_k _ _ _ (by first | decide | omega)]).trans q95_1
            have q12 : s9 1 2 = s0 1 2 := (show s9 1 2 = s_95 1 2 from by rw [es9, xU_k _ _ _ (by first | decide | omega)]).trans q95_2
            have hF13 := hF_95.put es9 (by omega)
            have E110 := es9
            refine x_iinc (lv' := [(2, .int (xJ (i2_95 + 1))), (0, .ref (h0 + 3))]) hx hb hl 1 rfl dX6_readFrom_111 (by decide) rfl (fun ls hl => ?_)
            refine lv_goto (tgt := 95) hx hb dX6_readFrom_114 (by decide) ?_
            exact ih95 (i2_95 + 1) s9 H locs ls (by omega) hF13 q10 q11 q12 (by omega) (by rw [es9, xU_k _ _ _ (by first | decide | omega)]; exact v95_1) (by rw [es9, xU_k _ _ _ (by first | decide | omega)]; exact v95_2) (fun t t1 t2 => by
                rw [E110, xU_xud]
                by_cases h : t = i2_95
                · subst h; rw [xud_s]
                · rw [xud_o _ _ h]; exact v95_3 t t1 (by omega)) (by have hm := hm_95 (); omega) hW (lv_sub hl [1, 0] rfl)
        exact L95 ((100 - 0 : Int).toNat + 1) 0 s2 H locs ls (by decide) hF7 q3 q5 q6 (by omega) (E90) (E91) (fun t t1 t2 => absurd t2 (by omega)) (Nat.lt_succ_self _) hW (lv_sub hl [1, 0] rfl)
      refine x_aload_n hx hb hl 0 rfl dX6_readFrom_8 rfl ?_
      refine x_aload_n hx hb hl 1 rfl dX6_readFrom_9 rfl ?_
      refine x_iload_n hx hb hl 2 rfl dX6_readFrom_10 rfl ?_
      refine x_goi (x_runV (As := [.ref (h0 + 1), .int (xJ i2_2)]) hx hb hml hown hT hE hW hl.1 (Or.inl (by decide)) (so_3 h0 g _) rfl cf_X6_readRow wq577 wq3 wq575 (c_X6_readRowM l D g T h0 s_2 hW.2.1 i2_2 ri2_2 (by omega) (by omega) q2_0) ⟨rfl, rfl, ⟨by decide, by decide⟩, ⟨by decide, by decide⟩⟩ rfl rfl (Nat.le_of_ble_eq_true rfl) dX6_readFrom_11) hW (fun x14 s15 H locs rx14 hp16 hW => ?_)
      obtain ⟨fs15, hp16⟩ := hp16
      have hF17 := hF_2.call fs15 (fun k h => by omega)
      have q18 : IQ s15 := IQ_f (fun k hk => fs15 k (by unfold suIQ at hk; omega)) q2_1
      have ghp16 := hp16.2
      have R11 := ghp16.1
      rw [hF_2 2 (by first | decide | omega), show s_2 1 2 = s0 1 2 from by omega] at R11
      have D11 := R11.cs
      have B11 := ghp16.2
      have K11 : s15 4 = s0 4 := (fs15 4 (by first | decide | omega)).trans v2_3
      have G11 : s15 2 = s0 2 := hF17 2 (by first | decide | omega)
      have N11 : s15 1 2 = s0 1 2 := (hp16.1.2.2.1.trans q2_3)
      have X11 : zch (s0 2) (s0 1 2) (s15 1 3) ≠ -1 → s15 1 3 < s0 1 2 := zch_lt
      have Y11 : s15 1 3 < s0 1 2 → 0 ≤ zch (s0 2) (s0 1 2) (s15 1 3) := fun h => by
        have b := (IC.by_ hp16.1.1) (s15 1 3) (by omega) (by omega)
        rw [G11] at b
        rw [← zch_i (Or.inl ⟨h, rfl⟩)]
        exact b.1
      refine x_if_ne (tgt := 19) hx hb rx14 dX6_readFrom_14 (by decide) (fun c19 => ?_) (fun c19 => ?_)
      · skip
        refine x_aload_n hx hb hl 1 rfl dX6_readFrom_19 rfl ?_
        refine x_goi (x_runVN (As := []) hx hb hml hown hT hE hW hl.1 (Or.inl (by decide)) (so_1 h0 g _) rfl cf_X8_sign wq581 wq4 wn579 (c_X8_sign l D g T h0 s15 hW.2.1 hp16.1.1) ⟨rfl, rfl, ⟨by decide, by decide⟩, ⟨by decide, by decide⟩⟩ rfl rfl (Nat.le_of_ble_eq_true rfl) dX6_readFrom_20) hW (fun x20 s21 H locs rx20 hp22 hW => ?_)
        obtain ⟨es21, hp22⟩ := hp22
        subst es21
        have ghp22 := hp22
        have C20 : x20 = zch (s0 2) (s0 1 2) (s15 1 3) := zch_i (by have q := congrFun (hF17 2 (by first | decide | omega)) (s15 1 3); omega)
        refine x_goi (x_runS (As := [.int (xJ x20)]) hx hb hml hown hT hE hW hl.1 cf_X6_kindOf wq591 wq590 (c_X6_kindOf l D g T h0 s15 hW.2.1 x20 rx20) ⟨rfl, rfl, ⟨by decide, by decide⟩, ⟨by decide, by decide⟩⟩ rfl rfl (Nat.le_of_ble_eq_true rfl) dX6_readFrom_23) hW (fun x23 s24 H locs rx23 hp25 hW => ?_)
        obtain ⟨es24, hp25⟩ := hp25
        subst es24
        have ghp25 := hp25
        have T23 := zkd_i ghp25
        rw [C20] at T23
        refine x_iconst hx hb dX6_readFrom_26 ?_
        refine x_icmp_ne (tgt := 40) hx hb rx23 (by decide) dX6_readFrom_27 (by decide) (fun c26 => ?_) (fun c26 => ?_)
        · skip
          refine x_aload_n hx hb hl 1 rfl dX6_readFrom_40 rfl ?_
          refine x_bipush hx hb dX6_readFrom_41 (by decide) ?_
          refine x_aload_n hx hb hl 1 rfl dX6_readFrom_43 rfl ?_
          refine x_getN (j := 3) (v := .int (xJ (s15 1 3))) hx hb hown hT hE hW cls_X8 (Or.inl (by decide)) (so_1 h0 g _) (by decide) rfl wn203 dX6_readFrom_44 ?_
          refine x_rd hW (fun x27 ex27 rx27 => ?_)
          refine x_goi (x_runVN (As := [.int (xJ 6), .int (xJ x27)]) hx hb hml hown hT hE hW hl.1 (Or.inl (by decide)) (so_1 h0 g _) rfl cf_X8_fails wq588 wq5 wn586 (c_X8_failsM l D g T h0 s15 hW.2.1 6 (by decide) x27 rx27 (by omega) hp16.1.1) ⟨rfl, rfl, ⟨by decide, by decide⟩, ⟨by decide, by decide⟩⟩ rfl rfl (Nat.le_of_ble_eq_true rfl) dX6_readFrom_47) hW (fun x28 s29 H locs rx28 hp30 hW => ?_)
          obtain ⟨fs29, hp30⟩ := hp30
          have hF31 := hF17.call fs29 (fun k h => by omega)
          have q32 : IQ s29 := IQ_f (fun k hk => fs29 k (by unfold suIQ at hk; omega)) q18
          have ghp30 := hp30.2
          rw [eQ]
          exact x_zret hx hb hr hlk hW (by omega) ⟨hF31, ⟨hp30.1.1, q32, (hp30.1.2.1.trans (hp16.1.2.1.trans q2_2)), (hp30.1.2.2.1.trans (hp16.1.2.2.1.trans q2_3)), trivial⟩, by
              rw [(v2_2.resolve_right (fun q => by omega)).2.trans (zN_row_six (D11.resolve_right (fun q => by omega)).2 (by first | exact Or.inl (by omega) | exact Or.inr (by omega)) (by omega))]
              exact ⟨fs29 5 (by first | decide | omega), Or.inr ⟨by omega, (by show (-6000 - _ : Int) ≠ 0; omega), (by show _ = (-6000 - _ : Int); omega), (fs29 4 (by first | decide | omega)).trans K11⟩⟩⟩ dX6_readFrom_50
        refine x_aload_n hx hb hl 1 rfl dX6_readFrom_30 rfl ?_
        refine x_goi (x_runVN (As := []) hx hb hml hown hT hE hW hl.1 (Or.inl (by decide)) (so_1 h0 g _) rfl cf_X8_sign wq581 wq4 wn579 (c_X8_sign l D g T h0 s15 hW.2.1 hp16.1.1) ⟨rfl, rfl, ⟨by decide, by decide⟩, ⟨by decide, by decide⟩⟩ rfl rfl (Nat.le_of_ble_eq_true rfl) dX6_readFrom_31) hW (fun x33 s34 H locs rx33 hp35 hW => ?_)
        obtain ⟨es34, hp35⟩ := hp35
        subst es34
        have ghp35 := hp35
        have C31 : x33 = zch (s0 2) (s0 1 2) (s15 1 3) := zch_i (by have q := congrFun (hF17 2 (by first | decide | omega)) (s15 1 3); omega)
        refine x_goi (x_runS (As := [.int (xJ x33)]) hx hb hml hown hT hE hW hl.1 cf_X6_timesOf wq584 wq583 (c_X6_timesOf l D g T h0 s15 hW.2.1 x33 rx33) ⟨rfl, rfl, ⟨by decide, by decide⟩, ⟨by decide, by decide⟩⟩ rfl rfl (Nat.le_of_ble_eq_true rfl) dX6_readFrom_34) hW (fun x36 s37 H locs rx36 hp38 hW => ?_)
        obtain ⟨es37, hp38⟩ := hp38
        subst es37
        have ghp38 := hp38
        have T34 := ztm_i ghp38
        rw [C31] at T34
        refine x_if_le (tgt := 51) hx hb rx36 dX6_readFrom_37 (by decide) (fun c39 => ?_) (fun c39 => ?_)
        · skip
          refine x_aload_n hx hb hl 1 rfl dX6_readFrom_51 rfl ?_
          refine x_iload_n hx hb hl 2 rfl dX6_readFrom_52 rfl ?_
          refine x_bipush hx hb dX6_readFrom_53 (by decide) ?_
          refine x_icmp_ge (tgt := 63) hx hb ri2_2 (by decide) dX6_readFrom_55 (by decide) (fun c40 => ?_) (fun c40 => ?_)
          · skip
            refine x_iconst hx hb dX6_readFrom_63 ?_
            refine x_goi (x_runVN (As := [.int (xJ (-1))]) hx hb hml hown hT hE hW hl.1 (Or.inl (by decide)) (so_1 h0 g _) rfl cf_X8_passes wq598 wq6 wn596 (c_X8_passesM l D g T h0 s15 hW.2.1 (-1) (by decide) (by omega) (by omega) hp16.1.1) ⟨rfl, rfl, ⟨by decide, by decide⟩, ⟨by decide, by decide⟩⟩ rfl rfl (Nat.le_of_ble_eq_true rfl) dX6_readFrom_64) hW (fun x41 s42 H locs rx41 hp43 hW => ?_)
            obtain ⟨fs42, hp43⟩ := hp43
            have hF44 := hF17.call fs42 (fun k h => by omega)
            have q45 : IQ s42 := IQ_f (fun k hk => fs42 k (by unfold suIQ at hk; omega)) q18
            have ghp43 := hp43.2
            have P64 := ghp43
            rw [G11, N11] at P64
            refine x_if_ne (tgt := 72) hx hb rx41 dX6_readFrom_67 (by decide) (fun c46 => ?_) (fun c46 => ?_)
            · skip
              refine x_iinc (lv' := [(2, .int (xJ (i2_2 + 1))), (0, .ref (h0 + 3)), (1, .ref (h0 + 1))]) hx hb hl 2 rfl dX6_readFrom_72 (by decide) rfl (fun ls hl => ?_)
              refine lv_goto (tgt := 2) hx hb dX6_readFrom_75 (by decide) ?_
              exact ih2 (i2_2 + 1) s42 H locs ls (by omega) hF44 hp43.1.1 q45 (hp43.1.2.1.trans (hp16.1.2.1.trans q2_2)) (hp43.1.2.2.1.trans (hp16.1.2.2.1.trans q2_3)) (by omega) (by omega) (by first | exact Or.inl ⟨by omega, (v2_2.resolve_right (fun q => by omega)).2.trans (zN_row_go (D11.resolve_right (fun q => by omega)).2 ⟨by omega, by omega⟩ (by omega) (by omega) (by omega) rfl (by omega) (fs42 5 (by first | decide | omega)))⟩ | exact Or.inr ⟨by omega, by rw [(v2_2.resolve_right (fun q => by omega)).2.trans (zN_row_end (D11.resolve_right (fun q => by omega)).2 ⟨by omega, by omega⟩ (by omega) (by omega))]; exact ⟨rfl, (fs42 5 (by first | decide | omega)).symm⟩⟩) ((fs42 4 (by first | decide | omega)).trans K11) (by have hm := hm_2 (); omega) hW (lv_sub hl [1, 2, 0] rfl)
            refine x_iconst hx hb dX6_readFrom_70 ?_
            rw [eQ]
            exact x_zret hx hb hr hlk hW (by omega) ⟨hF44, ⟨hp43.1.1, q45, (hp43.1.2.1.trans (hp16.1.2.1.trans q2_2)), (hp43.1.2.2.1.trans (hp16.1.2.2.1.trans q2_3)), trivial⟩, by
                rw [(v2_2.resolve_right (fun q => by omega)).2.trans (zN_row_no (D11.resolve_right (fun q => by omega)).2 ⟨by omega, by omega⟩ (by omega))]
                exact ⟨fs42 5 (by first | decide | omega), Or.inr ⟨by omega, (by show (-1000 - _ : Int) ≠ 0; omega), (by show _ = (-1000 - _ : Int); omega), (fs42 4 (by first | decide | omega)).trans K11⟩⟩⟩ dX6_readFrom_71
          refine x_bipush hx hb dX6_readFrom_58 (by decide) ?_
          refine lv_goto (tgt := 64) hx hb dX6_readFrom_60 (by decide) ?_
          refine x_goi (x_runVN (As := [.int (xJ 47)]) hx hb hml hown hT hE hW hl.1 (Or.inl (by decide)) (so_1 h0 g _) rfl cf_X8_passes wq598 wq6 wn596 (c_X8_passesM l D g T h0 s15 hW.2.1 47 (by decide) (by omega) (by omega) hp16.1.1) ⟨rfl, rfl, ⟨by decide, by decide⟩, ⟨by decide, by decide⟩⟩ rfl rfl (Nat.le_of_ble_eq_true rfl) dX6_readFrom_64) hW (fun x47 s48 H locs rx47 hp49 hW => ?_)
          obtain ⟨fs48, hp49⟩ := hp49
          have hF50 := hF17.call fs48 (fun k h => by omega)
          have q51 : IQ s48 := IQ_f (fun k hk => fs48 k (by unfold suIQ at hk; omega)) q18
          have ghp49 := hp49.2
          have P64 := ghp49
          rw [G11, N11] at P64
          refine x_if_ne (tgt := 72) hx hb rx47 dX6_readFrom_67 (by decide) (fun c52 => ?_) (fun c52 => ?_)
          · skip
            refine x_iinc (lv' := [(2, .int (xJ (i2_2 + 1))), (0, .ref (h0 + 3)), (1, .ref (h0 + 1))]) hx hb hl 2 rfl dX6_readFrom_72 (by decide) rfl (fun ls hl => ?_)
            refine lv_goto (tgt := 2) hx hb dX6_readFrom_75 (by decide) ?_
            exact ih2 (i2_2 + 1) s48 H locs ls (by omega) hF50 hp49.1.1 q51 (hp49.1.2.1.trans (hp16.1.2.1.trans q2_2)) (hp49.1.2.2.1.trans (hp16.1.2.2.1.trans q2_3)) (by omega) (by omega) (by first | exact Or.inl ⟨by omega, (v2_2.resolve_right (fun q => by omega)).2.trans (zN_row_go (D11.resolve_right (fun q => by omega)).2 ⟨by omega, by omega⟩ (by omega) (by omega) (by omega) rfl (by omega) (fs48 5 (by first | decide | omega)))⟩ | exact Or.inr ⟨by omega, by rw [(v2_2.resolve_right (fun q => by omega)).2.trans (zN_row_end (D11.resolve_right (fun q => by omega)).2 ⟨by omega, by omega⟩ (by omega) (by omega))]; exact ⟨rfl, (fs48 5 (by first | decide | omega)).symm⟩⟩) ((fs48 4 (by first | decide | omega)).trans K11) (by have hm := hm_2 (); omega) hW (lv_sub hl [1, 2, 0] rfl)
          refine x_iconst hx hb dX6_readFrom_70 ?_
          rw [eQ]
          exact x_zret hx hb hr hlk hW (by omega) ⟨hF50, ⟨hp49.1.1, q51, (hp49.1.2.1.trans (hp16.1.2.1.trans q2_2)), (hp49.1.2.2.1.trans (hp16.1.2.2.1.trans q2_3)), trivial⟩, by
              rw [(v2_2.resolve_right (fun q => by omega)).2.trans (zN_row_no (D11.resolve_right (fun q => by omega)).2 ⟨by omega, by omega⟩ (by omega))]
              exact ⟨fs48 5 (by first | decide | omega), Or.inr ⟨by omega, (by show (-1000 - _ : Int) ≠ 0; omega), (by show _ = (-1000 - _ : Int); omega), (fs48 4 (by first | decide | omega)).trans K11⟩⟩⟩ dX6_readFrom_71
        refine x_aload_n hx hb hl 1 rfl dX6_readFrom_40 rfl ?_
        refine x_bipush hx hb dX6_readFrom_41 (by decide) ?_
        refine x_aload_n hx hb hl 1 rfl dX6_readFrom_43 rfl ?_
        refine x_getN (j := 3) (v := .int (xJ (s15 1 3))) hx hb hown hT hE hW cls_X8 (Or.inl (by decide)) (so_1 h0 g _) (by decide) rfl wn203 dX6_readFrom_44 ?_
        refine x_rd hW (fun x53 ex53 rx53 => ?_)
        refine x_goi (x_runVN (As := [.int (xJ 6), .int (xJ x53)]) hx hb hml hown hT hE hW hl.1 (Or.inl (by decide)) (so_1 h0 g _) rfl cf_X8_fails wq588 wq5 wn586 (c_X8_failsM l D g T h0 s15 hW.2.1 6 (by decide) x53 rx53 (by omega) hp16.1.1) ⟨rfl, rfl, ⟨by decide, by decide⟩, ⟨by decide, by decide⟩⟩ rfl rfl (Nat.le_of_ble_eq_true rfl) dX6_readFrom_47) hW (fun x54 s55 H locs rx54 hp56 hW => ?_)
        obtain ⟨fs55, hp56⟩ := hp56
        have hF57 := hF17.call fs55 (fun k h => by omega)
        have q58 : IQ s55 := IQ_f (fun k hk => fs55 k (by unfold suIQ at hk; omega)) q18
        have ghp56 := hp56.2
        rw [eQ]
        exact x_zret hx hb hr hlk hW (by omega) ⟨hF57, ⟨hp56.1.1, q58, (hp56.1.2.1.trans (hp16.1.2.1.trans q2_2)), (hp56.1.2.2.1.trans (hp16.1.2.2.1.trans q2_3)), trivial⟩, by
            rw [(v2_2.resolve_right (fun q => by omega)).2.trans (zN_row_six (D11.resolve_right (fun q => by omega)).2 (by first | exact Or.inl (by omega) | exact Or.inr (by omega)) (by omega))]
            exact ⟨fs55 5 (by first | decide | omega), Or.inr ⟨by omega, (by show (-6000 - _ : Int) ≠ 0; omega), (by show _ = (-6000 - _ : Int); omega), (fs55 4 (by first | decide | omega)).trans K11⟩⟩⟩ dX6_readFrom_50
      refine x_iconst hx hb dX6_readFrom_17 ?_
      rw [eQ]
      exact x_zret hx hb hr hlk hW (by omega) ⟨hF17, ⟨hp16.1.1, q18, (hp16.1.2.1.trans q2_2), (hp16.1.2.2.1.trans q2_3), trivial⟩, by
          obtain ⟨d1, d2, d3, d4⟩ := D11.resolve_left (fun q => by omega)
          rw [(v2_2.resolve_right (fun q => by omega)).2.trans (zN_row_bad d2)]
          exact ⟨d4.symm, Or.inr ⟨by omega, d2, d3, K11⟩⟩⟩ dX6_readFrom_18
  exact L2 ((10 - 0 : Int).toNat + 1) 0 s0 H locs ls (by decide) hF p0 p1 k1_1 k1_2 (by omega) (by omega) (Or.inl ⟨by omega, by rw [hat.1]; rfl⟩) (rfl) (Nat.lt_succ_self _) hW (lv_sub hl [1, 2, 0] rfl)
set_option maxHeartbeats 4000000 in
set_option maxRecDepth 100000 in
theorem c_X10_marketF (l : Launch) (D : va_G) (g : xG) (T : Nat × Nat × Nat) (h0 : Nat) (s0 : xS) (hσ : xRR s0) (n : Int) (rn : xR n) (p0 : IC s0) (p1 : IS s0) (p2 : IQ s0) : Met l yX10_market (xws yX10_market cX10_market 3 (some .int)) { frames := 3, cells := 0, slots := 0, locals := 71 } (xP [.ref (h0 + 0), .int (xJ n)] D g T h0 s0) (xQi D g h0 (fun r τ => xFr (fun k => k = 0 ∨ k = 1 ∨ k = 107 ∨ k = 129 ∨ k = 137 ∨ k = 142 ∨ k = 143 ∨ k = 144 ∨ k = 145 ∨ k = 4 ∨ k = 5) s0 τ ∧ (((IC τ) ∧ (IS τ) ∧ (IQ τ) ∧ True) ∧ (((n < 1 ∨ 140 < n ∨ s0 1 1 < n) ∧ τ 1 1 = s0 1 1 ∧ r = -1 ∧ τ 5 = s0 5 ∧ τ 4 = s0 4 ∧ τ 0 11 = s0 0 11 ∧ zYc τ 136 = zYc s0 136 ∧ τ 129 = s0 129) ∨ (¬ (n < 1 ∨ 140 < n ∨ s0 1 1 < n) ∧ τ 1 1 = 0 ∧ τ 5 = (zMk (s0 2) n (s0 5)).2.2 ∧ (((zMk (s0 2) n (s0 5)).1 ≠ 0 ∧ r = (zMk (s0 2) n (s0 5)).1 ∧ τ 4 = s0 4 ∧ τ 0 11 = s0 0 11 ∧ zYc τ 136 = zYc s0 136 ∧ τ 129 = s0 129) ∨ ((zMk (s0 2) n (s0 5)).1 = 0 ∧ (∀ j, 0 ≤ j → j < 100 → τ 4 j = (zMk (s0 2) n (s0 5)).2.2 j) ∧ r = 100 - zct (zMk (s0 2) n (s0 5)).2.2 0 100 ∧ τ 0 11 = 0 ∧ zYc τ 136 = zMP (τ 4) (zYc s0 136) 2 10 ∧ ∀ i : Int, 0 ≤ i → i < 4 → τ 129 i = zoq (τ 4) (s0 129 i)))))))) 0 0 (xA h0) := by
  refine x_met hσ (by decide) (Nat.le_of_ble_eq_true rfl) ?_
  intro p e s m args below meth c hx hb hr hml hown hT hlk hnm hE hW ls hl
  have hl : lv_has ls 3 [(0, .ref (h0 + 0)), (1, .int (xJ n))] := hl
  obtain ⟨Q, eQ⟩ : ∃ Q, Q = MQ below (xQi D g h0 (fun r τ => xFr (fun k => k = 0 ∨ k = 1 ∨ k = 107 ∨ k = 129 ∨ k = 137 ∨ k = 142 ∨ k = 143 ∨ k = 144 ∨ k = 145 ∨ k = 4 ∨ k = 5) s0 τ ∧ (((IC τ) ∧ (IS τ) ∧ (IQ τ) ∧ True) ∧ (((n < 1 ∨ 140 < n ∨ s0 1 1 < n) ∧ τ 1 1 = s0 1 1 ∧ r = -1 ∧ τ 5 = s0 5 ∧ τ 4 = s0 4 ∧ τ 0 11 = s0 0 11 ∧ zYc τ 136 = zYc s0 136 ∧ τ 129 = s0 129) ∨ (¬ (n < 1 ∨ 140 < n ∨ s0 1 1 < n) ∧ τ 1 1 = 0 ∧ τ 5 = (zMk (s0 2) n (s0 5)).2.2 ∧ (((zMk (s0 2) n (s0 5)).1 ≠ 0 ∧ r = (zMk (s0 2) n (s0 5)).1 ∧ τ 4 = s0 4 ∧ τ 0 11 = s0 0 11 ∧ zYc τ 136 = zYc s0 136 ∧ τ 129 = s0 129) ∨ ((zMk (s0 2) n (s0 5)).1 = 0 ∧ (∀ j, 0 ≤ j → j < 100 → τ 4 j = (zMk (s0 2) n (s0 5)).2.2 j) ∧ r = 100 - zct (zMk (s0 2) n (s0 5)).2.2 0 100 ∧ τ 0 11 = 0 ∧ zYc τ 136 = zMP (τ 4) (zYc s0 136) 2 10 ∧ ∀ i : Int, 0 ≤ i → i < 4 → τ 129 i = zoq (τ 4) (s0 129 i)))))))) args s 0 0 (xA h0) := ⟨_, rfl⟩
  rw [← eQ]
  generalize hHe : ([] : List Loc) = locs at hW ⊢
  obtain ⟨H, eH⟩ : ∃ H, H = s.heap := ⟨_, rfl⟩
  rw [← eH] at hW ⊢
  have hF : xFr (fun k => k = 0 ∨ k = 1 ∨ k = 107 ∨ k = 129 ∨ k = 137 ∨ k = 142 ∨ k = 143 ∨ k = 144 ∨ k = 145 ∨ k = 4 ∨ k = 5) s0 s0 := xFr.rf
  have k1_1 : s0 1 1 = s0 1 1 := rfl
  have k0_11 : s0 0 11 = s0 0 11 := rfl
  refine x_iload_n hx hb hl 1 rfl dX10_market_0 rfl ?_
  refine x_iconst hx hb dX10_market_1 ?_
  refine x_sipush hx hb dX10_market_2 (by decide) ?_
  refine x_goi (x_runS (As := [.int (xJ n), .int (xJ 1), .int (xJ 140)]) hx hb hml hown hT hE hW hl.1 cf_X10_isIn wq562 wq561 (c_X10_isIn l D g T h0 s0 hW.2.1 n rn 1 (by decide) 140 (by decide)) ⟨rfl, rfl, ⟨by decide, by decide⟩, ⟨by decide, by decide⟩⟩ rfl rfl (Nat.le_of_ble_eq_true rfl) dX10_market_5) hW (fun x1 s2 H locs rx1 hp3 hW => ?_)
  obtain ⟨es2, hp3⟩ := hp3
  subst es2
  have ghp3 := hp3
  refine x_if_eq (tgt := 22) hx hb rx1 dX10_market_8 (by decide) (fun c4 => ?_) (fun c4 => ?_)
  · skip
    refine x_iconst hx hb dX10_market_22 ?_
    rw [eQ]
    exact x_iret hx hb hr hlk hW (by decide) ⟨hF, ⟨p0, p1, p2, trivial⟩, Or.inl ⟨by omega, by omega, by omega, rfl, rfl, rfl, rfl, rfl⟩⟩ dX10_market_23
  refine x_iload_n hx hb hl 1 rfl dX10_market_11 rfl ?_
  refine x_aload_n hx hb hl 0 rfl dX10_market_12 rfl ?_
  refine x_get (j := 0) (v := .ref (h0 + 1)) hx hb hown hT hE hW cls_X10 (Or.inl (by decide)) (so_0 h0 g _) (by decide) rfl wq512 dX10_market_13 ?_
  refine x_getN (j := 1) (v := .int (xJ (s0 1 1))) hx hb hown hT hE hW cls_X8 (Or.inl (by decide)) (so_1 h0 g _) (by decide) rfl wn198 dX10_market_16 ?_
  refine x_rd hW (fun x5 ex5 rx5 => ?_)
  have bx5 : 0 ≤ x5 ∧ x5 ≤ 260 := by rw [ex5]; exact IC.t p0
  have fx5 : x5 = s0 1 1 := ex5.trans k1_1
  refine x_icmp_le (tgt := 24) hx hb rn rx5 dX10_market_19 (by decide) (fun c6 => ?_) (fun c6 => ?_)
  · skip
    refine x_aload_n hx hb hl 0 rfl dX10_market_24 rfl ?_
    refine x_get (j := 0) (v := .ref (h0 + 1)) hx hb hown hT hE hW cls_X10 (Or.inl (by decide)) (so_0 h0 g _) (by decide) rfl wq512 dX10_market_25 ?_
    refine x_iload_n hx hb hl 1 rfl dX10_market_28 rfl ?_
    refine x_gov (x_runVN (As := [.int (xJ n)]) hx hb hml hown hT hE hW hl.1 (Or.inl (by decide)) (so_1 h0 g _) rfl cf_X8_open wq566 wq1 wn564 (c_X8_openM l D g T h0 s0 hW.2.1 n rn (by omega) p0) ⟨rfl, rfl, ⟨by decide, by decide⟩, ⟨by decide, by decide⟩⟩ rfl rfl (Nat.le_of_ble_eq_true rfl) dX10_market_29) hW (fun s8 H locs hp9 hW => ?_)
    obtain ⟨fs8, hp9⟩ := hp9
    have hF10 := hF.call fs8 (fun k h => by omega)
    have q11 : IS s8 := IS_f (fun k hk => fs8 k (by unfold suIS at hk; omega)) p1
    have q12 : IQ s8 := IQ_f (fun k hk => fs8 k (by unfold suIQ at hk; omega)) p2
    have q13 : s8 0 11 = s0 0 11 := (congrFun (fs8 _ (by omega)) _).trans k0_11
    have ghp9 := hp9.2
    have O29 := ghp9
    have Q29 : s8 5 = s0 5 ∧ s8 4 = s0 4 ∧ s8 2 = s0 2 := ⟨fs8 5 (by first | decide | omega), fs8 4 (by first | decide | omega), fs8 2 (by first | decide | omega)⟩
    have A29 : ∀ k : Nat, 129 ≤ k → k < 218 → s8 k = s0 k := fun k k1 k2 => fs8 k (by omega)
    refine x_aload_n hx hb hl 0 rfl dX10_market_32 rfl ?_
    refine x_get (j := 1) (v := .ref (h0 + 3)) hx hb hown hT hE hW cls_X10 (Or.inl (by decide)) (so_0 h0 g _) (by decide) rfl wq513 dX10_market_33 ?_
    refine x_aload_n hx hb hl 0 rfl dX10_market_36 rfl ?_
    refine x_get (j := 0) (v := .ref (h0 + 1)) hx hb hown hT hE hW cls_X10 (Or.inl (by decide)) (so_0 h0 g _) (by decide) rfl wq512 dX10_market_37 ?_
    refine x_goi (x_runVN (As := [.ref (h0 + 1)]) hx hb hml hown hT hE hW hl.1 (Or.inl (by decide)) (so_3 h0 g _) rfl cf_X6_readFrom wq573 wq2 wn571 (c_X6_readFromF l D g T h0 s8 hW.2.1 (by omega) hp9.1.1 q12) ⟨rfl, rfl, ⟨by decide, by decide⟩, ⟨by decide, by decide⟩⟩ rfl rfl (Nat.le_of_ble_eq_true rfl) dX10_market_40) hW (fun x14 s15 H locs rx14 hp16 hW => ?_)
    obtain ⟨fs15, hp16⟩ := hp16
    have hF17 := hF10.call fs15 (fun k h => by omega)
    have q18 : IS s15 := IS_f (fun k hk => fs15 k (by unfold suIS at hk; omega)) q11
    have q19 : s15 0 11 = s0 0 11 := (congrFun (fs15 _ (by omega)) _).trans q13
    have ghp16 := hp16.2
    have R40 := ghp16
    rw [Q29.2.2, O29.1, Q29.1, Q29.2.1] at R40
    have A40 : ∀ k : Nat, 129 ≤ k → k < 218 → s15 k = s0 k := fun k k1 k2 => (fs15 k (by omega)).trans (A29 k k1 k2)
    refine lv_istore_n (lv' := [(2, .int (xJ x14)), (0, .ref (h0 + 0)), (1, .int (xJ n))]) hx hb dX10_market_43 rfl hl (by decide) rfl (fun ls hl => ?_)
    refine x_aload_n hx hb hl 1 rfl dX10_market_44 rfl ?_
    refine x_get (j := 0) (v := .ref (h0 + 1)) hx hb hown hT hE hW cls_X10 (Or.inl (by decide)) (so_0 h0 g _) (by decide) rfl wq512 dX10_market_45 ?_
    refine x_gov (x_runVN (As := []) hx hb hml hown hT hE hW hl.1 (Or.inl (by decide)) (so_1 h0 g _) rfl cf_X8_drop wq607 wq7 wn605 (c_X8_dropM l D g T h0 s15 hW.2.1 hp16.1.1) ⟨rfl, rfl, ⟨by decide, by decide⟩, ⟨by decide, by decide⟩⟩ rfl rfl (Nat.le_of_ble_eq_true rfl) dX10_market_48) hW (fun s21 H locs hp22 hW => ?_)
    obtain ⟨fs21, hp22⟩ := hp22
    have hF23 := hF17.call fs21 (fun k h => by omega)
    have q24 : IS s21 := IS_f (fun k hk => fs21 k (by unfold suIS at hk; omega)) q18
    have q25 : s21 0 11 = s0 0 11 := (congrFun (fs21 _ (by omega)) _).trans q19
    have q26 : IQ s21 := IQ_f (fun k hk => fs21 k (by unfold suIQ at hk; omega)) hp16.1.2.1
    have ghp22 := hp22.2
    have R48 : s21 5 = (zMk (s0 2) n (s0 5)).2.2 ∧ ((x14 = 1 ∧ (zMk (s0 2) n (s0 5)).1 = 0 ∧ ∀ j, 0 ≤ j → j < 100 → s21 4 j = (zMk (s0 2) n (s0 5)).2.2 j) ∨ (x14 = 0 ∧ (zMk (s0 2) n (s0 5)).1 ≠ 0 ∧ s21 1 4 = (zMk (s0 2) n (s0 5)).1 ∧ s21 4 = s0 4)) := by rw [fs21 5 (by first | decide | omega), fs21 4 (by first | decide | omega), hp22.1.2.2.1]; exact R40
    have A48 : ∀ k : Nat, 129 ≤ k → k < 218 → s21 k = s0 k := fun k k1 k2 => (fs21 k (by omega)).trans (A40 k k1 k2)
    have Y48 : zYc s21 136 = zYc s0 136 := zYc_f (fun o ho => A48 (136 + o) (by omega) (by omega))
    have L48 : s21 129 = s0 129 := A48 129 (by decide) (by decide)
    refine x_iload_n hx hb hl 0 rfl dX10_market_51 rfl ?_
    refine x_if_ne (tgt := 63) hx hb rx14 dX10_market_52 (by decide) (fun c27 => ?_) (fun c27 => ?_)
    · skip
      refine x_aload_n hx hb hl 1 rfl dX10_market_63 rfl ?_
      refine x_gov (x_runV (As := []) hx hb hml hown hT hE hW hl.1 (Or.inl (by decide)) (so_0 h0 g _) rfl cf_X10_sendAwayWhoCannotStand wq611 wq8 wq609 (c_X10_sendAwayWhoCannotStandF l D g T h0 s21 hW.2.1 hp22.1.1 q24 q26) ⟨rfl, rfl, ⟨by decide, by decide⟩, ⟨by decide, by decide⟩⟩ rfl rfl (Nat.le_of_ble_eq_true rfl) dX10_market_64) hW (fun s29 H locs hp30 hW => ?_)
      obtain ⟨fs29, hp30⟩ := hp30
      have hF31 := hF23.call fs29 (fun k h => by omega)
      have q32 : s29 0 11 = s0 0 11 := (congrFun (fs29 _ (by omega)) _).trans q25
      have q33 : s29 1 1 = 0 := (congrFun (fs29 _ (by omega)) _).trans hp22.1.2.1
      have q34 : s29 1 4 = s15 1 4 := (congrFun (fs29 _ (by omega)) _).trans hp22.1.2.2.1
      have ghp30 := hp30.2
      have S64 : s29 5 = (zMk (s0 2) n (s0 5)).2.2 ∧ ∀ j, 0 ≤ j → j < 100 → s29 4 j = (zMk (s0 2) n (s0 5)).2.2 j := by rw [fs29 5 (by first | decide | omega), fs29 4 (by first | decide | omega)]; exact ⟨R48.1, (R48.2.resolve_right (fun q => by omega)).2.2⟩
      have D64 : zYc s29 136 = zMP (s29 4) (zYc s0 136) 2 10 ∧ ∀ i : Int, 0 ≤ i → i < 4 → s29 129 i = zoq (s29 4) (s0 129 i) := by rw [fs29 4 (by first | decide | omega), ← Y48, ← L48]; exact ghp30
      refine x_aload_n hx hb hl 1 rfl dX10_market_67 rfl ?_
      refine x_iconst hx hb dX10_market_68 ?_
      refine x_put (j := 11) hx hb hown hT hE hW cls_X10 (by decide) (fun σ => so_0 h0 g σ) (by decide) (st_X10_11 h0 s29 0 0) (ln_X10_11 h0 _ _) wq523 rfl rfl rfl (by decide) dX10_market_69 (fun H locs s35 es35 hW => ?_)
      have q36 : s35 0 11 = 0 := by rw [es35, xU_s]
      have q37 : s35 1 1 = 0 := (show s35 1 1 = s29 1 1 from by rw [es35, xU_k _ _ _ (by first | decide | omega)]).trans q33
      have q38 : s35 1 4 = s15 1 4 := (show s35 1 4 = s29 1 4 from by rw [es35, xU_k _ _ _ (by first | decide | omega)]).trans q34
      have q39 : IC s35 := by rw [es35]; exact IC_o (by decide) hp30.1.1
      have q40 : IS s35 := by rw [es35]; exact IS_o (by unfold suIS; first | decide | omega) hp30.1.2.1
      have q41 : IQ s35 := by rw [es35]; exact IQ_o (by unfold suIQ; first | decide | omega) hp30.1.2.2.1
      have hF42 := hF31.put es35 (by omega)
      have S69 : s35 5 = (zMk (s0 2) n (s0 5)).2.2 ∧ ∀ j, 0 ≤ j → j < 100 → s35 4 j = (zMk (s0 2) n (s0 5)).2.2 j := by rw [es35, xU_k _ _ _ (by first | decide | omega), xU_k _ _ _ (by first | decide | omega)]; exact S64
      have D69 : zYc s35 136 = zMP (s35 4) (zYc s0 136) 2 10 ∧ ∀ i : Int, 0 ≤ i → i < 4 → s35 129 i = zoq (s35 4) (s0 129 i) := by rw [es35, zYc_o (by omega), xU_k _ _ _ (by first | decide | omega), xU_k _ _ _ (by first | decide | omega)]; exact D64
      refine x_bipush hx hb dX10_market_72 (by decide) ?_
      refine x_aload_n hx hb hl 1 rfl dX10_market_74 rfl ?_
      refine x_get (j := 1) (v := .ref (h0 + 3)) hx hb hown hT hE hW cls_X10 (Or.inl (by decide)) (so_0 h0 g _) (by decide) rfl wq513 dX10_market_75 ?_
      refine x_iconst hx hb dX10_market_78 ?_
      refine x_goi (x_runVN (As := [.int (xJ 0)]) hx hb hml hown hT hE hW hl.1 (Or.inl (by decide)) (so_3 h0 g _) rfl cf_X6_howMany wq627 wq12 wn625 (c_X6_howManyM l D g T h0 s35 hW.2.1 0 (by decide) q39) ⟨rfl, rfl, ⟨by decide, by decide⟩, ⟨by decide, by decide⟩⟩ rfl rfl (Nat.le_of_ble_eq_true rfl) dX10_market_79) hW (fun x43 s44 H locs rx43 hp45 hW => ?_)
      obtain ⟨es44, hp45⟩ := hp45
      subst es44
      have ghp45 := hp45
      have H79 := ghp45
      rw [zct_g 100 (fun i a b => S69.2 i a (by omega))] at H79
      refine x_isub hx hb dX10_market_82 ?_
      rw [eQ]
      exact x_iret hx hb hr hlk hW (by omega) ⟨hF42, ⟨q39, q40, q41, trivial⟩, Or.inr ⟨by omega, by omega, S69.1, Or.inr ⟨(R48.2.resolve_right (fun q => by omega)).2.1, S69.2, by omega, by omega, D69⟩⟩⟩ dX10_market_83
    refine x_aload_n hx hb hl 1 rfl dX10_market_55 rfl ?_
    refine x_get (j := 0) (v := .ref (h0 + 1)) hx hb hown hT hE hW cls_X10 (Or.inl (by decide)) (so_0 h0 g _) (by decide) rfl wq512 dX10_market_56 ?_
    refine x_getN (j := 4) (v := .int (xJ (s21 1 4))) hx hb hown hT hE hW cls_X8 (Or.inl (by decide)) (so_1 h0 g _) (by decide) rfl wn205 dX10_market_59 ?_
    refine x_rd hW (fun x46 ex46 rx46 => ?_)
    have fx46 : x46 = s15 1 4 := ex46.trans hp22.1.2.2.1
    rw [eQ]
    exact x_iret hx hb hr hlk hW rx46 ⟨hF23, ⟨hp22.1.1, q24, q26, trivial⟩, by
        have z := (R48.2.resolve_left (fun q => by omega))
        exact Or.inr ⟨by omega, by omega, R48.1, Or.inl ⟨z.2.1, by omega, z.2.2.2, by omega, Y48, L48⟩⟩⟩ dX10_market_62
  refine x_iconst hx hb dX10_market_22 ?_
  rw [eQ]
  exact x_iret hx hb hr hlk hW (by decide) ⟨hF, ⟨p0, p1, p2, trivial⟩, Or.inl ⟨by omega, by omega, by omega, rfl, rfl, rfl, rfl, rfl⟩⟩ dX10_market_23

set_option maxHeartbeats 4000000 in
set_option maxRecDepth 100000 in
theorem c_X0_spotsInLampShadowsF (l : Launch) (D : va_G) (g : xG) (T : Nat × Nat × Nat) (h0 : Nat) (s0 : xS) (hσ : xRR s0) (d : Nat) (hd : xDay d) (x : Int) (rx : xR x) (q9 : zLaw) (K9 : Int → Int) (l9 : Int → Int) (hok : zLok q9) (hlc : zLD s0 q9) (hK : ∀ t : Int, 0 ≤ t → t < 100 → s0 4 t = K9 t) (hlm : ∀ i : Int, 0 ≤ i → i < 4 → s0 129 i = l9 i ∧ (l9 i = -1 ∨ (0 ≤ l9 i ∧ l9 i < 100))) (hJ : ∀ j : Int, 0 ≤ j → j < 2 → s0 (d + 1) j = -1 ∨ (0 ≤ s0 (d + 1) j ∧ s0 (d + 1) j < 100)) (hx0 : x = -1 ∨ (0 ≤ x ∧ x < 100)) (p0 : IC s0) (p1 : IS s0) : Met l yX0_spotsInLampShadows (xws yX0_spotsInLampShadows cX0_spotsInLampShadows 3 (some .int)) { frames := 4, cells := 0, slots := 0, locals := 99 } (xP [.ref (h0 + 128), .ref (h0 + d), .int (xJ x)] D g T h0 s0) (xQi D g h0 (fun r τ => xFr (fun k => k = 115 ∨ k = 116 ∨ k = 130 ∨ k = 131 ∨ k = 132 ∨ k = 133) s0 τ ∧ (((IC τ) ∧ (IS τ) ∧ True) ∧ (True)))) 0 0 (xA h0) := by
  refine x_met hσ (by decide) (Nat.le_of_ble_eq_true rfl) ?_
  intro p e s m args below meth c hx hb hr hml hown hT hlk hnm hE hW ls hl
  have hl : lv_has ls 3 [(0, .ref (h0 + 128)), (1, .ref (h0 + d)), (2, .int (xJ x))] := hl
  obtain ⟨Q, eQ⟩ : ∃ Q, Q = MQ below (xQi D g h0 (fun r τ => xFr (fun k => k = 115 ∨ k = 116 ∨ k = 130 ∨ k = 131 ∨ k = 132 ∨ k = 133) s0 τ ∧ (((IC τ) ∧ (IS τ) ∧ True) ∧ (True)))) args s 0 0 (xA h0) := ⟨_, rfl⟩
  rw [← eQ]
  generalize hHe : ([] : List Loc) = locs at hW ⊢
  obtain ⟨H, eH⟩ : ∃ H, H = s.heap := ⟨_, rfl⟩
  rw [← eH] at hW ⊢
  have hF : xFr (fun k => k = 115 ∨ k = 116 ∨ k = 130 ∨ k = 131 ∨ k = 132 ∨ k = 133) s0 s0 := xFr.rf
  have hbd : (136 ≤ d ∧ d < 209) ∧ (d ≤ 146 ∨ 158 ≤ d) := by unfold xDay at hd; omega
  have k1_1 : s0 1 1 = s0 1 1 := rfl
  have kd_7 : s0 d 7 = s0 d 7 := rfl
  have kd_7 : s0 d 7 = s0 d 7 := rfl
  refine x_aload_n hx hb hl 0 rfl dX0_spotsInLampShadows_0 rfl ?_
  refine x_aload_n hx hb hl 1 rfl dX0_spotsInLampShadows_1 rfl ?_
  refine x_iconst hx hb dX0_spotsInLampShadows_2 ?_
  refine x_iconst hx hb dX0_spotsInLampShadows_3 ?_
  refine x_gov (x_runV (As := [.ref (h0 + d), .int (xJ 0), .int (xJ 1)]) hx hb hml hown hT hE hW hl.1 (Or.inl (by decide)) (so_128 h0 g _) rfl cf_X0_cast wq824 wq46 wq822 (c_X0_castF l D g T h0 s0 hW.2.1 d hd 0 (by decide) 1 (by decide) q9 K9 l9 (hok) (by first | exact hlc | exact hlc.f (fun k hk => hF k (by omega))) (by first | exact hK | exact fun t t1 t2 => by rw [hF 4 (by omega)]; exact hK t t1 t2) (by first | exact hlm | exact fun i i1 i2 => by rw [hF 129 (by omega)]; exact hlm i i1 i2) (by first | exact hJ | exact fun i i1 i2 => by rw [hF _ (by omega)]; exact hJ i i1 i2) p0 p1) ⟨rfl, rfl, ⟨by decide, by decide⟩, ⟨by decide, by decide⟩⟩ rfl rfl (Nat.le_of_ble_eq_true rfl) dX0_spotsInLampShadows_4) hW (fun s2 H locs hp3 hW => ?_)
  obtain ⟨fs2, hp3⟩ := hp3
  have hF4 := hF.call fs2 (fun k h => by omega)
  have q5 : s2 1 1 = s0 1 1 := (congrFun (fs2 _ (by omega)) _).trans k1_1
  have q6 : s2 d 7 = s0 d 7 := (congrFun (fs2 _ (by omega)) _).trans kd_7
  have ghp3 := hp3.2
  have H4 := ghp3
  refine x_aload_n hx hb hl 0 rfl dX0_spotsInLampShadows_7 rfl ?_
  refine x_aload_n hx hb hl 1 rfl dX0_spotsInLampShadows_8 rfl ?_
  refine x_iload_n hx hb hl 2 rfl dX0_spotsInLampShadows_9 rfl ?_
  refine x_gov (x_runV (As := [.ref (h0 + d), .int (xJ x)]) hx hb hml hown hT hE hW hl.1 (Or.inl (by decide)) (so_128 h0 g _) rfl cf_X0_castOfLamp wq845 wq50 wq843 (c_X0_castOfLampF l D g T h0 s2 hW.2.1 d hd x rx K9 (by first | exact hK | exact fun t t1 t2 => by rw [hF4 4 (by first | decide | omega)]; exact hK t t1 t2) (by omega) (H4.1) (fun t t1 t2 => by rw [H4.2.2 t t1 t2]; exact zLy_r0) hp3.1.1) ⟨rfl, rfl, ⟨by decide, by decide⟩, ⟨by decide, by decide⟩⟩ rfl rfl (Nat.le_of_ble_eq_true rfl) dX0_spotsInLampShadows_10) hW (fun s8 H locs hp9 hW => ?_)
  obtain ⟨fs8, hp9⟩ := hp9
  have hF10 := hF4.call fs8 (fun k h => by omega)
  have q11 : s8 1 1 = s0 1 1 := (congrFun (fs8 _ (by omega)) _).trans q5
  have q12 : s8 d 7 = s0 d 7 := (congrFun (fs8 _ (by omega)) _).trans q6
  have ghp9 := hp9.2
  have H10 := ghp9
  have T10 : s8 133 = s2 133 := fs8 133 (by first | decide | omega)
  refine x_aload_n hx hb hl 0 rfl dX0_spotsInLampShadows_13 rfl ?_
  refine x_get (j := 3) (v := .ref (h0 + 130)) hx hb hown hT hE hW cls_X0 (Or.inl (by decide)) (so_128 h0 g _) (by decide) rfl wq357 dX0_spotsInLampShadows_14 ?_
  refine x_getN (j := 3) (v := .int (xJ (s8 130 3))) hx hb hown hT hE hW cls_X7 (Or.inl (by decide)) (so_130 h0 g _) (by decide) rfl wn340 dX0_spotsInLampShadows_17 ?_
  refine x_rd hW (fun x13 ex13 rx13 => ?_)
  have bx13 : 0 ≤ x13 ∧ x13 ≤ 100 := by rw [ex13]; exact IC.z hp9.1.1
  rw [eQ]
  exact x_iret hx hb hr hlk hW rx13 ⟨hF10, ⟨hp9.1.1, (⟨H10.1, fun t t1 t2 c => absurd (by rw [T10]; exact H4.2.1 t t1 t2) c⟩), trivial⟩, trivial⟩ dX0_spotsInLampShadows_20
set_option maxHeartbeats 4000000 in
set_option maxRecDepth 100000 in
theorem c_X0_walkOnF (l : Launch) (D : va_G) (g : xG) (T : Nat × Nat × Nat) (h0 : Nat) (s0 : xS) (hσ : xRR s0) (d : Nat) (hd : xDay d) (K9 : Int → Int) (n9 : Int → Int) (w9 : Int → Int → Int) (q9 : zLaw) (l9 : Int → Int) (hok : zLok q9) (hlc : zLD s0 q9) (hK : ∀ t : Int, 0 ≤ t → t < 100 → s0 4 t = K9 t) (hlm : ∀ i : Int, 0 ≤ i → i < 4 → s0 129 i = l9 i ∧ (l9 i = -1 ∨ (0 ≤ l9 i ∧ l9 i < 100))) (hw : zWc s0 d n9 w9) (hok4 : zok (zY4 (zYc s0 d))) (p0 : IC s0) (p1 : IS s0) (p2 : IQ s0) : Met l yX0_walkOn (xws yX0_walkOn cX0_walkOn 2 (some .boolean)) { frames := 4, cells := 0, slots := 0, locals := 99 } (xP [.ref (h0 + 128), .ref (h0 + d)] D g T h0 s0) (xQi D g h0 (fun r τ => xFr (fun k => k = 115 ∨ k = 116 ∨ k = 130 ∨ k = 131 ∨ k = 132 ∨ k = 133 ∨ k = d ∨ k = d + 1 ∨ k = d + 5) s0 τ ∧ (((IC τ) ∧ (IS τ) ∧ (IQ τ) ∧ True) ∧ ((r = 0 ∨ r = 1) ∧ zok (zY4 (zYc τ d)))))) 0 0 (xA h0) := by
  refine x_met hσ (by decide) (Nat.le_of_ble_eq_true rfl) ?_
  intro p e s m args below meth c hx hb hr hml hown hT hlk hnm hE hW ls hl
  have hl : lv_has ls 2 [(0, .ref (h0 + 128)), (1, .ref (h0 + d))] := hl
  obtain ⟨Q, eQ⟩ : ∃ Q, Q = MQ below (xQi D g h0 (fun r τ => xFr (fun k => k = 115 ∨ k = 116 ∨ k = 130 ∨ k = 131 ∨ k = 132 ∨ k = 133 ∨ k = d ∨ k = d + 1 ∨ k = d + 5) s0 τ ∧ (((IC τ) ∧ (IS τ) ∧ (IQ τ) ∧ True) ∧ ((r = 0 ∨ r = 1) ∧ zok (zY4 (zYc τ d)))))) args s 0 0 (xA h0) := ⟨_, rfl⟩
  rw [← eQ]
  generalize hHe : ([] : List Loc) = locs at hW ⊢
  obtain ⟨H, eH⟩ : ∃ H, H = s.heap := ⟨_, rfl⟩
  rw [← eH] at hW ⊢
  have hF : xFr (fun k => k = 115 ∨ k = 116 ∨ k = 130 ∨ k = 131 ∨ k = 132 ∨ k = 133 ∨ k = d ∨ k = d + 1 ∨ k = d + 5) s0 s0 := xFr.rf
  have hbd : (136 ≤ d ∧ d < 209) ∧ (d ≤ 146 ∨ 158 ≤ d) := by unfold xDay at hd; omega
  have k1_1 : s0 1 1 = s0 1 1 := rfl
  refine x_aload_n hx hb hl 1 rfl dX0_walkOn_0 rfl ?_
  refine x_getN (j := 7) (v := .int (xJ (s0 d 7))) hx hb hown hT hE hW cls_X2 (Or.inl (by omega)) (so_day0 h0 g hd _) (by decide) rfl wn402 dX0_walkOn_1 ?_
  refine x_rd hW (fun x1 ex1 rx1 => ?_)
  have bx1 : 0 ≤ x1 ∧ x1 ≤ 9999 := by rw [ex1]; exact IC.m p0 hd
  have q2 : s0 d 7 = x1 := ex1.symm
  refine x_sipush hx hb dX0_walkOn_4 (by decide) ?_
  refine x_icmp_lt (tgt := 12) hx hb rx1 (by decide) dX0_walkOn_7 (by decide) (fun c3 => ?_) (fun c3 => ?_)
  · skip
    refine x_aload_n hx hb hl 0 rfl dX0_walkOn_12 rfl ?_
    refine x_aload_n hx hb hl 1 rfl dX0_walkOn_13 rfl ?_
    refine x_gov (x_runV (As := [.ref (h0 + d)]) hx hb hml hown hT hE hW hl.1 (Or.inl (by decide)) (so_128 h0 g _) rfl cf_X0_judgesStep wq769 wq36 wq767 (c_X0_judgesStepJ l D g T h0 s0 hW.2.1 d hd K9 n9 w9 (by first | exact hK | exact fun t t1 t2 => by rw [hF 4 (by omega)]; exact hK t t1 t2) (by first | exact hw | exact hw.f (hF _ (by omega)) (fun k hk => hF k (by first | omega | (unfold xDay at hd; omega)))) (by rw [zt_Y]; exact hok4) p0) ⟨rfl, rfl, ⟨by decide, by decide⟩, ⟨by decide, by decide⟩⟩ rfl rfl (Nat.le_of_ble_eq_true rfl) dX0_walkOn_14) hW (fun s5 H locs hp6 hW => ?_)
    obtain ⟨fs5, hp6⟩ := hp6
    have hF7 := hF.call fs5 (fun k h => by omega)
    have q8 : IS s5 := IS_f (fun k hk => fs5 k (by unfold suIS at hk; omega)) p1
    have q10 : IQ s5 := IQ_f (fun k hk => fs5 k (by unfold suIQ at hk; omega)) p2
    have q11 : s5 1 1 = s0 1 1 := (congrFun (fs5 _ (by omega)) _).trans k1_1
    have q12 : s5 d 7 = x1 := (congrFun (fs5 _ (by omega)) _).trans q2
    have ghp6 := hp6.2
    have H14 := ghp6
    have Y14 : zYc s5 d = zYj (zYc s0 d) (zjs K9 n9 w9 (zY4 (zYc s0 d))) := zYc_js (by rw [← zt_Y (σ := s0)]; exact H14) (fs5 d (by omega)) (fun o ho => fs5 (d + o) (by omega))
    have K14 : zok (zY4 (zYc s5 d)) := by rw [Y14, zYj_4]; exact zok_s hok4
    have J14 : ∀ j : Int, 0 ≤ j → j < 2 → s5 (d + 1) j = -1 ∨ (0 ≤ s5 (d + 1) j ∧ s5 (d + 1) j < 100) := fun j j1 j2 => by rw [← zYc_J (σ := s5) (d := d) ⟨j1, j2⟩]; exact zok_j K14 j j1 j2
    refine x_aload_n hx hb hl 0 rfl dX0_walkOn_17 rfl ?_
    refine x_aload_n hx hb hl 1 rfl dX0_walkOn_18 rfl ?_
    refine x_iconst hx hb dX0_walkOn_19 ?_
    refine x_iconst hx hb dX0_walkOn_20 ?_
    refine x_gov (x_runV (As := [.ref (h0 + d), .int (xJ 1), .int (xJ 0)]) hx hb hml hown hT hE hW hl.1 (Or.inl (by decide)) (so_128 h0 g _) rfl cf_X0_cast wq824 wq46 wq822 (c_X0_castF l D g T h0 s5 hW.2.1 d hd 1 (by decide) 0 (by decide) q9 K9 l9 (hok) (by first | exact hlc | exact hlc.f (fun k hk => hF7 k (by omega))) (by first | exact hK | exact fun t t1 t2 => by rw [hF7 4 (by first | decide | omega)]; exact hK t t1 t2) (by first | exact hlm | exact fun i i1 i2 => by rw [hF7 129 (by first | decide | omega)]; exact hlm i i1 i2) (J14) hp6.1.1 q8) ⟨rfl, rfl, ⟨by decide, by decide⟩, ⟨by decide, by decide⟩⟩ rfl rfl (Nat.le_of_ble_eq_true rfl) dX0_walkOn_21) hW (fun s14 H locs hp15 hW => ?_)
    obtain ⟨fs14, hp15⟩ := hp15
    have hF16 := hF7.call fs14 (fun k h => by omega)
    have q17 : IQ s14 := IQ_f (fun k hk => fs14 k (by unfold suIQ at hk; omega)) q10
    have q18 : s14 1 1 = s0 1 1 := (congrFun (fs14 _ (by omega)) _).trans q11
    have q19 : s14 d 7 = x1 := (congrFun (fs14 _ (by omega)) _).trans q12
    have ghp15 := hp15.2
    have K21 : zok (zY4 (zYc s14 d)) := by rw [show zYc s14 d = zYc s5 d from zYc_f (fun o ho => fs14 (d + o) (by omega))]; exact K14
    refine x_aload_n hx hb hl 1 rfl dX0_walkOn_24 rfl ?_
    refine lv_dup hx hb dX0_walkOn_25 rfl ?_
    refine x_getN (j := 7) (v := .int (xJ (s14 d 7))) hx hb hown hT hE hW cls_X2 (Or.inl (by omega)) (so_day0 h0 g hd _) (by decide) rfl wn402 dX0_walkOn_26 ?_
    refine x_rd hW (fun x20 ex20 rx20 => ?_)
    have bx20 : 0 ≤ x20 ∧ x20 ≤ 9999 := by rw [ex20]; exact IC.m hp15.1.1 hd
    have fx20 : x20 = x1 := ex20.trans q19
    refine x_iconst hx hb dX0_walkOn_29 ?_
    refine x_iadd hx hb dX0_walkOn_30 ?_
    refine x_putN (j := 7) hx hb hown hT hE hW cls_X2 (by omega) (fun σ => so_day0 h0 g hd σ) (by decide) (st_X2_7 h0 s14 d (x20 + 1)) (ln_X2_7 h0 _ _) wn402 rfl rfl rfl (by omega) dX0_walkOn_31 (fun H locs s21 es21 hW => ?_)
    have q22 : IQ s21 := by rw [es21]; exact IQ_o (by unfold suIQ; first | decide | omega) q17
    have q23 : s21 1 1 = s0 1 1 := (show s21 1 1 = s14 1 1 from by rw [es21, xU_k _ _ _ (by first | decide | omega)]).trans q18
    have q24 : s21 d 7 = (x20 + 1) := by rw [es21, xU_s]
    have q25 : IC s21 := by rw [es21]; exact IC_d hd hp15.1.1 (by omega)
    have q26 : IS s21 := by rw [es21]; exact IS_o (by unfold suIS; first | decide | omega) hp15.1.2.1
    have hF27 := hF16.put es21 (by omega)
    have E31 := es21
    refine x_iconst hx hb dX0_walkOn_34 ?_
    rw [eQ]
    exact x_zret hx hb hr hlk hW (by omega) ⟨hF27, ⟨q25, q26, q22, trivial⟩, ⟨by omega, by rw [E31, zYc_u44, zY4_x (by decide)]; exact K21⟩⟩ dX0_walkOn_35
  refine x_iconst hx hb dX0_walkOn_10 ?_
  rw [eQ]
  exact x_zret hx hb hr hlk hW (by omega) ⟨hF, ⟨p0, p1, p2, trivial⟩, ⟨by omega, hok4⟩⟩ dX0_walkOn_11

set_option maxHeartbeats 4000000 in
set_option maxRecDepth 100000 in
theorem c_X10_hungF (l : Launch) (D : va_G) (g : xG) (T : Nat × Nat × Nat) (h0 : Nat) (s0 : xS) (hσ : xRR s0) (x : Int) (rx : xR x) (K9 : Int → Int) (n9 : Int → Int) (w9 : Int → Int → Int) (q9 : zLaw) (l9 : Int → Int) (hok : zLok q9) (hlc : zLD s0 q9) (hK : ∀ t : Int, 0 ≤ t → t < 100 → s0 4 t = K9 t) (hlm : ∀ i : Int, 0 ≤ i → i < 4 → s0 129 i = l9 i ∧ (l9 i = -1 ∨ (0 ≤ l9 i ∧ l9 i < 100))) (hw : zWc s0 136 n9 w9) (hY : zYq (zYc s0 136)) (hok4 : zok (zY4 (zYc s0 136))) (p0 : IC s0) (p1 : IS s0) (p2 : IQ s0) : Met l yX10_hung (xws yX10_hung cX10_hung 6 (some .int)) { frames := 5, cells := 0, slots := 0, locals := 121 } (xP [.ref (h0 + 0), .int (xJ x)] D g T h0 s0) (xQi D g h0 (fun r τ => xFr (fun k => k = 115 ∨ k = 116 ∨ k = 130 ∨ k = 131 ∨ k = 132 ∨ k = 133) s0 τ ∧ (((IC τ) ∧ (IS τ) ∧ (IQ τ) ∧ True) ∧ (True)))) 0 0 (xA h0) := by
  refine x_met hσ (by decide) (Nat.le_of_ble_eq_true rfl) ?_
  intro p e s m args below meth c hx hb hr hml hown hT hlk hnm hE hW ls hl
  have hl : lv_has ls 6 [(0, .ref (h0 + 0)), (1, .int (xJ x))] := hl
  obtain ⟨Q, eQ⟩ : ∃ Q, Q = MQ below (xQi D g h0 (fun r τ => xFr (fun k => k = 115 ∨ k = 116 ∨ k = 130 ∨ k = 131 ∨ k = 132 ∨ k = 133) s0 τ ∧ (((IC τ) ∧ (IS τ) ∧ (IQ τ) ∧ True) ∧ (True)))) args s 0 0 (xA h0) := ⟨_, rfl⟩
  rw [← eQ]
  generalize hHe : ([] : List Loc) = locs at hW ⊢
  obtain ⟨H, eH⟩ : ∃ H, H = s.heap := ⟨_, rfl⟩
  rw [← eH] at hW ⊢
  have hF : xFr (fun k => k = 115 ∨ k = 116 ∨ k = 130 ∨ k = 131 ∨ k = 132 ∨ k = 133) s0 s0 := xFr.rf
  have k1_1 : s0 1 1 = s0 1 1 := rfl
  refine x_iload_n hx hb hl 1 rfl dX10_hung_0 rfl ?_
  refine x_iconst hx hb dX10_hung_1 ?_
  refine x_iconst hx hb dX10_hung_2 ?_
  refine x_goi (x_runS (As := [.int (xJ x), .int (xJ 0), .int (xJ 1)]) hx hb hml hown hT hE hW hl.1 cf_X10_isIn wq562 wq561 (c_X10_isIn l D g T h0 s0 hW.2.1 x rx 0 (by decide) 1 (by decide)) ⟨rfl, rfl, ⟨by decide, by decide⟩, ⟨by decide, by decide⟩⟩ rfl rfl (Nat.le_of_ble_eq_true rfl) dX10_hung_3) hW (fun x1 s2 H locs rx1 hp3 hW => ?_)
  obtain ⟨es2, hp3⟩ := hp3
  subst es2
  have ghp3 := hp3
  refine x_if_ne (tgt := 11) hx hb rx1 dX10_hung_6 (by decide) (fun c4 => ?_) (fun c4 => ?_)
  · skip
    refine x_bipush hx hb dX10_hung_11 (by decide) ?_
    refine lv_istore_n (lv' := [(2, .int (xJ (-2))), (0, .ref (h0 + 0)), (1, .int (xJ x))]) hx hb dX10_hung_13 rfl hl (by decide) rfl (fun ls hl => ?_)
    refine x_iconst hx hb dX10_hung_14 ?_
    refine lv_istore_n (lv' := [(3, .int (xJ (-1))), (2, .int (xJ (-2))), (0, .ref (h0 + 0)), (1, .int (xJ x))]) hx hb dX10_hung_15 rfl hl (by decide) rfl (fun ls hl => ?_)
    refine x_iconst hx hb dX10_hung_16 ?_
    refine lv_istore (lv' := [(4, .int (xJ 0)), (3, .int (xJ (-1))), (2, .int (xJ (-2))), (0, .ref (h0 + 0)), (1, .int (xJ x))]) hx hb dX10_hung_17 hl (by decide) rfl (fun ls hl => ?_)
    have L19 : ∀ (fu : Nat) (i2_19 : Int) (i3_19 : Int) (i4_19 : Int) (s_19 : xS) (H : Heap) (locs : List Loc) (ls : Array Slot), (xR i2_19) → (xR i3_19) → (xR i4_19) → (xFr (fun k => k = 115 ∨ k = 116 ∨ k = 130 ∨ k = 131 ∨ k = 132 ∨ k = 133) s0 s_19) → (IC s_19) → (IS s_19) → (IQ s_19) → (s_19 1 1 = s0 1 1) → (0 ≤ i4_19) → (i4_19 ≤ 100) → (100 + 1 - i4_19).toNat < fu → xW D g h0 s H locs s_19 → lv_has ls 6 [(0, .ref (h0 + 0)), (1, .int (xJ x)), (2, .int (xJ i2_19)), (3, .int (xJ i3_19)), (4, .int (xJ i4_19))] → W p l e { frames := 5, cells := 0, slots := 0, locals := 121 } s m args below meth c H locs 0 0 Q (F0 m 19 ls []) := by
      intro fu
      induction fu with
      | zero => intro i2_19 i3_19 i4_19 s_19 H locs ls ri2_19 ri3_19 ri4_19 hF_19 q19_0 q19_1 q19_2 q19_3 v19_0 v19_1 hm; exact absurd hm (Nat.not_lt_zero _)
      | succ fu ih19 =>
        intro i2_19 i3_19 i4_19 s_19 H locs ls ri2_19 ri3_19 ri4_19 hF_19 q19_0 q19_1 q19_2 q19_3 v19_0 v19_1 hm hW hl
        have hm_19 := fun (_ : Unit) => hm
        clear hm
        refine x_iload hx hb hl 4 rfl dX10_hung_19 ?_
        refine x_bipush hx hb dX10_hung_21 (by decide) ?_
        refine x_icmp_ge (tgt := 71) hx hb ri4_19 (by decide) dX10_hung_23 (by decide) (fun c5 => ?_) (fun c5 => ?_)
        · skip
          refine x_iload_n hx hb hl 1 rfl dX10_hung_71 rfl ?_
          refine x_if_ne (tgt := 79) hx hb rx dX10_hung_72 (by decide) (fun c6 => ?_) (fun c6 => ?_)
          · skip
            refine x_iload_n hx hb hl 3 rfl dX10_hung_79 rfl ?_
            refine x_iconst hx hb dX10_hung_80 ?_
            refine x_mmax hx hb hml hl.1 hown hT wq1073 wq594 wq180 wq595 ⟨by decide, Nat.le_of_ble_eq_true rfl, by decide, by decide⟩ ri3_19 (by decide) dX10_hung_81 ?_
            refine x_nm (fun x7 ex7 => ?_)
            have fx7 : (x7 = i3_19 ∧ 0 ≤ i3_19) ∨ (x7 = 0 ∧ i3_19 ≤ 0) := by rw [ex7]; split <;> omega
            rw [eQ]
            exact x_iret hx hb hr hlk hW (by omega) ⟨hF_19, ⟨q19_0, q19_1, q19_2, trivial⟩, trivial⟩ dX10_hung_84
          refine x_iload_n hx hb hl 2 rfl dX10_hung_75 rfl ?_
          refine lv_goto (tgt := 84) hx hb dX10_hung_76 (by decide) ?_
          rw [eQ]
          exact x_iret hx hb hr hlk hW ri2_19 ⟨hF_19, ⟨q19_0, q19_1, q19_2, trivial⟩, trivial⟩ dX10_hung_84
        refine x_aload_n hx hb hl 0 rfl dX10_hung_26 rfl ?_
        refine x_iload hx hb hl 4 rfl dX10_hung_27 ?_
        refine x_goi (x_runV (As := [.int (xJ i4_19)]) hx hb hml hown hT hE hW hl.1 (Or.inl (by decide)) (so_0 h0 g _) rfl cf_X10_isFreeForLamp wq1065 wq87 wq1063 (c_X10_isFreeForLamp l D g T h0 s_19 hW.2.1 i4_19 ri4_19 q19_0) ⟨rfl, rfl, ⟨by decide, by decide⟩, ⟨by decide, by decide⟩⟩ rfl rfl (Nat.le_of_ble_eq_true rfl) dX10_hung_29) hW (fun x8 s9 H locs rx8 hp10 hW => ?_)
        obtain ⟨es9, hp10⟩ := hp10
        subst es9
        have ghp10 := hp10
        refine x_if_ne (tgt := 38) hx hb rx8 dX10_hung_32 (by decide) (fun c11 => ?_) (fun c11 => ?_)
        · skip
          refine x_aload_n hx hb hl 0 rfl dX10_hung_38 rfl ?_
          refine x_get (j := 5) (v := .ref (h0 + 128)) hx hb hown hT hE hW cls_X10 (Or.inl (by decide)) (so_0 h0 g _) (by decide) rfl wq517 dX10_hung_39 ?_
          refine x_aload_n hx hb hl 0 rfl dX10_hung_42 rfl ?_
          refine x_get (j := 8) (v := .ref (h0 + 136)) hx hb hown hT hE hW cls_X10 (Or.inl (by decide)) (so_0 h0 g _) (by decide) rfl wq520 dX10_hung_43 ?_
          refine x_iload hx hb hl 4 rfl dX10_hung_46 ?_
          refine x_goi (x_runVN (As := [.ref (h0 + 136), .int (xJ i4_19)]) hx hb hml hown hT hE hW hl.1 (Or.inl (by decide)) (so_128 h0 g _) rfl cf_X0_spotsInLampShadows wq1071 wq88 wn1069 (c_X0_spotsInLampShadowsF l D g T h0 s_19 hW.2.1 136 xd_136 i4_19 ri4_19 q9 K9 l9 (hok) (by first | exact hlc | exact hlc.f (fun k hk => hF_19 k (by omega))) (by first | exact hK | exact fun t t1 t2 => by rw [hF_19 4 (by first | decide | omega)]; exact hK t t1 t2) (by first | exact hlm | exact fun i i1 i2 => by rw [hF_19 129 (by first | decide | omega)]; exact hlm i i1 i2) (fun j j1 j2 => by
              rw [hF_19 137 (by first | decide | omega)]
              have a := zok_j hok4 j j1 j2
              have b : zYc s0 136 j = s0 137 j := zYc_J ⟨j1, j2⟩
              omega) (by omega) q19_0 q19_1) ⟨rfl, rfl, ⟨by decide, by decide⟩, ⟨by decide, by decide⟩⟩ rfl rfl (Nat.le_of_ble_eq_true rfl) dX10_hung_48) hW (fun x12 s13 H locs rx12 hp14 hW => ?_)
          obtain ⟨fs13, hp14⟩ := hp14
          have hF15 := hF_19.call fs13 (fun k h => by omega)
          have q16 : IQ s13 := IQ_f (fun k hk => fs13 k (by unfold suIQ at hk; omega)) q19_2
          have q17 : s13 1 1 = s0 1 1 := (congrFun (fs13 _ (by omega)) _).trans q19_3
          have ghp14 := hp14.2
          refine lv_istore (lv' := [(5, .int (xJ x12)), (0, .ref (h0 + 0)), (1, .int (xJ x)), (2, .int (xJ i2_19)), (3, .int (xJ i3_19)), (4, .int (xJ i4_19))]) hx hb dX10_hung_51 hl (by decide) rfl (fun ls hl => ?_)
          refine x_iload hx hb hl 0 rfl dX10_hung_53 ?_
          refine x_iload_n hx hb hl 4 rfl dX10_hung_55 rfl ?_
          refine x_icmp_le (tgt := 65) hx hb rx12 ri3_19 dX10_hung_56 (by decide) (fun c18 => ?_) (fun c18 => ?_)
          · skip
            refine x_iinc (lv' := [(4, .int (xJ (i4_19 + 1))), (5, .int (xJ x12)), (0, .ref (h0 + 0)), (1, .int (xJ x)), (2, .int (xJ i2_19)), (3, .int (xJ i3_19))]) hx hb hl 5 rfl dX10_hung_65 (by decide) rfl (fun ls hl => ?_)
            refine lv_goto (tgt := 19) hx hb dX10_hung_68 (by decide) ?_
            exact ih19 i2_19 i3_19 (i4_19 + 1) s13 H locs ls ri2_19 ri3_19 (by omega) hF15 hp14.1.1 hp14.1.2.1 q16 q17 (by omega) (by omega) (by have hm := hm_19 (); omega) hW (lv_sub hl [2, 3, 4, 5, 0] rfl)
          refine x_iload hx hb hl 0 rfl dX10_hung_59 ?_
          refine lv_istore_n (lv' := [(3, .int (xJ x12)), (5, .int (xJ x12)), (0, .ref (h0 + 0)), (1, .int (xJ x)), (2, .int (xJ i2_19)), (4, .int (xJ i4_19))]) hx hb dX10_hung_61 rfl hl (by decide) rfl (fun ls hl => ?_)
          refine x_iload hx hb hl 5 rfl dX10_hung_62 ?_
          refine lv_istore_n (lv' := [(2, .int (xJ i4_19)), (3, .int (xJ x12)), (5, .int (xJ x12)), (0, .ref (h0 + 0)), (1, .int (xJ x)), (4, .int (xJ i4_19))]) hx hb dX10_hung_64 rfl hl (by decide) rfl (fun ls hl => ?_)
          refine x_iinc (lv' := [(4, .int (xJ (i4_19 + 1))), (2, .int (xJ i4_19)), (3, .int (xJ x12)), (5, .int (xJ x12)), (0, .ref (h0 + 0)), (1, .int (xJ x))]) hx hb hl 5 rfl dX10_hung_65 (by decide) rfl (fun ls hl => ?_)
          refine lv_goto (tgt := 19) hx hb dX10_hung_68 (by decide) ?_
          exact ih19 i4_19 x12 (i4_19 + 1) s13 H locs ls ri4_19 rx12 (by omega) hF15 hp14.1.1 hp14.1.2.1 q16 q17 (by omega) (by omega) (by have hm := hm_19 (); omega) hW (lv_sub hl [4, 5, 1, 2, 0] rfl)
        refine lv_goto (tgt := 65) hx hb dX10_hung_35 (by decide) ?_
        refine x_iinc (lv' := [(4, .int (xJ (i4_19 + 1))), (0, .ref (h0 + 0)), (1, .int (xJ x)), (2, .int (xJ i2_19)), (3, .int (xJ i3_19))]) hx hb hl 4 rfl dX10_hung_65 (by decide) rfl (fun ls hl => ?_)
        refine lv_goto (tgt := 19) hx hb dX10_hung_68 (by decide) ?_
        exact ih19 i2_19 i3_19 (i4_19 + 1) s_19 H locs ls ri2_19 ri3_19 (by omega) hF_19 q19_0 q19_1 q19_2 q19_3 (by omega) (by omega) (by have hm := hm_19 (); omega) hW (lv_sub hl [1, 2, 3, 4, 0] rfl)
    exact L19 ((100 + 1 - 0 : Int).toNat + 1) (-2) (-1) 0 s0 H locs ls (by decide) (by decide) (by decide) hF p0 p1 p2 k1_1 (by omega) (by omega) (Nat.lt_succ_self _) hW (lv_sub hl [3, 4, 2, 1, 0] rfl)
  refine x_iconst hx hb dX10_hung_9 ?_
  rw [eQ]
  exact x_iret hx hb hr hlk hW (by decide) ⟨hF, ⟨p0, p1, p2, trivial⟩, trivial⟩ dX10_hung_10
set_option maxHeartbeats 4000000 in
set_option maxRecDepth 100000 in
theorem c_X3_countShadedMinutesF (l : Launch) (D : va_G) (g : xG) (T : Nat × Nat × Nat) (h0 : Nat) (s0 : xS) (hσ : xRR s0) (n : Int) (rn : xR n) (K9 : Int → Int) (n9 : Int → Int) (w9 : Int → Int → Int) (q9 : zLaw) (l9 : Int → Int) (hok : zLok q9) (hlc : zLD s0 q9) (hK : ∀ t : Int, 0 ≤ t → t < 100 → s0 4 t = K9 t) (hlm : ∀ i : Int, 0 ≤ i → i < 4 → s0 129 i = l9 i ∧ (l9 i = -1 ∨ (0 ≤ l9 i ∧ l9 i < 100))) (hw : zWc s0 136 n9 w9) (hY : zYq (zYc s0 136)) (hok4 : zok (zY4 (zYc s0 136))) (p0 : IC s0) (p1 : IS s0) (p2 : IQ s0) : Met l yX3_countShadedMinutes (xws yX3_countShadedMinutes cX3_countShadedMinutes 6 none) { frames := 5, cells := 0, slots := 0, locals := 120 } (xP [.ref (h0 + 156), .int (xJ n)] D g T h0 s0) (xQv D g h0 (fun τ => xFr (fun k => k = 115 ∨ k = 116 ∨ k = 130 ∨ k = 131 ∨ k = 132 ∨ k = 133 ∨ k = 158 ∨ k = 159 ∨ k = 160 ∨ k = 163 ∨ k = 164 ∨ k = 165 ∨ k = 166 ∨ k = 167 ∨ k = 226) s0 τ ∧ (((IC τ) ∧ (IS τ) ∧ (IQ τ) ∧ True) ∧ (True)))) 0 0 (xA h0) := by
  refine x_met hσ (by decide) (Nat.le_of_ble_eq_true rfl) ?_
  intro p e s m args below meth c hx hb hr hml hown hT hlk hnm hE hW ls hl
  have hl : lv_has ls 6 [(0, .ref (h0 + 156)), (1, .int (xJ n))] := hl
  obtain ⟨Q, eQ⟩ : ∃ Q, Q = MQ below (xQv D g h0 (fun τ => xFr (fun k => k = 115 ∨ k = 116 ∨ k = 130 ∨ k = 131 ∨ k = 132 ∨ k = 133 ∨ k = 158 ∨ k = 159 ∨ k = 160 ∨ k = 163 ∨ k = 164 ∨ k = 165 ∨ k = 166 ∨ k = 167 ∨ k = 226) s0 τ ∧ (((IC τ) ∧ (IS τ) ∧ (IQ τ) ∧ True) ∧ (True)))) args s 0 0 (xA h0) := ⟨_, rfl⟩
  rw [← eQ]
  generalize hHe : ([] : List Loc) = locs at hW ⊢
  obtain ⟨H, eH⟩ : ∃ H, H = s.heap := ⟨_, rfl⟩
  rw [← eH] at hW ⊢
  have hF : xFr (fun k => k = 115 ∨ k = 116 ∨ k = 130 ∨ k = 131 ∨ k = 132 ∨ k = 133 ∨ k = 158 ∨ k = 159 ∨ k = 160 ∨ k = 163 ∨ k = 164 ∨ k = 165 ∨ k = 166 ∨ k = 167 ∨ k = 226) s0 s0 := xFr.rf
  have k1_1 : s0 1 1 = s0 1 1 := rfl
  refine x_iconst hx hb dX3_countShadedMinutes_0 ?_
  refine lv_istore_n (lv' := [(2, .int (xJ 0)), (0, .ref (h0 + 156)), (1, .int (xJ n))]) hx hb dX3_countShadedMinutes_1 rfl hl (by decide) rfl (fun ls hl => ?_)
  have L2 : ∀ (fu : Nat) (i2_2 : Int) (s_2 : xS) (H : Heap) (locs : List Loc) (ls : Array Slot), (xR i2_2) → (xFr (fun k => k = 115 ∨ k = 116 ∨ k = 130 ∨ k = 131 ∨ k = 132 ∨ k = 133 ∨ k = 158 ∨ k = 159 ∨ k = 160 ∨ k = 163 ∨ k = 164 ∨ k = 165 ∨ k = 166 ∨ k = 167 ∨ k = 226) s0 s_2) → (IC s_2) → (IS s_2) → (IQ s_2) → (s_2 1 1 = s0 1 1) → (0 ≤ i2_2) → (i2_2 ≤ 100) → (100 + 1 - i2_2).toNat < fu → xW D g h0 s H locs s_2 → lv_has ls 6 [(0, .ref (h0 + 156)), (1, .int (xJ n)), (2, .int (xJ i2_2))] → W p l e { frames := 5, cells := 0, slots := 0, locals := 120 } s m args below meth c H locs 0 0 Q (F0 m 2 ls []) := by
    intro fu
    induction fu with
    | zero => intro i2_2 s_2 H locs ls ri2_2 hF_2 q2_0 q2_1 q2_2 q2_3 v2_0 v2_1 hm; exact absurd hm (Nat.not_lt_zero _)
    | succ fu ih2 =>
      intro i2_2 s_2 H locs ls ri2_2 hF_2 q2_0 q2_1 q2_2 q2_3 v2_0 v2_1 hm hW hl
      have hm_2 := fun (_ : Unit) => hm
      clear hm
      refine x_iload_n hx hb hl 2 rfl dX3_countShadedMinutes_2 rfl ?_
      refine x_bipush hx hb dX3_countShadedMinutes_3 (by decide) ?_
      refine x_icmp_ge (tgt := 21) hx hb ri2_2 (by decide) dX3_countShadedMinutes_5 (by decide) (fun c1 => ?_) (fun c1 => ?_)
      · skip
        refine x_aload_n hx hb hl 0 rfl dX3_countShadedMinutes_21 rfl ?_
        refine x_gor (x_runV (As := []) hx hb hml hown hT hE hW hl.1 (Or.inl (by decide)) (so_156 h0 g _) rfl cf_X3_copyOfNow wq914 wq63 wq992 (c_X3_copyOfNowF l D g T h0 s_2 hW.2.1 q2_0) ⟨rfl, rfl, ⟨by decide, by decide⟩, ⟨by decide, by decide⟩⟩ rfl rfl (Nat.le_of_ble_eq_true rfl) dX3_countShadedMinutes_22) hW (fun x2 s3 H locs hp4 hW => ?_)
        obtain ⟨ex2, hp4⟩ := hp4
        subst ex2
        obtain ⟨fs3, hp4⟩ := hp4
        have hF5 := hF_2.call fs3 (fun k h => by omega)
        have q6 : IS s3 := IS_f (fun k hk => fs3 k (by unfold suIS at hk; omega)) q2_1
        have q7 : IQ s3 := IQ_f (fun k hk => fs3 k (by unfold suIQ at hk; omega)) q2_2
        have q8 : s3 1 1 = s0 1 1 := (congrFun (fs3 _ (by omega)) _).trans q2_3
        have ghp4 := hp4.2
        have H22 := ghp4
        have Y22 : zYc s3 158 = zY0 (zYc s0 136) := by rw [H22.1] <;> exact congrArg zY0 (((zYc_f (fun o ho => fs3 (136 + o) (by omega))).symm).trans (zYc_f (fun o ho => hF5 (136 + o) (by omega))))
        have W22 : zWc s3 158 n9 w9 := hw.cp (fun q q1 q2 => (H22.2 q q1 q2).trans (by rw [← fs3 138 (by first | decide | omega), hF5 138 (by first | decide | omega)])) (fun k hk => hF5 k (by omega))
        refine lv_astore_n (lv' := [(2, .ref (h0 + 158)), (0, .ref (h0 + 156)), (1, .int (xJ n))]) hx hb dX3_countShadedMinutes_25 rfl hl (by decide) rfl (fun ls hl => ?_)
        refine x_iconst hx hb dX3_countShadedMinutes_26 ?_
        refine lv_istore_n (lv' := [(3, .int (xJ 0)), (2, .ref (h0 + 158)), (0, .ref (h0 + 156)), (1, .int (xJ n))]) hx hb dX3_countShadedMinutes_27 rfl hl (by decide) rfl (fun ls hl => ?_)
        have L28 : ∀ (fu : Nat) (i3_28 : Int) (s_28 : xS) (H : Heap) (locs : List Loc) (ls : Array Slot), (xR i3_28) → (xFr (fun k => k = 115 ∨ k = 116 ∨ k = 130 ∨ k = 131 ∨ k = 132 ∨ k = 133 ∨ k = 158 ∨ k = 159 ∨ k = 160 ∨ k = 163 ∨ k = 164 ∨ k = 165 ∨ k = 166 ∨ k = 167 ∨ k = 226) s0 s_28) → (IS s_28) → (IQ s_28) → (s_28 1 1 = s0 1 1) → (IC s_28) → (0 ≤ i3_28) → (zWc s_28 158 n9 w9) → (zok (zY4 (zYc s_28 158))) → (n + 1 - i3_28).toNat < fu → xW D g h0 s H locs s_28 → lv_has ls 6 [(0, .ref (h0 + 156)), (1, .int (xJ n)), (2, .ref (h0 + 158)), (3, .int (xJ i3_28))] → W p l e { frames := 5, cells := 0, slots := 0, locals := 120 } s m args below meth c H locs 0 0 Q (F0 m 28 ls []) := by
          intro fu
          induction fu with
          | zero => intro i3_28 s_28 H locs ls ri3_28 hF_28 q28_0 q28_1 q28_2 q28_3 v28_0 v28_1 v28_2 hm; exact absurd hm (Nat.not_lt_zero _)
          | succ fu ih28 =>
            intro i3_28 s_28 H locs ls ri3_28 hF_28 q28_0 q28_1 q28_2 q28_3 v28_0 v28_1 v28_2 hm hW hl
            have hm_28 := fun (_ : Unit) => hm
            clear hm
            refine x_iload_n hx hb hl 3 rfl dX3_countShadedMinutes_28 rfl ?_
            refine x_iload_n hx hb hl 1 rfl dX3_countShadedMinutes_29 rfl ?_
            refine x_icmp_ge (tgt := 115) hx hb ri3_28 rn dX3_countShadedMinutes_30 (by decide) (fun c9 => ?_) (fun c9 => ?_)
            · skip
              rw [eQ]
              exact x_vret hx hb hr hlk hW ⟨hF_28, ⟨q28_3, q28_0, q28_1, trivial⟩, trivial⟩ dX3_countShadedMinutes_115
            refine x_aload_n hx hb hl 0 rfl dX3_countShadedMinutes_33 rfl ?_
            refine x_get (j := 0) (v := .ref (h0 + 128)) hx hb hown hT hE hW cls_X3 (Or.inl (by decide)) (so_156 h0 g _) (by decide) rfl wq450 dX3_countShadedMinutes_34 ?_
            refine x_aload_n hx hb hl 2 rfl dX3_countShadedMinutes_37 rfl ?_
            refine x_goi (x_runVN (As := [.ref (h0 + 158)]) hx hb hml hown hT hE hW hl.1 (Or.inl (by decide)) (so_128 h0 g _) rfl cf_X0_walkOn wq995 wq76 wn993 (c_X0_walkOnF l D g T h0 s_28 hW.2.1 158 xd_158 K9 n9 w9 q9 l9 (hok) (by first | exact hlc | exact hlc.f (fun k hk => hF_28 k (by omega))) (by first | exact hK | exact fun t t1 t2 => by rw [hF_28 4 (by first | decide | omega)]; exact hK t t1 t2) (by first | exact hlm | exact fun i i1 i2 => by rw [hF_28 129 (by first | decide | omega)]; exact hlm i i1 i2) (v28_1) (v28_2) q28_3 q28_0 q28_1) ⟨rfl, rfl, ⟨by decide, by decide⟩, ⟨by decide, by decide⟩⟩ rfl rfl (Nat.le_of_ble_eq_true rfl) dX3_countShadedMinutes_38) hW (fun x10 s11 H locs rx10 hp12 hW => ?_)
            obtain ⟨fs11, hp12⟩ := hp12
            have hF13 := hF_28.call fs11 (fun k h => by omega)
            have q14 : s11 1 1 = s0 1 1 := (congrFun (fs11 _ (by omega)) _).trans q28_2
            have ghp12 := hp12.2
            have K38 := ghp12.2
            have W38 : zWc s11 158 n9 w9 := v28_1.f (fs11 160 (by first | decide | omega)) (fun k hk => fs11 k (by omega))
            refine x_if_eq (tgt := 115) hx hb rx10 dX3_countShadedMinutes_41 (by decide) (fun c15 => ?_) (fun c15 => ?_)
            · skip
              rw [eQ]
              exact x_vret hx hb hr hlk hW ⟨hF13, ⟨hp12.1.1, hp12.1.2.1, hp12.1.2.2.1, trivial⟩, trivial⟩ dX3_countShadedMinutes_115
            refine x_iconst hx hb dX3_countShadedMinutes_44 ?_
            refine lv_istore (lv' := [(4, .int (xJ 0)), (0, .ref (h0 + 156)), (1, .int (xJ n)), (2, .ref (h0 + 158)), (3, .int (xJ i3_28))]) hx hb dX3_countShadedMinutes_45 hl (by decide) rfl (fun ls hl => ?_)
            have L47 : ∀ (fu : Nat) (i4_47 : Int) (s_47 : xS) (H : Heap) (locs : List Loc) (ls : Array Slot), (xR i4_47) → (xFr (fun k => k = 115 ∨ k = 116 ∨ k = 130 ∨ k = 131 ∨ k = 132 ∨ k = 133 ∨ k = 158 ∨ k = 159 ∨ k = 160 ∨ k = 163 ∨ k = 164 ∨ k = 165 ∨ k = 166 ∨ k = 167 ∨ k = 226) s0 s_47) → (s_47 1 1 = s0 1 1) → (IC s_47) → (IS s_47) → (IQ s_47) → (0 ≤ i4_47) → (zWc s_47 158 n9 w9) → (zok (zY4 (zYc s_47 158))) → (100 - i4_47).toNat < fu → xW D g h0 s H locs s_47 → lv_has ls 6 [(0, .ref (h0 + 156)), (1, .int (xJ n)), (2, .ref (h0 + 158)), (3, .int (xJ i3_28)), (4, .int (xJ i4_47))] → W p l e { frames := 5, cells := 0, slots := 0, locals := 120 } s m args below meth c H locs 0 0 Q (F0 m 47 ls []) := by
              intro fu
              induction fu with
              | zero => intro i4_47 s_47 H locs ls ri4_47 hF_47 q47_0 q47_1 q47_2 q47_3 v47_0 v47_1 v47_2 hm; exact absurd hm (Nat.not_lt_zero _)
              | succ fu ih47 =>
                intro i4_47 s_47 H locs ls ri4_47 hF_47 q47_0 q47_1 q47_2 q47_3 v47_0 v47_1 v47_2 hm hW hl
                have hm_47 := fun (_ : Unit) => hm
                clear hm
                refine x_iload hx hb hl 4 rfl dX3_countShadedMinutes_47 ?_
                refine x_aload_n hx hb hl 0 rfl dX3_countShadedMinutes_49 rfl ?_
                refine x_get (j := 0) (v := .ref (h0 + 128)) hx hb hown hT hE hW cls_X3 (Or.inl (by decide)) (so_156 h0 g _) (by decide) rfl wq450 dX3_countShadedMinutes_50 ?_
                refine x_getN (j := 3) (v := .ref (h0 + 130)) hx hb hown hT hE hW cls_X0 (Or.inl (by decide)) (so_128 h0 g _) (by decide) rfl wn359 dX3_countShadedMinutes_53 ?_
                refine x_getN (j := 3) (v := .int (xJ (s_47 130 3))) hx hb hown hT hE hW cls_X7 (Or.inl (by decide)) (so_130 h0 g _) (by decide) rfl wn339 dX3_countShadedMinutes_56 ?_
                refine x_rd hW (fun x16 ex16 rx16 => ?_)
                have bx16 : 0 ≤ x16 ∧ x16 ≤ 100 := by rw [ex16]; exact IC.z q47_1
                refine x_icmp_ge (tgt := 109) hx hb ri4_47 rx16 dX3_countShadedMinutes_59 (by decide) (fun c17 => ?_) (fun c17 => ?_)
                · skip
                  refine x_iinc (lv' := [(3, .int (xJ (i3_28 + 1))), (0, .ref (h0 + 156)), (1, .int (xJ n)), (2, .ref (h0 + 158)), (4, .int (xJ i4_47))]) hx hb hl 3 rfl dX3_countShadedMinutes_109 (by decide) rfl (fun ls hl => ?_)
                  refine lv_goto (tgt := 28) hx hb dX3_countShadedMinutes_112 (by decide) ?_
                  exact ih28 (i3_28 + 1) s_47 H locs ls (by omega) hF_47 q47_2 q47_3 q47_0 q47_1 (by omega) (v47_1) (v47_2) (by have hm := hm_28 (); omega) hW (lv_sub hl [1, 2, 3, 0] rfl)
                refine x_iload hx hb hl 4 rfl dX3_countShadedMinutes_62 ?_
                refine x_bipush hx hb dX3_countShadedMinutes_64 (by decide) ?_
                refine x_icmp_ge (tgt := 109) hx hb ri4_47 (by decide) dX3_countShadedMinutes_66 (by decide) (fun c18 => ?_) (fun c18 => ?_)
                · skip
                  refine x_iinc (lv' := [(3, .int (xJ (i3_28 + 1))), (0, .ref (h0 + 156)), (1, .int (xJ n)), (2, .ref (h0 + 158)), (4, .int (xJ i4_47))]) hx hb hl 3 rfl dX3_countShadedMinutes_109 (by decide) rfl (fun ls hl => ?_)
                  refine lv_goto (tgt := 28) hx hb dX3_countShadedMinutes_112 (by decide) ?_
                  exact ih28 (i3_28 + 1) s_47 H locs ls (by omega) hF_47 q47_2 q47_3 q47_0 q47_1 (by omega) (v47_1) (v47_2) (by have hm := hm_28 (); omega) hW (lv_sub hl [1, 2, 3, 0] rfl)
                refine x_aload_n hx hb hl 0 rfl dX3_countShadedMinutes_69 rfl ?_
                refine x_get (j := 0) (v := .ref (h0 + 128)) hx hb hown hT hE hW cls_X3 (Or.inl (by decide)) (so_156 h0 g _) (by decide) rfl wq450 dX3_countShadedMinutes_70 ?_
                refine x_getN (j := 3) (v := .ref (h0 + 130)) hx hb hown hT hE hW cls_X0 (Or.inl (by decide)) (so_128 h0 g _) (by decide) rfl wn359 dX3_countShadedMinutes_73 ?_
                refine x_getN (j := 1) (v := .ref (h0 + 132)) hx hb hown hT hE hW cls_X7 (Or.inl (by decide)) (so_130 h0 g _) (by decide) rfl wn333 dX3_countShadedMinutes_76 ?_
                refine x_iload hx hb hl 4 rfl dX3_countShadedMinutes_79 ?_
                refine x_iald hx hb hE hW (Or.inl (by decide)) (sa_132 h0 g _) (by omega) (by decide) dX3_countShadedMinutes_81 ?_
                refine x_rd hW (fun x19 ex19 rx19 => ?_)
                refine lv_istore (lv' := [(5, .int (xJ x19)), (0, .ref (h0 + 156)), (1, .int (xJ n)), (2, .ref (h0 + 158)), (3, .int (xJ i3_28)), (4, .int (xJ i4_47))]) hx hb dX3_countShadedMinutes_82 hl (by decide) rfl (fun ls hl => ?_)
                refine x_iload hx hb hl 0 rfl dX3_countShadedMinutes_84 ?_
                refine x_goi (x_runSN (As := [.int (xJ x19)]) hx hb hml hown hT hE hW hl.1 cf_X6_isSpot wq831 wn990 (c_X6_isSpot l D g T h0 s_47 hW.2.1 x19 rx19) ⟨rfl, rfl, ⟨by decide, by decide⟩, ⟨by decide, by decide⟩⟩ rfl rfl (Nat.le_of_ble_eq_true rfl) dX3_countShadedMinutes_86) hW (fun x20 s21 H locs rx20 hp22 hW => ?_)
                obtain ⟨es21, hp22⟩ := hp22
                subst es21
                have ghp22 := hp22
                refine x_if_eq (tgt := 103) hx hb rx20 dX3_countShadedMinutes_89 (by decide) (fun c23 => ?_) (fun c23 => ?_)
                · skip
                  refine x_iinc (lv' := [(4, .int (xJ (i4_47 + 1))), (5, .int (xJ x19)), (0, .ref (h0 + 156)), (1, .int (xJ n)), (2, .ref (h0 + 158)), (3, .int (xJ i3_28))]) hx hb hl 5 rfl dX3_countShadedMinutes_103 (by decide) rfl (fun ls hl => ?_)
                  refine lv_goto (tgt := 47) hx hb dX3_countShadedMinutes_106 (by decide) ?_
                  exact ih47 (i4_47 + 1) s_47 H locs ls (by omega) hF_47 q47_0 q47_1 q47_2 q47_3 (by omega) (by first | exact W38 | exact v47_1 | exact v47_1.f (hF_47 160 (by first | decide | omega)) (fun k hk => hF_47 k (by omega)) | (rw [es_47]; exact v47_1.f (xU_k _ _ _ (by first | decide | omega)) (fun k hk => xU_k _ _ _ (by first | decide | omega)))) (by first | exact K38 | exact v47_2 | (rw [es_47, zYc_o (by omega)]; exact v47_2)) (by have hm := hm_47 (); omega) hW (lv_sub hl [2, 3, 4, 5, 0] rfl)
                refine x_aload_n hx hb hl 1 rfl dX3_countShadedMinutes_92 rfl ?_
                refine x_get (j := 7) (v := .ref (h0 + 226)) hx hb hown hT hE hW cls_X3 (Or.inl (by decide)) (so_156 h0 g _) (by decide) rfl wq459 dX3_countShadedMinutes_93 ?_
                refine x_iload hx hb hl 0 rfl dX3_countShadedMinutes_96 ?_
                refine lv_dup2_11 hx hb dX3_countShadedMinutes_98 rfl rfl ?_
                refine x_iald hx hb hE hW (Or.inl (by decide)) (sa_226 h0 g _) (by omega) (by decide) dX3_countShadedMinutes_99 ?_
                refine x_rd hW (fun x24 ex24 rx24 => ?_)
                refine x_iconst hx hb dX3_countShadedMinutes_100 ?_
                refine x_iadd hx hb dX3_countShadedMinutes_101 ?_
                refine x_any (fun x25 rx25 => ?_)
                refine x_iast hx hb hE hW (by decide) (fun σ => sa_226 h0 g σ) (by omega) (by decide) rx25 dX3_countShadedMinutes_102 (fun H locs s26 es26 hW => ?_)
                have q27 : s26 1 1 = s0 1 1 := (show s26 1 1 = s_47 1 1 from by rw [es26, xU_k _ _ _ (by first | decide | omega)]).trans q47_0
                have q28 : IC s26 := by rw [es26]; exact IC_o (by decide) q47_1
                have q29 : IS s26 := by rw [es26]; exact IS_o (by unfold suIS; first | decide | omega) q47_2
                have q30 : IQ s26 := by rw [es26]; exact IQ_o (by unfold suIQ; first | decide | omega) q47_3
                have hF31 := hF_47.put es26 (by omega)
                refine x_iinc (lv' := [(4, .int (xJ (i4_47 + 1))), (5, .int (xJ x19)), (0, .ref (h0 + 156)), (1, .int (xJ n)), (2, .ref (h0 + 158)), (3, .int (xJ i3_28))]) hx hb hl 5 rfl dX3_countShadedMinutes_103 (by decide) rfl (fun ls hl => ?_)
                refine lv_goto (tgt := 47) hx hb dX3_countShadedMinutes_106 (by decide) ?_
                exact ih47 (i4_47 + 1) s26 H locs ls (by omega) hF31 q27 q28 q29 q30 (by omega) (by first | exact W38 | exact v47_1 | exact v47_1.f (hF31 160 (by first | decide | omega)) (fun k hk => hF31 k (by omega)) | (rw [es26]; exact v47_1.f (xU_k _ _ _ (by first | decide | omega)) (fun k hk => xU_k _ _ _ (by first | decide | omega)))) (by first | exact K38 | exact v47_2 | (rw [es26, zYc_o (by omega)]; exact v47_2)) (by have hm := hm_47 (); omega) hW (lv_sub hl [2, 3, 4, 5, 0] rfl)
            exact L47 ((100 - 0 : Int).toNat + 1) 0 s11 H locs ls (by decide) hF13 q14 hp12.1.1 hp12.1.2.1 hp12.1.2.2.1 (by omega) (by first | exact W38 | exact v47_1 | exact v47_1.f (hF13 160 (by first | decide | omega)) (fun k hk => hF13 k (by omega)) | (rw [es11]; exact v47_1.f (xU_k _ _ _ (by first | decide | omega)) (fun k hk => xU_k _ _ _ (by first | decide | omega)))) (by first | exact K38 | exact v47_2 | (rw [es11, zYc_o (by omega)]; exact v47_2)) (Nat.lt_succ_self _) hW (lv_sub hl [1, 2, 3, 4, 0] rfl)
        exact L28 ((n + 1 - 0 : Int).toNat + 1) 0 s3 H locs ls (by decide) hF5 q6 q7 q8 hp4.1.1 (by omega) (W22) (by rw [Y22, zY0_4]; exact hok4) (Nat.lt_succ_self _) hW (lv_sub hl [2, 3, 1, 0] rfl)
      refine x_aload_n hx hb hl 0 rfl dX3_countShadedMinutes_8 rfl ?_
      refine x_get (j := 7) (v := .ref (h0 + 226)) hx hb hown hT hE hW cls_X3 (Or.inl (by decide)) (so_156 h0 g _) (by decide) rfl wq459 dX3_countShadedMinutes_9 ?_
      refine x_iload_n hx hb hl 2 rfl dX3_countShadedMinutes_12 rfl ?_
      refine x_iconst hx hb dX3_countShadedMinutes_13 ?_
      refine x_iast hx hb hE hW (by decide) (fun σ => sa_226 h0 g σ) (by omega) (by decide) (by decide) dX3_countShadedMinutes_14 (fun H locs s32 es32 hW => ?_)
      have q33 : IC s32 := by rw [es32]; exact IC_o (by decide) q2_0
      have q34 : IS s32 := by rw [es32]; exact IS_o (by unfold suIS; first | decide | omega) q2_1
      have q35 : IQ s32 := by rw [es32]; exact IQ_o (by unfold suIQ; first | decide | omega) q2_2
      have q36 : s32 1 1 = s0 1 1 := (show s32 1 1 = s_2 1 1 from by rw [es32, xU_k _ _ _ (by first | decide | omega)]).trans q2_3
      have hF37 := hF_2.put es32 (by omega)
      refine x_iinc (lv' := [(2, .int (xJ (i2_2 + 1))), (0, .ref (h0 + 156)), (1, .int (xJ n))]) hx hb hl 2 rfl dX3_countShadedMinutes_15 (by decide) rfl (fun ls hl => ?_)
      refine lv_goto (tgt := 2) hx hb dX3_countShadedMinutes_18 (by decide) ?_
      exact ih2 (i2_2 + 1) s32 H locs ls (by omega) hF37 q33 q34 q35 q36 (by omega) (by omega) (by have hm := hm_2 (); omega) hW (lv_sub hl [1, 2, 0] rfl)
  exact L2 ((100 + 1 - 0 : Int).toNat + 1) 0 s0 H locs ls (by decide) hF p0 p1 p2 k1_1 (by omega) (by omega) (Nat.lt_succ_self _) hW (lv_sub hl [1, 2, 0] rfl)
set_option maxHeartbeats 4000000 in
set_option maxRecDepth 100000 in
theorem c_X10_darkF (l : Launch) (D : va_G) (g : xG) (T : Nat × Nat × Nat) (h0 : Nat) (s0 : xS) (hσ : xRR s0) (n : Int) (rn : xR n) (x : Int) (rx : xR x) (K9 : Int → Int) (n9 : Int → Int) (w9 : Int → Int → Int) (q9 : zLaw) (l9 : Int → Int) (hok : zLok q9) (hlc : zLD s0 q9) (hK : ∀ t : Int, 0 ≤ t → t < 100 → s0 4 t = K9 t) (hlm : ∀ i : Int, 0 ≤ i → i < 4 → s0 129 i = l9 i ∧ (l9 i = -1 ∨ (0 ≤ l9 i ∧ l9 i < 100))) (hw : zWc s0 136 n9 w9) (hY : zYq (zYc s0 136)) (hok4 : zok (zY4 (zYc s0 136))) (p0 : IC s0) (p1 : IS s0) (p2 : IQ s0) : Met l yX10_dark (xws yX10_dark cX10_dark 4 (some .int)) { frames := 6, cells := 0, slots := 0, locals := 145 } (xP [.ref (h0 + 0), .int (xJ n), .int (xJ x)] D g T h0 s0) (xQi D g h0 (fun r τ => xFr (fun k => k = 115 ∨ k = 116 ∨ k = 130 ∨ k = 131 ∨ k = 132 ∨ k = 133 ∨ k = 158 ∨ k = 159 ∨ k = 160 ∨ k = 163 ∨ k = 164 ∨ k = 165 ∨ k = 166 ∨ k = 167 ∨ k = 226) s0 τ ∧ (((IC τ) ∧ (IS τ) ∧ (IQ τ) ∧ True) ∧ (True)))) 0 0 (xA h0) := by
  refine x_met hσ (by decide) (Nat.le_of_ble_eq_true rfl) ?_
  intro p e s m args below meth c hx hb hr hml hown hT hlk hnm hE hW ls hl
  have hl : lv_has ls 4 [(0, .ref (h0 + 0)), (1, .int (xJ n)), (2, .int (xJ x))] := hl
  obtain ⟨Q, eQ⟩ : ∃ Q, Q = MQ below (xQi D g h0 (fun r τ => xFr (fun k => k = 115 ∨ k = 116 ∨ k = 130 ∨ k = 131 ∨ k = 132 ∨ k = 133 ∨ k = 158 ∨ k = 159 ∨ k = 160 ∨ k = 163 ∨ k = 164 ∨ k = 165 ∨ k = 166 ∨ k = 167 ∨ k = 226) s0 τ ∧ (((IC τ) ∧ (IS τ) ∧ (IQ τ) ∧ True) ∧ (True)))) args s 0 0 (xA h0) := ⟨_, rfl⟩
  rw [← eQ]
  generalize hHe : ([] : List Loc) = locs at hW ⊢
  obtain ⟨H, eH⟩ : ∃ H, H = s.heap := ⟨_, rfl⟩
  rw [← eH] at hW ⊢
  have hF : xFr (fun k => k = 115 ∨ k = 116 ∨ k = 130 ∨ k = 131 ∨ k = 132 ∨ k = 133 ∨ k = 158 ∨ k = 159 ∨ k = 160 ∨ k = 163 ∨ k = 164 ∨ k = 165 ∨ k = 166 ∨ k = 167 ∨ k = 226) s0 s0 := xFr.rf
  have k1_1 : s0 1 1 = s0 1 1 := rfl
  refine x_iload_n hx hb hl 1 rfl dX10_dark_0 rfl ?_
  refine x_iconst hx hb dX10_dark_1 ?_
  refine x_bipush hx hb dX10_dark_2 (by decide) ?_
  refine x_goi (x_runS (As := [.int (xJ n), .int (xJ 1), .int (xJ 60)]) hx hb hml hown hT hE hW hl.1 cf_X10_isIn wq562 wq561 (c_X10_isIn l D g T h0 s0 hW.2.1 n rn 1 (by decide) 60 (by decide)) ⟨rfl, rfl, ⟨by decide, by decide⟩, ⟨by decide, by decide⟩⟩ rfl rfl (Nat.le_of_ble_eq_true rfl) dX10_dark_4) hW (fun x1 s2 H locs rx1 hp3 hW => ?_)
  obtain ⟨es2, hp3⟩ := hp3
  subst es2
  have ghp3 := hp3
  refine x_if_eq (tgt := 19) hx hb rx1 dX10_dark_7 (by decide) (fun c4 => ?_) (fun c4 => ?_)
  · skip
    refine x_iconst hx hb dX10_dark_19 ?_
    rw [eQ]
    exact x_iret hx hb hr hlk hW (by decide) ⟨hF, ⟨p0, p1, p2, trivial⟩, trivial⟩ dX10_dark_20
  refine x_iload_n hx hb hl 2 rfl dX10_dark_10 rfl ?_
  refine x_iconst hx hb dX10_dark_11 ?_
  refine x_iconst hx hb dX10_dark_12 ?_
  refine x_goi (x_runS (As := [.int (xJ x), .int (xJ 0), .int (xJ 2)]) hx hb hml hown hT hE hW hl.1 cf_X10_isIn wq562 wq561 (c_X10_isIn l D g T h0 s0 hW.2.1 x rx 0 (by decide) 2 (by decide)) ⟨rfl, rfl, ⟨by decide, by decide⟩, ⟨by decide, by decide⟩⟩ rfl rfl (Nat.le_of_ble_eq_true rfl) dX10_dark_13) hW (fun x5 s6 H locs rx5 hp7 hW => ?_)
  obtain ⟨es6, hp7⟩ := hp7
  subst es6
  have ghp7 := hp7
  refine x_if_ne (tgt := 21) hx hb rx5 dX10_dark_16 (by decide) (fun c8 => ?_) (fun c8 => ?_)
  · skip
    refine x_aload_n hx hb hl 0 rfl dX10_dark_21 rfl ?_
    refine x_get (j := 6) (v := .ref (h0 + 156)) hx hb hown hT hE hW cls_X10 (Or.inl (by decide)) (so_0 h0 g _) (by decide) rfl wq518 dX10_dark_22 ?_
    refine x_iload_n hx hb hl 1 rfl dX10_dark_25 rfl ?_
    refine x_gov (x_runVN (As := [.int (xJ n)]) hx hb hml hown hT hE hW hl.1 (Or.inl (by decide)) (so_156 h0 g _) rfl cf_X3_countShadedMinutes wq1048 wq84 wn1046 (c_X3_countShadedMinutesF l D g T h0 s0 hW.2.1 n rn K9 n9 w9 q9 l9 (hok) (by first | exact hlc | exact hlc.f (fun k hk => hF k (by omega))) (by first | exact hK | exact fun t t1 t2 => by rw [hF 4 (by omega)]; exact hK t t1 t2) (by first | exact hlm | exact fun i i1 i2 => by rw [hF 129 (by omega)]; exact hlm i i1 i2) (by first | exact hw | exact hw.f (hF _ (by omega)) (fun k hk => hF k (by first | omega | (unfold xDay at hd; omega)))) (hY) (hok4) p0 p1 p2) ⟨rfl, rfl, ⟨by decide, by decide⟩, ⟨by decide, by decide⟩⟩ rfl rfl (Nat.le_of_ble_eq_true rfl) dX10_dark_26) hW (fun s10 H locs hp11 hW => ?_)
    obtain ⟨fs10, hp11⟩ := hp11
    have hF12 := hF.call fs10 (fun k h => by omega)
    have q13 : s10 1 1 = s0 1 1 := (congrFun (fs10 _ (by omega)) _).trans k1_1
    have ghp11 := hp11.2
    refine x_iload_n hx hb hl 2 rfl dX10_dark_29 rfl ?_
    refine x_if_ne (tgt := 41) hx hb rx dX10_dark_30 (by decide) (fun c14 => ?_) (fun c14 => ?_)
    · skip
      refine x_aload_n hx hb hl 0 rfl dX10_dark_41 rfl ?_
      refine x_get (j := 6) (v := .ref (h0 + 156)) hx hb hown hT hE hW cls_X10 (Or.inl (by decide)) (so_0 h0 g _) (by decide) rfl wq518 dX10_dark_42 ?_
      refine x_goi (x_runVN (As := []) hx hb hml hown hT hE hW hl.1 (Or.inl (by decide)) (so_156 h0 g _) rfl cf_X3_mostShaded wq1057 wq86 wn1055 (c_X3_mostShaded l D g T h0 s10 hW.2.1 hp11.1.1) ⟨rfl, rfl, ⟨by decide, by decide⟩, ⟨by decide, by decide⟩⟩ rfl rfl (Nat.le_of_ble_eq_true rfl) dX10_dark_45) hW (fun x15 s16 H locs rx15 hp17 hW => ?_)
      obtain ⟨es16, hp17⟩ := hp17
      subst es16
      have ghp17 := hp17
      refine lv_istore_n (lv' := [(3, .int (xJ x15)), (0, .ref (h0 + 0)), (1, .int (xJ n)), (2, .int (xJ x))]) hx hb dX10_dark_48 rfl hl (by decide) rfl (fun ls hl => ?_)
      refine x_iload_n hx hb hl 3 rfl dX10_dark_49 rfl ?_
      refine x_iconst hx hb dX10_dark_50 ?_
      refine x_icmp_ne (tgt := 66) hx hb rx (by decide) dX10_dark_51 (by decide) (fun c18 => ?_) (fun c18 => ?_)
      · skip
        refine x_iload_n hx hb hl 0 rfl dX10_dark_66 rfl ?_
        refine x_iconst hx hb dX10_dark_67 ?_
        refine x_icmp_ne (tgt := 75) hx hb rx15 (by decide) dX10_dark_68 (by decide) (fun c19 => ?_) (fun c19 => ?_)
        · skip
          refine x_aload_n hx hb hl 1 rfl dX10_dark_75 rfl ?_
          refine x_get (j := 6) (v := .ref (h0 + 156)) hx hb hown hT hE hW cls_X10 (Or.inl (by decide)) (so_0 h0 g _) (by decide) rfl wq518 dX10_dark_76 ?_
          refine x_getN (j := 7) (v := .ref (h0 + 226)) hx hb hown hT hE hW cls_X3 (Or.inl (by decide)) (so_156 h0 g _) (by decide) rfl wn460 dX10_dark_79 ?_
          refine x_iload_n hx hb hl 0 rfl dX10_dark_82 rfl ?_
          refine x_iald hx hb hE hW (Or.inl (by decide)) (sa_226 h0 g _) (by omega) (by decide) dX10_dark_83 ?_
          refine x_rd hW (fun x20 ex20 rx20 => ?_)
          rw [eQ]
          exact x_iret hx hb hr hlk hW rx20 ⟨hF12, ⟨hp11.1.1, hp11.1.2.1, hp11.1.2.2.1, trivial⟩, trivial⟩ dX10_dark_84
        refine x_iconst hx hb dX10_dark_71 ?_
        refine lv_goto (tgt := 84) hx hb dX10_dark_72 (by decide) ?_
        rw [eQ]
        exact x_iret hx hb hr hlk hW (by decide) ⟨hF12, ⟨hp11.1.1, hp11.1.2.1, hp11.1.2.2.1, trivial⟩, trivial⟩ dX10_dark_84
      refine x_iload_n hx hb hl 0 rfl dX10_dark_54 rfl ?_
      refine x_iconst hx hb dX10_dark_55 ?_
      refine x_icmp_ne (tgt := 64) hx hb rx15 (by decide) dX10_dark_56 (by decide) (fun c21 => ?_) (fun c21 => ?_)
      · skip
        refine x_iload_n hx hb hl 0 rfl dX10_dark_64 rfl ?_
        rw [eQ]
        exact x_iret hx hb hr hlk hW rx15 ⟨hF12, ⟨hp11.1.1, hp11.1.2.1, hp11.1.2.2.1, trivial⟩, trivial⟩ dX10_dark_65
      refine x_bipush hx hb dX10_dark_59 (by decide) ?_
      refine lv_goto (tgt := 65) hx hb dX10_dark_61 (by decide) ?_
      rw [eQ]
      exact x_iret hx hb hr hlk hW (by decide) ⟨hF12, ⟨hp11.1.1, hp11.1.2.1, hp11.1.2.2.1, trivial⟩, trivial⟩ dX10_dark_65
    refine x_aload_n hx hb hl 0 rfl dX10_dark_33 rfl ?_
    refine x_get (j := 6) (v := .ref (h0 + 156)) hx hb hown hT hE hW cls_X10 (Or.inl (by decide)) (so_0 h0 g _) (by decide) rfl wq518 dX10_dark_34 ?_
    refine x_goi (x_runVN (As := []) hx hb hml hown hT hE hW hl.1 (Or.inl (by decide)) (so_156 h0 g _) rfl cf_X3_howManyNeverShaded wq1052 wq85 wn1050 (c_X3_howManyNeverShaded l D g T h0 s10 hW.2.1 hp11.1.1) ⟨rfl, rfl, ⟨by decide, by decide⟩, ⟨by decide, by decide⟩⟩ rfl rfl (Nat.le_of_ble_eq_true rfl) dX10_dark_37) hW (fun x22 s23 H locs rx22 hp24 hW => ?_)
    obtain ⟨es23, hp24⟩ := hp24
    subst es23
    have ghp24 := hp24
    rw [eQ]
    exact x_iret hx hb hr hlk hW rx22 ⟨hF12, ⟨hp11.1.1, hp11.1.2.1, hp11.1.2.2.1, trivial⟩, trivial⟩ dX10_dark_40
  refine x_iconst hx hb dX10_dark_19 ?_
  rw [eQ]
  exact x_iret hx hb hr hlk hW (by decide) ⟨hF, ⟨p0, p1, p2, trivial⟩, trivial⟩ dX10_dark_20
set_option maxHeartbeats 4000000 in
set_option maxRecDepth 100000 in
theorem c_X3_fewestStepsF (l : Launch) (D : va_G) (g : xG) (T : Nat × Nat × Nat) (h0 : Nat) (s0 : xS) (hσ : xRR s0) (a : Int) (ra : xR a) (n : Int) (rn : xR n) (b : Int) (rb : xR b) (K9 : Int → Int) (n9 : Int → Int) (w9 : Int → Int → Int) (q9 : zLaw) (l9 : Int → Int) (hok : zLok q9) (hlc : zLD s0 q9) (hK : ∀ t : Int, 0 ≤ t → t < 100 → s0 4 t = K9 t) (hlm : ∀ i : Int, 0 ≤ i → i < 4 → s0 129 i = l9 i ∧ (l9 i = -1 ∨ (0 ≤ l9 i ∧ l9 i < 100))) (hw : zWc s0 136 n9 w9) (hY : zYq (zYc s0 136)) (hok4 : zok (zY4 (zYc s0 136))) (p0 : IC s0) (p1 : IS s0) (p2 : IQ s0) : Met l yX3_fewestSteps (xws yX3_fewestSteps cX3_fewestSteps 7 (some .int)) { frames := 5, cells := 0, slots := 0, locals := 120 } (xP [.ref (h0 + 156), .int (xJ a), .int (xJ n), .int (xJ b)] D g T h0 s0) (xQi D g h0 (fun r τ => xFr (fun k => (228 ≤ k ∧ k < 259) ∨ k = 115 ∨ k = 116 ∨ k = 130 ∨ k = 131 ∨ k = 132 ∨ k = 133 ∨ k = 158 ∨ k = 159 ∨ k = 160 ∨ k = 163 ∨ k = 164 ∨ k = 165 ∨ k = 166 ∨ k = 167 ∨ k = 228 ∨ k = 259 ∨ k = 260) s0 τ ∧ (((IC τ) ∧ (IS τ) ∧ (IQ τ) ∧ True) ∧ (True)))) 0 0 (xA h0) := by
  refine x_met hσ (by decide) (Nat.le_of_ble_eq_true rfl) ?_
  intro p e s m args below meth c hx hb hr hml hown hT hlk hnm hE hW ls hl
  have hl : lv_has ls 7 [(0, .ref (h0 + 156)), (1, .int (xJ a)), (2, .int (xJ n)), (3, .int (xJ b))] := hl
  obtain ⟨Q, eQ⟩ : ∃ Q, Q = MQ below (xQi D g h0 (fun r τ => xFr (fun k => (228 ≤ k ∧ k < 259) ∨ k = 115 ∨ k = 116 ∨ k = 130 ∨ k = 131 ∨ k = 132 ∨ k = 133 ∨ k = 158 ∨ k = 159 ∨ k = 160 ∨ k = 163 ∨ k = 164 ∨ k = 165 ∨ k = 166 ∨ k = 167 ∨ k = 228 ∨ k = 259 ∨ k = 260) s0 τ ∧ (((IC τ) ∧ (IS τ) ∧ (IQ τ) ∧ True) ∧ (True)))) args s 0 0 (xA h0) := ⟨_, rfl⟩
  rw [← eQ]
  generalize hHe : ([] : List Loc) = locs at hW ⊢
  obtain ⟨H, eH⟩ : ∃ H, H = s.heap := ⟨_, rfl⟩
  rw [← eH] at hW ⊢
  have hF : xFr (fun k => (228 ≤ k ∧ k < 259) ∨ k = 115 ∨ k = 116 ∨ k = 130 ∨ k = 131 ∨ k = 132 ∨ k = 133 ∨ k = 158 ∨ k = 159 ∨ k = 160 ∨ k = 163 ∨ k = 164 ∨ k = 165 ∨ k = 166 ∨ k = 167 ∨ k = 228 ∨ k = 259 ∨ k = 260) s0 s0 := xFr.rf
  have k1_1 : s0 1 1 = s0 1 1 := rfl
  refine x_iload_n hx hb hl 3 rfl dX3_fewestSteps_0 rfl ?_
  refine x_iconst hx hb dX3_fewestSteps_1 ?_
  refine x_bipush hx hb dX3_fewestSteps_2 (by decide) ?_
  refine x_goi (x_runSN (As := [.int (xJ b), .int (xJ 1), .int (xJ 30)]) hx hb hml hown hT hE hW hl.1 cf_X10_isIn wq562 wn989 (c_X10_isIn l D g T h0 s0 hW.2.1 b rb 1 (by decide) 30 (by decide)) ⟨rfl, rfl, ⟨by decide, by decide⟩, ⟨by decide, by decide⟩⟩ rfl rfl (Nat.le_of_ble_eq_true rfl) dX3_fewestSteps_4) hW (fun x1 s2 H locs rx1 hp3 hW => ?_)
  obtain ⟨es2, hp3⟩ := hp3
  subst es2
  have ghp3 := hp3
  refine x_if_eq (tgt := 17) hx hb rx1 dX3_fewestSteps_7 (by decide) (fun c4 => ?_) (fun c4 => ?_)
  · skip
    refine x_bipush hx hb dX3_fewestSteps_17 (by decide) ?_
    rw [eQ]
    exact x_iret hx hb hr hlk hW (by decide) ⟨hF, ⟨p0, p1, p2, trivial⟩, trivial⟩ dX3_fewestSteps_19
  refine x_iload_n hx hb hl 1 rfl dX3_fewestSteps_10 rfl ?_
  refine x_goi (x_runSN (As := [.int (xJ a)]) hx hb hml hown hT hE hW hl.1 cf_X6_isSpot wq831 wn990 (c_X6_isSpot l D g T h0 s0 hW.2.1 a ra) ⟨rfl, rfl, ⟨by decide, by decide⟩, ⟨by decide, by decide⟩⟩ rfl rfl (Nat.le_of_ble_eq_true rfl) dX3_fewestSteps_11) hW (fun x5 s6 H locs rx5 hp7 hW => ?_)
  obtain ⟨es6, hp7⟩ := hp7
  subst es6
  have ghp7 := hp7
  refine x_if_ne (tgt := 20) hx hb rx5 dX3_fewestSteps_14 (by decide) (fun c8 => ?_) (fun c8 => ?_)
  · skip
    refine x_iconst hx hb dX3_fewestSteps_20 ?_
    refine lv_istore (lv' := [(4, .int (xJ 0)), (0, .ref (h0 + 156)), (1, .int (xJ a)), (2, .int (xJ n)), (3, .int (xJ b))]) hx hb dX3_fewestSteps_21 hl (by decide) rfl (fun ls hl => ?_)
    have L23 : ∀ (fu : Nat) (i4_23 : Int) (s_23 : xS) (H : Heap) (locs : List Loc) (ls : Array Slot), (xR i4_23) → (xFr (fun k => (228 ≤ k ∧ k < 259) ∨ k = 115 ∨ k = 116 ∨ k = 130 ∨ k = 131 ∨ k = 132 ∨ k = 133 ∨ k = 158 ∨ k = 159 ∨ k = 160 ∨ k = 163 ∨ k = 164 ∨ k = 165 ∨ k = 166 ∨ k = 167 ∨ k = 228 ∨ k = 259 ∨ k = 260) s0 s_23) → (IC s_23) → (IS s_23) → (IQ s_23) → (s_23 1 1 = s0 1 1) → (0 ≤ i4_23) → (b + 1 - i4_23).toNat < fu → xW D g h0 s H locs s_23 → lv_has ls 7 [(0, .ref (h0 + 156)), (1, .int (xJ a)), (2, .int (xJ n)), (3, .int (xJ b)), (4, .int (xJ i4_23))] → W p l e { frames := 5, cells := 0, slots := 0, locals := 120 } s m args below meth c H locs 0 0 Q (F0 m 23 ls []) := by
      intro fu
      induction fu with
      | zero => intro i4_23 s_23 H locs ls ri4_23 hF_23 q23_0 q23_1 q23_2 q23_3 v23_0 hm; exact absurd hm (Nat.not_lt_zero _)
      | succ fu ih23 =>
        intro i4_23 s_23 H locs ls ri4_23 hF_23 q23_0 q23_1 q23_2 q23_3 v23_0 hm hW hl
        have hm_23 := fun (_ : Unit) => hm
        clear hm
        refine x_iload hx hb hl 4 rfl dX3_fewestSteps_23 ?_
        refine x_iload_n hx hb hl 3 rfl dX3_fewestSteps_25 rfl ?_
        refine x_icmp_gt (tgt := 63) hx hb ri4_23 rb dX3_fewestSteps_26 (by decide) (fun c9 => ?_) (fun c9 => ?_)
        · skip
          refine x_aload_n hx hb hl 0 rfl dX3_fewestSteps_63 rfl ?_
          refine x_get (j := 8) (v := .ref (h0 + 227)) hx hb hown hT hE hW cls_X3 (Or.inl (by decide)) (so_156 h0 g _) (by decide) rfl wq461 dX3_fewestSteps_64 ?_
          refine x_iconst hx hb dX3_fewestSteps_67 ?_
          refine x_aaldR (t0 := 3) (n := 31) (r := 228) hx hb hE hW (by decide) rfl rfl (sg_227 h0 g _) ⟨by decide, by decide⟩ (by decide) rfl dX3_fewestSteps_68 ?_
          refine x_iload_n hx hb hl 1 rfl dX3_fewestSteps_69 rfl ?_
          refine x_iconst hx hb dX3_fewestSteps_70 ?_
          refine x_iast hx hb hE hW (by decide) (fun σ => sa_228 h0 g σ) (by omega) (by decide) (by decide) dX3_fewestSteps_71 (fun H locs s10 es10 hW => ?_)
          have q11 : IC s10 := by rw [es10]; exact IC_o (by decide) q23_0
          have q12 : IS s10 := by rw [es10]; exact IS_o (by unfold suIS; first | decide | omega) q23_1
          have q13 : IQ s10 := by rw [es10]; exact IQ_o (by unfold suIQ; first | decide | omega) q23_2
          have q14 : s10 1 1 = s0 1 1 := (show s10 1 1 = s_23 1 1 from by rw [es10, xU_k _ _ _ (by first | decide | omega)]).trans q23_3
          have hF15 := hF_23.put es10 (by omega)
          refine x_aload_n hx hb hl 0 rfl dX3_fewestSteps_72 rfl ?_
          refine x_gor (x_runV (As := []) hx hb hml hown hT hE hW hl.1 (Or.inl (by decide)) (so_156 h0 g _) rfl cf_X3_copyOfNow wq914 wq63 wq992 (c_X3_copyOfNowF l D g T h0 s10 hW.2.1 q11) ⟨rfl, rfl, ⟨by decide, by decide⟩, ⟨by decide, by decide⟩⟩ rfl rfl (Nat.le_of_ble_eq_true rfl) dX3_fewestSteps_73) hW (fun x16 s17 H locs hp18 hW => ?_)
          obtain ⟨ex16, hp18⟩ := hp18
          subst ex16
          obtain ⟨fs17, hp18⟩ := hp18
          have hF19 := hF15.call fs17 (fun k h => by omega)
          have q20 : IS s17 := IS_f (fun k hk => fs17 k (by unfold suIS at hk; omega)) q12
          have q21 : IQ s17 := IQ_f (fun k hk => fs17 k (by unfold suIQ at hk; omega)) q13
          have q22 : s17 1 1 = s0 1 1 := (congrFun (fs17 _ (by omega)) _).trans q14
          have ghp18 := hp18.2
          have H73 := ghp18
          have Y73 : zYc s17 158 = zY0 (zYc s0 136) := by rw [H73.1] <;> exact congrArg zY0 (((zYc_f (fun o ho => fs17 (136 + o) (by omega))).symm).trans (zYc_f (fun o ho => hF19 (136 + o) (by omega))))
          have W73 : zWc s17 158 n9 w9 := hw.cp (fun q q1 q2 => (H73.2 q q1 q2).trans (by rw [← fs17 138 (by first | decide | omega), hF19 138 (by first | decide | omega)])) (fun k hk => hF19 k (by omega))
          refine lv_astore (lv' := [(4, .ref (h0 + 158)), (0, .ref (h0 + 156)), (1, .int (xJ a)), (2, .int (xJ n)), (3, .int (xJ b))]) hx hb dX3_fewestSteps_76 hl (by decide) rfl (fun ls hl => ?_)
          refine x_iconst hx hb dX3_fewestSteps_78 ?_
          refine lv_istore (lv' := [(5, .int (xJ 0)), (4, .ref (h0 + 158)), (0, .ref (h0 + 156)), (1, .int (xJ a)), (2, .int (xJ n)), (3, .int (xJ b))]) hx hb dX3_fewestSteps_79 hl (by decide) rfl (fun ls hl => ?_)
          have L81 : ∀ (fu : Nat) (i5_81 : Int) (s_81 : xS) (H : Heap) (locs : List Loc) (ls : Array Slot), (xR i5_81) → (xFr (fun k => (228 ≤ k ∧ k < 259) ∨ k = 115 ∨ k = 116 ∨ k = 130 ∨ k = 131 ∨ k = 132 ∨ k = 133 ∨ k = 158 ∨ k = 159 ∨ k = 160 ∨ k = 163 ∨ k = 164 ∨ k = 165 ∨ k = 166 ∨ k = 167 ∨ k = 228 ∨ k = 259 ∨ k = 260) s0 s_81) → (IS s_81) → (IQ s_81) → (s_81 1 1 = s0 1 1) → (IC s_81) → (0 ≤ i5_81) → (zWc s_81 158 n9 w9) → (zok (zY4 (zYc s_81 158))) → (n + 1 - i5_81).toNat < fu → xW D g h0 s H locs s_81 → lv_has ls 7 [(0, .ref (h0 + 156)), (2, .int (xJ n)), (3, .int (xJ b)), (4, .ref (h0 + 158)), (5, .int (xJ i5_81))] → W p l e { frames := 5, cells := 0, slots := 0, locals := 120 } s m args below meth c H locs 0 0 Q (F0 m 81 ls []) := by
            intro fu
            induction fu with
            | zero => intro i5_81 s_81 H locs ls ri5_81 hF_81 q81_0 q81_1 q81_2 q81_3 v81_0 v81_1 v81_2 hm; exact absurd hm (Nat.not_lt_zero _)
            | succ fu ih81 =>
              intro i5_81 s_81 H locs ls ri5_81 hF_81 q81_0 q81_1 q81_2 q81_3 v81_0 v81_1 v81_2 hm hW hl
              have hm_81 := fun (_ : Unit) => hm
              clear hm
              refine x_iload hx hb hl 4 rfl dX3_fewestSteps_81 ?_
              refine x_iload_n hx hb hl 1 rfl dX3_fewestSteps_83 rfl ?_
              refine x_icmp_ge (tgt := 142) hx hb ri5_81 rn dX3_fewestSteps_84 (by decide) (fun c23 => ?_) (fun c23 => ?_)
              · skip
                refine lv_ldc (v := xJ 1000000) hx hb hown (hT _ wq991) dX3_fewestSteps_142 ?_
                refine lv_istore (lv' := [(5, .int (xJ 1000000)), (0, .ref (h0 + 156)), (2, .int (xJ n)), (3, .int (xJ b)), (4, .ref (h0 + 158))]) hx hb dX3_fewestSteps_144 hl (by decide) rfl (fun ls hl => ?_)
                refine x_iconst hx hb dX3_fewestSteps_146 ?_
                refine lv_istore (lv' := [(6, .int (xJ 0)), (5, .int (xJ 1000000)), (0, .ref (h0 + 156)), (2, .int (xJ n)), (3, .int (xJ b)), (4, .ref (h0 + 158))]) hx hb dX3_fewestSteps_147 hl (by decide) rfl (fun ls hl => ?_)
                have L149 : ∀ (fu : Nat) (i5_149 : Int) (i6_149 : Int) (ls : Array Slot), (xR i5_149) → (xR i6_149) → (0 ≤ i6_149) → (i6_149 ≤ 100) → (100 + 1 - i6_149).toNat < fu → lv_has ls 7 [(0, .ref (h0 + 156)), (3, .int (xJ b)), (5, .int (xJ i5_149)), (6, .int (xJ i6_149))] → W p l e { frames := 5, cells := 0, slots := 0, locals := 120 } s m args below meth c H locs 0 0 Q (F0 m 149 ls []) := by
                  intro fu
                  induction fu with
                  | zero => intro i5_149 i6_149 ls ri5_149 ri6_149 v149_0 v149_1 hm; exact absurd hm (Nat.not_lt_zero _)
                  | succ fu ih149 =>
                    intro i5_149 i6_149 ls ri5_149 ri6_149 v149_0 v149_1 hm  hl
                    have hm_149 := fun (_ : Unit) => hm
                    clear hm
                    refine x_iload hx hb hl 3 rfl dX3_fewestSteps_149 ?_
                    refine x_bipush hx hb dX3_fewestSteps_151 (by decide) ?_
                    refine x_icmp_ge (tgt := 178) hx hb ri6_149 (by decide) dX3_fewestSteps_153 (by decide) (fun c24 => ?_) (fun c24 => ?_)
                    · skip
                      refine x_iload hx hb hl 2 rfl dX3_fewestSteps_178 ?_
                      refine lv_ldc (v := xJ 1000000) hx hb hown (hT _ wq991) dX3_fewestSteps_180 ?_
                      refine x_icmp_lt (tgt := 190) hx hb ri5_149 (by decide) dX3_fewestSteps_182 (by decide) (fun c25 => ?_) (fun c25 => ?_)
                      · skip
                        refine x_iload hx hb hl 2 rfl dX3_fewestSteps_190 ?_
                        rw [eQ]
                        exact x_iret hx hb hr hlk hW ri5_149 ⟨hF_81, ⟨q81_3, q81_0, q81_1, trivial⟩, trivial⟩ dX3_fewestSteps_192
                      refine x_bipush hx hb dX3_fewestSteps_185 (by decide) ?_
                      refine lv_goto (tgt := 192) hx hb dX3_fewestSteps_187 (by decide) ?_
                      rw [eQ]
                      exact x_iret hx hb hr hlk hW (by decide) ⟨hF_81, ⟨q81_3, q81_0, q81_1, trivial⟩, trivial⟩ dX3_fewestSteps_192
                    refine x_iload hx hb hl 2 rfl dX3_fewestSteps_156 ?_
                    refine x_aload_n hx hb hl 0 rfl dX3_fewestSteps_158 rfl ?_
                    refine x_get (j := 8) (v := .ref (h0 + 227)) hx hb hown hT hE hW cls_X3 (Or.inl (by decide)) (so_156 h0 g _) (by decide) rfl wq461 dX3_fewestSteps_159 ?_
                    refine x_iload_n hx hb hl 1 rfl dX3_fewestSteps_162 rfl ?_
                    refine x_aaldR (t0 := 3) (n := 31) (r := 228 + (b).toNat) hx hb hE hW (by decide) rfl rfl (sg_227 h0 g _) (by omega) (by decide) rfl dX3_fewestSteps_163 ?_
                    refine x_iload hx hb hl 3 rfl dX3_fewestSteps_164 ?_
                    refine x_iald hx hb hE hW (Or.inl (by omega)) (sa_least0 h0 g (by omega) _) (by omega) (by decide) dX3_fewestSteps_166 ?_
                    refine x_rd hW (fun x26 ex26 rx26 => ?_)
                    refine x_mmin hx hb hml hl.1 hown hT wq997 wq569 wq180 wq570 ⟨by decide, Nat.le_of_ble_eq_true rfl, by decide, by decide⟩ ri5_149 rx26 dX3_fewestSteps_167 ?_
                    refine x_nm (fun x27 ex27 => ?_)
                    have fx27 : (x27 = i5_149 ∧ i5_149 ≤ x26) ∨ (x27 = x26 ∧ x26 ≤ i5_149) := by rw [ex27]; split <;> omega
                    refine lv_istore (lv' := [(5, .int (xJ x27)), (0, .ref (h0 + 156)), (3, .int (xJ b)), (6, .int (xJ i6_149))]) hx hb dX3_fewestSteps_170 hl (by decide) rfl (fun ls hl => ?_)
                    refine x_iinc (lv' := [(6, .int (xJ (i6_149 + 1))), (5, .int (xJ x27)), (0, .ref (h0 + 156)), (3, .int (xJ b))]) hx hb hl 3 rfl dX3_fewestSteps_172 (by decide) rfl (fun ls hl => ?_)
                    refine lv_goto (tgt := 149) hx hb dX3_fewestSteps_175 (by decide) ?_
                    exact ih149 x27 (i6_149 + 1) ls (by omega) (by omega) (by omega) (by omega) (by have hm := hm_149 (); omega)  (lv_sub hl [2, 3, 1, 0] rfl)
                exact L149 ((100 + 1 - 0 : Int).toNat + 1) 1000000 0 ls (by decide) (by decide) (by omega) (by omega) (Nat.lt_succ_self _)  (lv_sub hl [2, 4, 1, 0] rfl)
              refine x_aload_n hx hb hl 0 rfl dX3_fewestSteps_87 rfl ?_
              refine x_get (j := 0) (v := .ref (h0 + 128)) hx hb hown hT hE hW cls_X3 (Or.inl (by decide)) (so_156 h0 g _) (by decide) rfl wq450 dX3_fewestSteps_88 ?_
              refine x_aload hx hb hl 3 rfl dX3_fewestSteps_91 ?_
              refine x_goi (x_runVN (As := [.ref (h0 + 158)]) hx hb hml hown hT hE hW hl.1 (Or.inl (by decide)) (so_128 h0 g _) rfl cf_X0_walkOn wq995 wq76 wn993 (c_X0_walkOnF l D g T h0 s_81 hW.2.1 158 xd_158 K9 n9 w9 q9 l9 (hok) (by first | exact hlc | exact hlc.f (fun k hk => hF_81 k (by omega))) (by first | exact hK | exact fun t t1 t2 => by rw [hF_81 4 (by first | decide | omega)]; exact hK t t1 t2) (by first | exact hlm | exact fun i i1 i2 => by rw [hF_81 129 (by first | decide | omega)]; exact hlm i i1 i2) (v81_1) (v81_2) q81_3 q81_0 q81_1) ⟨rfl, rfl, ⟨by decide, by decide⟩, ⟨by decide, by decide⟩⟩ rfl rfl (Nat.le_of_ble_eq_true rfl) dX3_fewestSteps_93) hW (fun x28 s29 H locs rx28 hp30 hW => ?_)
              obtain ⟨fs29, hp30⟩ := hp30
              have hF31 := hF_81.call fs29 (fun k h => by omega)
              have q32 : s29 1 1 = s0 1 1 := (congrFun (fs29 _ (by omega)) _).trans q81_2
              have ghp30 := hp30.2
              have K93 := ghp30.2
              have W93 : zWc s29 158 n9 w9 := v81_1.f (fs29 160 (by first | decide | omega)) (fun k hk => fs29 k (by omega))
              refine x_if_eq (tgt := 142) hx hb rx28 dX3_fewestSteps_96 (by decide) (fun c33 => ?_) (fun c33 => ?_)
              · skip
                refine lv_ldc (v := xJ 1000000) hx hb hown (hT _ wq991) dX3_fewestSteps_142 ?_
                refine lv_istore (lv' := [(5, .int (xJ 1000000)), (0, .ref (h0 + 156)), (2, .int (xJ n)), (3, .int (xJ b)), (4, .ref (h0 + 158))]) hx hb dX3_fewestSteps_144 hl (by decide) rfl (fun ls hl => ?_)
                refine x_iconst hx hb dX3_fewestSteps_146 ?_
                refine lv_istore (lv' := [(6, .int (xJ 0)), (5, .int (xJ 1000000)), (0, .ref (h0 + 156)), (2, .int (xJ n)), (3, .int (xJ b)), (4, .ref (h0 + 158))]) hx hb dX3_fewestSteps_147 hl (by decide) rfl (fun ls hl => ?_)
                have L149 : ∀ (fu : Nat) (i5_149 : Int) (i6_149 : Int) (ls : Array Slot), (xR i5_149) → (xR i6_149) → (0 ≤ i6_149) → (i6_149 ≤ 100) → (100 + 1 - i6_149).toNat < fu → lv_has ls 7 [(0, .ref (h0 + 156)), (3, .int (xJ b)), (5, .int (xJ i5_149)), (6, .int (xJ i6_149))] → W p l e { frames := 5, cells := 0, slots := 0, locals := 120 } s m args below meth c H locs 0 0 Q (F0 m 149 ls []) := by
                  intro fu
                  induction fu with
                  | zero => intro i5_149 i6_149 ls ri5_149 ri6_149 v149_0 v149_1 hm; exact absurd hm (Nat.not_lt_zero _)
                  | succ fu ih149 =>
                    intro i5_149 i6_149 ls ri5_149 ri6_149 v149_0 v149_1 hm  hl
                    have hm_149 := fun (_ : Unit) => hm
                    clear hm
                    refine x_iload hx hb hl 3 rfl dX3_fewestSteps_149 ?_
                    refine x_bipush hx hb dX3_fewestSteps_151 (by decide) ?_
                    refine x_icmp_ge (tgt := 178) hx hb ri6_149 (by decide) dX3_fewestSteps_153 (by decide) (fun c34 => ?_) (fun c34 => ?_)
                    · skip
                      refine x_iload hx hb hl 2 rfl dX3_fewestSteps_178 ?_
                      refine lv_ldc (v := xJ 1000000) hx hb hown (hT _ wq991) dX3_fewestSteps_180 ?_
                      refine x_icmp_lt (tgt := 190) hx hb ri5_149 (by decide) dX3_fewestSteps_182 (by decide) (fun c35 => ?_) (fun c35 => ?_)
                      · skip
                        refine x_iload hx hb hl 2 rfl dX3_fewestSteps_190 ?_
                        rw [eQ]
                        exact x_iret hx hb hr hlk hW ri5_149 ⟨hF31, ⟨hp30.1.1, hp30.1.2.1, hp30.1.2.2.1, trivial⟩, trivial⟩ dX3_fewestSteps_192
                      refine x_bipush hx hb dX3_fewestSteps_185 (by decide) ?_
                      refine lv_goto (tgt := 192) hx hb dX3_fewestSteps_187 (by decide) ?_
                      rw [eQ]
                      exact x_iret hx hb hr hlk hW (by decide) ⟨hF31, ⟨hp30.1.1, hp30.1.2.1, hp30.1.2.2.1, trivial⟩, trivial⟩ dX3_fewestSteps_192
                    refine x_iload hx hb hl 2 rfl dX3_fewestSteps_156 ?_
                    refine x_aload_n hx hb hl 0 rfl dX3_fewestSteps_158 rfl ?_
                    refine x_get (j := 8) (v := .ref (h0 + 227)) hx hb hown hT hE hW cls_X3 (Or.inl (by decide)) (so_156 h0 g _) (by decide) rfl wq461 dX3_fewestSteps_159 ?_
                    refine x_iload_n hx hb hl 1 rfl dX3_fewestSteps_162 rfl ?_
                    refine x_aaldR (t0 := 3) (n := 31) (r := 228 + (b).toNat) hx hb hE hW (by decide) rfl rfl (sg_227 h0 g _) (by omega) (by decide) rfl dX3_fewestSteps_163 ?_
                    refine x_iload hx hb hl 3 rfl dX3_fewestSteps_164 ?_
                    refine x_iald hx hb hE hW (Or.inl (by omega)) (sa_least0 h0 g (by omega) _) (by omega) (by decide) dX3_fewestSteps_166 ?_
                    refine x_rd hW (fun x36 ex36 rx36 => ?_)
                    refine x_mmin hx hb hml hl.1 hown hT wq997 wq569 wq180 wq570 ⟨by decide, Nat.le_of_ble_eq_true rfl, by decide, by decide⟩ ri5_149 rx36 dX3_fewestSteps_167 ?_
                    refine x_nm (fun x37 ex37 => ?_)
                    have fx37 : (x37 = i5_149 ∧ i5_149 ≤ x36) ∨ (x37 = x36 ∧ x36 ≤ i5_149) := by rw [ex37]; split <;> omega
                    refine lv_istore (lv' := [(5, .int (xJ x37)), (0, .ref (h0 + 156)), (3, .int (xJ b)), (6, .int (xJ i6_149))]) hx hb dX3_fewestSteps_170 hl (by decide) rfl (fun ls hl => ?_)
                    refine x_iinc (lv' := [(6, .int (xJ (i6_149 + 1))), (5, .int (xJ x37)), (0, .ref (h0 + 156)), (3, .int (xJ b))]) hx hb hl 3 rfl dX3_fewestSteps_172 (by decide) rfl (fun ls hl => ?_)
                    refine lv_goto (tgt := 149) hx hb dX3_fewestSteps_175 (by decide) ?_
                    exact ih149 x37 (i6_149 + 1) ls (by omega) (by omega) (by omega) (by omega) (by have hm := hm_149 (); omega)  (lv_sub hl [2, 3, 1, 0] rfl)
                exact L149 ((100 + 1 - 0 : Int).toNat + 1) 1000000 0 ls (by decide) (by decide) (by omega) (by omega) (Nat.lt_succ_self _)  (lv_sub hl [2, 4, 1, 0] rfl)
              refine x_iload hx hb hl 4 rfl dX3_fewestSteps_99 ?_
              refine x_iload_n hx hb hl 2 rfl dX3_fewestSteps_101 rfl ?_
              refine x_mmin hx hb hml hl.1 hown hT wq997 wq569 wq180 wq570 ⟨by decide, Nat.le_of_ble_eq_true rfl, by decide, by decide⟩ ri5_81 rb dX3_fewestSteps_102 ?_
              refine x_nm (fun x38 ex38 => ?_)
              have fx38 : (x38 = i5_81 ∧ i5_81 ≤ b) ∨ (x38 = b ∧ b ≤ i5_81) := by rw [ex38]; split <;> omega
              refine lv_istore (lv' := [(6, .int (xJ x38)), (0, .ref (h0 + 156)), (2, .int (xJ n)), (3, .int (xJ b)), (4, .ref (h0 + 158)), (5, .int (xJ i5_81))]) hx hb dX3_fewestSteps_105 hl (by decide) rfl (fun ls hl => ?_)
              have L107 : ∀ (fu : Nat) (i6_107 : Int) (s_107 : xS) (H : Heap) (locs : List Loc) (ls : Array Slot), (xR i6_107) → (xFr (fun k => (228 ≤ k ∧ k < 259) ∨ k = 115 ∨ k = 116 ∨ k = 130 ∨ k = 131 ∨ k = 132 ∨ k = 133 ∨ k = 158 ∨ k = 159 ∨ k = 160 ∨ k = 163 ∨ k = 164 ∨ k = 165 ∨ k = 166 ∨ k = 167 ∨ k = 228 ∨ k = 259 ∨ k = 260) s0 s_107) → (s_107 1 1 = s0 1 1) → (IC s_107) → (IS s_107) → (IQ s_107) → (-1 ≤ i6_107 ∧ i6_107 ≤ b) → (zWc s_107 158 n9 w9) → (zok (zY4 (zYc s_107 158))) → (i6_107 + 1).toNat < fu → xW D g h0 s H locs s_107 → lv_has ls 7 [(0, .ref (h0 + 156)), (2, .int (xJ n)), (3, .int (xJ b)), (4, .ref (h0 + 158)), (5, .int (xJ i5_81)), (6, .int (xJ i6_107))] → W p l e { frames := 5, cells := 0, slots := 0, locals := 120 } s m args below meth c H locs 0 0 Q (F0 m 107 ls []) := by
                intro fu
                induction fu with
                | zero => intro i6_107 s_107 H locs ls ri6_107 hF_107 q107_0 q107_1 q107_2 q107_3 v107_0 v107_1 v107_2 hm; exact absurd hm (Nat.not_lt_zero _)
                | succ fu ih107 =>
                  intro i6_107 s_107 H locs ls ri6_107 hF_107 q107_0 q107_1 q107_2 q107_3 v107_0 v107_1 v107_2 hm hW hl
                  have hm_107 := fun (_ : Unit) => hm
                  clear hm
                  refine x_iload hx hb hl 5 rfl dX3_fewestSteps_107 ?_
                  refine x_if_lt (tgt := 136) hx hb ri6_107 dX3_fewestSteps_109 (by decide) (fun c39 => ?_) (fun c39 => ?_)
                  · skip
                    refine x_iinc (lv' := [(5, .int (xJ (i5_81 + 1))), (0, .ref (h0 + 156)), (2, .int (xJ n)), (3, .int (xJ b)), (4, .ref (h0 + 158)), (6, .int (xJ i6_107))]) hx hb hl 4 rfl dX3_fewestSteps_136 (by decide) rfl (fun ls hl => ?_)
                    refine lv_goto (tgt := 81) hx hb dX3_fewestSteps_139 (by decide) ?_
                    exact ih81 (i5_81 + 1) s_107 H locs ls (by omega) hF_107 q107_2 q107_3 q107_0 q107_1 (by omega) (v107_1) (v107_2) (by have hm := hm_81 (); omega) hW (lv_sub hl [1, 2, 3, 4, 0] rfl)
                  refine x_aload_n hx hb hl 0 rfl dX3_fewestSteps_112 rfl ?_
                  refine x_aload_n hx hb hl 0 rfl dX3_fewestSteps_113 rfl ?_
                  refine x_get (j := 8) (v := .ref (h0 + 227)) hx hb hown hT hE hW cls_X3 (Or.inl (by decide)) (so_156 h0 g _) (by decide) rfl wq461 dX3_fewestSteps_114 ?_
                  refine x_iload hx hb hl 5 rfl dX3_fewestSteps_117 ?_
                  refine x_aaldR (t0 := 3) (n := 31) (r := 228 + (i6_107).toNat) hx hb hE hW (by decide) rfl rfl (sg_227 h0 g _) (by omega) (by decide) rfl dX3_fewestSteps_119 ?_
                  refine x_gov (x_runV (As := [.ref (h0 + (228 + (i6_107).toNat))]) hx hb hml hown hT hE hW hl.1 (Or.inl (by decide)) (so_156 h0 g _) rfl cf_X3_spreadSteps wq1000 wq77 wq998 (c_X3_spreadSteps l D g T h0 s_107 hW.2.1 (228 + (i6_107).toNat) (by omega) (by unfold nsC; omega) (fun σ => sa_least0 h0 g (by omega) σ) q107_1) ⟨rfl, rfl, ⟨by decide, by decide⟩, ⟨by decide, by decide⟩⟩ rfl rfl (Nat.le_of_ble_eq_true rfl) dX3_fewestSteps_120) hW (fun s41 H locs hp42 hW => ?_)
                  obtain ⟨fs41, hp42⟩ := hp42
                  have hF43 := hF_107.call fs41 (fun k h => by omega)
                  have q44 : s41 1 1 = s0 1 1 := (congrFun (fs41 _ (by omega)) _).trans q107_0
                  have q45 : IS s41 := IS_f (fun k hk => fs41 k (by unfold suIS at hk; omega)) q107_2
                  have q46 : IQ s41 := IQ_f (fun k hk => fs41 k (by unfold suIQ at hk; omega)) q107_3
                  have ghp42 := hp42.2
                  have F120 := fs41
                  refine x_aload_n hx hb hl 0 rfl dX3_fewestSteps_123 rfl ?_
                  refine x_iload hx hb hl 5 rfl dX3_fewestSteps_124 ?_
                  refine x_iload_n hx hb hl 2 rfl dX3_fewestSteps_126 rfl ?_
                  refine x_gov (x_runV (As := [.int (xJ i6_107), .int (xJ b)]) hx hb hml hown hT hE hW hl.1 (Or.inl (by decide)) (so_156 h0 g _) rfl cf_X3_settle wq1011 wq79 wq1009 (c_X3_settle l D g T h0 s41 hW.2.1 i6_107 ri6_107 b rb hp42.1.1) ⟨rfl, rfl, ⟨by decide, by decide⟩, ⟨by decide, by decide⟩⟩ rfl rfl (Nat.le_of_ble_eq_true rfl) dX3_fewestSteps_127) hW (fun s48 H locs hp49 hW => ?_)
                  obtain ⟨fs48, hp49⟩ := hp49
                  have hF50 := hF43.call fs48 (fun k h => by omega)
                  have q51 : s48 1 1 = s0 1 1 := (congrFun (fs48 _ (by omega)) _).trans q44
                  have q52 : IS s48 := IS_f (fun k hk => fs48 k (by unfold suIS at hk; omega)) q45
                  have q53 : IQ s48 := IQ_f (fun k hk => fs48 k (by unfold suIQ at hk; omega)) q46
                  have ghp49 := hp49.2
                  have F127 := fs48
                  refine x_iinc (lv' := [(6, .int (xJ (i6_107 + (-1)))), (0, .ref (h0 + 156)), (2, .int (xJ n)), (3, .int (xJ b)), (4, .ref (h0 + 158)), (5, .int (xJ i5_81))]) hx hb hl 5 rfl dX3_fewestSteps_130 (by decide) rfl (fun ls hl => ?_)
                  refine lv_goto (tgt := 107) hx hb dX3_fewestSteps_133 (by decide) ?_
                  exact ih107 (i6_107 + (-1)) s48 H locs ls (by omega) hF50 q51 hp49.1.1 q52 q53 (by omega) (v107_1.f ((F127 160 (by omega)).trans (F120 160 (by omega))) (fun k hk => (F127 k (by omega)).trans (F120 k (by omega)))) (by rw [show zYc s48 158 = zYc s_107 158 from zYc_f (fun o ho => (F127 (158 + o) (by omega)).trans (F120 (158 + o) (by omega)))]; exact v107_2) (by have hm := hm_107 (); omega) hW (lv_sub hl [1, 2, 3, 4, 5, 0] rfl)
              exact L107 ((x38 + 1 : Int).toNat + 1) x38 s29 H locs ls (by omega) hF31 q32 hp30.1.1 hp30.1.2.1 hp30.1.2.2.1 (by omega) (W93) (K93) (Nat.lt_succ_self _) hW (lv_sub hl [1, 2, 3, 4, 5, 0] rfl)
          exact L81 ((n + 1 - 0 : Int).toNat + 1) 0 s17 H locs ls (by decide) hF19 q20 q21 q22 hp18.1.1 (by omega) (W73) (by rw [Y73, zY0_4]; exact hok4) (Nat.lt_succ_self _) hW (lv_sub hl [2, 4, 5, 1, 0] rfl)
        refine x_iconst hx hb dX3_fewestSteps_29 ?_
        refine lv_istore (lv' := [(5, .int (xJ 0)), (0, .ref (h0 + 156)), (1, .int (xJ a)), (2, .int (xJ n)), (3, .int (xJ b)), (4, .int (xJ i4_23))]) hx hb dX3_fewestSteps_30 hl (by decide) rfl (fun ls hl => ?_)
        have L32 : ∀ (fu : Nat) (i5_32 : Int) (s_32 : xS) (H : Heap) (locs : List Loc) (ls : Array Slot), (xR i5_32) → (xFr (fun k => (228 ≤ k ∧ k < 259) ∨ k = 115 ∨ k = 116 ∨ k = 130 ∨ k = 131 ∨ k = 132 ∨ k = 133 ∨ k = 158 ∨ k = 159 ∨ k = 160 ∨ k = 163 ∨ k = 164 ∨ k = 165 ∨ k = 166 ∨ k = 167 ∨ k = 228 ∨ k = 259 ∨ k = 260) s0 s_32) → (IC s_32) → (IS s_32) → (IQ s_32) → (s_32 1 1 = s0 1 1) → (0 ≤ i5_32) → (i5_32 ≤ 100) → (100 + 1 - i5_32).toNat < fu → xW D g h0 s H locs s_32 → lv_has ls 7 [(0, .ref (h0 + 156)), (1, .int (xJ a)), (2, .int (xJ n)), (3, .int (xJ b)), (4, .int (xJ i4_23)), (5, .int (xJ i5_32))] → W p l e { frames := 5, cells := 0, slots := 0, locals := 120 } s m args below meth c H locs 0 0 Q (F0 m 32 ls []) := by
          intro fu
          induction fu with
          | zero => intro i5_32 s_32 H locs ls ri5_32 hF_32 q32_0 q32_1 q32_2 q32_3 v32_0 v32_1 hm; exact absurd hm (Nat.not_lt_zero _)
          | succ fu ih32 =>
            intro i5_32 s_32 H locs ls ri5_32 hF_32 q32_0 q32_1 q32_2 q32_3 v32_0 v32_1 hm hW hl
            have hm_32 := fun (_ : Unit) => hm
            clear hm
            refine x_iload hx hb hl 5 rfl dX3_fewestSteps_32 ?_
            refine x_bipush hx hb dX3_fewestSteps_34 (by decide) ?_
            refine x_icmp_ge (tgt := 57) hx hb ri5_32 (by decide) dX3_fewestSteps_36 (by decide) (fun c54 => ?_) (fun c54 => ?_)
            · skip
              refine x_iinc (lv' := [(4, .int (xJ (i4_23 + 1))), (0, .ref (h0 + 156)), (1, .int (xJ a)), (2, .int (xJ n)), (3, .int (xJ b)), (5, .int (xJ i5_32))]) hx hb hl 4 rfl dX3_fewestSteps_57 (by decide) rfl (fun ls hl => ?_)
              refine lv_goto (tgt := 23) hx hb dX3_fewestSteps_60 (by decide) ?_
              exact ih23 (i4_23 + 1) s_32 H locs ls (by omega) hF_32 q32_0 q32_1 q32_2 q32_3 (by omega) (by have hm := hm_23 (); omega) hW (lv_sub hl [1, 2, 3, 4, 0] rfl)
            refine x_aload_n hx hb hl 0 rfl dX3_fewestSteps_39 rfl ?_
            refine x_get (j := 8) (v := .ref (h0 + 227)) hx hb hown hT hE hW cls_X3 (Or.inl (by decide)) (so_156 h0 g _) (by decide) rfl wq461 dX3_fewestSteps_40 ?_
            refine x_iload hx hb hl 4 rfl dX3_fewestSteps_43 ?_
            refine x_aaldR (t0 := 3) (n := 31) (r := 228 + (i4_23).toNat) hx hb hE hW (by decide) rfl rfl (sg_227 h0 g _) (by omega) (by decide) rfl dX3_fewestSteps_45 ?_
            refine x_iload hx hb hl 5 rfl dX3_fewestSteps_46 ?_
            refine lv_ldc (v := xJ 1000000) hx hb hown (hT _ wq991) dX3_fewestSteps_48 ?_
            refine x_iast hx hb hE hW (by omega) (fun σ => sa_least0 h0 g (by omega) σ) (by omega) (by decide) (by decide) dX3_fewestSteps_50 (fun H locs s55 es55 hW => ?_)
            have q56 : IC s55 := by rw [es55]; exact IC_o (by unfold nsC; omega) q32_0
            have q57 : IS s55 := by rw [es55]; exact IS_o (by unfold suIS; first | decide | omega) q32_1
            have q58 : IQ s55 := by rw [es55]; exact IQ_o (by unfold suIQ; first | decide | omega) q32_2
            have q59 : s55 1 1 = s0 1 1 := (show s55 1 1 = s_32 1 1 from by rw [es55, xU_k _ _ _ (by first | decide | omega)]).trans q32_3
            have hF60 := hF_32.put es55 (by omega)
            refine x_iinc (lv' := [(5, .int (xJ (i5_32 + 1))), (0, .ref (h0 + 156)), (1, .int (xJ a)), (2, .int (xJ n)), (3, .int (xJ b)), (4, .int (xJ i4_23))]) hx hb hl 5 rfl dX3_fewestSteps_51 (by decide) rfl (fun ls hl => ?_)
            refine lv_goto (tgt := 32) hx hb dX3_fewestSteps_54 (by decide) ?_
            exact ih32 (i5_32 + 1) s55 H locs ls (by omega) hF60 q56 q57 q58 q59 (by omega) (by omega) (by have hm := hm_32 (); omega) hW (lv_sub hl [1, 2, 3, 4, 5, 0] rfl)
        exact L32 ((100 + 1 - 0 : Int).toNat + 1) 0 s_23 H locs ls (by decide) hF_23 q23_0 q23_1 q23_2 q23_3 (by omega) (by omega) (Nat.lt_succ_self _) hW (lv_sub hl [1, 2, 3, 4, 5, 0] rfl)
    exact L23 ((b + 1 - 0 : Int).toNat + 1) 0 s0 H locs ls (by decide) hF p0 p1 p2 k1_1 (by omega) (Nat.lt_succ_self _) hW (lv_sub hl [1, 2, 3, 4, 0] rfl)
  refine x_bipush hx hb dX3_fewestSteps_17 (by decide) ?_
  rw [eQ]
  exact x_iret hx hb hr hlk hW (by decide) ⟨hF, ⟨p0, p1, p2, trivial⟩, trivial⟩ dX3_fewestSteps_19
set_option maxHeartbeats 4000000 in
set_option maxRecDepth 100000 in
theorem c_X10_fewestF (l : Launch) (D : va_G) (g : xG) (T : Nat × Nat × Nat) (h0 : Nat) (s0 : xS) (hσ : xRR s0) (f : Int) (rf : xR f) (n : Int) (rn : xR n) (k : Int) (rk : xR k) (K9 : Int → Int) (n9 : Int → Int) (w9 : Int → Int → Int) (q9 : zLaw) (l9 : Int → Int) (hok : zLok q9) (hlc : zLD s0 q9) (hK : ∀ t : Int, 0 ≤ t → t < 100 → s0 4 t = K9 t) (hlm : ∀ i : Int, 0 ≤ i → i < 4 → s0 129 i = l9 i ∧ (l9 i = -1 ∨ (0 ≤ l9 i ∧ l9 i < 100))) (hw : zWc s0 136 n9 w9) (hY : zYq (zYc s0 136)) (hok4 : zok (zY4 (zYc s0 136))) (p0 : IC s0) (p1 : IS s0) (p2 : IQ s0) : Met l yX10_fewest (xws yX10_fewest cX10_fewest 4 (some .int)) { frames := 6, cells := 0, slots := 0, locals := 146 } (xP [.ref (h0 + 0), .int (xJ f), .int (xJ n), .int (xJ k)] D g T h0 s0) (xQi D g h0 (fun r τ => xFr (fun k => (228 ≤ k ∧ k < 259) ∨ k = 115 ∨ k = 116 ∨ k = 130 ∨ k = 131 ∨ k = 132 ∨ k = 133 ∨ k = 158 ∨ k = 159 ∨ k = 160 ∨ k = 163 ∨ k = 164 ∨ k = 165 ∨ k = 166 ∨ k = 167 ∨ k = 228 ∨ k = 259 ∨ k = 260) s0 τ ∧ (((IC τ) ∧ (IS τ) ∧ (IQ τ) ∧ True) ∧ (True)))) 0 0 (xA h0) := by
  refine x_met hσ (by decide) (Nat.le_of_ble_eq_true rfl) ?_
  intro p e s m args below meth c hx hb hr hml hown hT hlk hnm hE hW ls hl
  have hl : lv_has ls 4 [(0, .ref (h0 + 0)), (1, .int (xJ f)), (2, .int (xJ n)), (3, .int (xJ k))] := hl
  obtain ⟨Q, eQ⟩ : ∃ Q, Q = MQ below (xQi D g h0 (fun r τ => xFr (fun k => (228 ≤ k ∧ k < 259) ∨ k = 115 ∨ k = 116 ∨ k = 130 ∨ k = 131 ∨ k = 132 ∨ k = 133 ∨ k = 158 ∨ k = 159 ∨ k = 160 ∨ k = 163 ∨ k = 164 ∨ k = 165 ∨ k = 166 ∨ k = 167 ∨ k = 228 ∨ k = 259 ∨ k = 260) s0 τ ∧ (((IC τ) ∧ (IS τ) ∧ (IQ τ) ∧ True) ∧ (True)))) args s 0 0 (xA h0) := ⟨_, rfl⟩
  rw [← eQ]
  generalize hHe : ([] : List Loc) = locs at hW ⊢
  obtain ⟨H, eH⟩ : ∃ H, H = s.heap := ⟨_, rfl⟩
  rw [← eH] at hW ⊢
  have hF : xFr (fun k => (228 ≤ k ∧ k < 259) ∨ k = 115 ∨ k = 116 ∨ k = 130 ∨ k = 131 ∨ k = 132 ∨ k = 133 ∨ k = 158 ∨ k = 159 ∨ k = 160 ∨ k = 163 ∨ k = 164 ∨ k = 165 ∨ k = 166 ∨ k = 167 ∨ k = 228 ∨ k = 259 ∨ k = 260) s0 s0 := xFr.rf
  have k1_1 : s0 1 1 = s0 1 1 := rfl
  refine x_aload_n hx hb hl 0 rfl dX10_fewest_0 rfl ?_
  refine x_get (j := 8) (v := .ref (h0 + 136)) hx hb hown hT hE hW cls_X10 (Or.inl (by decide)) (so_0 h0 g _) (by decide) rfl wq520 dX10_fewest_1 ?_
  refine x_iload_n hx hb hl 1 rfl dX10_fewest_4 rfl ?_
  refine x_goi (x_runVN (As := [.int (xJ f)]) hx hb hml hown hT hE hW hl.1 (Or.inl (by decide)) (so_136 h0 g _) rfl cf_X2_hasFelon wq862 wq53 wn910 (c_X2_hasFelonF l D g T h0 s0 hW.2.1 136 xd_136 f rf p0) ⟨rfl, rfl, ⟨by decide, by decide⟩, ⟨by decide, by decide⟩⟩ rfl rfl (Nat.le_of_ble_eq_true rfl) dX10_fewest_5) hW (fun x1 s2 H locs rx1 hp3 hW => ?_)
  obtain ⟨es2, hp3⟩ := hp3
  subst es2
  have ghp3 := hp3
  refine x_if_eq (tgt := 30) hx hb rx1 dX10_fewest_8 (by decide) (fun c4 => ?_) (fun c4 => ?_)
  · skip
    refine x_iconst hx hb dX10_fewest_30 ?_
    rw [eQ]
    exact x_iret hx hb hr hlk hW (by decide) ⟨hF, ⟨p0, p1, p2, trivial⟩, trivial⟩ dX10_fewest_31
  refine x_iload_n hx hb hl 2 rfl dX10_fewest_11 rfl ?_
  refine x_iconst hx hb dX10_fewest_12 ?_
  refine x_bipush hx hb dX10_fewest_13 (by decide) ?_
  refine x_goi (x_runS (As := [.int (xJ n), .int (xJ 1), .int (xJ 30)]) hx hb hml hown hT hE hW hl.1 cf_X10_isIn wq562 wq561 (c_X10_isIn l D g T h0 s0 hW.2.1 n rn 1 (by decide) 30 (by decide)) ⟨rfl, rfl, ⟨by decide, by decide⟩, ⟨by decide, by decide⟩⟩ rfl rfl (Nat.le_of_ble_eq_true rfl) dX10_fewest_15) hW (fun x5 s6 H locs rx5 hp7 hW => ?_)
  obtain ⟨es6, hp7⟩ := hp7
  subst es6
  have ghp7 := hp7
  refine x_if_eq (tgt := 30) hx hb rx5 dX10_fewest_18 (by decide) (fun c8 => ?_) (fun c8 => ?_)
  · skip
    refine x_iconst hx hb dX10_fewest_30 ?_
    rw [eQ]
    exact x_iret hx hb hr hlk hW (by decide) ⟨hF, ⟨p0, p1, p2, trivial⟩, trivial⟩ dX10_fewest_31
  refine x_iload_n hx hb hl 3 rfl dX10_fewest_21 rfl ?_
  refine x_iconst hx hb dX10_fewest_22 ?_
  refine x_iload_n hx hb hl 2 rfl dX10_fewest_23 rfl ?_
  refine x_goi (x_runS (As := [.int (xJ k), .int (xJ 1), .int (xJ n)]) hx hb hml hown hT hE hW hl.1 cf_X10_isIn wq562 wq561 (c_X10_isIn l D g T h0 s0 hW.2.1 k rk 1 (by decide) n rn) ⟨rfl, rfl, ⟨by decide, by decide⟩, ⟨by decide, by decide⟩⟩ rfl rfl (Nat.le_of_ble_eq_true rfl) dX10_fewest_24) hW (fun x9 s10 H locs rx9 hp11 hW => ?_)
  obtain ⟨es10, hp11⟩ := hp11
  subst es10
  have ghp11 := hp11
  refine x_if_ne (tgt := 32) hx hb rx9 dX10_fewest_27 (by decide) (fun c12 => ?_) (fun c12 => ?_)
  · skip
    refine x_aload_n hx hb hl 0 rfl dX10_fewest_32 rfl ?_
    refine x_get (j := 6) (v := .ref (h0 + 156)) hx hb hown hT hE hW cls_X10 (Or.inl (by decide)) (so_0 h0 g _) (by decide) rfl wq518 dX10_fewest_33 ?_
    refine x_aload_n hx hb hl 0 rfl dX10_fewest_36 rfl ?_
    refine x_get (j := 8) (v := .ref (h0 + 136)) hx hb hown hT hE hW cls_X10 (Or.inl (by decide)) (so_0 h0 g _) (by decide) rfl wq520 dX10_fewest_37 ?_
    refine x_getN (j := 3) (v := .ref (h0 + 142)) hx hb hown hT hE hW cls_X2 (Or.inl (by decide)) (so_136 h0 g _) (by decide) rfl wn391 dX10_fewest_40 ?_
    refine x_iload_n hx hb hl 1 rfl dX10_fewest_43 rfl ?_
    refine x_iald hx hb hE hW (Or.inl (by decide)) (sa_142 h0 g _) (by omega) (by decide) dX10_fewest_44 ?_
    refine x_rd hW (fun x13 ex13 rx13 => ?_)
    refine x_iload_n hx hb hl 2 rfl dX10_fewest_45 rfl ?_
    refine x_iload_n hx hb hl 3 rfl dX10_fewest_46 rfl ?_
    refine x_goi (x_runVN (As := [.int (xJ x13), .int (xJ n), .int (xJ k)]) hx hb hml hown hT hE hW hl.1 (Or.inl (by decide)) (so_156 h0 g _) rfl cf_X3_fewestSteps wq987 wq75 wn985 (c_X3_fewestStepsF l D g T h0 s0 hW.2.1 x13 rx13 n rn k rk K9 n9 w9 q9 l9 (hok) (by first | exact hlc | exact hlc.f (fun k hk => hF k (by omega))) (by first | exact hK | exact fun t t1 t2 => by rw [hF 4 (by omega)]; exact hK t t1 t2) (by first | exact hlm | exact fun i i1 i2 => by rw [hF 129 (by omega)]; exact hlm i i1 i2) (by first | exact hw | exact hw.f (hF _ (by omega)) (fun k hk => hF k (by first | omega | (unfold xDay at hd; omega)))) (hY) (hok4) p0 p1 p2) ⟨rfl, rfl, ⟨by decide, by decide⟩, ⟨by decide, by decide⟩⟩ rfl rfl (Nat.le_of_ble_eq_true rfl) dX10_fewest_47) hW (fun x14 s15 H locs rx14 hp16 hW => ?_)
    obtain ⟨fs15, hp16⟩ := hp16
    have hF17 := hF.call fs15 (fun k h => by omega)
    have q18 : s15 1 1 = s0 1 1 := (congrFun (fs15 _ (by omega)) _).trans k1_1
    have ghp16 := hp16.2
    rw [eQ]
    exact x_iret hx hb hr hlk hW rx14 ⟨hF17, ⟨hp16.1.1, hp16.1.2.1, hp16.1.2.2.1, trivial⟩, trivial⟩ dX10_fewest_50
  refine x_iconst hx hb dX10_fewest_30 ?_
  rw [eQ]
  exact x_iret hx hb hr hlk hW (by decide) ⟨hF, ⟨p0, p1, p2, trivial⟩, trivial⟩ dX10_fewest_31

/-! ===== who is told, counted as bits; what is told of the whole court ===== -/
def zbv (f : Int → Int) : Nat → Int
  | 0 => 0
  | k + 1 => if f (k : Int) ≠ -1 then zbo (zbv f k) (k : Int) else zbv f k
section BT
variable {f g : Int → Int} {i : Int}
theorem zbv_r : ∀ {k : Nat}, k ≤ 10 → 0 ≤ zbv f k ∧ zbv f k < 1024
  | 0, _ => by
    show (0 : Int) ≤ 0 ∧ (0 : Int) < 1024
    decide
  | k + 1, h => by
    have ih := zbv_r (k := k) (by omega)
    unfold zbv
    split
    · exact (zbo_s ih (by omega)).1
    · exact ih
theorem zbv_y {k : Nat} (hi : i = (k : Int)) (h : f i ≠ -1) : zbv f (k + 1) = zbo (zbv f k) i := by
  subst hi
  exact if_pos h
theorem zbv_n {k : Nat} (hi : i = (k : Int)) (h : ¬ f i ≠ -1) : zbv f (k + 1) = zbv f k := by
  subst hi
  exact if_neg h
theorem zbv_c : ∀ {k : Nat}, (∀ i : Int, 0 ≤ i → i < (k : Int) → (f i ≠ -1 ↔ g i ≠ -1)) → zbv f k = zbv g k
  | 0, _ => rfl
  | k + 1, h => by
    have ih := zbv_c (k := k) (fun i h1 h2 => h i h1 (by omega))
    have z := h (k : Int) (by omega) (by omega)
    by_cases c : f (k : Int) ≠ -1
    · rw [zbv_y rfl c, zbv_y rfl (z.mp c), ih]
    · rw [zbv_n rfl c, zbv_n rfl (fun q => c (z.mpr q)), ih]
end BT
def zcw (K l n : Int → Int) (q : zLaw) (Y : Int → Int) (tp w : Int) : Int :=
  if w = 0 then Y 44 else if w = 1 then zbv Y 2 else if w = 2 then zbv (fun i => Y (4 + i)) 10 else if w = 3 then zbv l 4 else if w = 4 then zSm Y else if w = 5 then q.2.2.2.2.2 else if w = 6 then tp else if w = 7 then Y 45 else if w = 8 then zni q (Y 44) else if 10 ≤ w ∧ w ≤ 11 then Y (w - 10) else if 20 ≤ w ∧ w ≤ 21 then n (w - 20) - Y (w - 18) else if 30 ≤ w ∧ w ≤ 33 then l (w - 30) else if 100 ≤ w ∧ w ≤ 199 then K (w - 100) else -1
/-! ===== numbers of four bytes ===== -/
def zn8 (v c : Int) : Int := ((xJ v <<< (xJ 8 &&& 31)) ||| xJ c).toInt
def znb (g : Int → Int) (x : Int) : Nat → Int
  | 0 => 0
  | k + 1 => zn8 (znb g x k) (g (x + (k : Int)))
theorem zn8_i {v c u x : Int} (hu : xJ u = xJ v <<< (xJ 8 &&& 31)) (rx : xR x) (hx : xJ x = xJ u ||| xJ c) : x = zn8 v c := by
  unfold zn8
  rw [← hu, ← hx, xJ_toInt rx]
theorem znb_s {g : Int → Int} {x i v c : Int} {k : Nat} (hi : i = (k : Int)) (hv : v = znb g x k) (hc : c = g (x + i)) : zn8 v c = znb g x (k + 1) := by
  subst hi; subst hv; subst hc
  rfl
/-- the first number that is not so; -1: none of the first k -/
def zck (g O : Int → Int) : Nat → Int
  | 0 => -1
  | k + 1 => if zck g O k ≠ -1 then zck g O k else if znb g (4 * (k : Int)) 4 ≠ O (k : Int) then (k : Int) else -1
section CK
variable {g O : Int → Int} {i : Int}
theorem zck_w {k : Nat} (hi : i = (k : Int)) (h : zck g O k = -1) (h2 : znb g (4 * i) 4 ≠ O i) : zck g O (k + 1) = i := by
  subst hi
  show (if zck g O k ≠ -1 then _ else _) = _
  rw [if_neg (fun c => c h), if_pos h2]
theorem zck_r {k : Nat} (hi : i = (k : Int)) (h : zck g O k = -1) (h2 : znb g (4 * i) 4 = O i) : zck g O (k + 1) = -1 := by
  subst hi
  show (if zck g O k ≠ -1 then _ else _) = _
  rw [if_neg (fun c => c h), if_neg (fun c => c h2)]
theorem zck_st {k : Nat} (h : zck g O k ≠ -1) : ∀ m : Nat, zck g O (k + m) = zck g O k
  | 0 => rfl
  | m + 1 => by
    have ih := zck_st h m
    show (if zck g O (k + m) ≠ -1 then zck g O (k + m) else _) = _
    rw [ih, if_pos h]
end CK
set_option maxHeartbeats 4000000 in
set_option maxRecDepth 100000 in
theorem c_X10_bitsOfToldF2 (l : Launch) (D : va_G) (g : xG) (T : Nat × Nat × Nat) (h0 : Nat) (s0 : xS) (hσ : xRR s0) (ka : Nat) (hka : ka < 310) (hns : nsC ka) (hca : ∀ σ : xS, xcel h0 g σ ka = .inl (g.1, 2, .inl (fun j => xJ (σ ka j)))) : Met l yX10_bitsOfTold (xws yX10_bitsOfTold cX10_bitsOfTold 3 (some .int)) { frames := 0, cells := 0, slots := 0, locals := 0 } (xP [.ref (h0 + ka)] D g T h0 s0) (xQi D g h0 (fun r τ => s0 = τ ∧ (r = zbv (s0 ka) 2))) 0 0 (xA h0) := by
  refine x_met hσ (by decide) (Nat.le_of_ble_eq_true rfl) ?_
  intro p e s m args below meth c hx hb hr hml hown hT hlk hnm hE hW ls hl
  have hl : lv_has ls 3 [(0, .ref (h0 + ka))] := hl
  obtain ⟨Q, eQ⟩ : ∃ Q, Q = MQ below (xQi D g h0 (fun r τ => s0 = τ ∧ (r = zbv (s0 ka) 2))) args s 0 0 (xA h0) := ⟨_, rfl⟩
  rw [← eQ]
  generalize hHe : ([] : List Loc) = locs at hW ⊢
  obtain ⟨H, eH⟩ : ∃ H, H = s.heap := ⟨_, rfl⟩
  rw [← eH] at hW ⊢
  refine x_iconst hx hb dX10_bitsOfTold_0 ?_
  refine lv_istore_n (lv' := [(1, .int (xJ 0)), (0, .ref (h0 + ka))]) hx hb dX10_bitsOfTold_1 rfl hl (by decide) rfl (fun ls hl => ?_)
  refine x_iconst hx hb dX10_bitsOfTold_2 ?_
  refine lv_istore_n (lv' := [(2, .int (xJ 0)), (1, .int (xJ 0)), (0, .ref (h0 + ka))]) hx hb dX10_bitsOfTold_3 rfl hl (by decide) rfl (fun ls hl => ?_)
  have L4 : ∀ (fu : Nat) (i1_4 : Int) (i2_4 : Int) (ls : Array Slot), (xR i1_4) → (xR i2_4) → (0 ≤ i2_4 ∧ i2_4 ≤ 2) → (i1_4 = zbv (s0 ka) (i2_4).toNat) → (2 - i2_4).toNat < fu → lv_has ls 3 [(0, .ref (h0 + ka)), (1, .int (xJ i1_4)), (2, .int (xJ i2_4))] → W p l e { frames := 0, cells := 0, slots := 0, locals := 0 } s m args below meth c H locs 0 0 Q (F0 m 4 ls []) := by
    intro fu
    induction fu with
    | zero => intro i1_4 i2_4 ls ri1_4 ri2_4 v4_0 v4_1 hm; exact absurd hm (Nat.not_lt_zero _)
    | succ fu ih4 =>
      intro i1_4 i2_4 ls ri1_4 ri2_4 v4_0 v4_1 hm  hl
      have hm_4 := fun (_ : Unit) => hm
      clear hm
      refine x_iload_n hx hb hl 2 rfl dX10_bitsOfTold_4 rfl ?_
      refine x_aload_n hx hb hl 0 rfl dX10_bitsOfTold_5 rfl ?_
      refine x_alen (n := 2) (t0 := 0) hx hb hE hW (Or.inl hka) (hca _) rfl rfl dX10_bitsOfTold_6 ?_
      refine x_icmp_ge (tgt := 29) hx hb ri2_4 (by decide) dX10_bitsOfTold_7 (by decide) (fun c1 => ?_) (fun c1 => ?_)
      · skip
        refine x_iload_n hx hb hl 1 rfl dX10_bitsOfTold_29 rfl ?_
        rw [eQ]
        exact x_iret hx hb hr hlk hW ri1_4 ⟨rfl, by rw [v4_1, show (i2_4).toNat = 2 from by omega]⟩ dX10_bitsOfTold_30
      refine x_aload_n hx hb hl 0 rfl dX10_bitsOfTold_10 rfl ?_
      refine x_iload_n hx hb hl 2 rfl dX10_bitsOfTold_11 rfl ?_
      refine x_iald hx hb hE hW (Or.inl hka) (hca _) (by omega) (by decide) dX10_bitsOfTold_12 ?_
      refine x_rd hW (fun x2 ex2 rx2 => ?_)
      have V12 : x2 = s0 ka i2_4 := ex2
      refine x_iconst hx hb dX10_bitsOfTold_13 ?_
      refine x_icmp_eq (tgt := 23) hx hb rx2 (by decide) dX10_bitsOfTold_14 (by decide) (fun c3 => ?_) (fun c3 => ?_)
      · skip
        refine x_iinc (lv' := [(2, .int (xJ (i2_4 + 1))), (0, .ref (h0 + ka)), (1, .int (xJ i1_4))]) hx hb hl 2 rfl dX10_bitsOfTold_23 (by decide) rfl (fun ls hl => ?_)
        refine lv_goto (tgt := 4) hx hb dX10_bitsOfTold_26 (by decide) ?_
        exact ih4 i1_4 (i2_4 + 1) ls ri1_4 (by omega) (by omega) (by
            rw [show (i2_4 + 1).toNat = i2_4.toNat + 1 from by omega]
            first
              | (rw [zbv_n (i := i2_4) (by omega) (by rw [← V12]; omega)]; exact v4_1)
              | (rw [zbv_y (i := i2_4) (by omega) (by rw [← V12]; omega), ← v4_1, W21])) (by have hm := hm_4 (); omega)  (lv_sub hl [1, 2, 0] rfl)
      refine x_iload_n hx hb hl 1 rfl dX10_bitsOfTold_17 rfl ?_
      refine x_iconst hx hb dX10_bitsOfTold_18 ?_
      refine x_iload_n hx hb hl 2 rfl dX10_bitsOfTold_19 rfl ?_
      refine lv_ishl hx hb dX10_bitsOfTold_20 ?_
      refine x_anyE (fun x4 ex4 rx4 => ?_)
      have V20 := ex4
      refine lv_ior hx hb dX10_bitsOfTold_21 ?_
      refine x_anyE (fun x5 ex5 rx5 => ?_)
      have W21 : x5 = zbo i1_4 i2_4 := zbo_j (by rw [v4_1]; exact zbv_r (by omega)) (by omega) V20 rx5 ex5
      refine lv_istore_n (lv' := [(1, .int (xJ x5)), (0, .ref (h0 + ka)), (2, .int (xJ i2_4))]) hx hb dX10_bitsOfTold_22 rfl hl (by decide) rfl (fun ls hl => ?_)
      refine x_iinc (lv' := [(2, .int (xJ (i2_4 + 1))), (1, .int (xJ x5)), (0, .ref (h0 + ka))]) hx hb hl 2 rfl dX10_bitsOfTold_23 (by decide) rfl (fun ls hl => ?_)
      refine lv_goto (tgt := 4) hx hb dX10_bitsOfTold_26 (by decide) ?_
      exact ih4 x5 (i2_4 + 1) ls rx5 (by omega) (by omega) (by
            rw [show (i2_4 + 1).toNat = i2_4.toNat + 1 from by omega]
            first
              | (rw [zbv_n (i := i2_4) (by omega) (by rw [← V12]; omega)]; exact v4_1)
              | (rw [zbv_y (i := i2_4) (by omega) (by rw [← V12]; omega), ← v4_1, W21])) (by have hm := hm_4 (); omega)  (lv_sub hl [2, 1, 0] rfl)
  exact L4 ((2 - 0 : Int).toNat + 1) 0 0 ls (by decide) (by decide) (by omega) (rfl) (Nat.lt_succ_self _)  (lv_sub hl [2, 1, 0] rfl)
set_option maxHeartbeats 4000000 in
set_option maxRecDepth 100000 in
theorem c_X10_bitsOfToldF10 (l : Launch) (D : va_G) (g : xG) (T : Nat × Nat × Nat) (h0 : Nat) (s0 : xS) (hσ : xRR s0) (ka : Nat) (hka : ka < 310) (hns : nsC ka) (hca : ∀ σ : xS, xcel h0 g σ ka = .inl (g.1, 10, .inl (fun j => xJ (σ ka j)))) : Met l yX10_bitsOfTold (xws yX10_bitsOfTold cX10_bitsOfTold 3 (some .int)) { frames := 0, cells := 0, slots := 0, locals := 0 } (xP [.ref (h0 + ka)] D g T h0 s0) (xQi D g h0 (fun r τ => s0 = τ ∧ (r = zbv (s0 ka) 10))) 0 0 (xA h0) := by
  refine x_met hσ (by decide) (Nat.le_of_ble_eq_true rfl) ?_
  intro p e s m args below meth c hx hb hr hml hown hT hlk hnm hE hW ls hl
  have hl : lv_has ls 3 [(0, .ref (h0 + ka))] := hl
  obtain ⟨Q, eQ⟩ : ∃ Q, Q = MQ below (xQi D g h0 (fun r τ => s0 = τ ∧ (r = zbv (s0 ka) 10))) args s 0 0 (xA h0) := ⟨_, rfl⟩
  rw [← eQ]
  generalize hHe : ([] : List Loc) = locs at hW ⊢
  obtain ⟨H, eH⟩ : ∃ H, H = s.heap := ⟨_, rfl⟩
  rw [← eH] at hW ⊢
  refine x_iconst hx hb dX10_bitsOfTold_0 ?_
  refine lv_istore_n (lv' := [(1, .int (xJ 0)), (0, .ref (h0 + ka))]) hx hb dX10_bitsOfTold_1 rfl hl (by decide) rfl (fun ls hl => ?_)
  refine x_iconst hx hb dX10_bitsOfTold_2 ?_
  refine lv_istore_n (lv' := [(2, .int (xJ 0)), (1, .int (xJ 0)), (0, .ref (h0 + ka))]) hx hb dX10_bitsOfTold_3 rfl hl (by decide) rfl (fun ls hl => ?_)
  have L4 : ∀ (fu : Nat) (i1_4 : Int) (i2_4 : Int) (ls : Array Slot), (xR i1_4) → (xR i2_4) → (0 ≤ i2_4 ∧ i2_4 ≤ 10) → (i1_4 = zbv (s0 ka) (i2_4).toNat) → (10 - i2_4).toNat < fu → lv_has ls 3 [(0, .ref (h0 + ka)), (1, .int (xJ i1_4)), (2, .int (xJ i2_4))] → W p l e { frames := 0, cells := 0, slots := 0, locals := 0 } s m args below meth c H locs 0 0 Q (F0 m 4 ls []) := by
    intro fu
    induction fu with
    | zero => intro i1_4 i2_4 ls ri1_4 ri2_4 v4_0 v4_1 hm; exact absurd hm (Nat.not_lt_zero _)
    | succ fu ih4 =>
      intro i1_4 i2_4 ls ri1_4 ri2_4 v4_0 v4_1 hm  hl
      have hm_4 := fun (_ : Unit) => hm
      clear hm
      refine x_iload_n hx hb hl 2 rfl dX10_bitsOfTold_4 rfl ?_
      refine x_aload_n hx hb hl 0 rfl dX10_bitsOfTold_5 rfl ?_
      refine x_alen (n := 10) (t0 := 0) hx hb hE hW (Or.inl hka) (hca _) rfl rfl dX10_bitsOfTold_6 ?_
      refine x_icmp_ge (tgt := 29) hx hb ri2_4 (by decide) dX10_bitsOfTold_7 (by decide) (fun c1 => ?_) (fun c1 => ?_)
      · skip
        refine x_iload_n hx hb hl 1 rfl dX10_bitsOfTold_29 rfl ?_
        rw [eQ]
        exact x_iret hx hb hr hlk hW ri1_4 ⟨rfl, by rw [v4_1, show (i2_4).toNat = 10 from by omega]⟩ dX10_bitsOfTold_30
      refine x_aload_n hx hb hl 0 rfl dX10_bitsOfTold_10 rfl ?_
      refine x_iload_n hx hb hl 2 rfl dX10_bitsOfTold_11 rfl ?_
      refine x_iald hx hb hE hW (Or.inl hka) (hca _) (by omega) (by decide) dX10_bitsOfTold_12 ?_
      refine x_rd hW (fun x2 ex2 rx2 => ?_)
      have V12 : x2 = s0 ka i2_4 := ex2
      refine x_iconst hx hb dX10_bitsOfTold_13 ?_
      refine x_icmp_eq (tgt := 23) hx hb rx2 (by decide) dX10_bitsOfTold_14 (by decide) (fun c3 => ?_) (fun c3 => ?_)
      · skip
        refine x_iinc (lv' := [(2, .int (xJ (i2_4 + 1))), (0, .ref (h0 + ka)), (1, .int (xJ i1_4))]) hx hb hl 2 rfl dX10_bitsOfTold_23 (by decide) rfl (fun ls hl => ?_)
        refine lv_goto (tgt := 4) hx hb dX10_bitsOfTold_26 (by decide) ?_
        exact ih4 i1_4 (i2_4 + 1) ls ri1_4 (by omega) (by omega) (by
            rw [show (i2_4 + 1).toNat = i2_4.toNat + 1 from by omega]
            first
              | (rw [zbv_n (i := i2_4) (by omega) (by rw [← V12]; omega)]; exact v4_1)
              | (rw [zbv_y (i := i2_4) (by omega) (by rw [← V12]; omega), ← v4_1, W21])) (by have hm := hm_4 (); omega)  (lv_sub hl [1, 2, 0] rfl)
      refine x_iload_n hx hb hl 1 rfl dX10_bitsOfTold_17 rfl ?_
      refine x_iconst hx hb dX10_bitsOfTold_18 ?_
      refine x_iload_n hx hb hl 2 rfl dX10_bitsOfTold_19 rfl ?_
      refine lv_ishl hx hb dX10_bitsOfTold_20 ?_
      refine x_anyE (fun x4 ex4 rx4 => ?_)
      have V20 := ex4
      refine lv_ior hx hb dX10_bitsOfTold_21 ?_
      refine x_anyE (fun x5 ex5 rx5 => ?_)
      have W21 : x5 = zbo i1_4 i2_4 := zbo_j (by rw [v4_1]; exact zbv_r (by omega)) (by omega) V20 rx5 ex5
      refine lv_istore_n (lv' := [(1, .int (xJ x5)), (0, .ref (h0 + ka)), (2, .int (xJ i2_4))]) hx hb dX10_bitsOfTold_22 rfl hl (by decide) rfl (fun ls hl => ?_)
      refine x_iinc (lv' := [(2, .int (xJ (i2_4 + 1))), (1, .int (xJ x5)), (0, .ref (h0 + ka))]) hx hb hl 2 rfl dX10_bitsOfTold_23 (by decide) rfl (fun ls hl => ?_)
      refine lv_goto (tgt := 4) hx hb dX10_bitsOfTold_26 (by decide) ?_
      exact ih4 x5 (i2_4 + 1) ls rx5 (by omega) (by omega) (by
            rw [show (i2_4 + 1).toNat = i2_4.toNat + 1 from by omega]
            first
              | (rw [zbv_n (i := i2_4) (by omega) (by rw [← V12]; omega)]; exact v4_1)
              | (rw [zbv_y (i := i2_4) (by omega) (by rw [← V12]; omega), ← v4_1, W21])) (by have hm := hm_4 (); omega)  (lv_sub hl [2, 1, 0] rfl)
  exact L4 ((10 - 0 : Int).toNat + 1) 0 0 ls (by decide) (by decide) (by omega) (rfl) (Nat.lt_succ_self _)  (lv_sub hl [2, 1, 0] rfl)
set_option maxHeartbeats 4000000 in
set_option maxRecDepth 100000 in
theorem c_X10_bitsOfToldF4 (l : Launch) (D : va_G) (g : xG) (T : Nat × Nat × Nat) (h0 : Nat) (s0 : xS) (hσ : xRR s0) (ka : Nat) (hka : ka < 310) (hns : nsC ka) (hca : ∀ σ : xS, xcel h0 g σ ka = .inl (g.1, 4, .inl (fun j => xJ (σ ka j)))) : Met l yX10_bitsOfTold (xws yX10_bitsOfTold cX10_bitsOfTold 3 (some .int)) { frames := 0, cells := 0, slots := 0, locals := 0 } (xP [.ref (h0 + ka)] D g T h0 s0) (xQi D g h0 (fun r τ => s0 = τ ∧ (r = zbv (s0 ka) 4))) 0 0 (xA h0) := by
  refine x_met hσ (by decide) (Nat.le_of_ble_eq_true rfl) ?_
  intro p e s m args below meth c hx hb hr hml hown hT hlk hnm hE hW ls hl
  have hl : lv_has ls 3 [(0, .ref (h0 + ka))] := hl
  obtain ⟨Q, eQ⟩ : ∃ Q, Q = MQ below (xQi D g h0 (fun r τ => s0 = τ ∧ (r = zbv (s0 ka) 4))) args s 0 0 (xA h0) := ⟨_, rfl⟩
  rw [← eQ]
  generalize hHe : ([] : List Loc) = locs at hW ⊢
  obtain ⟨H, eH⟩ : ∃ H, H = s.heap := ⟨_, rfl⟩
  rw [← eH] at hW ⊢
  refine x_iconst hx hb dX10_bitsOfTold_0 ?_
  refine lv_istore_n (lv' := [(1, .int (xJ 0)), (0, .ref (h0 + ka))]) hx hb dX10_bitsOfTold_1 rfl hl (by decide) rfl (fun ls hl => ?_)
  refine x_iconst hx hb dX10_bitsOfTold_2 ?_
  refine lv_istore_n (lv' := [(2, .int (xJ 0)), (1, .int (xJ 0)), (0, .ref (h0 + ka))]) hx hb dX10_bitsOfTold_3 rfl hl (by decide) rfl (fun ls hl => ?_)
  have L4 : ∀ (fu : Nat) (i1_4 : Int) (i2_4 : Int) (ls : Array Slot), (xR i1_4) → (xR i2_4) → (0 ≤ i2_4 ∧ i2_4 ≤ 4) → (i1_4 = zbv (s0 ka) (i2_4).toNat) → (4 - i2_4).toNat < fu → lv_has ls 3 [(0, .ref (h0 + ka)), (1, .int (xJ i1_4)), (2, .int (xJ i2_4))] → W p l e { frames := 0, cells := 0, slots := 0, locals := 0 } s m args below meth c H locs 0 0 Q (F0 m 4 ls []) := by
    intro fu
    induction fu with
    | zero => intro i1_4 i2_4 ls ri1_4 ri2_4 v4_0 v4_1 hm; exact absurd hm (Nat.not_lt_zero _)
    | succ fu ih4 =>
      intro i1_4 i2_4 ls ri1_4 ri2_4 v4_0 v4_1 hm  hl
      have hm_4 := fun (_ : Unit) => hm
      clear hm
      refine x_iload_n hx hb hl 2 rfl dX10_bitsOfTold_4 rfl ?_
      refine x_aload_n hx hb hl 0 rfl dX10_bitsOfTold_5 rfl ?_
      refine x_alen (n := 4) (t0 := 0) hx hb hE hW (Or.inl hka) (hca _) rfl rfl dX10_bitsOfTold_6 ?_
      refine x_icmp_ge (tgt := 29) hx hb ri2_4 (by decide) dX10_bitsOfTold_7 (by decide) (fun c1 => ?_) (fun c1 => ?_)
      · skip
        refine x_iload_n hx hb hl 1 rfl dX10_bitsOfTold_29 rfl ?_
        rw [eQ]
        exact x_iret hx hb hr hlk hW ri1_4 ⟨rfl, by rw [v4_1, show (i2_4).toNat = 4 from by omega]⟩ dX10_bitsOfTold_30
      refine x_aload_n hx hb hl 0 rfl dX10_bitsOfTold_10 rfl ?_
      refine x_iload_n hx hb hl 2 rfl dX10_bitsOfTold_11 rfl ?_
      refine x_iald hx hb hE hW (Or.inl hka) (hca _) (by omega) (by decide) dX10_bitsOfTold_12 ?_
      refine x_rd hW (fun x2 ex2 rx2 => ?_)
      have V12 : x2 = s0 ka i2_4 := ex2
      refine x_iconst hx hb dX10_bitsOfTold_13 ?_
      refine x_icmp_eq (tgt := 23) hx hb rx2 (by decide) dX10_bitsOfTold_14 (by decide) (fun c3 => ?_) (fun c3 => ?_)
      · skip
        refine x_iinc (lv' := [(2, .int (xJ (i2_4 + 1))), (0, .ref (h0 + ka)), (1, .int (xJ i1_4))]) hx hb hl 2 rfl dX10_bitsOfTold_23 (by decide) rfl (fun ls hl => ?_)
        refine lv_goto (tgt := 4) hx hb dX10_bitsOfTold_26 (by decide) ?_
        exact ih4 i1_4 (i2_4 + 1) ls ri1_4 (by omega) (by omega) (by
            rw [show (i2_4 + 1).toNat = i2_4.toNat + 1 from by omega]
            first
              | (rw [zbv_n (i := i2_4) (by omega) (by rw [← V12]; omega)]; exact v4_1)
              | (rw [zbv_y (i := i2_4) (by omega) (by rw [← V12]; omega), ← v4_1, W21])) (by have hm := hm_4 (); omega)  (lv_sub hl [1, 2, 0] rfl)
      refine x_iload_n hx hb hl 1 rfl dX10_bitsOfTold_17 rfl ?_
      refine x_iconst hx hb dX10_bitsOfTold_18 ?_
      refine x_iload_n hx hb hl 2 rfl dX10_bitsOfTold_19 rfl ?_
      refine lv_ishl hx hb dX10_bitsOfTold_20 ?_
      refine x_anyE (fun x4 ex4 rx4 => ?_)
      have V20 := ex4
      refine lv_ior hx hb dX10_bitsOfTold_21 ?_
      refine x_anyE (fun x5 ex5 rx5 => ?_)
      have W21 : x5 = zbo i1_4 i2_4 := zbo_j (by rw [v4_1]; exact zbv_r (by omega)) (by omega) V20 rx5 ex5
      refine lv_istore_n (lv' := [(1, .int (xJ x5)), (0, .ref (h0 + ka)), (2, .int (xJ i2_4))]) hx hb dX10_bitsOfTold_22 rfl hl (by decide) rfl (fun ls hl => ?_)
      refine x_iinc (lv' := [(2, .int (xJ (i2_4 + 1))), (1, .int (xJ x5)), (0, .ref (h0 + ka))]) hx hb hl 2 rfl dX10_bitsOfTold_23 (by decide) rfl (fun ls hl => ?_)
      refine lv_goto (tgt := 4) hx hb dX10_bitsOfTold_26 (by decide) ?_
      exact ih4 x5 (i2_4 + 1) ls rx5 (by omega) (by omega) (by
            rw [show (i2_4 + 1).toNat = i2_4.toNat + 1 from by omega]
            first
              | (rw [zbv_n (i := i2_4) (by omega) (by rw [← V12]; omega)]; exact v4_1)
              | (rw [zbv_y (i := i2_4) (by omega) (by rw [← V12]; omega), ← v4_1, W21])) (by have hm := hm_4 (); omega)  (lv_sub hl [2, 1, 0] rfl)
  exact L4 ((4 - 0 : Int).toNat + 1) 0 0 ls (by decide) (by decide) (by omega) (rfl) (Nat.lt_succ_self _)  (lv_sub hl [2, 1, 0] rfl)
set_option maxHeartbeats 4000000 in
set_option maxRecDepth 100000 in
theorem c_X10_countF (l : Launch) (D : va_G) (g : xG) (T : Nat × Nat × Nat) (h0 : Nat) (s0 : xS) (hσ : xRR s0) (w : Int) (rw : xR w) (K9 : Int → Int) (n9 : Int → Int) (w9 : Int → Int → Int) (q9 : zLaw) (l9 : Int → Int) (hok : zLok q9) (hlc : zLD s0 q9) (hK : ∀ t : Int, 0 ≤ t → t < 100 → s0 4 t = K9 t) (hlm : ∀ i : Int, 0 ≤ i → i < 4 → s0 129 i = l9 i ∧ (l9 i = -1 ∨ (0 ≤ l9 i ∧ l9 i < 100))) (hw : zWc s0 136 n9 w9) (hY : zYq (zYc s0 136)) (hok4 : zok (zY4 (zYc s0 136))) (p0 : IC s0) (p1 : IS s0) (p2 : IQ s0) : Met l yX10_count (xws yX10_count cX10_count 2 (some .int)) { frames := 3, cells := 0, slots := 0, locals := 72 } (xP [.ref (h0 + 0), .int (xJ w)] D g T h0 s0) (xQi D g h0 (fun r τ => xFr (fun k => k = 115 ∨ k = 116) s0 τ ∧ (((IC τ) ∧ (IS τ) ∧ (IQ τ) ∧ True) ∧ (r = zcw K9 l9 n9 q9 (zYc s0 136) (s0 1 1) w)))) 0 0 (xA h0) := by
  refine x_met hσ (by decide) (Nat.le_of_ble_eq_true rfl) ?_
  intro p e s m args below meth c hx hb hr hml hown hT hlk hnm hE hW ls hl
  have hl : lv_has ls 2 [(0, .ref (h0 + 0)), (1, .int (xJ w))] := hl
  obtain ⟨Q, eQ⟩ : ∃ Q, Q = MQ below (xQi D g h0 (fun r τ => xFr (fun k => k = 115 ∨ k = 116) s0 τ ∧ (((IC τ) ∧ (IS τ) ∧ (IQ τ) ∧ True) ∧ (r = zcw K9 l9 n9 q9 (zYc s0 136) (s0 1 1) w)))) args s 0 0 (xA h0) := ⟨_, rfl⟩
  rw [← eQ]
  generalize hHe : ([] : List Loc) = locs at hW ⊢
  obtain ⟨H, eH⟩ : ∃ H, H = s.heap := ⟨_, rfl⟩
  rw [← eH] at hW ⊢
  have hF : xFr (fun k => k = 115 ∨ k = 116) s0 s0 := xFr.rf
  have k1_1 : s0 1 1 = s0 1 1 := rfl
  have hm7 := IC.m p0 xd_136
  have hl6 := hlc.1
  refine x_iload_n hx hb hl 1 rfl dX10_count_0 rfl ?_
  rcases (show (w < 0 ∨ 8 < w) ∨ w = 0 ∨ w = 1 ∨ w = 2 ∨ w = 3 ∨ w = 4 ∨ w = 5 ∨ w = 6 ∨ w = 7 ∨ w = 8 from by omega) with c1 | c1 | c1 | c1 | c1 | c1 | c1 | c1 | c1 | c1
  · refine x_tabOut (tgt := 148) hx hb rw dX10_count_1 c1 (by decide) ?_
    refine x_iload_n hx hb hl 1 rfl dX10_count_148 rfl ?_
    refine x_bipush hx hb dX10_count_149 (by decide) ?_
    refine x_bipush hx hb dX10_count_151 (by decide) ?_
    refine x_goi (x_runS (As := [.int (xJ w), .int (xJ 10), .int (xJ 11)]) hx hb hml hown hT hE hW hl.1 cf_X10_isIn wq562 wq561 (c_X10_isIn l D g T h0 s0 hW.2.1 w rw 10 (by decide) 11 (by decide)) ⟨rfl, rfl, ⟨by decide, by decide⟩, ⟨by decide, by decide⟩⟩ rfl rfl (Nat.le_of_ble_eq_true rfl) dX10_count_153) hW (fun x2 s3 H locs rx2 hp4 hW => ?_)
    obtain ⟨es3, hp4⟩ := hp4
    subst es3
    have ghp4 := hp4
    refine x_if_eq (tgt := 172) hx hb rx2 dX10_count_156 (by decide) (fun c5 => ?_) (fun c5 => ?_)
    · skip
      refine x_iload_n hx hb hl 1 rfl dX10_count_172 rfl ?_
      refine x_bipush hx hb dX10_count_173 (by decide) ?_
      refine x_bipush hx hb dX10_count_175 (by decide) ?_
      refine x_goi (x_runS (As := [.int (xJ w), .int (xJ 20), .int (xJ 21)]) hx hb hml hown hT hE hW hl.1 cf_X10_isIn wq562 wq561 (c_X10_isIn l D g T h0 s0 hW.2.1 w rw 20 (by decide) 21 (by decide)) ⟨rfl, rfl, ⟨by decide, by decide⟩, ⟨by decide, by decide⟩⟩ rfl rfl (Nat.le_of_ble_eq_true rfl) dX10_count_177) hW (fun x6 s7 H locs rx6 hp8 hW => ?_)
      obtain ⟨es7, hp8⟩ := hp8
      subst es7
      have ghp8 := hp8
      refine x_if_eq (tgt := 195) hx hb rx6 dX10_count_180 (by decide) (fun c9 => ?_) (fun c9 => ?_)
      · skip
        refine x_iload_n hx hb hl 1 rfl dX10_count_195 rfl ?_
        refine x_bipush hx hb dX10_count_196 (by decide) ?_
        refine x_bipush hx hb dX10_count_198 (by decide) ?_
        refine x_goi (x_runS (As := [.int (xJ w), .int (xJ 30), .int (xJ 33)]) hx hb hml hown hT hE hW hl.1 cf_X10_isIn wq562 wq561 (c_X10_isIn l D g T h0 s0 hW.2.1 w rw 30 (by decide) 33 (by decide)) ⟨rfl, rfl, ⟨by decide, by decide⟩, ⟨by decide, by decide⟩⟩ rfl rfl (Nat.le_of_ble_eq_true rfl) dX10_count_200) hW (fun x10 s11 H locs rx10 hp12 hW => ?_)
        obtain ⟨es11, hp12⟩ := hp12
        subst es11
        have ghp12 := hp12
        refine x_if_eq (tgt := 219) hx hb rx10 dX10_count_203 (by decide) (fun c13 => ?_) (fun c13 => ?_)
        · skip
          refine x_iload_n hx hb hl 1 rfl dX10_count_219 rfl ?_
          refine x_bipush hx hb dX10_count_220 (by decide) ?_
          refine x_sipush hx hb dX10_count_222 (by decide) ?_
          refine x_goi (x_runS (As := [.int (xJ w), .int (xJ 100), .int (xJ 199)]) hx hb hml hown hT hE hW hl.1 cf_X10_isIn wq562 wq561 (c_X10_isIn l D g T h0 s0 hW.2.1 w rw 100 (by decide) 199 (by decide)) ⟨rfl, rfl, ⟨by decide, by decide⟩, ⟨by decide, by decide⟩⟩ rfl rfl (Nat.le_of_ble_eq_true rfl) dX10_count_225) hW (fun x14 s15 H locs rx14 hp16 hW => ?_)
          obtain ⟨es15, hp16⟩ := hp16
          subst es15
          have ghp16 := hp16
          refine x_if_eq (tgt := 245) hx hb rx14 dX10_count_228 (by decide) (fun c17 => ?_) (fun c17 => ?_)
          · skip
            refine x_iconst hx hb dX10_count_245 ?_
            rw [eQ]
            exact x_iret hx hb hr hlk hW (by decide) ⟨hF, ⟨p0, p1, p2, trivial⟩, by unfold zcw; (repeat' split) <;> omega⟩ dX10_count_246
          refine x_aload_n hx hb hl 0 rfl dX10_count_231 rfl ?_
          refine x_get (j := 1) (v := .ref (h0 + 3)) hx hb hown hT hE hW cls_X10 (Or.inl (by decide)) (so_0 h0 g _) (by decide) rfl wq513 dX10_count_232 ?_
          refine x_iload_n hx hb hl 1 rfl dX10_count_235 rfl ?_
          refine x_bipush hx hb dX10_count_236 (by decide) ?_
          refine x_isub hx hb dX10_count_238 ?_
          refine x_goi (x_runVN (As := [.int (xJ (w - 100))]) hx hb hml hown hT hE hW hl.1 (Or.inl (by decide)) (so_3 h0 g _) rfl cf_X6_kindAt wq619 wq10 wn1067 (c_X6_kindAt l D g T h0 s0 hW.2.1 (w - 100) (by omega) p0) ⟨rfl, rfl, ⟨by decide, by decide⟩, ⟨by decide, by decide⟩⟩ rfl rfl (Nat.le_of_ble_eq_true rfl) dX10_count_239) hW (fun x18 s19 H locs rx18 hp20 hW => ?_)
          obtain ⟨es19, hp20⟩ := hp20
          subst es19
          have ghp20 := hp20
          have V239 : x18 = K9 (w - 100) := by
            have e := (ghp20.resolve_right (fun q => by omega)).2.2
            exact e.trans (hK _ (by omega) (by omega))
          refine lv_goto (tgt := 246) hx hb dX10_count_242 (by decide) ?_
          rw [eQ]
          exact x_iret hx hb hr hlk hW rx18 ⟨hF, ⟨p0, p1, p2, trivial⟩, by unfold zcw; (repeat' split) <;> omega⟩ dX10_count_246
        refine x_aload_n hx hb hl 0 rfl dX10_count_206 rfl ?_
        refine x_get (j := 5) (v := .ref (h0 + 128)) hx hb hown hT hE hW cls_X10 (Or.inl (by decide)) (so_0 h0 g _) (by decide) rfl wq517 dX10_count_207 ?_
        refine x_getN (j := 2) (v := .ref (h0 + 129)) hx hb hown hT hE hW cls_X0 (Or.inl (by decide)) (so_128 h0 g _) (by decide) rfl wn356 dX10_count_210 ?_
        refine x_iload_n hx hb hl 1 rfl dX10_count_213 rfl ?_
        refine x_bipush hx hb dX10_count_214 (by decide) ?_
        refine x_isub hx hb dX10_count_216 ?_
        refine x_iald hx hb hE hW (Or.inl (by decide)) (sa_129 h0 g _) (by omega) (by decide) dX10_count_217 ?_
        refine x_rd hW (fun x21 ex21 rx21 => ?_)
        have V217 : x21 = l9 (w - 30) := ex21.trans (hlm _ (by omega) (by omega)).1
        rw [eQ]
        exact x_iret hx hb hr hlk hW rx21 ⟨hF, ⟨p0, p1, p2, trivial⟩, by unfold zcw; (repeat' split) <;> omega⟩ dX10_count_218
      refine x_aload_n hx hb hl 0 rfl dX10_count_183 rfl ?_
      refine x_get (j := 8) (v := .ref (h0 + 136)) hx hb hown hT hE hW cls_X10 (Or.inl (by decide)) (so_0 h0 g _) (by decide) rfl wq520 dX10_count_184 ?_
      refine x_iload_n hx hb hl 1 rfl dX10_count_187 rfl ?_
      refine x_bipush hx hb dX10_count_188 (by decide) ?_
      refine x_isub hx hb dX10_count_190 ?_
      refine x_goi (x_runVN (As := [.int (xJ (w - 20))]) hx hb hml hown hT hE hW hl.1 (Or.inl (by decide)) (so_136 h0 g _) rfl cf_X2_stepsLeft wq781 wq39 wn1178 (c_X2_stepsLeft l D g T h0 s0 hW.2.1 136 xd_136 (w - 20) (by omega) p0) ⟨rfl, rfl, ⟨by decide, by decide⟩, ⟨by decide, by decide⟩⟩ rfl rfl (Nat.le_of_ble_eq_true rfl) dX10_count_191) hW (fun x22 s23 H locs rx22 hp24 hW => ?_)
      obtain ⟨es23, hp24⟩ := hp24
      subst es23
      have ghp24 := hp24
      have V191 : x22 = n9 (w - 20) - zYc s0 136 (w - 18) := by
        have e := (ghp24.resolve_right (fun q => by omega)).2.2
        have a := (hw (w - 20) (by omega) (by omega)).2.1
        have b : zYc s0 136 (2 + (w - 20)) = s0 141 (w - 20) := zYc_S (by omega)
        rw [show 2 + (w - 20) = w - 18 from by omega] at b
        rw [b, ← a]; exact e
      rw [eQ]
      exact x_iret hx hb hr hlk hW rx22 ⟨hF, ⟨p0, p1, p2, trivial⟩, by unfold zcw; (repeat' split) <;> omega⟩ dX10_count_194
    refine x_aload_n hx hb hl 0 rfl dX10_count_159 rfl ?_
    refine x_get (j := 8) (v := .ref (h0 + 136)) hx hb hown hT hE hW cls_X10 (Or.inl (by decide)) (so_0 h0 g _) (by decide) rfl wq520 dX10_count_160 ?_
    refine x_getN (j := 0) (v := .ref (h0 + 137)) hx hb hown hT hE hW cls_X2 (Or.inl (by decide)) (so_136 h0 g _) (by decide) rfl wn385 dX10_count_163 ?_
    refine x_iload_n hx hb hl 1 rfl dX10_count_166 rfl ?_
    refine x_bipush hx hb dX10_count_167 (by decide) ?_
    refine x_isub hx hb dX10_count_169 ?_
    refine x_iald hx hb hE hW (Or.inl (by decide)) (sa_137 h0 g _) (by omega) (by decide) dX10_count_170 ?_
    refine x_rd hW (fun x25 ex25 rx25 => ?_)
    have V170 : x25 = zYc s0 136 (w - 10) := ex25.trans (show s0 137 (w - 10) = zYc s0 136 (w - 10) from (zYc_J (by omega)).symm)
    rw [eQ]
    exact x_iret hx hb hr hlk hW rx25 ⟨hF, ⟨p0, p1, p2, trivial⟩, by unfold zcw; (repeat' split) <;> omega⟩ dX10_count_171
  · refine x_tabIn (v := 0) (tgt := 52) hx hb rw c1 dX10_count_1 (by decide) rfl (by decide) ?_
    refine x_aload_n hx hb hl 0 rfl dX10_count_52 rfl ?_
    refine x_get (j := 8) (v := .ref (h0 + 136)) hx hb hown hT hE hW cls_X10 (Or.inl (by decide)) (so_0 h0 g _) (by decide) rfl wq520 dX10_count_53 ?_
    refine x_getN (j := 7) (v := .int (xJ (s0 136 7))) hx hb hown hT hE hW cls_X2 (Or.inl (by decide)) (so_136 h0 g _) (by decide) rfl wn403 dX10_count_56 ?_
    refine x_rd hW (fun x26 ex26 rx26 => ?_)
    have bx26 : 0 ≤ x26 ∧ x26 ≤ 9999 := by rw [ex26]; exact IC.m p0 xd_136
    have V56 : x26 = zYc s0 136 44 := ex26.trans zYc_44.symm
    rw [eQ]
    exact x_iret hx hb hr hlk hW rx26 ⟨hF, ⟨p0, p1, p2, trivial⟩, by unfold zcw; (repeat' split) <;> omega⟩ dX10_count_59
  · refine x_tabIn (v := 1) (tgt := 60) hx hb rw c1 dX10_count_1 (by decide) rfl (by decide) ?_
    refine x_aload_n hx hb hl 0 rfl dX10_count_60 rfl ?_
    refine x_get (j := 8) (v := .ref (h0 + 136)) hx hb hown hT hE hW cls_X10 (Or.inl (by decide)) (so_0 h0 g _) (by decide) rfl wq520 dX10_count_61 ?_
    refine x_getN (j := 0) (v := .ref (h0 + 137)) hx hb hown hT hE hW cls_X2 (Or.inl (by decide)) (so_136 h0 g _) (by decide) rfl wn385 dX10_count_64 ?_
    refine x_goi (x_runS (As := [.ref (h0 + 137)]) hx hb hml hown hT hE hW hl.1 cf_X10_bitsOfTold wq1107 wq1106 (c_X10_bitsOfToldF2 l D g T h0 s0 hW.2.1 137 (by decide) (by decide) (fun σ => sa_137 h0 g σ)) ⟨rfl, rfl, ⟨by decide, by decide⟩, ⟨by decide, by decide⟩⟩ rfl rfl (Nat.le_of_ble_eq_true rfl) dX10_count_67) hW (fun x27 s28 H locs rx27 hp29 hW => ?_)
    obtain ⟨es28, hp29⟩ := hp29
    subst es28
    have ghp29 := hp29
    have V67 : x27 = zbv (zYc s0 136) 2 := ghp29.trans (zbv_c (fun i i1 i2 => by rw [show zYc s0 136 i = s0 137 i from zYc_J ⟨i1, by omega⟩]))
    rw [eQ]
    exact x_iret hx hb hr hlk hW rx27 ⟨hF, ⟨p0, p1, p2, trivial⟩, by unfold zcw; (repeat' split) <;> omega⟩ dX10_count_70
  · refine x_tabIn (v := 2) (tgt := 71) hx hb rw c1 dX10_count_1 (by decide) rfl (by decide) ?_
    refine x_aload_n hx hb hl 0 rfl dX10_count_71 rfl ?_
    refine x_get (j := 8) (v := .ref (h0 + 136)) hx hb hown hT hE hW cls_X10 (Or.inl (by decide)) (so_0 h0 g _) (by decide) rfl wq520 dX10_count_72 ?_
    refine x_getN (j := 3) (v := .ref (h0 + 142)) hx hb hown hT hE hW cls_X2 (Or.inl (by decide)) (so_136 h0 g _) (by decide) rfl wn391 dX10_count_75 ?_
    refine x_goi (x_runS (As := [.ref (h0 + 142)]) hx hb hml hown hT hE hW hl.1 cf_X10_bitsOfTold wq1107 wq1106 (c_X10_bitsOfToldF10 l D g T h0 s0 hW.2.1 142 (by decide) (by decide) (fun σ => sa_142 h0 g σ)) ⟨rfl, rfl, ⟨by decide, by decide⟩, ⟨by decide, by decide⟩⟩ rfl rfl (Nat.le_of_ble_eq_true rfl) dX10_count_78) hW (fun x30 s31 H locs rx30 hp32 hW => ?_)
    obtain ⟨es31, hp32⟩ := hp32
    subst es31
    have ghp32 := hp32
    have V78 : x30 = zbv (fun i => zYc s0 136 (4 + i)) 10 := ghp32.trans (zbv_c (fun i i1 i2 => by show _ ↔ zYc s0 136 (4 + i) ≠ -1; rw [show zYc s0 136 (4 + i) = s0 142 i from zYc_F ⟨i1, by omega⟩]))
    rw [eQ]
    exact x_iret hx hb hr hlk hW rx30 ⟨hF, ⟨p0, p1, p2, trivial⟩, by unfold zcw; (repeat' split) <;> omega⟩ dX10_count_81
  · refine x_tabIn (v := 3) (tgt := 82) hx hb rw c1 dX10_count_1 (by decide) rfl (by decide) ?_
    refine x_aload_n hx hb hl 0 rfl dX10_count_82 rfl ?_
    refine x_get (j := 5) (v := .ref (h0 + 128)) hx hb hown hT hE hW cls_X10 (Or.inl (by decide)) (so_0 h0 g _) (by decide) rfl wq517 dX10_count_83 ?_
    refine x_getN (j := 2) (v := .ref (h0 + 129)) hx hb hown hT hE hW cls_X0 (Or.inl (by decide)) (so_128 h0 g _) (by decide) rfl wn356 dX10_count_86 ?_
    refine x_goi (x_runS (As := [.ref (h0 + 129)]) hx hb hml hown hT hE hW hl.1 cf_X10_bitsOfTold wq1107 wq1106 (c_X10_bitsOfToldF4 l D g T h0 s0 hW.2.1 129 (by decide) (by decide) (fun σ => sa_129 h0 g σ)) ⟨rfl, rfl, ⟨by decide, by decide⟩, ⟨by decide, by decide⟩⟩ rfl rfl (Nat.le_of_ble_eq_true rfl) dX10_count_89) hW (fun x33 s34 H locs rx33 hp35 hW => ?_)
    obtain ⟨es34, hp35⟩ := hp35
    subst es34
    have ghp35 := hp35
    have V89 : x33 = zbv l9 4 := ghp35.trans (zbv_c (fun i i1 i2 => by rw [(hlm i i1 (by omega)).1]))
    rw [eQ]
    exact x_iret hx hb hr hlk hW rx33 ⟨hF, ⟨p0, p1, p2, trivial⟩, by unfold zcw; (repeat' split) <;> omega⟩ dX10_count_92
  · refine x_tabIn (v := 4) (tgt := 93) hx hb rw c1 dX10_count_1 (by decide) rfl (by decide) ?_
    refine x_aload_n hx hb hl 0 rfl dX10_count_93 rfl ?_
    refine x_get (j := 8) (v := .ref (h0 + 136)) hx hb hown hT hE hW cls_X10 (Or.inl (by decide)) (so_0 h0 g _) (by decide) rfl wq520 dX10_count_94 ?_
    refine x_goi (x_runVN (As := []) hx hb hml hown hT hE hW hl.1 (Or.inl (by decide)) (so_136 h0 g _) rfl cf_X2_owedByAll wq765 wq35 wn1176 (c_X2_owedByAllF l D g T h0 s0 hW.2.1 136 xd_136 (fun f f1 f2 => (hY f f1 f2).2.1) p0) ⟨rfl, rfl, ⟨by decide, by decide⟩, ⟨by decide, by decide⟩⟩ rfl rfl (Nat.le_of_ble_eq_true rfl) dX10_count_97) hW (fun x36 s37 H locs rx36 hp38 hW => ?_)
    obtain ⟨es37, hp38⟩ := hp38
    subst es37
    have ghp38 := hp38
    have V97 := ghp38
    rw [eQ]
    exact x_iret hx hb hr hlk hW rx36 ⟨hF, ⟨p0, p1, p2, trivial⟩, by unfold zcw; (repeat' split) <;> omega⟩ dX10_count_100
  · refine x_tabIn (v := 5) (tgt := 101) hx hb rw c1 dX10_count_1 (by decide) rfl (by decide) ?_
    refine x_aload_n hx hb hl 0 rfl dX10_count_101 rfl ?_
    refine x_get (j := 2) (v := .ref (h0 + 109)) hx hb hown hT hE hW cls_X10 (Or.inl (by decide)) (so_0 h0 g _) (by decide) rfl wq514 dX10_count_102 ?_
    refine x_getN (j := 6) (v := .int (xJ (s0 109 6))) hx hb hown hT hE hW cls_X4 (Or.inl (by decide)) (so_109 h0 g _) (by decide) rfl wn263 dX10_count_105 ?_
    refine x_rd hW (fun x39 ex39 rx39 => ?_)
    have bx39 : 0 ≤ x39 ∧ x39 ≤ 16 := by rw [ex39]; exact (IC.l1 p0).2
    have V105 : x39 = q9.2.2.2.2.2 := ex39.trans hl6
    rw [eQ]
    exact x_iret hx hb hr hlk hW rx39 ⟨hF, ⟨p0, p1, p2, trivial⟩, by unfold zcw; (repeat' split) <;> omega⟩ dX10_count_108
  · refine x_tabIn (v := 6) (tgt := 109) hx hb rw c1 dX10_count_1 (by decide) rfl (by decide) ?_
    refine x_aload_n hx hb hl 0 rfl dX10_count_109 rfl ?_
    refine x_get (j := 0) (v := .ref (h0 + 1)) hx hb hown hT hE hW cls_X10 (Or.inl (by decide)) (so_0 h0 g _) (by decide) rfl wq512 dX10_count_110 ?_
    refine x_getN (j := 1) (v := .int (xJ (s0 1 1))) hx hb hown hT hE hW cls_X8 (Or.inl (by decide)) (so_1 h0 g _) (by decide) rfl wn198 dX10_count_113 ?_
    refine x_rd hW (fun x40 ex40 rx40 => ?_)
    have bx40 : 0 ≤ x40 ∧ x40 ≤ 260 := by rw [ex40]; exact IC.t p0
    have fx40 : x40 = s0 1 1 := ex40.trans k1_1
    have V113 : x40 = s0 1 1 := ex40
    rw [eQ]
    exact x_iret hx hb hr hlk hW rx40 ⟨hF, ⟨p0, p1, p2, trivial⟩, by unfold zcw; (repeat' split) <;> omega⟩ dX10_count_116
  · refine x_tabIn (v := 7) (tgt := 117) hx hb rw c1 dX10_count_1 (by decide) rfl (by decide) ?_
    refine x_aload_n hx hb hl 0 rfl dX10_count_117 rfl ?_
    refine x_get (j := 8) (v := .ref (h0 + 136)) hx hb hown hT hE hW cls_X10 (Or.inl (by decide)) (so_0 h0 g _) (by decide) rfl wq520 dX10_count_118 ?_
    refine x_getN (j := 8) (v := .int (xJ (s0 136 8))) hx hb hown hT hE hW cls_X2 (Or.inl (by decide)) (so_136 h0 g _) (by decide) rfl wn405 dX10_count_121 ?_
    refine x_rd hW (fun x41 ex41 rx41 => ?_)
    have bx41 : 0 ≤ x41 ∧ x41 ≤ 65535 := by rw [ex41]; exact IC.x p0 xd_136
    have V121 : x41 = zYc s0 136 45 := ex41.trans zYc_45.symm
    rw [eQ]
    exact x_iret hx hb hr hlk hW rx41 ⟨hF, ⟨p0, p1, p2, trivial⟩, by unfold zcw; (repeat' split) <;> omega⟩ dX10_count_124
  · refine x_tabIn (v := 8) (tgt := 125) hx hb rw c1 dX10_count_1 (by decide) rfl (by decide) ?_
    refine x_aload_n hx hb hl 0 rfl dX10_count_125 rfl ?_
    refine x_get (j := 2) (v := .ref (h0 + 109)) hx hb hown hT hE hW cls_X10 (Or.inl (by decide)) (so_0 h0 g _) (by decide) rfl wq514 dX10_count_126 ?_
    refine x_aload_n hx hb hl 0 rfl dX10_count_129 rfl ?_
    refine x_get (j := 8) (v := .ref (h0 + 136)) hx hb hown hT hE hW cls_X10 (Or.inl (by decide)) (so_0 h0 g _) (by decide) rfl wq520 dX10_count_130 ?_
    refine x_getN (j := 7) (v := .int (xJ (s0 136 7))) hx hb hown hT hE hW cls_X2 (Or.inl (by decide)) (so_136 h0 g _) (by decide) rfl wn403 dX10_count_133 ?_
    refine x_rd hW (fun x42 ex42 rx42 => ?_)
    have bx42 : 0 ≤ x42 ∧ x42 ≤ 9999 := by rw [ex42]; exact IC.m p0 xd_136
    have V133 : x42 = zYc s0 136 44 := ex42.trans zYc_44.symm
    refine x_goi (x_runVN (As := [.int (xJ x42)]) hx hb hml hown hT hE hW hl.1 (Or.inl (by decide)) (so_109 h0 g _) rfl cf_X4_isNight wq819 wq45 wn1177 (c_X4_isNightF l D g T h0 s0 hW.2.1 x42 rx42 q9 (hok) (by first | exact hlc | exact hlc.f (fun k hk => hF k (by omega))) (by omega) p0) ⟨rfl, rfl, ⟨by decide, by decide⟩, ⟨by decide, by decide⟩⟩ rfl rfl (Nat.le_of_ble_eq_true rfl) dX10_count_136) hW (fun x43 s44 H locs rx43 hp45 hW => ?_)
    obtain ⟨fs44, hp45⟩ := hp45
    have hF46 := hF.call fs44 (fun k h => by omega)
    have q47 : IS s44 := IS_f (fun k hk => fs44 k (by unfold suIS at hk; omega)) p1
    have q48 : IQ s44 := IQ_f (fun k hk => fs44 k (by unfold suIQ at hk; omega)) p2
    have q49 : s44 1 1 = s0 1 1 := (congrFun (fs44 _ (by omega)) _).trans k1_1
    have ghp45 := hp45.2
    have V136 : x43 = zni q9 (zYc s0 136 44) := by rw [← V133]; exact ghp45
    have R136 := zni_r q9 (zYc s0 136 44)
    refine x_if_eq (tgt := 146) hx hb rx43 dX10_count_139 (by decide) (fun c50 => ?_) (fun c50 => ?_)
    · skip
      refine x_iconst hx hb dX10_count_146 ?_
      rw [eQ]
      exact x_iret hx hb hr hlk hW (by decide) ⟨hF46, ⟨hp45.1.1, q47, q48, trivial⟩, by unfold zcw; (repeat' split) <;> omega⟩ dX10_count_147
    refine x_iconst hx hb dX10_count_142 ?_
    refine lv_goto (tgt := 147) hx hb dX10_count_143 (by decide) ?_
    rw [eQ]
    exact x_iret hx hb hr hlk hW (by decide) ⟨hF46, ⟨hp45.1.1, q47, q48, trivial⟩, by unfold zcw; (repeat' split) <;> omega⟩ dX10_count_147
set_option maxHeartbeats 4000000 in
set_option maxRecDepth 100000 in
theorem c_X8_numberAtF (l : Launch) (D : va_G) (g : xG) (T : Nat × Nat × Nat) (h0 : Nat) (s0 : xS) (hσ : xRR s0) (x : Int) (rx : xR x) (hx0 : 0 ≤ x ∧ x + 4 ≤ s0 1 1) (p0 : IC s0) : Met l yX8_numberAt (xws yX8_numberAt cX8_numberAt 4 (some .int)) { frames := 1, cells := 0, slots := 0, locals := 21 } (xP [.ref (h0 + 1), .int (xJ x)] D g T h0 s0) (xQi D g h0 (fun r τ => s0 = τ ∧ (r = znb (s0 2) x 4))) 0 0 (xA h0) := by
  refine x_met hσ (by decide) (Nat.le_of_ble_eq_true rfl) ?_
  intro p e s m args below meth c hx hb hr hml hown hT hlk hnm hE hW ls hl
  have hl : lv_has ls 4 [(0, .ref (h0 + 1)), (1, .int (xJ x))] := hl
  obtain ⟨Q, eQ⟩ : ∃ Q, Q = MQ below (xQi D g h0 (fun r τ => s0 = τ ∧ (r = znb (s0 2) x 4))) args s 0 0 (xA h0) := ⟨_, rfl⟩
  rw [← eQ]
  generalize hHe : ([] : List Loc) = locs at hW ⊢
  obtain ⟨H, eH⟩ : ∃ H, H = s.heap := ⟨_, rfl⟩
  rw [← eH] at hW ⊢
  have k1_1 : s0 1 1 = s0 1 1 := rfl
  have hl1 := IC.t p0
  refine x_iconst hx hb dX8_numberAt_0 ?_
  refine lv_istore_n (lv' := [(2, .int (xJ 0)), (0, .ref (h0 + 1)), (1, .int (xJ x))]) hx hb dX8_numberAt_1 rfl hl (by decide) rfl (fun ls hl => ?_)
  refine x_iconst hx hb dX8_numberAt_2 ?_
  refine lv_istore_n (lv' := [(3, .int (xJ 0)), (2, .int (xJ 0)), (0, .ref (h0 + 1)), (1, .int (xJ x))]) hx hb dX8_numberAt_3 rfl hl (by decide) rfl (fun ls hl => ?_)
  have L4 : ∀ (fu : Nat) (i2_4 : Int) (i3_4 : Int) (H : Heap) (locs : List Loc) (ls : Array Slot), (xR i2_4) → (xR i3_4) → (0 ≤ i3_4 ∧ i3_4 ≤ 4) → (i2_4 = znb (s0 2) x (i3_4).toNat) → (4 - i3_4).toNat < fu → xW D g h0 s H locs s0 → lv_has ls 4 [(0, .ref (h0 + 1)), (1, .int (xJ x)), (2, .int (xJ i2_4)), (3, .int (xJ i3_4))] → W p l e { frames := 1, cells := 0, slots := 0, locals := 21 } s m args below meth c H locs 0 0 Q (F0 m 4 ls []) := by
    intro fu
    induction fu with
    | zero => intro i2_4 i3_4 H locs ls ri2_4 ri3_4 v4_0 v4_1 hm; exact absurd hm (Nat.not_lt_zero _)
    | succ fu ih4 =>
      intro i2_4 i3_4 H locs ls ri2_4 ri3_4 v4_0 v4_1 hm hW hl
      have hm_4 := fun (_ : Unit) => hm
      clear hm
      refine x_iload_n hx hb hl 3 rfl dX8_numberAt_4 rfl ?_
      refine x_iconst hx hb dX8_numberAt_5 ?_
      refine x_icmp_ge (tgt := 32) hx hb ri3_4 (by decide) dX8_numberAt_6 (by decide) (fun c1 => ?_) (fun c1 => ?_)
      · skip
        refine x_iload_n hx hb hl 2 rfl dX8_numberAt_32 rfl ?_
        rw [eQ]
        exact x_iret hx hb hr hlk hW ri2_4 ⟨rfl, by rw [v4_1, show (i3_4).toNat = 4 from by omega]⟩ dX8_numberAt_33
      refine x_iload_n hx hb hl 2 rfl dX8_numberAt_9 rfl ?_
      refine x_bipush hx hb dX8_numberAt_10 (by decide) ?_
      refine lv_ishl hx hb dX8_numberAt_12 ?_
      refine x_anyE (fun x2 ex2 rx2 => ?_)
      have V12 := ex2
      refine x_aload_n hx hb hl 0 rfl dX8_numberAt_13 rfl ?_
      refine x_iload_n hx hb hl 1 rfl dX8_numberAt_14 rfl ?_
      refine x_iload_n hx hb hl 3 rfl dX8_numberAt_15 rfl ?_
      refine x_iadd hx hb dX8_numberAt_16 ?_
      refine x_goi (x_runV (As := [.int (xJ (x + i3_4))]) hx hb hml hown hT hE hW hl.1 (Or.inl (by decide)) (so_1 h0 g _) rfl cf_X8_byteAt wq1084 wq90 wq1171 (c_X8_byteAt l D g T h0 s0 hW.2.1 (x + i3_4) (by omega) p0) ⟨rfl, rfl, ⟨by decide, by decide⟩, ⟨by decide, by decide⟩⟩ rfl rfl (Nat.le_of_ble_eq_true rfl) dX8_numberAt_17) hW (fun x3 s4 H locs rx3 hp5 hW => ?_)
      obtain ⟨es4, hp5⟩ := hp5
      subst es4
      have ghp5 := hp5
      have H17 : x3 = s0 2 (x + i3_4) ∧ 0 ≤ x3 ∧ x3 ≤ 255 := (ghp5.resolve_right (fun q => by omega)).2.2
      refine x_sipush hx hb dX8_numberAt_20 (by decide) ?_
      refine x_and8 hx hb rx3 dX8_numberAt_23 ?_
      refine x_nm (fun x6 ex6 => ?_)
      refine lv_ior hx hb dX8_numberAt_24 ?_
      refine x_anyE (fun x7 ex7 rx7 => ?_)
      have W24 : x7 = zn8 i2_4 _ := zn8_i V12 rx7 ex7
      refine lv_istore_n (lv' := [(2, .int (xJ x7)), (0, .ref (h0 + 1)), (1, .int (xJ x)), (3, .int (xJ i3_4))]) hx hb dX8_numberAt_25 rfl hl (by decide) rfl (fun ls hl => ?_)
      refine x_iinc (lv' := [(3, .int (xJ (i3_4 + 1))), (2, .int (xJ x7)), (0, .ref (h0 + 1)), (1, .int (xJ x))]) hx hb hl 3 rfl dX8_numberAt_26 (by decide) rfl (fun ls hl => ?_)
      refine lv_goto (tgt := 4) hx hb dX8_numberAt_29 (by decide) ?_
      exact ih4 x7 (i3_4 + 1) H locs ls rx7 (by omega) (by omega) (by
            rw [show (i3_4 + 1).toNat = i3_4.toNat + 1 from by omega, W24]
            exact znb_s (i := i3_4) (by omega) v4_1 (by omega)) (by have hm := hm_4 (); omega) hW (lv_sub hl [2, 3, 1, 0] rfl)
  exact L4 ((4 - 0 : Int).toNat + 1) 0 0 H locs ls (by decide) (by decide) (by omega) (rfl) (Nat.lt_succ_self _) hW (lv_sub hl [2, 3, 1, 0] rfl)

set_option maxHeartbeats 4000000 in
set_option maxRecDepth 100000 in
theorem c_X10_checkF (l : Launch) (D : va_G) (g : xG) (T : Nat × Nat × Nat) (h0 : Nat) (s0 : xS) (hσ : xRR s0) (n : Int) (rn : xR n) (p0 : IC s0) : Met l yX10_check (xws yX10_check cX10_check 4 (some .int)) { frames := 2, cells := 0, slots := 0, locals := 44 } (xP [.ref (h0 + 0), .int (xJ n)] D g T h0 s0) (xQi D g h0 (fun r τ => xFr (fun k => k = 1) s0 τ ∧ (((IC τ) ∧ True) ∧ (((n < 0 ∨ 10 < n ∨ s0 1 1 < 4 * n) ∧ τ 1 1 = s0 1 1 ∧ r = -2) ∨ (¬ (n < 0 ∨ 10 < n ∨ s0 1 1 < 4 * n) ∧ τ 1 1 = 0 ∧ r = zck (s0 2) (fun f => zYc s0 136 (14 + f)) n.toNat))))) 0 0 (xA h0) := by
  refine x_met hσ (by decide) (Nat.le_of_ble_eq_true rfl) ?_
  intro p e s m args below meth c hx hb hr hml hown hT hlk hnm hE hW ls hl
  have hl : lv_has ls 4 [(0, .ref (h0 + 0)), (1, .int (xJ n))] := hl
  obtain ⟨Q, eQ⟩ : ∃ Q, Q = MQ below (xQi D g h0 (fun r τ => xFr (fun k => k = 1) s0 τ ∧ (((IC τ) ∧ True) ∧ (((n < 0 ∨ 10 < n ∨ s0 1 1 < 4 * n) ∧ τ 1 1 = s0 1 1 ∧ r = -2) ∨ (¬ (n < 0 ∨ 10 < n ∨ s0 1 1 < 4 * n) ∧ τ 1 1 = 0 ∧ r = zck (s0 2) (fun f => zYc s0 136 (14 + f)) n.toNat))))) args s 0 0 (xA h0) := ⟨_, rfl⟩
  rw [← eQ]
  generalize hHe : ([] : List Loc) = locs at hW ⊢
  obtain ⟨H, eH⟩ : ∃ H, H = s.heap := ⟨_, rfl⟩
  rw [← eH] at hW ⊢
  have hF : xFr (fun k => k = 1) s0 s0 := xFr.rf
  have k1_1 : s0 1 1 = s0 1 1 := rfl
  refine x_iload_n hx hb hl 1 rfl dX10_check_0 rfl ?_
  refine x_iconst hx hb dX10_check_1 ?_
  refine x_bipush hx hb dX10_check_2 (by decide) ?_
  refine x_goi (x_runS (As := [.int (xJ n), .int (xJ 0), .int (xJ 10)]) hx hb hml hown hT hE hW hl.1 cf_X10_isIn wq562 wq561 (c_X10_isIn l D g T h0 s0 hW.2.1 n rn 0 (by decide) 10 (by decide)) ⟨rfl, rfl, ⟨by decide, by decide⟩, ⟨by decide, by decide⟩⟩ rfl rfl (Nat.le_of_ble_eq_true rfl) dX10_check_4) hW (fun x1 s2 H locs rx1 hp3 hW => ?_)
  obtain ⟨es2, hp3⟩ := hp3
  subst es2
  have ghp3 := hp3
  refine x_if_eq (tgt := 23) hx hb rx1 dX10_check_7 (by decide) (fun c4 => ?_) (fun c4 => ?_)
  · skip
    refine x_bipush hx hb dX10_check_23 (by decide) ?_
    rw [eQ]
    exact x_iret hx hb hr hlk hW (by decide) ⟨hF, ⟨p0, trivial⟩, Or.inl ⟨by omega, by omega, rfl⟩⟩ dX10_check_25
  refine x_iconst hx hb dX10_check_10 ?_
  refine x_iload_n hx hb hl 1 rfl dX10_check_11 rfl ?_
  refine x_imul hx hb dX10_check_12 ?_
  refine x_aload_n hx hb hl 0 rfl dX10_check_13 rfl ?_
  refine x_get (j := 0) (v := .ref (h0 + 1)) hx hb hown hT hE hW cls_X10 (Or.inl (by decide)) (so_0 h0 g _) (by decide) rfl wq512 dX10_check_14 ?_
  refine x_getN (j := 1) (v := .int (xJ (s0 1 1))) hx hb hown hT hE hW cls_X8 (Or.inl (by decide)) (so_1 h0 g _) (by decide) rfl wn198 dX10_check_17 ?_
  refine x_rd hW (fun x5 ex5 rx5 => ?_)
  have bx5 : 0 ≤ x5 ∧ x5 ≤ 260 := by rw [ex5]; exact IC.t p0
  have fx5 : x5 = s0 1 1 := ex5.trans k1_1
  refine x_icmp_le (tgt := 26) hx hb (by omega) rx5 dX10_check_20 (by decide) (fun c6 => ?_) (fun c6 => ?_)
  · skip
    refine x_iconst hx hb dX10_check_26 ?_
    refine lv_istore_n (lv' := [(2, .int (xJ (-1))), (0, .ref (h0 + 0)), (1, .int (xJ n))]) hx hb dX10_check_27 rfl hl (by decide) rfl (fun ls hl => ?_)
    refine x_iconst hx hb dX10_check_28 ?_
    refine lv_istore_n (lv' := [(3, .int (xJ 0)), (2, .int (xJ (-1))), (0, .ref (h0 + 0)), (1, .int (xJ n))]) hx hb dX10_check_29 rfl hl (by decide) rfl (fun ls hl => ?_)
    have L30 : ∀ (fu : Nat) (i2_30 : Int) (i3_30 : Int) (H : Heap) (locs : List Loc) (ls : Array Slot), (xR i2_30) → (xR i3_30) → (0 ≤ i3_30 ∧ i3_30 ≤ n) → (-1 ≤ i2_30 ∧ i2_30 < 10) → (i2_30 = zck (s0 2) (fun f => zYc s0 136 (14 + f)) (i3_30).toNat) → (10 - i3_30).toNat < fu → xW D g h0 s H locs s0 → lv_has ls 4 [(0, .ref (h0 + 0)), (1, .int (xJ n)), (2, .int (xJ i2_30)), (3, .int (xJ i3_30))] → W p l e { frames := 2, cells := 0, slots := 0, locals := 44 } s m args below meth c H locs 0 0 Q (F0 m 30 ls []) := by
      intro fu
      induction fu with
      | zero => intro i2_30 i3_30 H locs ls ri2_30 ri3_30 v30_0 v30_1 v30_2 hm; exact absurd hm (Nat.not_lt_zero _)
      | succ fu ih30 =>
        intro i2_30 i3_30 H locs ls ri2_30 ri3_30 v30_0 v30_1 v30_2 hm hW hl
        have hm_30 := fun (_ : Unit) => hm
        clear hm
        refine x_iload_n hx hb hl 3 rfl dX10_check_30 rfl ?_
        refine x_iload_n hx hb hl 1 rfl dX10_check_31 rfl ?_
        refine x_icmp_ge (tgt := 70) hx hb ri3_30 rn dX10_check_32 (by decide) (fun c7 => ?_) (fun c7 => ?_)
        · skip
          refine x_aload_n hx hb hl 0 rfl dX10_check_70 rfl ?_
          refine x_get (j := 0) (v := .ref (h0 + 1)) hx hb hown hT hE hW cls_X10 (Or.inl (by decide)) (so_0 h0 g _) (by decide) rfl wq512 dX10_check_71 ?_
          refine x_gov (x_runVN (As := []) hx hb hml hown hT hE hW hl.1 (Or.inl (by decide)) (so_1 h0 g _) rfl cf_X8_drop wq607 wq7 wn605 (c_X8_drop l D g T h0 s0 hW.2.1 p0) ⟨rfl, rfl, ⟨by decide, by decide⟩, ⟨by decide, by decide⟩⟩ rfl rfl (Nat.le_of_ble_eq_true rfl) dX10_check_74) hW (fun s9 H locs hp10 hW => ?_)
          obtain ⟨fs9, hp10⟩ := hp10
          have hF11 := hF.call fs9 (fun k h => by omega)
          have ghp10 := hp10.2
          refine x_iload_n hx hb hl 2 rfl dX10_check_77 rfl ?_
          rw [eQ]
          exact x_iret hx hb hr hlk hW ri2_30 ⟨hF11, ⟨hp10.1.1, trivial⟩, by
              have e : i2_30 = zck (s0 2) (fun f => zYc s0 136 (14 + f)) n.toNat := by
                by_cases c : n ≤ i3_30
                · rw [v30_2, show (i3_30).toNat = n.toNat from by omega]
                · rw [show n.toNat = i3_30.toNat + (n - i3_30).toNat from by omega, zck_st (by rw [← v30_2]; omega)]
                  exact v30_2
              exact Or.inr ⟨by omega, by omega, e⟩⟩ dX10_check_78
        refine x_iload_n hx hb hl 2 rfl dX10_check_35 rfl ?_
        refine x_iconst hx hb dX10_check_36 ?_
        refine x_icmp_ne (tgt := 70) hx hb ri2_30 (by decide) dX10_check_37 (by decide) (fun c12 => ?_) (fun c12 => ?_)
        · skip
          refine x_aload_n hx hb hl 0 rfl dX10_check_70 rfl ?_
          refine x_get (j := 0) (v := .ref (h0 + 1)) hx hb hown hT hE hW cls_X10 (Or.inl (by decide)) (so_0 h0 g _) (by decide) rfl wq512 dX10_check_71 ?_
          refine x_gov (x_runVN (As := []) hx hb hml hown hT hE hW hl.1 (Or.inl (by decide)) (so_1 h0 g _) rfl cf_X8_drop wq607 wq7 wn605 (c_X8_drop l D g T h0 s0 hW.2.1 p0) ⟨rfl, rfl, ⟨by decide, by decide⟩, ⟨by decide, by decide⟩⟩ rfl rfl (Nat.le_of_ble_eq_true rfl) dX10_check_74) hW (fun s14 H locs hp15 hW => ?_)
          obtain ⟨fs14, hp15⟩ := hp15
          have hF16 := hF.call fs14 (fun k h => by omega)
          have ghp15 := hp15.2
          refine x_iload_n hx hb hl 2 rfl dX10_check_77 rfl ?_
          rw [eQ]
          exact x_iret hx hb hr hlk hW ri2_30 ⟨hF16, ⟨hp15.1.1, trivial⟩, by
              have e : i2_30 = zck (s0 2) (fun f => zYc s0 136 (14 + f)) n.toNat := by
                by_cases c : n ≤ i3_30
                · rw [v30_2, show (i3_30).toNat = n.toNat from by omega]
                · rw [show n.toNat = i3_30.toNat + (n - i3_30).toNat from by omega, zck_st (by rw [← v30_2]; omega)]
                  exact v30_2
              exact Or.inr ⟨by omega, by omega, e⟩⟩ dX10_check_78
        refine x_aload_n hx hb hl 0 rfl dX10_check_40 rfl ?_
        refine x_get (j := 0) (v := .ref (h0 + 1)) hx hb hown hT hE hW cls_X10 (Or.inl (by decide)) (so_0 h0 g _) (by decide) rfl wq512 dX10_check_41 ?_
        refine x_iconst hx hb dX10_check_44 ?_
        refine x_iload_n hx hb hl 3 rfl dX10_check_45 rfl ?_
        refine x_imul hx hb dX10_check_46 ?_
        refine x_goi (x_runVN (As := [.int (xJ (4 * i3_30))]) hx hb hml hown hT hE hW hl.1 (Or.inl (by decide)) (so_1 h0 g _) rfl cf_X8_numberAt wq1169 wq103 wn1167 (c_X8_numberAtF l D g T h0 s0 hW.2.1 (4 * i3_30) (by omega) (by omega) p0) ⟨rfl, rfl, ⟨by decide, by decide⟩, ⟨by decide, by decide⟩⟩ rfl rfl (Nat.le_of_ble_eq_true rfl) dX10_check_47) hW (fun x17 s18 H locs rx17 hp19 hW => ?_)
        obtain ⟨es18, hp19⟩ := hp19
        subst es18
        have ghp19 := hp19
        have H47 := ghp19
        refine x_aload_n hx hb hl 0 rfl dX10_check_50 rfl ?_
        refine x_get (j := 8) (v := .ref (h0 + 136)) hx hb hown hT hE hW cls_X10 (Or.inl (by decide)) (so_0 h0 g _) (by decide) rfl wq520 dX10_check_51 ?_
        refine x_getN (j := 4) (v := .ref (h0 + 143)) hx hb hown hT hE hW cls_X2 (Or.inl (by decide)) (so_136 h0 g _) (by decide) rfl wn394 dX10_check_54 ?_
        refine x_iload_n hx hb hl 3 rfl dX10_check_57 rfl ?_
        refine x_iald hx hb hE hW (Or.inl (by decide)) (sa_143 h0 g _) (by omega) (by decide) dX10_check_58 ?_
        refine x_rd hW (fun x20 ex20 rx20 => ?_)
        have V58 : x20 = zYc s0 136 (14 + i3_30) := ex20.trans (show s0 143 i3_30 = zYc s0 136 (14 + i3_30) from (zYc_O (by omega)).symm)
        refine x_icmp_eq (tgt := 64) hx hb rx17 rx20 dX10_check_59 (by decide) (fun c21 => ?_) (fun c21 => ?_)
        · skip
          refine x_iinc (lv' := [(3, .int (xJ (i3_30 + 1))), (0, .ref (h0 + 0)), (1, .int (xJ n)), (2, .int (xJ i2_30))]) hx hb hl 3 rfl dX10_check_64 (by decide) rfl (fun ls hl => ?_)
          refine lv_goto (tgt := 30) hx hb dX10_check_67 (by decide) ?_
          exact ih30 i2_30 (i3_30 + 1) H locs ls ri2_30 (by omega) (by omega) (by omega) (by
            rw [show (i3_30 + 1).toNat = i3_30.toNat + 1 from by omega]
            have z : zck (s0 2) (fun f => zYc s0 136 (14 + f)) i3_30.toNat = -1 := by omega
            first
              | (rw [zck_w (i := i3_30) (by omega) z (by show _ ≠ zYc s0 136 (14 + i3_30); rw [← V58, ← H47]; omega)])
              | (rw [zck_r (i := i3_30) (by omega) z (by show _ = zYc s0 136 (14 + i3_30); rw [← V58, ← H47]; omega)]; omega)) (by have hm := hm_30 (); omega) hW (lv_sub hl [1, 2, 3, 0] rfl)
        refine x_iload_n hx hb hl 3 rfl dX10_check_62 rfl ?_
        refine lv_istore_n (lv' := [(2, .int (xJ i3_30)), (0, .ref (h0 + 0)), (1, .int (xJ n)), (3, .int (xJ i3_30))]) hx hb dX10_check_63 rfl hl (by decide) rfl (fun ls hl => ?_)
        refine x_iinc (lv' := [(3, .int (xJ (i3_30 + 1))), (2, .int (xJ i3_30)), (0, .ref (h0 + 0)), (1, .int (xJ n))]) hx hb hl 3 rfl dX10_check_64 (by decide) rfl (fun ls hl => ?_)
        refine lv_goto (tgt := 30) hx hb dX10_check_67 (by decide) ?_
        exact ih30 i3_30 (i3_30 + 1) H locs ls ri3_30 (by omega) (by omega) (by omega) (by
            rw [show (i3_30 + 1).toNat = i3_30.toNat + 1 from by omega]
            have z : zck (s0 2) (fun f => zYc s0 136 (14 + f)) i3_30.toNat = -1 := by omega
            first
              | (rw [zck_w (i := i3_30) (by omega) z (by show _ ≠ zYc s0 136 (14 + i3_30); rw [← V58, ← H47]; omega)])
              | (rw [zck_r (i := i3_30) (by omega) z (by show _ = zYc s0 136 (14 + i3_30); rw [← V58, ← H47]; omega)]; omega)) (by have hm := hm_30 (); omega) hW (lv_sub hl [2, 3, 1, 0] rfl)
    exact L30 ((10 - 0 : Int).toNat + 1) (-1) 0 H locs ls (by decide) (by decide) (by omega) (by omega) (rfl) (Nat.lt_succ_self _) hW (lv_sub hl [2, 3, 1, 0] rfl)
  refine x_bipush hx hb dX10_check_23 (by decide) ?_
  rw [eQ]
  exact x_iret hx hb hr hlk hW (by decide) ⟨hF, ⟨p0, trivial⟩, Or.inl ⟨by omega, by omega, rfl⟩⟩ dX10_check_25


