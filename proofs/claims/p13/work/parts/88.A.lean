/-! ===== ground by the other side's words ===== -/
def zkg (K : Int → Int) (t : Int) : Int := if K t = 0 ∨ K t = 2 then 0 else 1
section KG
variable {K K2 Y N N2 : Int → Int} {s j f i a b c : Int}
theorem zog_y (h : 0 ≤ s ∧ s < 100 ∧ (K s = 0 ∨ K s = 2)) : zoq (zkg K) s = s := zoq_y (by
  unfold zkg
  rw [if_pos h.2.2]
  omega)
theorem zog_n (h : ¬ (0 ≤ s ∧ s < 100 ∧ (K s = 0 ∨ K s = 2))) : zoq (zkg K) s = -1 := zoq_n (by
  unfold zkg
  intro q
  by_cases c : K s = 0 ∨ K s = 2
  · exact h ⟨q.1, q.2.1, c⟩
  · rw [if_neg c] at q
    omega)
theorem zoq_K (h : ∀ t : Int, 0 ≤ t → t < 100 → (K2 t ≠ 1 ∧ K2 t ≠ 3 ↔ K t ≠ 1 ∧ K t ≠ 3)) : zoq K2 s = zoq K s := by
  by_cases c : 0 ≤ s ∧ s < 100 ∧ K s ≠ 1 ∧ K s ≠ 3
  · rw [zoq_y c, zoq_y ⟨c.1, c.2.1, (h s c.1 c.2.1).mpr c.2.2⟩]
  · rw [zoq_n c, zoq_n (fun q => c ⟨q.1, q.2.1, (h s q.1 q.2.1).mp q.2.2⟩)]
theorem zMP_K (h : ∀ t : Int, 0 ≤ t → t < 100 → (K2 t ≠ 1 ∧ K2 t ≠ 3 ↔ K t ≠ 1 ∧ K t ≠ 3)) : zMP K2 Y a b = zMP K Y a b := funext fun i => by
  unfold zMP zMx
  rw [zoq_K h, zoq_K h]
theorem zkg_K (h : ∀ t : Int, 0 ≤ t → t < 100 → 0 ≤ K t ∧ K t ≤ 3) : ∀ t : Int, 0 ≤ t → t < 100 → (zkg K t ≠ 1 ∧ zkg K t ≠ 3 ↔ K t ≠ 1 ∧ K t ≠ 3) := fun t t1 t2 => by
  have z := h t t1 t2
  unfold zkg
  by_cases c : K t = 0 ∨ K t = 2
  · rw [if_pos c]; omega
  · rw [if_neg c]; omega
theorem zYN_34 {a c s : Int} (e : ∀ i : Int, i ≠ 34 → N2 i = N i) (hi : i < 0 ∨ 2 ≤ i) : zYN N2 a c s i = zYN N a c s i := by
  unfold zYN
  rw [e 35 (by decide), e 36 (by decide), e 37 (by decide), e 38 (by decide)]
  by_cases h0 : i < 0
  · rw [if_pos h0, if_pos h0]
  rw [if_neg h0, if_neg h0, if_neg (show ¬ i < 2 from by omega), if_neg (show ¬ i < 2 from by omega)]
  by_cases h : i = 34
  · rw [if_neg (show ¬ i < 4 from by omega), if_neg (show ¬ i < 4 from by omega), if_neg (show ¬ i < 14 from by omega), if_neg (show ¬ i < 14 from by omega), if_neg (show ¬ i < 24 from by omega), if_neg (show ¬ i < 24 from by omega), if_neg (show ¬ i < 34 from by omega), if_neg (show ¬ i < 34 from by omega)]
  · rw [e i h]
theorem zYN_d34 {a c s : Int} (hj : 0 ≤ j ∧ j < 2) (h34 : 0 ≤ N 34 ∧ N 34 ≤ 3) : zYN (xud N 34 (znd (N 34) j)) a c s = xud (zYN N a c s) j (-1) := by
  have z := znd_q h34 hj hj
  refine zYN_c (i0 := j) (Y := zYN N a c s) (fun i hi => ?_) ?_
  · by_cases h : 0 ≤ i ∧ i < 2
    · rw [zYN_J h, zYN_J h]
      unfold zrj
      rw [xud_s, (znd_q h34 hj h).2 hi, xud_o _ _ (show i ≠ 34 from by omega)]
    · exact zYN_34 (fun i hi => xud_o _ _ hi) (by omega)
  · rw [zYN_J hj, zrj_n (by rw [xud_s]; have y := z.1 rfl; omega)]
theorem zYN_d35 {a c s : Int} (hf : 0 ≤ f ∧ f < 10) (h35 : 0 ≤ N 35 ∧ N 35 < 1024) : zYN (xud N 35 (zbn (N 35) f)) a c s = xud (xud (xud (xud (zYN N a c s) (4 + f) (-1)) (14 + f) 0) (24 + f) 0) (34 + f) 0 := by
  obtain ⟨M, eM⟩ : ∃ M, M = xud N 35 (zbn (N 35) f) := ⟨_, rfl⟩
  rw [← eM]
  have m35 : M 35 = zbn (N 35) f := by rw [eM, xud_s]
  have mo : ∀ i : Int, i ≠ 35 → M i = N i := fun i h => by rw [eM, xud_o _ _ h]
  have bn := zbn_s h35 hf
  have go : ∀ g : Int, 0 ≤ g → g < 10 → g ≠ f → xsh (M 35) g % 2 = xsh (N 35) g % 2 := fun g g1 g2 g3 => by rw [m35]; exact (zbo_o hf ⟨g1, g2⟩ g3).2
  have t : ¬ xsh (M 35) f % 2 = 1 := by rw [m35]; have y := bn.2; omega
  funext i
  by_cases c4 : i = 34 + f
  · rw [c4, xud_s, zYN_D hf, if_neg t]
  rw [xud_o _ _ c4]
  by_cases c3 : i = 24 + f
  · rw [c3, xud_s, zYN_A hf, if_neg t]
  rw [xud_o _ _ c3]
  by_cases c2 : i = 14 + f
  · rw [c2, xud_s, zYN_O hf, if_neg t]
  rw [xud_o _ _ c2]
  by_cases c1 : i = 4 + f
  · rw [c1, xud_s, zYN_F hf, if_neg t]
  rw [xud_o _ _ c1]
  by_cases a0 : 0 ≤ i ∧ i < 2
  · rw [zYN_J a0, zYN_J a0]
    unfold zrj
    rw [mo 34 (by decide), mo i (by omega)]
  by_cases a1 : 2 ≤ i ∧ i < 4
  · rw [zYN_S a1, zYN_S a1, mo i (by omega)]
  by_cases a2 : 4 ≤ i ∧ i < 14
  · have g := go (i - 4) (by omega) (by omega) (by omega)
    have p := zYN_F (N := M) (a := a) (c := c) (s := s) (f := i - 4) (by omega)
    have q := zYN_F (N := N) (a := a) (c := c) (s := s) (f := i - 4) (by omega)
    rw [show 4 + (i - 4) = i from by omega] at p q
    rw [p, q, g, mo i (by omega)]
  by_cases a3 : 14 ≤ i ∧ i < 24
  · have g := go (i - 14) (by omega) (by omega) (by omega)
    have p := zYN_O (N := M) (a := a) (c := c) (s := s) (f := i - 14) (by omega)
    have q := zYN_O (N := N) (a := a) (c := c) (s := s) (f := i - 14) (by omega)
    rw [show 14 + (i - 14) = i from by omega] at p q
    rw [p, q, g, mo i (by omega)]
  by_cases a4 : 24 ≤ i ∧ i < 34
  · have g := go (i - 24) (by omega) (by omega) (by omega)
    have p := zYN_A (N := M) (a := a) (c := c) (s := s) (f := i - 24) (by omega)
    have q := zYN_A (N := N) (a := a) (c := c) (s := s) (f := i - 24) (by omega)
    rw [show 24 + (i - 24) = i from by omega] at p q
    rw [p, q, g, mo i (by omega)]
  by_cases a5 : 34 ≤ i ∧ i < 44
  · have g := go (i - 34) (by omega) (by omega) (by omega)
    have p := zYN_D (N := M) (a := a) (c := c) (s := s) (f := i - 34) (by omega)
    have q := zYN_D (N := N) (a := a) (c := c) (s := s) (f := i - 34) (by omega)
    rw [show 34 + (i - 34) = i from by omega] at p q
    rw [p, q, g, mo 36 (by decide)]
  · unfold zYN
    by_cases b : i < 0
    · rw [if_pos b, if_pos b]
    · rw [if_neg b, if_neg b, if_neg (show ¬ i < 2 from by omega), if_neg (show ¬ i < 2 from by omega), if_neg (show ¬ i < 4 from by omega), if_neg (show ¬ i < 4 from by omega), if_neg (show ¬ i < 14 from by omega), if_neg (show ¬ i < 14 from by omega), if_neg (show ¬ i < 24 from by omega), if_neg (show ¬ i < 24 from by omega), if_neg (show ¬ i < 34 from by omega), if_neg (show ¬ i < 34 from by omega), if_neg (show ¬ i < 44 from by omega), if_neg (show ¬ i < 44 from by omega), mo 37 (by decide), mo 38 (by decide)]
end KG
set_option maxHeartbeats 4000000 in
set_option maxRecDepth 100000 in
theorem c_X11_marketF (l : Launch) (D : va_G) (g : xG) (T : Nat × Nat × Nat) (h0 : Nat) (s0 : xS) (hσ : xRR s0) (n : Int) (rn : xR n) (hb34 : 0 ≤ s0 269 34 ∧ s0 269 34 ≤ 3) (hb35 : 0 ≤ s0 269 35 ∧ s0 269 35 < 1024) (p0 : IMn s0) (p1 : IMk s0) (p2 : IMo s0) : Met l yX11_market (xws yX11_market cX11_market 5 (some .int)) { frames := 3, cells := 0, slots := 0, locals := 67 } (xP [.ref (h0 + 268), .int (xJ n)] D g T h0 s0) (xQi D g h0 (fun r τ => xFr (fun k => k = 268 ∨ k = 269 ∨ k = 272 ∨ k = 273 ∨ k = 288) s0 τ ∧ (((IMn τ) ∧ (IMk τ) ∧ (IMo τ) ∧ (τ 269 37 = s0 269 37) ∧ (τ 268 17 = s0 268 17) ∧ (τ 268 48 = s0 268 48) ∧ True) ∧ (((n < 1 ∨ 140 < n ∨ s0 268 8 < n) ∧ τ 268 8 = s0 268 8 ∧ r = -1 ∧ τ 288 = s0 288 ∧ τ 272 = s0 272 ∧ τ 268 58 = s0 268 58 ∧ τ 269 = s0 269 ∧ τ 273 = s0 273) ∨ (¬ (n < 1 ∨ 140 < n ∨ s0 268 8 < n) ∧ τ 268 8 = 0 ∧ τ 288 = (zMk (xm8 (s0 276)) n (s0 288)).2.2 ∧ (((zMk (xm8 (s0 276)) n (s0 288)).1 ≠ 0 ∧ r = (zMk (xm8 (s0 276)) n (s0 288)).1 ∧ τ 272 = s0 272 ∧ τ 268 58 = s0 268 58 ∧ τ 269 = s0 269 ∧ τ 273 = s0 273) ∨ ((zMk (xm8 (s0 276)) n (s0 288)).1 = 0 ∧ (∀ j, 0 ≤ j → j < 100 → τ 272 j = (zMk (xm8 (s0 276)) n (s0 288)).2.2 j) ∧ r = 100 - zct (zMk (xm8 (s0 276)) n (s0 288)).2.2 0 100 ∧ τ 268 58 = 0 ∧ zYN (τ 269) 0 0 0 = zMP (zkg ((zMk (xm8 (s0 276)) n (s0 288)).2.2)) (zYN (s0 269) 0 0 0) 2 10 ∧ ((0 ≤ τ 269 34 ∧ τ 269 34 ≤ 3) ∧ (0 ≤ τ 269 35 ∧ τ 269 35 < 1024) ∧ τ 269 36 = s0 269 36) ∧ ∀ i : Int, 0 ≤ i → i < 4 → τ 273 i = zoq (zkg ((zMk (xm8 (s0 276)) n (s0 288)).2.2)) (s0 273 i)))))))) 0 0 (xA h0) := by
  refine x_met hσ (by decide) (Nat.le_of_ble_eq_true rfl) ?_
  intro p e s m args below meth c hx hb hr hml hown hT hlk hnm hE hW ls hl
  have hl : lv_has ls 5 [(0, .ref (h0 + 268)), (1, .int (xJ n))] := hl
  obtain ⟨Q, eQ⟩ : ∃ Q, Q = MQ below (xQi D g h0 (fun r τ => xFr (fun k => k = 268 ∨ k = 269 ∨ k = 272 ∨ k = 273 ∨ k = 288) s0 τ ∧ (((IMn τ) ∧ (IMk τ) ∧ (IMo τ) ∧ (τ 269 37 = s0 269 37) ∧ (τ 268 17 = s0 268 17) ∧ (τ 268 48 = s0 268 48) ∧ True) ∧ (((n < 1 ∨ 140 < n ∨ s0 268 8 < n) ∧ τ 268 8 = s0 268 8 ∧ r = -1 ∧ τ 288 = s0 288 ∧ τ 272 = s0 272 ∧ τ 268 58 = s0 268 58 ∧ τ 269 = s0 269 ∧ τ 273 = s0 273) ∨ (¬ (n < 1 ∨ 140 < n ∨ s0 268 8 < n) ∧ τ 268 8 = 0 ∧ τ 288 = (zMk (xm8 (s0 276)) n (s0 288)).2.2 ∧ (((zMk (xm8 (s0 276)) n (s0 288)).1 ≠ 0 ∧ r = (zMk (xm8 (s0 276)) n (s0 288)).1 ∧ τ 272 = s0 272 ∧ τ 268 58 = s0 268 58 ∧ τ 269 = s0 269 ∧ τ 273 = s0 273) ∨ ((zMk (xm8 (s0 276)) n (s0 288)).1 = 0 ∧ (∀ j, 0 ≤ j → j < 100 → τ 272 j = (zMk (xm8 (s0 276)) n (s0 288)).2.2 j) ∧ r = 100 - zct (zMk (xm8 (s0 276)) n (s0 288)).2.2 0 100 ∧ τ 268 58 = 0 ∧ zYN (τ 269) 0 0 0 = zMP (zkg ((zMk (xm8 (s0 276)) n (s0 288)).2.2)) (zYN (s0 269) 0 0 0) 2 10 ∧ ((0 ≤ τ 269 34 ∧ τ 269 34 ≤ 3) ∧ (0 ≤ τ 269 35 ∧ τ 269 35 < 1024) ∧ τ 269 36 = s0 269 36) ∧ ∀ i : Int, 0 ≤ i → i < 4 → τ 273 i = zoq (zkg ((zMk (xm8 (s0 276)) n (s0 288)).2.2)) (s0 273 i)))))))) args s 0 0 (xA h0) := ⟨_, rfl⟩
  rw [← eQ]
  generalize hHe : ([] : List Loc) = locs at hW ⊢
  obtain ⟨H, eH⟩ : ∃ H, H = s.heap := ⟨_, rfl⟩
  rw [← eH] at hW ⊢
  have hF : xFr (fun k => k = 268 ∨ k = 269 ∨ k = 272 ∨ k = 273 ∨ k = 288) s0 s0 := xFr.rf
  have k269_37 : s0 269 37 = s0 269 37 := rfl
  have k268_17 : s0 268 17 = s0 268 17 := rfl
  have k268_48 : s0 268 48 = s0 268 48 := rfl
  have k268_8 : s0 268 8 = s0 268 8 := rfl
  have k268_58 : s0 268 58 = s0 268 58 := rfl
  have kg269 : s0 269 = s0 269 := rfl
  have kg273 : s0 273 = s0 273 := rfl
  refine x_iload_n hx hb hl 1 rfl dX11_market_0 rfl ?_
  refine x_iconst hx hb dX11_market_1 ?_
  refine x_sipush hx hb dX11_market_2 (by decide) ?_
  refine x_goi (x_runS (As := [.int (xJ n), .int (xJ 1), .int (xJ 140)]) hx hb hml hown hT hE hW hl.1 cf_X11_in wq1383 wq1382 (c_X11_in l D g T h0 s0 hW.2.1 n rn 1 (by decide) 140 (by decide)) ⟨rfl, rfl, ⟨by decide, by decide⟩, ⟨by decide, by decide⟩⟩ rfl rfl (Nat.le_of_ble_eq_true rfl) dX11_market_5) hW (fun x1 s2 H locs rx1 hp3 hW => ?_)
  obtain ⟨es2, hp3⟩ := hp3
  subst es2
  have ghp3 := hp3
  refine x_if_eq (tgt := 19) hx hb rx1 dX11_market_8 (by decide) (fun c4 => ?_) (fun c4 => ?_)
  · skip
    refine x_iconst hx hb dX11_market_19 ?_
    rw [eQ]
    exact x_iret hx hb hr hlk hW (by decide) ⟨hF, ⟨p0, p1, p2, k269_37, k268_17, k268_48, trivial⟩, Or.inl ⟨by omega, by omega, by omega, rfl, rfl, rfl, rfl, rfl⟩⟩ dX11_market_20
  refine x_iload_n hx hb hl 1 rfl dX11_market_11 rfl ?_
  refine x_aload_n hx hb hl 0 rfl dX11_market_12 rfl ?_
  refine x_get (j := 8) (v := .int (xJ (s0 268 8))) hx hb hown hT hE hW cls_X11 (Or.inl (by decide)) (so_268 h0 g _) (by decide) rfl wq1193 dX11_market_13 ?_
  refine x_rd hW (fun x5 ex5 rx5 => ?_)
  have bx5 : 0 ≤ x5 ∧ x5 ≤ 260 := by rw [ex5]; exact IMn.t p0
  have fx5 : x5 = s0 268 8 := ex5.trans k268_8
  refine x_icmp_le (tgt := 21) hx hb rn rx5 dX11_market_16 (by decide) (fun c6 => ?_) (fun c6 => ?_)
  · skip
    refine x_aload_n hx hb hl 0 rfl dX11_market_21 rfl ?_
    refine x_iconst hx hb dX11_market_22 ?_
    refine x_put (j := 9) hx hb hown hT hE hW cls_X11 (by decide) (fun σ => so_268 h0 g σ) (by decide) (st_X11_9 h0 s0 268 0) (ln_X11_9 h0 _ _) wq1194 rfl rfl rfl (by decide) dX11_market_23 (fun H locs s7 es7 hW => ?_)
    have q8 : IMn s7 := by rw [es7]; exact IMn_268 p0 (by omega)
    have q9 : IMk s7 := by rw [es7]; exact IMk_268 p1 (by omega)
    have q10 : IMo s7 := by rw [es7]; exact IMo_o (by unfold suIMo; first | decide | omega) p2
    have q11 : s7 269 37 = s0 269 37 := (show s7 269 37 = s0 269 37 from by rw [es7, xU_k _ _ _ (by first | decide | omega)]).trans k269_37
    have q12 : s7 268 17 = s0 268 17 := (show s7 268 17 = s0 268 17 from by rw [es7, xU_j _ _ (by decide)]).trans k268_17
    have q13 : s7 268 48 = s0 268 48 := (show s7 268 48 = s0 268 48 from by rw [es7, xU_j _ _ (by decide)]).trans k268_48
    have q14 : s7 268 8 = s0 268 8 := (show s7 268 8 = s0 268 8 from by rw [es7, xU_j _ _ (by decide)]).trans k268_8
    have q15 : s7 268 58 = s0 268 58 := (show s7 268 58 = s0 268 58 from by rw [es7, xU_j _ _ (by decide)]).trans k268_58
    have q16 : s7 269 = s0 269 := (show s7 269 = s0 269 from by rw [es7, xU_k _ _ _ (by first | decide | omega)]).trans kg269
    have q17 : s7 273 = s0 273 := (show s7 273 = s0 273 from by rw [es7, xU_k _ _ _ (by first | decide | omega)]).trans kg273
    have q18 : s7 268 9 = 0 := by rw [es7, xU_s]
    have hF19 := hF.put es7 (by omega)
    have Q23 : s7 288 = s0 288 ∧ s7 272 = s0 272 := by rw [es7, xU_k _ _ _ (by first | decide | omega), xU_k _ _ _ (by first | decide | omega)]; exact ⟨rfl, rfl⟩
    refine x_aload_n hx hb hl 0 rfl dX11_market_26 rfl ?_
    refine x_iload_n hx hb hl 1 rfl dX11_market_27 rfl ?_
    refine x_put (j := 10) hx hb hown hT hE hW cls_X11 (by decide) (fun σ => so_268 h0 g σ) (by decide) (st_X11_10 h0 s7 268 n) (ln_X11_10 h0 _ _) wq1195 rfl rfl rfl rn dX11_market_28 (fun H locs s20 es20 hW => ?_)
    have q21 : IMn s20 := by rw [es20]; exact IMn_268 q8 (by omega)
    have q22 : IMk s20 := by rw [es20]; exact IMk_268 q9 (by omega)
    have q23 : IMo s20 := by rw [es20]; exact IMo_o (by unfold suIMo; first | decide | omega) q10
    have q24 : s20 269 37 = s0 269 37 := (show s20 269 37 = s7 269 37 from by rw [es20, xU_k _ _ _ (by first | decide | omega)]).trans q11
    have q25 : s20 268 17 = s0 268 17 := (show s20 268 17 = s7 268 17 from by rw [es20, xU_j _ _ (by decide)]).trans q12
    have q26 : s20 268 48 = s0 268 48 := (show s20 268 48 = s7 268 48 from by rw [es20, xU_j _ _ (by decide)]).trans q13
    have q27 : s20 268 8 = s0 268 8 := (show s20 268 8 = s7 268 8 from by rw [es20, xU_j _ _ (by decide)]).trans q14
    have q28 : s20 268 58 = s0 268 58 := (show s20 268 58 = s7 268 58 from by rw [es20, xU_j _ _ (by decide)]).trans q15
    have q29 : s20 269 = s0 269 := by rw [es20, xU_k _ _ _ (by first | decide | omega)]; exact q16
    have q30 : s20 273 = s0 273 := by rw [es20, xU_k _ _ _ (by first | decide | omega)]; exact q17
    have q31 : s20 268 9 = 0 := (show s20 268 9 = s7 268 9 from by rw [es20, xU_j _ _ (by decide)]).trans q18
    have q32 : s20 268 10 = n := by rw [es20, xU_s]
    have hF33 := hF19.put es20 (by omega)
    have q34 : IR s20 := by unfold IR; omega
    have Q28 : s20 288 = s0 288 ∧ s20 272 = s0 272 := by rw [es20, xU_k _ _ _ (by first | decide | omega), xU_k _ _ _ (by first | decide | omega)]; exact Q23
    have G28 : s20 276 = s0 276 := hF33 276 (by first | decide | omega)
    have N28 : s20 268 10 = n := by omega
    have P28 : s20 268 9 = 0 := by omega
    refine x_aload_n hx hb hl 0 rfl dX11_market_31 rfl ?_
    refine x_iconst hx hb dX11_market_32 ?_
    refine x_goi (x_runV (As := [.int (xJ 0)]) hx hb hml hown hT hE hW hl.1 (Or.inl (by decide)) (so_268 h0 g _) rfl cf_X11_readsRow wq1387 wq105 wq1385 (c_X11_readsRowM l D g T h0 s20 hW.2.1 0 (by decide) (by omega) q21 q22 q23 q34) ⟨rfl, rfl, ⟨by decide, by decide⟩, ⟨by decide, by decide⟩⟩ rfl rfl (Nat.le_of_ble_eq_true rfl) dX11_market_33) hW (fun x35 s36 H locs rx35 hp37 hW => ?_)
    obtain ⟨fs36, hp37⟩ := hp37
    have hF38 := hF33.call fs36 (fun k h => by omega)
    have q39 : s36 269 37 = s0 269 37 := (congrFun (fs36 _ (by omega)) _).trans q24
    have q40 : s36 269 = s0 269 := (fs36 _ (by omega)).trans q29
    have q41 : s36 273 = s0 273 := (fs36 _ (by omega)).trans q30
    have ghp37 := hp37.2
    have R33 := ghp37
    rw [G28, N28, P28, Q28.1] at R33
    have D33 := R33.cs
    have Q33 : s36 272 = s0 272 := (fs36 272 (by first | decide | omega)).trans Q28.2
    have B33 : (x35 = 1 ∧ zMk (xm8 (s0 276)) n (s0 288) = zM (xm8 (s0 276)) n (10 - 1 : Int).toNat 1 (s36 268 9) (s36 288)) ∨ (x35 = 0 ∧ (zMk (xm8 (s0 276)) n (s0 288)).1 ≠ 0 ∧ s36 268 11 = (zMk (xm8 (s0 276)) n (s0 288)).1 ∧ (zMk (xm8 (s0 276)) n (s0 288)).2.2 = s36 288) := by
      rcases D33 with ⟨d1, d2⟩ | ⟨d1, d2, d3, d4⟩
      · exact Or.inl ⟨d1, zN_ok (k := 9) d2⟩
      · have z : zMk (xm8 (s0 276)) n (s0 288) = _ := zN_bad (k := 9) d2
        rw [z]
        exact Or.inr ⟨d1, d2, d3, d4⟩
    refine lv_istore_n (lv' := [(2, .int (xJ x35)), (0, .ref (h0 + 268)), (1, .int (xJ n))]) hx hb dX11_market_36 rfl hl (by decide) rfl (fun ls hl => ?_)
    refine x_iconst hx hb dX11_market_37 ?_
    refine lv_istore_n (lv' := [(3, .int (xJ 1)), (2, .int (xJ x35)), (0, .ref (h0 + 268)), (1, .int (xJ n))]) hx hb dX11_market_38 rfl hl (by decide) rfl (fun ls hl => ?_)
    have L39 : ∀ (fu : Nat) (i2_39 : Int) (i3_39 : Int) (s_39 : xS) (H : Heap) (locs : List Loc) (ls : Array Slot), (xR i2_39) → (xR i3_39) → (xFr (fun k => k = 268 ∨ k = 269 ∨ k = 272 ∨ k = 273 ∨ k = 288) s0 s_39) → (s_39 269 37 = s0 269 37) → (s_39 269 = s0 269) → (s_39 273 = s0 273) → (IMn s_39) → (IMk s_39) → (IMo s_39) → (IR s_39) → (s_39 268 8 = s0 268 8) → (s_39 268 58 = s0 268 58) → (s_39 268 10 = n) → (s_39 268 17 = s0 268 17) → (s_39 268 48 = s0 268 48) → (1 ≤ i3_39 ∧ i3_39 ≤ 10) → ((i2_39 = 1 ∧ zMk (xm8 (s0 276)) n (s0 288) = zM (xm8 (s0 276)) n (10 - i3_39).toNat i3_39 (s_39 268 9) (s_39 288)) ∨ (i2_39 = 0 ∧ (zMk (xm8 (s0 276)) n (s0 288)).1 ≠ 0 ∧ s_39 268 11 = (zMk (xm8 (s0 276)) n (s0 288)).1 ∧ (zMk (xm8 (s0 276)) n (s0 288)).2.2 = s_39 288)) → (s_39 272 = s0 272) → (10 - i3_39).toNat < fu → xW D g h0 s H locs s_39 → lv_has ls 5 [(0, .ref (h0 + 268)), (2, .int (xJ i2_39)), (3, .int (xJ i3_39))] → W p l e { frames := 3, cells := 0, slots := 0, locals := 67 } s m args below meth c H locs 0 0 Q (F0 m 39 ls []) := by
      intro fu
      induction fu with
      | zero => intro i2_39 i3_39 s_39 H locs ls ri2_39 ri3_39 hF_39 q39_0 q39_1 q39_2 q39_3 q39_4 q39_5 q39_6 q39_7 q39_8 q39_9 q39_10 q39_11 v39_0 v39_1 v39_2 hm; exact absurd hm (Nat.not_lt_zero _)
      | succ fu ih39 =>
        intro i2_39 i3_39 s_39 H locs ls ri2_39 ri3_39 hF_39 q39_0 q39_1 q39_2 q39_3 q39_4 q39_5 q39_6 q39_7 q39_8 q39_9 q39_10 q39_11 v39_0 v39_1 v39_2 hm hW hl
        have hm_39 := fun (_ : Unit) => hm
        clear hm
        have r39 : 0 ≤ s_39 268 9 ∧ s_39 268 9 ≤ s_39 268 10 ∧ s_39 268 10 ≤ 240 := q39_6
        refine x_iload_n hx hb hl 2 rfl dX11_market_39 rfl ?_
        refine x_bipush hx hb dX11_market_40 (by decide) ?_
        have J78 : ∀ (ls : Array Slot), (i3_39 ≥ 10 ∨ i2_39 = 0) → lv_has ls 5 [(0, .ref (h0 + 268)), (2, .int (xJ i2_39))] → W p l e { frames := 3, cells := 0, slots := 0, locals := 67 } s m args below meth c H locs 0 0 Q (F0 m 78 ls []) := by
          intro ls v78_0  hl
          refine x_iload_n hx hb hl 1 rfl dX11_market_78 rfl ?_
          have J103 : ∀ (i2_103 : Int) (s_103 : xS) (H : Heap) (locs : List Loc) (ls : Array Slot), (xR i2_103) → (xFr (fun k => k = 268 ∨ k = 269 ∨ k = 272 ∨ k = 273 ∨ k = 288) s0 s_103) → (s_103 269 37 = s0 269 37) → (s_103 269 = s0 269) → (s_103 273 = s0 273) → (IMn s_103) → (IMk s_103) → (IMo s_103) → (IR s_103) → (s_103 268 8 = s0 268 8) → (s_103 268 58 = s0 268 58) → (s_103 268 10 = n) → (s_103 268 17 = s0 268 17) → (s_103 268 48 = s0 268 48) → ((i2_103 = 1 ∧ (zMk (xm8 (s0 276)) n (s0 288)).1 = 0 ∧ (zMk (xm8 (s0 276)) n (s0 288)).2.2 = s_103 288) ∨ (i2_103 = 0 ∧ (zMk (xm8 (s0 276)) n (s0 288)).1 ≠ 0 ∧ s_103 268 11 = (zMk (xm8 (s0 276)) n (s0 288)).1 ∧ (zMk (xm8 (s0 276)) n (s0 288)).2.2 = s_103 288)) → (s_103 272 = s0 272) → xW D g h0 s H locs s_103 → lv_has ls 5 [(0, .ref (h0 + 268)), (2, .int (xJ i2_103))] → W p l e { frames := 3, cells := 0, slots := 0, locals := 67 } s m args below meth c H locs 0 0 Q (F0 m 103 ls []) := by
            intro i2_103 s_103 H locs ls ri2_103 hF_103 q103_0 q103_1 q103_2 q103_3 q103_4 q103_5 q103_6 q103_7 q103_8 q103_9 q103_10 q103_11 v103_0 v103_1 hW hl
            refine x_aload_n hx hb hl 0 rfl dX11_market_103 rfl ?_
            refine x_iconst hx hb dX11_market_104 ?_
            refine x_put (j := 8) hx hb hown hT hE hW cls_X11 (by decide) (fun σ => so_268 h0 g σ) (by decide) (st_X11_8 h0 s_103 268 0) (ln_X11_8 h0 _ _) wq1193 rfl rfl rfl (by decide) dX11_market_105 (fun H locs s42 es42 hW => ?_)
            have q43 : s42 269 37 = s0 269 37 := (show s42 269 37 = s_103 269 37 from by rw [es42, xU_k _ _ _ (by first | decide | omega)]).trans q103_0
            have q44 : s42 269 = s0 269 := by rw [es42, xU_k _ _ _ (by first | decide | omega)]; exact q103_1
            have q45 : s42 273 = s0 273 := by rw [es42, xU_k _ _ _ (by first | decide | omega)]; exact q103_2
            have q46 : IMn s42 := by rw [es42]; exact IMn_268 q103_3 (by omega)
            have q47 : IMk s42 := by rw [es42]; exact IMk_268 q103_4 (by omega)
            have q48 : IMo s42 := by rw [es42]; exact IMo_o (by unfold suIMo; first | decide | omega) q103_5
            have q49 : IR s42 := by rw [es42]; exact IR_268 q103_6 (by omega)
            have q50 : s42 268 8 = 0 := by rw [es42, xU_s]
            have q51 : s42 268 58 = s0 268 58 := (show s42 268 58 = s_103 268 58 from by rw [es42, xU_j _ _ (by decide)]).trans q103_8
            have q52 : s42 268 10 = n := (show s42 268 10 = s_103 268 10 from by rw [es42, xU_j _ _ (by decide)]).trans q103_9
            have q53 : s42 268 17 = s0 268 17 := (show s42 268 17 = s_103 268 17 from by rw [es42, xU_j _ _ (by decide)]).trans q103_10
            have q54 : s42 268 48 = s0 268 48 := (show s42 268 48 = s_103 268 48 from by rw [es42, xU_j _ _ (by decide)]).trans q103_11
            have hF55 := hF_103.put es42 (by omega)
            have R105 : (i2_103 = 1 ∧ (zMk (xm8 (s0 276)) n (s0 288)).1 = 0 ∧ (zMk (xm8 (s0 276)) n (s0 288)).2.2 = s42 288) ∨ (i2_103 = 0 ∧ (zMk (xm8 (s0 276)) n (s0 288)).1 ≠ 0 ∧ s42 268 11 = (zMk (xm8 (s0 276)) n (s0 288)).1 ∧ (zMk (xm8 (s0 276)) n (s0 288)).2.2 = s42 288) := by rw [es42, xU_k _ _ _ (by first | decide | omega), xU_j _ _ (by decide)]; exact v103_0
            have Q105 : s42 272 = s0 272 := by rw [es42, xU_k _ _ _ (by first | decide | omega)]; exact v103_1
            obtain ⟨K9, eK9⟩ : ∃ K9, K9 = s42 288 := ⟨_, rfl⟩
            rw [← eK9] at R105
            refine x_iload_n hx hb hl 1 rfl dX11_market_108 rfl ?_
            refine x_if_ne (tgt := 117) hx hb ri2_103 dX11_market_109 (by decide) (fun c56 => ?_) (fun c56 => ?_)
            · skip
              refine x_iconst hx hb dX11_market_117 ?_
              refine lv_istore_n (lv' := [(3, .int (xJ 0)), (0, .ref (h0 + 268)), (2, .int (xJ i2_103))]) hx hb dX11_market_118 rfl hl (by decide) rfl (fun ls hl => ?_)
              refine x_iconst hx hb dX11_market_119 ?_
              refine lv_istore (lv' := [(4, .int (xJ 0)), (3, .int (xJ 0)), (0, .ref (h0 + 268)), (2, .int (xJ i2_103))]) hx hb dX11_market_120 hl (by decide) rfl (fun ls hl => ?_)
              have L122 : ∀ (fu : Nat) (i3_122 : Int) (i4_122 : Int) (s_122 : xS) (H : Heap) (locs : List Loc) (ls : Array Slot), (xR i3_122) → (xR i4_122) → (xFr (fun k => k = 268 ∨ k = 269 ∨ k = 272 ∨ k = 273 ∨ k = 288) s0 s_122) → (s_122 269 37 = s0 269 37) → (s_122 269 = s0 269) → (s_122 273 = s0 273) → (IMn s_122) → (IMk s_122) → (IMo s_122) → (IR s_122) → (s_122 268 8 = 0) → (s_122 268 58 = s0 268 58) → (s_122 268 10 = n) → (s_122 268 17 = s0 268 17) → (s_122 268 48 = s0 268 48) → (0 ≤ i4_122 ∧ i4_122 ≤ 100) → (i3_122 = i4_122 - zct K9 0 (i4_122).toNat) → (s_122 288 = K9) → (∀ q : Int, 0 ≤ q → q < i4_122 → s_122 272 q = K9 q) → (0 ≤ i3_122 ∧ i3_122 ≤ i4_122) → (100 - i4_122).toNat < fu → xW D g h0 s H locs s_122 → lv_has ls 5 [(0, .ref (h0 + 268)), (3, .int (xJ i3_122)), (4, .int (xJ i4_122))] → W p l e { frames := 3, cells := 0, slots := 0, locals := 67 } s m args below meth c H locs 0 0 Q (F0 m 122 ls []) := by
                intro fu
                induction fu with
                | zero => intro i3_122 i4_122 s_122 H locs ls ri3_122 ri4_122 hF_122 q122_0 q122_1 q122_2 q122_3 q122_4 q122_5 q122_6 q122_7 q122_8 q122_9 q122_10 q122_11 v122_0 v122_1 v122_2 v122_3 v122_4 hm; exact absurd hm (Nat.not_lt_zero _)
                | succ fu ih122 =>
                  intro i3_122 i4_122 s_122 H locs ls ri3_122 ri4_122 hF_122 q122_0 q122_1 q122_2 q122_3 q122_4 q122_5 q122_6 q122_7 q122_8 q122_9 q122_10 q122_11 v122_0 v122_1 v122_2 v122_3 v122_4 hm hW hl
                  have hm_122 := fun (_ : Unit) => hm
                  clear hm
                  refine x_iload hx hb hl 2 rfl dX11_market_122 ?_
                  refine x_bipush hx hb dX11_market_124 (by decide) ?_
                  refine x_icmp_ge (tgt := 167) hx hb ri4_122 (by decide) dX11_market_126 (by decide) (fun c57 => ?_) (fun c57 => ?_)
                  · skip
                    refine x_iconst hx hb dX11_market_167 ?_
                    refine lv_istore (lv' := [(4, .int (xJ 0)), (0, .ref (h0 + 268)), (3, .int (xJ i3_122))]) hx hb dX11_market_168 hl (by decide) rfl (fun ls hl => ?_)
                    have L170 : ∀ (fu : Nat) (i4_170 : Int) (s_170 : xS) (H : Heap) (locs : List Loc) (ls : Array Slot), (xR i4_170) → (xFr (fun k => k = 268 ∨ k = 269 ∨ k = 272 ∨ k = 273 ∨ k = 288) s0 s_170) → (s_170 269 37 = s0 269 37) → (s_170 273 = s0 273) → (IMn s_170) → (IMk s_170) → (IMo s_170) → (IR s_170) → (s_170 268 8 = 0) → (s_170 268 58 = s0 268 58) → (s_170 268 10 = n) → (s_170 268 17 = s0 268 17) → (s_170 268 48 = s0 268 48) → (0 ≤ i4_170) → (i4_170 ≤ 2) → (s_170 272 = s_122 272 ∧ s_170 288 = K9) → (zYN (s_170 269) 0 0 0 = zMP (zkg K9) (zYN (s0 269) 0 0 0) i4_170 0) → ((0 ≤ s_170 269 34 ∧ s_170 269 34 ≤ 3) ∧ (0 ≤ s_170 269 35 ∧ s_170 269 35 < 1024) ∧ s_170 269 36 = s0 269 36) → (2 + 1 - i4_170).toNat < fu → xW D g h0 s H locs s_170 → lv_has ls 5 [(0, .ref (h0 + 268)), (3, .int (xJ i3_122)), (4, .int (xJ i4_170))] → W p l e { frames := 3, cells := 0, slots := 0, locals := 67 } s m args below meth c H locs 0 0 Q (F0 m 170 ls []) := by
                      intro fu
                      induction fu with
                      | zero => intro i4_170 s_170 H locs ls ri4_170 hF_170 q170_0 q170_2 q170_3 q170_4 q170_5 q170_6 q170_7 q170_8 q170_9 q170_10 q170_11 v170_0 v170_1 v170_2 v170_3 v170_4 hm; exact absurd hm (Nat.not_lt_zero _)
                      | succ fu ih170 =>
                        intro i4_170 s_170 H locs ls ri4_170 hF_170 q170_0 q170_2 q170_3 q170_4 q170_5 q170_6 q170_7 q170_8 q170_9 q170_10 q170_11 v170_0 v170_1 v170_2 v170_3 v170_4 hm hW hl
                        have hm_170 := fun (_ : Unit) => hm
                        clear hm
                        refine x_iload hx hb hl 2 rfl dX11_market_170 ?_
                        refine x_iconst hx hb dX11_market_172 ?_
                        refine x_icmp_ge (tgt := 228) hx hb ri4_170 (by decide) dX11_market_173 (by decide) (fun c58 => ?_) (fun c58 => ?_)
                        · skip
                          refine x_iconst hx hb dX11_market_228 ?_
                          refine lv_istore (lv' := [(4, .int (xJ 0)), (0, .ref (h0 + 268)), (3, .int (xJ i3_122))]) hx hb dX11_market_229 hl (by decide) rfl (fun ls hl => ?_)
                          have L231 : ∀ (fu : Nat) (i4_231 : Int) (s_231 : xS) (H : Heap) (locs : List Loc) (ls : Array Slot), (xR i4_231) → (xFr (fun k => k = 268 ∨ k = 269 ∨ k = 272 ∨ k = 273 ∨ k = 288) s0 s_231) → (s_231 269 37 = s0 269 37) → (s_231 273 = s0 273) → (IMn s_231) → (IMk s_231) → (IMo s_231) → (IR s_231) → (s_231 268 8 = 0) → (s_231 268 58 = s0 268 58) → (s_231 268 10 = n) → (s_231 268 17 = s0 268 17) → (s_231 268 48 = s0 268 48) → (0 ≤ i4_231) → (i4_231 ≤ 10) → (s_231 272 = s_122 272 ∧ s_231 288 = K9) → (zYN (s_231 269) 0 0 0 = zMP (zkg K9) (zYN (s0 269) 0 0 0) 2 i4_231) → ((0 ≤ s_231 269 34 ∧ s_231 269 34 ≤ 3) ∧ (0 ≤ s_231 269 35 ∧ s_231 269 35 < 1024) ∧ s_231 269 36 = s0 269 36) → (10 + 1 - i4_231).toNat < fu → xW D g h0 s H locs s_231 → lv_has ls 5 [(0, .ref (h0 + 268)), (3, .int (xJ i3_122)), (4, .int (xJ i4_231))] → W p l e { frames := 3, cells := 0, slots := 0, locals := 67 } s m args below meth c H locs 0 0 Q (F0 m 231 ls []) := by
                            intro fu
                            induction fu with
                            | zero => intro i4_231 s_231 H locs ls ri4_231 hF_231 q231_0 q231_1 q231_2 q231_3 q231_4 q231_5 q231_6 q231_7 q231_8 q231_9 q231_10 v231_0 v231_1 v231_2 v231_3 v231_4 hm; exact absurd hm (Nat.not_lt_zero _)
                            | succ fu ih231 =>
                              intro i4_231 s_231 H locs ls ri4_231 hF_231 q231_0 q231_1 q231_2 q231_3 q231_4 q231_5 q231_6 q231_7 q231_8 q231_9 q231_10 v231_0 v231_1 v231_2 v231_3 v231_4 hm hW hl
                              have hm_231 := fun (_ : Unit) => hm
                              clear hm
                              refine x_iload hx hb hl 2 rfl dX11_market_231 ?_
                              refine x_bipush hx hb dX11_market_233 (by decide) ?_
                              refine x_icmp_ge (tgt := 290) hx hb ri4_231 (by decide) dX11_market_235 (by decide) (fun c59 => ?_) (fun c59 => ?_)
                              · skip
                                refine x_aload_n hx hb hl 0 rfl dX11_market_290 rfl ?_
                                refine x_iconst hx hb dX11_market_291 ?_
                                refine x_put (j := 58) hx hb hown hT hE hW cls_X11 (by decide) (fun σ => so_268 h0 g σ) (by decide) (st_X11_58 h0 s_231 268 0) (ln_X11_58 h0 _ _) wq1243 rfl rfl rfl (by decide) dX11_market_292 (fun H locs s60 es60 hW => ?_)
                                have q61 : s60 269 37 = s0 269 37 := (show s60 269 37 = s_231 269 37 from by rw [es60, xU_k _ _ _ (by first | decide | omega)]).trans q231_0
                                have q62 : s60 273 = s0 273 := by rw [es60, xU_k _ _ _ (by first | decide | omega)]; exact q231_1
                                have q63 : IMn s60 := by rw [es60]; exact IMn_268 q231_2 (by omega)
                                have q64 : IMk s60 := by rw [es60]; exact IMk_268 q231_3 (by omega)
                                have q65 : IMo s60 := by rw [es60]; exact IMo_o (by unfold suIMo; first | decide | omega) q231_4
                                have q66 : IR s60 := by rw [es60]; exact IR_268 q231_5 (by omega)
                                have q67 : s60 268 8 = 0 := (show s60 268 8 = s_231 268 8 from by rw [es60, xU_j _ _ (by decide)]).trans q231_6
                                have q68 : s60 268 58 = 0 := by rw [es60, xU_s]
                                have q69 : s60 268 10 = n := (show s60 268 10 = s_231 268 10 from by rw [es60, xU_j _ _ (by decide)]).trans q231_8
                                have q70 : s60 268 17 = s0 268 17 := (show s60 268 17 = s_231 268 17 from by rw [es60, xU_j _ _ (by decide)]).trans q231_9
                                have q71 : s60 268 48 = s0 268 48 := (show s60 268 48 = s_231 268 48 from by rw [es60, xU_j _ _ (by decide)]).trans q231_10
                                have hF72 := hF_231.put es60 (by omega)
                                have E292 := es60
                                refine x_iconst hx hb dX11_market_295 ?_
                                refine lv_istore (lv' := [(4, .int (xJ 0)), (0, .ref (h0 + 268)), (3, .int (xJ i3_122))]) hx hb dX11_market_296 hl (by decide) rfl (fun ls hl => ?_)
                                have L298 : ∀ (fu : Nat) (i4_298 : Int) (s_298 : xS) (H : Heap) (locs : List Loc) (ls : Array Slot), (xR i4_298) → (xFr (fun k => k = 268 ∨ k = 269 ∨ k = 272 ∨ k = 273 ∨ k = 288) s0 s_298) → (s_298 269 37 = s0 269 37) → (IMn s_298) → (IMk s_298) → (IMo s_298) → (IR s_298) → (s_298 268 8 = 0) → (s_298 268 58 = 0) → (s_298 268 10 = n) → (s_298 268 17 = s0 268 17) → (s_298 268 48 = s0 268 48) → (0 ≤ i4_298) → (i4_298 ≤ 4) → (s_298 272 = s_122 272 ∧ s_298 288 = K9) → (zYN (s_298 269) 0 0 0 = zMP (zkg K9) (zYN (s0 269) 0 0 0) 2 10) → ((0 ≤ s_298 269 34 ∧ s_298 269 34 ≤ 3) ∧ (0 ≤ s_298 269 35 ∧ s_298 269 35 < 1024) ∧ s_298 269 36 = s0 269 36) → (∀ i : Int, 0 ≤ i → i < i4_298 → s_298 273 i = zoq (zkg K9) (s0 273 i)) → (∀ i : Int, i4_298 ≤ i → i < 4 → s_298 273 i = s0 273 i) → (4 + 1 - i4_298).toNat < fu → xW D g h0 s H locs s_298 → lv_has ls 5 [(0, .ref (h0 + 268)), (3, .int (xJ i3_122)), (4, .int (xJ i4_298))] → W p l e { frames := 3, cells := 0, slots := 0, locals := 67 } s m args below meth c H locs 0 0 Q (F0 m 298 ls []) := by
                                  intro fu
                                  induction fu with
                                  | zero => intro i4_298 s_298 H locs ls ri4_298 hF_298 q298_0 q298_2 q298_3 q298_4 q298_5 q298_6 q298_7 q298_8 q298_9 q298_10 v298_0 v298_1 v298_2 v298_3 v298_4 v298_5 v298_6 hm; exact absurd hm (Nat.not_lt_zero _)
                                  | succ fu ih298 =>
                                    intro i4_298 s_298 H locs ls ri4_298 hF_298 q298_0 q298_2 q298_3 q298_4 q298_5 q298_6 q298_7 q298_8 q298_9 q298_10 v298_0 v298_1 v298_2 v298_3 v298_4 v298_5 v298_6 hm hW hl
                                    have hm_298 := fun (_ : Unit) => hm
                                    clear hm
                                    refine x_iload hx hb hl 2 rfl dX11_market_298 ?_
                                    refine x_iconst hx hb dX11_market_300 ?_
                                    refine x_icmp_ge (tgt := 343) hx hb ri4_298 (by decide) dX11_market_301 (by decide) (fun c73 => ?_) (fun c73 => ?_)
                                    · skip
                                      refine x_iload_n hx hb hl 1 rfl dX11_market_343 rfl ?_
                                      rw [eQ]
                                      exact x_iret hx hb hr hlk hW ri3_122 ⟨hF_298, ⟨q298_2, q298_3, q298_4, q298_0, q298_9, q298_10, trivial⟩, by
                                          have z := R105.resolve_right (fun q => by omega)
                                          exact Or.inr ⟨by omega, by omega, v298_2.2.trans z.2.2.symm, Or.inr ⟨z.2.1, fun j a b => by rw [v298_2.1, z.2.2]; exact v122_3 j a (by omega), by rw [z.2.2, show (100 : Nat) = (i4_122).toNat from by omega]; omega, by omega, by rw [z.2.2]; exact v298_3, v298_4, fun i i1 i2 => by rw [z.2.2]; exact v298_5 i i1 (by omega)⟩⟩⟩ dX11_market_344
                                    refine x_aload_n hx hb hl 0 rfl dX11_market_304 rfl ?_
                                    refine x_get (j := 4) (v := .ref (h0 + 273)) hx hb hown hT hE hW cls_X11 (Or.inl (by decide)) (so_268 h0 g _) (by decide) rfl wq1189 dX11_market_305 ?_
                                    refine x_iload hx hb hl 2 rfl dX11_market_308 ?_
                                    refine x_iald hx hb hE hW (Or.inl (by decide)) (sa_273 h0 g _) (by omega) (by decide) dX11_market_310 ?_
                                    refine x_rd hW (fun x74 ex74 rx74 => ?_)
                                    have bx74 : -1 ≤ x74 ∧ x74 ≤ 99 := by rw [ex74]; exact IMn.l q298_2 _ (by omega) (by omega)
                                    have V310 : x74 = s0 273 i4_298 := ex74.trans (v298_6 _ (by omega) (by omega))
                                    have B310 := (IMn.l q298_2) i4_298 (by omega) (by omega)
                                    rw [v298_6 _ (by omega) (by omega), ← V310] at B310
                                    refine x_iconst hx hb dX11_market_311 ?_
                                    refine x_icmp_eq (tgt := 337) hx hb rx74 (by decide) dX11_market_312 (by decide) (fun c75 => ?_) (fun c75 => ?_)
                                    · skip
                                      refine x_iinc (lv' := [(4, .int (xJ (i4_298 + 1))), (0, .ref (h0 + 268)), (3, .int (xJ i3_122))]) hx hb hl 2 rfl dX11_market_337 (by decide) rfl (fun ls hl => ?_)
                                      refine lv_goto (tgt := 298) hx hb dX11_market_340 (by decide) ?_
                                      exact ih298 (i4_298 + 1) s_298 H locs ls (by omega) hF_298 q298_0 q298_2 q298_3 q298_4 q298_5 q298_6 q298_7 q298_8 q298_9 q298_10 (by omega) (by omega) (by first | exact v298_2 | (rw [es_298, xU_k _ _ _ (by first | decide | omega), xU_k _ _ _ (by first | decide | omega)]; exact v298_2)) (by first | (rw [E336, xU_k _ _ _ (by first | decide | omega)]; exact v298_3) | exact v298_3) (by first | (rw [E336, xU_k _ _ _ (by first | decide | omega)]; exact v298_4) | exact v298_4) (fun i i1 i2 => by
                                          by_cases h : i = i4_298
                                          · rw [h]
                                            first
                                              | (rw [E336, xU_s, zog_n (by rw [← V310]; omega)])
                                              | (rw [zog_y (by rw [← V310]; omega)]; exact v298_6 _ (by omega) (by omega))
                                              | (rw [zog_n (by rw [← V310]; omega), ← V310, V310b]; omega)
                                              | (rw [v298_6 _ (by omega) (by omega), ← V310, zog_n (by omega)]; omega)
                                          · first
                                              | (rw [E336, xU_j _ _ h]; exact v298_5 i i1 (by omega))
                                              | exact v298_5 i i1 (by omega)) (fun i i1 i2 => by first | (rw [E336, xU_j _ _ (by omega)]; exact v298_6 i (by omega) i2) | exact v298_6 i (by omega) i2) (by have hm := hm_298 (); omega) hW (lv_sub hl [1, 2, 0] rfl)
                                    refine x_aload_n hx hb hl 0 rfl dX11_market_315 rfl ?_
                                    refine x_aload_n hx hb hl 0 rfl dX11_market_316 rfl ?_
                                    refine x_get (j := 4) (v := .ref (h0 + 273)) hx hb hown hT hE hW cls_X11 (Or.inl (by decide)) (so_268 h0 g _) (by decide) rfl wq1189 dX11_market_317 ?_
                                    refine x_iload hx hb hl 2 rfl dX11_market_320 ?_
                                    refine x_iald hx hb hE hW (Or.inl (by decide)) (sa_273 h0 g _) (by omega) (by decide) dX11_market_322 ?_
                                    refine x_rd hW (fun x76 ex76 rx76 => ?_)
                                    have bx76 : -1 ≤ x76 ∧ x76 ≤ 99 := by rw [ex76]; exact IMn.l q298_2 _ (by omega) (by omega)
                                    have V322 : x76 = s0 273 i4_298 := ex76.trans (v298_6 _ (by omega) (by omega))
                                    refine x_goi (x_runV (As := [.int (xJ x76)]) hx hb hml hown hT hE hW hl.1 (Or.inl (by decide)) (so_268 h0 g _) rfl cf_X11_isGround wq1419 wq110 wq1417 (c_X11_isGroundM l D g T h0 s_298 hW.2.1 x76 rx76 (by omega) q298_2 q298_3 q298_4) ⟨rfl, rfl, ⟨by decide, by decide⟩, ⟨by decide, by decide⟩⟩ rfl rfl (Nat.le_of_ble_eq_true rfl) dX11_market_323) hW (fun x77 s78 H locs rx77 hp79 hW => ?_)
                                    obtain ⟨es78, hp79⟩ := hp79
                                    subst es78
                                    have ghp79 := hp79
                                    have H323 := ghp79
                                    rw [v298_2.1] at H323
                                    rw [V322, ← V310] at H323
                                    have G323 : ∀ x : Int, 0 ≤ x → x < 100 → s_122 272 x = K9 x := fun x x1 x2 => v122_3 x x1 (by omega)
                                    rw [G323 _ (by omega) (by omega)] at H323
                                    refine x_if_ne (tgt := 337) hx hb rx77 dX11_market_326 (by decide) (fun c80 => ?_) (fun c80 => ?_)
                                    · skip
                                      refine x_iinc (lv' := [(4, .int (xJ (i4_298 + 1))), (0, .ref (h0 + 268)), (3, .int (xJ i3_122))]) hx hb hl 2 rfl dX11_market_337 (by decide) rfl (fun ls hl => ?_)
                                      refine lv_goto (tgt := 298) hx hb dX11_market_340 (by decide) ?_
                                      exact ih298 (i4_298 + 1) s_298 H locs ls (by omega) hF_298 q298_0 q298_2 q298_3 q298_4 q298_5 q298_6 q298_7 q298_8 q298_9 q298_10 (by omega) (by omega) (by first | exact v298_2 | (rw [es_298, xU_k _ _ _ (by first | decide | omega), xU_k _ _ _ (by first | decide | omega)]; exact v298_2)) (by first | (rw [E336, xU_k _ _ _ (by first | decide | omega)]; exact v298_3) | exact v298_3) (by first | (rw [E336, xU_k _ _ _ (by first | decide | omega)]; exact v298_4) | exact v298_4) (fun i i1 i2 => by
                                          by_cases h : i = i4_298
                                          · rw [h]
                                            first
                                              | (rw [E336, xU_s, zog_n (by rw [← V310]; omega)])
                                              | (rw [zog_y (by rw [← V310]; omega)]; exact v298_6 _ (by omega) (by omega))
                                              | (rw [zog_n (by rw [← V310]; omega), ← V310, V310b]; omega)
                                              | (rw [v298_6 _ (by omega) (by omega), ← V310, zog_n (by omega)]; omega)
                                          · first
                                              | (rw [E336, xU_j _ _ h]; exact v298_5 i i1 (by omega))
                                              | exact v298_5 i i1 (by omega)) (fun i i1 i2 => by first | (rw [E336, xU_j _ _ (by omega)]; exact v298_6 i (by omega) i2) | exact v298_6 i (by omega) i2) (by have hm := hm_298 (); omega) hW (lv_sub hl [1, 2, 0] rfl)
                                    refine x_aload_n hx hb hl 0 rfl dX11_market_329 rfl ?_
                                    refine x_get (j := 4) (v := .ref (h0 + 273)) hx hb hown hT hE hW cls_X11 (Or.inl (by decide)) (so_268 h0 g _) (by decide) rfl wq1189 dX11_market_330 ?_
                                    refine x_iload hx hb hl 2 rfl dX11_market_333 ?_
                                    refine x_iconst hx hb dX11_market_335 ?_
                                    refine x_iast hx hb hE hW (by decide) (fun σ => sa_273 h0 g σ) (by omega) (by decide) (by decide) dX11_market_336 (fun H locs s81 es81 hW => ?_)
                                    have q82 : s81 269 37 = s0 269 37 := (show s81 269 37 = s_298 269 37 from by rw [es81, xU_k _ _ _ (by first | decide | omega)]).trans q298_0
                                    have q83 : IMn s81 := by rw [es81]; exact IMn_273 q298_2 (by omega)
                                    have q84 : IMk s81 := by rw [es81]; exact IMk_o (by unfold suIMk; first | decide | omega) q298_3
                                    have q85 : IMo s81 := by rw [es81]; exact IMo_o (by unfold suIMo; first | decide | omega) q298_4
                                    have q86 : IR s81 := by rw [es81]; exact IR_o (by unfold suIR; first | decide | omega) q298_5
                                    have q87 : s81 268 8 = 0 := (show s81 268 8 = s_298 268 8 from by rw [es81, xU_k _ _ _ (by first | decide | omega)]).trans q298_6
                                    have q88 : s81 268 58 = 0 := (show s81 268 58 = s_298 268 58 from by rw [es81, xU_k _ _ _ (by first | decide | omega)]).trans q298_7
                                    have q89 : s81 268 10 = n := (show s81 268 10 = s_298 268 10 from by rw [es81, xU_k _ _ _ (by first | decide | omega)]).trans q298_8
                                    have q90 : s81 268 17 = s0 268 17 := (show s81 268 17 = s_298 268 17 from by rw [es81, xU_k _ _ _ (by first | decide | omega)]).trans q298_9
                                    have q91 : s81 268 48 = s0 268 48 := (show s81 268 48 = s_298 268 48 from by rw [es81, xU_k _ _ _ (by first | decide | omega)]).trans q298_10
                                    have hF92 := hF_298.put es81 (by omega)
                                    have E336 := es81
                                    refine x_iinc (lv' := [(4, .int (xJ (i4_298 + 1))), (0, .ref (h0 + 268)), (3, .int (xJ i3_122))]) hx hb hl 2 rfl dX11_market_337 (by decide) rfl (fun ls hl => ?_)
                                    refine lv_goto (tgt := 298) hx hb dX11_market_340 (by decide) ?_
                                    exact ih298 (i4_298 + 1) s81 H locs ls (by omega) hF92 q82 q83 q84 q85 q86 q87 q88 q89 q90 q91 (by omega) (by omega) (by first | exact v298_2 | (rw [es81, xU_k _ _ _ (by first | decide | omega), xU_k _ _ _ (by first | decide | omega)]; exact v298_2)) (by first | (rw [E336, xU_k _ _ _ (by first | decide | omega)]; exact v298_3) | exact v298_3) (by first | (rw [E336, xU_k _ _ _ (by first | decide | omega)]; exact v298_4) | exact v298_4) (fun i i1 i2 => by
                                        by_cases h : i = i4_298
                                        · rw [h]
                                          first
                                            | (rw [E336, xU_s, zog_n (by rw [← V310]; omega)])
                                            | (rw [zog_y (by rw [← V310]; omega)]; exact v298_6 _ (by omega) (by omega))
                                            | (rw [zog_n (by rw [← V310]; omega), ← V310, V310b]; omega)
                                            | (rw [v298_6 _ (by omega) (by omega), ← V310, zog_n (by omega)]; omega)
                                        · first
                                            | (rw [E336, xU_j _ _ h]; exact v298_5 i i1 (by omega))
                                            | exact v298_5 i i1 (by omega)) (fun i i1 i2 => by first | (rw [E336, xU_j _ _ (by omega)]; exact v298_6 i (by omega) i2) | exact v298_6 i (by omega) i2) (by have hm := hm_298 (); omega) hW (lv_sub hl [1, 2, 0] rfl)
                                exact L298 ((4 + 1 - 0 : Int).toNat + 1) 0 s60 H locs ls (by decide) hF72 q61 q63 q64 q65 q66 q67 q68 q69 q70 q71 (by omega) (by omega) (by rw [es60, xU_k _ _ _ (by first | decide | omega), xU_k _ _ _ (by first | decide | omega)]; exact v231_2) (by
                                    have e : i4_231 = 10 := by omega
                                    rw [e] at v231_3
                                    rw [E292, xU_k _ _ _ (by first | decide | omega)]
                                    exact v231_3) (by rw [E292, xU_k _ _ _ (by first | decide | omega)]; exact v231_4) (fun i i1 i2 => absurd i2 (by omega)) (fun i i1 i2 => by rw [q62]) (Nat.lt_succ_self _) hW (lv_sub hl [1, 2, 0] rfl)
                              refine x_aload_n hx hb hl 0 rfl dX11_market_238 rfl ?_
                              refine x_iload hx hb hl 2 rfl dX11_market_239 ?_
                              refine x_goi (x_runV (As := [.int (xJ i4_231)]) hx hb hml hown hT hE hW hl.1 (Or.inl (by decide)) (so_268 h0 g _) rfl cf_X11_isFelon wq1423 wq111 wq1421 (c_X11_isFelonF l D g T h0 s_231 hW.2.1 i4_231 ri4_231 q231_2 q231_3 q231_4) ⟨rfl, rfl, ⟨by decide, by decide⟩, ⟨by decide, by decide⟩⟩ rfl rfl (Nat.le_of_ble_eq_true rfl) dX11_market_241) hW (fun x93 s94 H locs rx93 hp95 hW => ?_)
                              obtain ⟨es94, hp95⟩ := hp95
                              subst es94
                              have ghp95 := hp95
                              have H241 := ghp95
                              have Y241 := zMP_o (K := zkg K9) (Y := (zYN (s0 269) 0 0 0)) (f := i4_231) (i := 4 + i4_231) (by omega) (by omega)
                              rw [← v231_3] at Y241
                              have Z241 : xsh (s_231 269 35) i4_231 % 2 = 1 → s_231 269 (4 + i4_231) = (zYN (s0 269) 0 0 0) (4 + i4_231) := fun h => by rw [← Y241, zYN_F (by omega), if_pos h]
                              have W241 : ¬ xsh (s_231 269 35) i4_231 % 2 = 1 → (zYN (s0 269) 0 0 0) (4 + i4_231) = -1 ∧ (zYN (s0 269) 0 0 0) (14 + i4_231) = 0 ∧ (zYN (s0 269) 0 0 0) (24 + i4_231) = 0 ∧ (zYN (s0 269) 0 0 0) (34 + i4_231) = 0 := fun h => by
                                have a1 := zMP_o (K := zkg K9) (Y := (zYN (s0 269) 0 0 0)) (f := i4_231) (i := 14 + i4_231) (by omega) (by omega)
                                have a2 := zMP_o (K := zkg K9) (Y := (zYN (s0 269) 0 0 0)) (f := i4_231) (i := 24 + i4_231) (by omega) (by omega)
                                have a3 := zMP_o (K := zkg K9) (Y := (zYN (s0 269) 0 0 0)) (f := i4_231) (i := 34 + i4_231) (by omega) (by omega)
                                rw [← v231_3] at a1 a2 a3
                                rw [← Y241, ← a1, ← a2, ← a3, zYN_F (by omega), zYN_O (by omega), zYN_A (by omega), zYN_D (by omega), if_neg h, if_neg h, if_neg h, if_neg h]
                                exact ⟨rfl, rfl, rfl, rfl⟩
                              refine x_if_eq (tgt := 284) hx hb rx93 dX11_market_244 (by decide) (fun c96 => ?_) (fun c96 => ?_)
                              · skip
                                refine x_iinc (lv' := [(4, .int (xJ (i4_231 + 1))), (0, .ref (h0 + 268)), (3, .int (xJ i3_122))]) hx hb hl 2 rfl dX11_market_284 (by decide) rfl (fun ls hl => ?_)
                                refine lv_goto (tgt := 231) hx hb dX11_market_287 (by decide) ?_
                                exact ih231 (i4_231 + 1) s_231 H locs ls (by omega) hF_231 q231_0 q231_1 q231_2 q231_3 q231_4 q231_5 q231_6 q231_7 q231_8 q231_9 q231_10 (by omega) (by omega) (by first | exact v231_2 | (rw [es_231, xU_k _ _ _ (by first | decide | omega), xU_k _ _ _ (by first | decide | omega)]; exact v231_2)) (by
                                    first
                                      | (rw [N283, zYN_d35 (by omega) v231_4.2.1, v231_3, zMP_no (by omega) (zog_n (by rw [← Z241 (by omega)]; omega))])
                                      | (rw [zMP_ys (by omega) (zog_y (by rw [← Z241 (by omega)]; omega)) (by rw [← Z241 (by omega)]; omega)]; exact v231_3)
                                      | (rw [zMP_00 (by omega) (W241 (by omega)).1 (W241 (by omega)).2.1 (W241 (by omega)).2.2.1 (W241 (by omega)).2.2.2]; exact v231_3)) (by first | (rw [N283, xud_s, xud_o _ _ (show (34 : Int) ≠ 35 from by decide), xud_o _ _ (show (36 : Int) ≠ 35 from by decide)]; exact ⟨v231_4.1, (zbn_s v231_4.2.1 (by omega)).1, v231_4.2.2⟩) | exact v231_4) (by have hm := hm_231 (); omega) hW (lv_sub hl [1, 2, 0] rfl)
                              refine x_aload_n hx hb hl 0 rfl dX11_market_247 rfl ?_
                              refine x_aload_n hx hb hl 0 rfl dX11_market_248 rfl ?_
                              refine x_get (j := 0) (v := .ref (h0 + 269)) hx hb hown hT hE hW cls_X11 (Or.inl (by decide)) (so_268 h0 g _) (by decide) rfl wq1185 dX11_market_249 ?_
                              refine x_iconst hx hb dX11_market_252 ?_
                              refine x_iload hx hb hl 2 rfl dX11_market_253 ?_
                              refine x_iadd hx hb dX11_market_255 ?_
                              refine x_iald hx hb hE hW (Or.inl (by decide)) (sa_269 h0 g _) (by omega) (by decide) dX11_market_256 ?_
                              refine x_rd hW (fun x97 ex97 rx97 => ?_)
                              have bx97 : 0 ≤ x97 ∧ x97 ≤ 99 := by rw [ex97]; exact (IMn.n1 q231_2).2.2.1 _ (by omega) (by omega)
                              have V256 : x97 = s_231 269 (4 + i4_231) := ex97
                              have B256 := (IMn.n1 q231_2).2.2.1 (4 + i4_231) (by omega) (by omega)
                              refine x_goi (x_runV (As := [.int (xJ x97)]) hx hb hml hown hT hE hW hl.1 (Or.inl (by decide)) (so_268 h0 g _) rfl cf_X11_isGround wq1419 wq110 wq1417 (c_X11_isGroundM l D g T h0 s_231 hW.2.1 x97 rx97 (by omega) q231_2 q231_3 q231_4) ⟨rfl, rfl, ⟨by decide, by decide⟩, ⟨by decide, by decide⟩⟩ rfl rfl (Nat.le_of_ble_eq_true rfl) dX11_market_257) hW (fun x98 s99 H locs rx98 hp100 hW => ?_)
                              obtain ⟨es99, hp100⟩ := hp100
                              subst es99
                              have ghp100 := hp100
                              have H257 := ghp100
                              rw [v231_2.1] at H257
                              have G257 := v122_3 (s_231 269 (4 + i4_231)) (by omega) (by omega)
                              rw [V256, G257] at H257
                              refine x_if_ne (tgt := 284) hx hb rx98 dX11_market_260 (by decide) (fun c101 => ?_) (fun c101 => ?_)
                              · skip
                                refine x_iinc (lv' := [(4, .int (xJ (i4_231 + 1))), (0, .ref (h0 + 268)), (3, .int (xJ i3_122))]) hx hb hl 2 rfl dX11_market_284 (by decide) rfl (fun ls hl => ?_)
                                refine lv_goto (tgt := 231) hx hb dX11_market_287 (by decide) ?_
                                exact ih231 (i4_231 + 1) s_231 H locs ls (by omega) hF_231 q231_0 q231_1 q231_2 q231_3 q231_4 q231_5 q231_6 q231_7 q231_8 q231_9 q231_10 (by omega) (by omega) (by first | exact v231_2 | (rw [es_231, xU_k _ _ _ (by first | decide | omega), xU_k _ _ _ (by first | decide | omega)]; exact v231_2)) (by
                                    first
                                      | (rw [N283, zYN_d35 (by omega) v231_4.2.1, v231_3, zMP_no (by omega) (zog_n (by rw [← Z241 (by omega)]; omega))])
                                      | (rw [zMP_ys (by omega) (zog_y (by rw [← Z241 (by omega)]; omega)) (by rw [← Z241 (by omega)]; omega)]; exact v231_3)
                                      | (rw [zMP_00 (by omega) (W241 (by omega)).1 (W241 (by omega)).2.1 (W241 (by omega)).2.2.1 (W241 (by omega)).2.2.2]; exact v231_3)) (by first | (rw [N283, xud_s, xud_o _ _ (show (34 : Int) ≠ 35 from by decide), xud_o _ _ (show (36 : Int) ≠ 35 from by decide)]; exact ⟨v231_4.1, (zbn_s v231_4.2.1 (by omega)).1, v231_4.2.2⟩) | exact v231_4) (by have hm := hm_231 (); omega) hW (lv_sub hl [1, 2, 0] rfl)
                              refine x_aload_n hx hb hl 0 rfl dX11_market_263 rfl ?_
                              refine x_get (j := 0) (v := .ref (h0 + 269)) hx hb hown hT hE hW cls_X11 (Or.inl (by decide)) (so_268 h0 g _) (by decide) rfl wq1185 dX11_market_264 ?_
                              refine x_bipush hx hb dX11_market_267 (by decide) ?_
                              refine x_aload_n hx hb hl 0 rfl dX11_market_269 rfl ?_
                              refine x_get (j := 0) (v := .ref (h0 + 269)) hx hb hown hT hE hW cls_X11 (Or.inl (by decide)) (so_268 h0 g _) (by decide) rfl wq1185 dX11_market_270 ?_
                              refine x_bipush hx hb dX11_market_273 (by decide) ?_
                              refine x_iald hx hb hE hW (Or.inl (by decide)) (sa_269 h0 g _) ⟨by decide, by decide⟩ (by decide) dX11_market_275 ?_
                              refine x_rd hW (fun x102 ex102 rx102 => ?_)
                              have V275 : x102 = s_231 269 35 := ex102
                              refine x_iconst hx hb dX11_market_276 ?_
                              refine x_iload hx hb hl 2 rfl dX11_market_277 ?_
                              refine lv_ishl hx hb dX11_market_279 ?_
                              refine x_anyE (fun x103 ex103 rx103 => ?_)
                              have V279 := ex103
                              refine x_iconst hx hb dX11_market_280 ?_
                              refine lv_ixor hx hb dX11_market_281 ?_
                              refine x_anyE (fun x104 ex104 rx104 => ?_)
                              have V281 := ex104
                              refine lv_iand hx hb dX11_market_282 ?_
                              refine x_anyE (fun x105 ex105 rx105 => ?_)
                              have V282 : x105 = zbn (s_231 269 35) i4_231 := by
                                rw [← V275]
                                exact zbn_j (by omega) (by omega) V279 V281 rx105 ex105
                              refine x_iast hx hb hE hW (by decide) (fun σ => sa_269 h0 g σ) ⟨by decide, by decide⟩ (by decide) rx105 dX11_market_283 (fun H locs s106 es106 hW => ?_)
                              have q107 : s106 269 37 = s0 269 37 := (show s106 269 37 = s_231 269 37 from by rw [es106, xU_j _ _ (by decide)]).trans q231_0
                              have q108 : s106 273 = s0 273 := by rw [es106, xU_k _ _ _ (by first | decide | omega)]; exact q231_1
                              have q109 : IMn s106 := by rw [es106]; exact IMn_N269 q231_2 (by omega)
                              have q110 : IMk s106 := by rw [es106]; exact IMk_o (by unfold suIMk; first | decide | omega) q231_3
                              have q111 : IMo s106 := by rw [es106]; exact IMo_o (by unfold suIMo; first | decide | omega) q231_4
                              have q112 : IR s106 := by rw [es106]; exact IR_o (by unfold suIR; first | decide | omega) q231_5
                              have q113 : s106 268 8 = 0 := (show s106 268 8 = s_231 268 8 from by rw [es106, xU_k _ _ _ (by first | decide | omega)]).trans q231_6
                              have q114 : s106 268 58 = s0 268 58 := (show s106 268 58 = s_231 268 58 from by rw [es106, xU_k _ _ _ (by first | decide | omega)]).trans q231_7
                              have q115 : s106 268 10 = n := (show s106 268 10 = s_231 268 10 from by rw [es106, xU_k _ _ _ (by first | decide | omega)]).trans q231_8
                              have q116 : s106 268 17 = s0 268 17 := (show s106 268 17 = s_231 268 17 from by rw [es106, xU_k _ _ _ (by first | decide | omega)]).trans q231_9
                              have q117 : s106 268 48 = s0 268 48 := (show s106 268 48 = s_231 268 48 from by rw [es106, xU_k _ _ _ (by first | decide | omega)]).trans q231_10
                              have hF118 := hF_231.put es106 (by omega)
                              have N283 : s106 269 = xud (s_231 269) 35 (zbn (s_231 269 35) i4_231) := by rw [es106, xU_xud, V282]
                              refine x_iinc (lv' := [(4, .int (xJ (i4_231 + 1))), (0, .ref (h0 + 268)), (3, .int (xJ i3_122))]) hx hb hl 2 rfl dX11_market_284 (by decide) rfl (fun ls hl => ?_)
                              refine lv_goto (tgt := 231) hx hb dX11_market_287 (by decide) ?_
                              exact ih231 (i4_231 + 1) s106 H locs ls (by omega) hF118 q107 q108 q109 q110 q111 q112 q113 q114 q115 q116 q117 (by omega) (by omega) (by first | exact v231_2 | (rw [es106, xU_k _ _ _ (by first | decide | omega), xU_k _ _ _ (by first | decide | omega)]; exact v231_2)) (by
                                  first
                                    | (rw [N283, zYN_d35 (by omega) v231_4.2.1, v231_3, zMP_no (by omega) (zog_n (by rw [← Z241 (by omega)]; omega))])
                                    | (rw [zMP_ys (by omega) (zog_y (by rw [← Z241 (by omega)]; omega)) (by rw [← Z241 (by omega)]; omega)]; exact v231_3)
                                    | (rw [zMP_00 (by omega) (W241 (by omega)).1 (W241 (by omega)).2.1 (W241 (by omega)).2.2.1 (W241 (by omega)).2.2.2]; exact v231_3)) (by first | (rw [N283, xud_s, xud_o _ _ (show (34 : Int) ≠ 35 from by decide), xud_o _ _ (show (36 : Int) ≠ 35 from by decide)]; exact ⟨v231_4.1, (zbn_s v231_4.2.1 (by omega)).1, v231_4.2.2⟩) | exact v231_4) (by have hm := hm_231 (); omega) hW (lv_sub hl [1, 2, 0] rfl)
                          exact L231 ((10 + 1 - 0 : Int).toNat + 1) 0 s_170 H locs ls (by decide) hF_170 q170_0 q170_2 q170_3 q170_4 q170_5 q170_6 q170_7 q170_8 q170_9 q170_10 q170_11 (by omega) (by omega) (v170_2) (by
                              have e : i4_170 = 2 := by omega
                              rw [e] at v170_3
                              exact v170_3) (v170_4) (Nat.lt_succ_self _) hW (lv_sub hl [1, 2, 0] rfl)
                        refine x_aload_n hx hb hl 0 rfl dX11_market_176 rfl ?_
                        refine x_iload hx hb hl 2 rfl dX11_market_177 ?_
                        refine x_goi (x_runV (As := [.int (xJ i4_170)]) hx hb hml hown hT hE hW hl.1 (Or.inl (by decide)) (so_268 h0 g _) rfl cf_X11_isJudge wq1409 wq109 wq1407 (c_X11_isJudgeJ l D g T h0 s_170 hW.2.1 i4_170 ri4_170 q170_3 q170_4 q170_5) ⟨rfl, rfl, ⟨by decide, by decide⟩, ⟨by decide, by decide⟩⟩ rfl rfl (Nat.le_of_ble_eq_true rfl) dX11_market_179) hW (fun x119 s120 H locs rx119 hp121 hW => ?_)
                        obtain ⟨es120, hp121⟩ := hp121
                        subst es120
                        have ghp121 := hp121
                        have H179 := ghp121
                        have Z179 : zrj (s_170 269) i4_170 = (zYN (s0 269) 0 0 0) i4_170 := by rw [← zMP_J (K := zkg K9) (Y := (zYN (s0 269) 0 0 0)) (j := i4_170) (by omega), ← v170_3]; exact (zYN_J (by omega)).symm
                        have Z195 : xsh (s_170 269 34) i4_170 % 2 = 1 → zrj (s_170 269) i4_170 = s_170 269 i4_170 := fun h => zrj_p h
                        refine x_if_eq (tgt := 222) hx hb rx119 dX11_market_182 (by decide) (fun c122 => ?_) (fun c122 => ?_)
                        · skip
                          refine x_iinc (lv' := [(4, .int (xJ (i4_170 + 1))), (0, .ref (h0 + 268)), (3, .int (xJ i3_122))]) hx hb hl 2 rfl dX11_market_222 (by decide) rfl (fun ls hl => ?_)
                          refine lv_goto (tgt := 170) hx hb dX11_market_225 (by decide) ?_
                          exact ih170 (i4_170 + 1) s_170 H locs ls (by omega) hF_170 q170_0 q170_2 q170_3 q170_4 q170_5 q170_6 q170_7 q170_8 q170_9 q170_10 q170_11 (by omega) (by omega) (by first | exact v170_2 | (rw [es_170, xU_k _ _ _ (by first | decide | omega), xU_k _ _ _ (by first | decide | omega)]; exact v170_2)) (by
                              first
                                | (rw [N221, zYN_d34 (by omega) v170_4.1, v170_3, zMP_js (by omega), zog_n (by rw [← Z179, Z195 (by omega)]; omega)])
                                | (rw [zMP_js (by omega), zog_y (by rw [← Z179, Z195 (by omega)]; omega)]; exact v170_3.trans (zxud_e (zMP_J (by omega)).symm))
                                | (rw [zMP_js (by omega), zog_n (by rw [← Z179, zrj_n (by omega)]; omega)]; exact v170_3.trans (zxud_e (by rw [zMP_J (by omega), ← Z179, zrj_n (by omega)])))) (by first | (rw [N221, xud_s, xud_o _ _ (show (35 : Int) ≠ 34 from by decide), xud_o _ _ (show (36 : Int) ≠ 34 from by decide)]; exact ⟨(znd_b v170_4.1 (by omega)).1, v170_4.2⟩) | exact v170_4) (by have hm := hm_170 (); omega) hW (lv_sub hl [1, 2, 0] rfl)
                        refine x_aload_n hx hb hl 0 rfl dX11_market_185 rfl ?_
                        refine x_aload_n hx hb hl 0 rfl dX11_market_186 rfl ?_
                        refine x_get (j := 0) (v := .ref (h0 + 269)) hx hb hown hT hE hW cls_X11 (Or.inl (by decide)) (so_268 h0 g _) (by decide) rfl wq1185 dX11_market_187 ?_
                        refine x_iconst hx hb dX11_market_190 ?_
                        refine x_iload hx hb hl 2 rfl dX11_market_191 ?_
                        refine x_iadd hx hb dX11_market_193 ?_
                        refine x_iald hx hb hE hW (Or.inl (by decide)) (sa_269 h0 g _) (by omega) (by decide) dX11_market_194 ?_
                        refine x_rd hW (fun x123 ex123 rx123 => ?_)
                        have bx123 : 0 ≤ x123 ∧ x123 ≤ 99 := by rw [ex123]; exact (IMn.n1 q170_3).1 _ (by omega) (by omega)
                        have V194 : x123 = s_170 269 i4_170 := ex123.trans (congrArg (s_170 269) (by omega))
                        have B194 := (IMn.n1 q170_3).1 i4_170 (by omega) (by omega)
                        refine x_goi (x_runV (As := [.int (xJ x123)]) hx hb hml hown hT hE hW hl.1 (Or.inl (by decide)) (so_268 h0 g _) rfl cf_X11_isGround wq1419 wq110 wq1417 (c_X11_isGroundM l D g T h0 s_170 hW.2.1 x123 rx123 (by omega) q170_3 q170_4 q170_5) ⟨rfl, rfl, ⟨by decide, by decide⟩, ⟨by decide, by decide⟩⟩ rfl rfl (Nat.le_of_ble_eq_true rfl) dX11_market_195) hW (fun x124 s125 H locs rx124 hp126 hW => ?_)
                        obtain ⟨es125, hp126⟩ := hp126
                        subst es125
                        have ghp126 := hp126
                        have H195 := ghp126
                        rw [v170_2.1] at H195
                        have G195 := v122_3 (s_170 269 i4_170) (by omega) (by omega)
                        rw [V194, G195] at H195
                        refine x_if_ne (tgt := 222) hx hb rx124 dX11_market_198 (by decide) (fun c127 => ?_) (fun c127 => ?_)
                        · skip
                          refine x_iinc (lv' := [(4, .int (xJ (i4_170 + 1))), (0, .ref (h0 + 268)), (3, .int (xJ i3_122))]) hx hb hl 2 rfl dX11_market_222 (by decide) rfl (fun ls hl => ?_)
                          refine lv_goto (tgt := 170) hx hb dX11_market_225 (by decide) ?_
                          exact ih170 (i4_170 + 1) s_170 H locs ls (by omega) hF_170 q170_0 q170_2 q170_3 q170_4 q170_5 q170_6 q170_7 q170_8 q170_9 q170_10 q170_11 (by omega) (by omega) (by first | exact v170_2 | (rw [es_170, xU_k _ _ _ (by first | decide | omega), xU_k _ _ _ (by first | decide | omega)]; exact v170_2)) (by
                              first
                                | (rw [N221, zYN_d34 (by omega) v170_4.1, v170_3, zMP_js (by omega), zog_n (by rw [← Z179, Z195 (by omega)]; omega)])
                                | (rw [zMP_js (by omega), zog_y (by rw [← Z179, Z195 (by omega)]; omega)]; exact v170_3.trans (zxud_e (zMP_J (by omega)).symm))
                                | (rw [zMP_js (by omega), zog_n (by rw [← Z179, zrj_n (by omega)]; omega)]; exact v170_3.trans (zxud_e (by rw [zMP_J (by omega), ← Z179, zrj_n (by omega)])))) (by first | (rw [N221, xud_s, xud_o _ _ (show (35 : Int) ≠ 34 from by decide), xud_o _ _ (show (36 : Int) ≠ 34 from by decide)]; exact ⟨(znd_b v170_4.1 (by omega)).1, v170_4.2⟩) | exact v170_4) (by have hm := hm_170 (); omega) hW (lv_sub hl [1, 2, 0] rfl)
                        refine x_aload_n hx hb hl 0 rfl dX11_market_201 rfl ?_
                        refine x_get (j := 0) (v := .ref (h0 + 269)) hx hb hown hT hE hW cls_X11 (Or.inl (by decide)) (so_268 h0 g _) (by decide) rfl wq1185 dX11_market_202 ?_
                        refine x_bipush hx hb dX11_market_205 (by decide) ?_
                        refine x_aload_n hx hb hl 0 rfl dX11_market_207 rfl ?_
                        refine x_get (j := 0) (v := .ref (h0 + 269)) hx hb hown hT hE hW cls_X11 (Or.inl (by decide)) (so_268 h0 g _) (by decide) rfl wq1185 dX11_market_208 ?_
                        refine x_bipush hx hb dX11_market_211 (by decide) ?_
                        refine x_iald hx hb hE hW (Or.inl (by decide)) (sa_269 h0 g _) ⟨by decide, by decide⟩ (by decide) dX11_market_213 ?_
                        refine x_rd hW (fun x128 ex128 rx128 => ?_)
                        have V213 : x128 = s_170 269 34 := ex128
                        refine x_iconst hx hb dX11_market_214 ?_
                        refine x_iload hx hb hl 2 rfl dX11_market_215 ?_
                        refine lv_ishl hx hb dX11_market_217 ?_
                        refine x_anyE (fun x129 ex129 rx129 => ?_)
                        have V217 := ex129
                        refine x_iconst hx hb dX11_market_218 ?_
                        refine lv_ixor hx hb dX11_market_219 ?_
                        refine x_anyE (fun x130 ex130 rx130 => ?_)
                        have V219 := ex130
                        refine lv_iand hx hb dX11_market_220 ?_
                        refine x_anyE (fun x131 ex131 rx131 => ?_)
                        have V220 : x131 = znd (s_170 269 34) i4_170 := by
                          rw [← V213]
                          exact znd_j (by omega) (by omega) V217 V219 rx131 ex131
                        refine x_iast hx hb hE hW (by decide) (fun σ => sa_269 h0 g σ) ⟨by decide, by decide⟩ (by decide) rx131 dX11_market_221 (fun H locs s132 es132 hW => ?_)
                        have q133 : s132 269 37 = s0 269 37 := (show s132 269 37 = s_170 269 37 from by rw [es132, xU_j _ _ (by decide)]).trans q170_0
                        have q134 : s132 273 = s0 273 := by rw [es132, xU_k _ _ _ (by first | decide | omega)]; exact q170_2
                        have q135 : IMn s132 := by rw [es132]; exact IMn_N269 q170_3 (by omega)
                        have q136 : IMk s132 := by rw [es132]; exact IMk_o (by unfold suIMk; first | decide | omega) q170_4
                        have q137 : IMo s132 := by rw [es132]; exact IMo_o (by unfold suIMo; first | decide | omega) q170_5
                        have q138 : IR s132 := by rw [es132]; exact IR_o (by unfold suIR; first | decide | omega) q170_6
                        have q139 : s132 268 8 = 0 := (show s132 268 8 = s_170 268 8 from by rw [es132, xU_k _ _ _ (by first | decide | omega)]).trans q170_7
                        have q140 : s132 268 58 = s0 268 58 := (show s132 268 58 = s_170 268 58 from by rw [es132, xU_k _ _ _ (by first | decide | omega)]).trans q170_8
                        have q141 : s132 268 10 = n := (show s132 268 10 = s_170 268 10 from by rw [es132, xU_k _ _ _ (by first | decide | omega)]).trans q170_9
                        have q142 : s132 268 17 = s0 268 17 := (show s132 268 17 = s_170 268 17 from by rw [es132, xU_k _ _ _ (by first | decide | omega)]).trans q170_10
                        have q143 : s132 268 48 = s0 268 48 := (show s132 268 48 = s_170 268 48 from by rw [es132, xU_k _ _ _ (by first | decide | omega)]).trans q170_11
                        have hF144 := hF_170.put es132 (by omega)
                        have N221 : s132 269 = xud (s_170 269) 34 (znd (s_170 269 34) i4_170) := by rw [es132, xU_xud, V220]
                        refine x_iinc (lv' := [(4, .int (xJ (i4_170 + 1))), (0, .ref (h0 + 268)), (3, .int (xJ i3_122))]) hx hb hl 2 rfl dX11_market_222 (by decide) rfl (fun ls hl => ?_)
                        refine lv_goto (tgt := 170) hx hb dX11_market_225 (by decide) ?_
                        exact ih170 (i4_170 + 1) s132 H locs ls (by omega) hF144 q133 q134 q135 q136 q137 q138 q139 q140 q141 q142 q143 (by omega) (by omega) (by first | exact v170_2 | (rw [es132, xU_k _ _ _ (by first | decide | omega), xU_k _ _ _ (by first | decide | omega)]; exact v170_2)) (by
                            first
                              | (rw [N221, zYN_d34 (by omega) v170_4.1, v170_3, zMP_js (by omega), zog_n (by rw [← Z179, Z195 (by omega)]; omega)])
                              | (rw [zMP_js (by omega), zog_y (by rw [← Z179, Z195 (by omega)]; omega)]; exact v170_3.trans (zxud_e (zMP_J (by omega)).symm))
                              | (rw [zMP_js (by omega), zog_n (by rw [← Z179, zrj_n (by omega)]; omega)]; exact v170_3.trans (zxud_e (by rw [zMP_J (by omega), ← Z179, zrj_n (by omega)])))) (by first | (rw [N221, xud_s, xud_o _ _ (show (35 : Int) ≠ 34 from by decide), xud_o _ _ (show (36 : Int) ≠ 34 from by decide)]; exact ⟨(znd_b v170_4.1 (by omega)).1, v170_4.2⟩) | exact v170_4) (by have hm := hm_170 (); omega) hW (lv_sub hl [1, 2, 0] rfl)
                    exact L170 ((2 + 1 - 0 : Int).toNat + 1) 0 s_122 H locs ls (by decide) hF_122 q122_0 q122_2 q122_3 q122_4 q122_5 q122_6 q122_7 q122_8 q122_9 q122_10 q122_11 (by omega) (by omega) (⟨rfl, v122_2⟩) (by rw [q122_1]; exact zMP_0.symm) (by rw [q122_1]; exact ⟨hb34, hb35, rfl⟩) (Nat.lt_succ_self _) hW (lv_sub hl [1, 2, 0] rfl)
                  refine x_aload_n hx hb hl 0 rfl dX11_market_129 rfl ?_
                  refine x_get (j := 3) (v := .ref (h0 + 272)) hx hb hown hT hE hW cls_X11 (Or.inl (by decide)) (so_268 h0 g _) (by decide) rfl wq1188 dX11_market_130 ?_
                  refine x_iload hx hb hl 2 rfl dX11_market_133 ?_
                  refine x_aload_n hx hb hl 0 rfl dX11_market_135 rfl ?_
                  refine x_get (j := 29) (v := .ref (h0 + 288)) hx hb hown hT hE hW cls_X11 (Or.inl (by decide)) (so_268 h0 g _) (by decide) rfl wq1214 dX11_market_136 ?_
                  refine x_iload hx hb hl 2 rfl dX11_market_139 ?_
                  refine x_iald hx hb hE hW (Or.inl (by decide)) (sa_288 h0 g _) (by omega) (by decide) dX11_market_141 ?_
                  refine x_rd hW (fun x145 ex145 rx145 => ?_)
                  have R141 := ex145
                  refine x_iast hx hb hE hW (by decide) (fun σ => sa_272 h0 g σ) (by omega) (by decide) rx145 dX11_market_142 (fun H locs s146 es146 hW => ?_)
                  have q147 : s146 269 37 = s0 269 37 := (show s146 269 37 = s_122 269 37 from by rw [es146, xU_k _ _ _ (by first | decide | omega)]).trans q122_0
                  have q148 : s146 269 = s0 269 := by rw [es146, xU_k _ _ _ (by first | decide | omega)]; exact q122_1
                  have q149 : s146 273 = s0 273 := by rw [es146, xU_k _ _ _ (by first | decide | omega)]; exact q122_2
                  have q150 : IMn s146 := by rw [es146]; exact IMn_o (by unfold suIMn; first | decide | omega) q122_3
                  have q151 : IMk s146 := by rw [es146]; exact IMk_o (by unfold suIMk; first | decide | omega) q122_4
                  have q152 : IMo s146 := by rw [es146]; exact IMo_o (by unfold suIMo; first | decide | omega) q122_5
                  have q153 : IR s146 := by rw [es146]; exact IR_o (by unfold suIR; first | decide | omega) q122_6
                  have q154 : s146 268 8 = 0 := (show s146 268 8 = s_122 268 8 from by rw [es146, xU_k _ _ _ (by first | decide | omega)]).trans q122_7
                  have q155 : s146 268 58 = s0 268 58 := (show s146 268 58 = s_122 268 58 from by rw [es146, xU_k _ _ _ (by first | decide | omega)]).trans q122_8
                  have q156 : s146 268 10 = n := (show s146 268 10 = s_122 268 10 from by rw [es146, xU_k _ _ _ (by first | decide | omega)]).trans q122_9
                  have q157 : s146 268 17 = s0 268 17 := (show s146 268 17 = s_122 268 17 from by rw [es146, xU_k _ _ _ (by first | decide | omega)]).trans q122_10
                  have q158 : s146 268 48 = s0 268 48 := (show s146 268 48 = s_122 268 48 from by rw [es146, xU_k _ _ _ (by first | decide | omega)]).trans q122_11
                  have hF159 := hF_122.put es146 (by omega)
                  have E142 := es146
                  refine x_iload_n hx hb hl 1 rfl dX11_market_143 rfl ?_
                  refine x_aload_n hx hb hl 0 rfl dX11_market_144 rfl ?_
                  refine x_get (j := 3) (v := .ref (h0 + 272)) hx hb hown hT hE hW cls_X11 (Or.inl (by decide)) (so_268 h0 g _) (by decide) rfl wq1188 dX11_market_145 ?_
                  refine x_iload hx hb hl 2 rfl dX11_market_148 ?_
                  refine x_iald hx hb hE hW (Or.inl (by decide)) (sa_272 h0 g _) (by omega) (by decide) dX11_market_150 ?_
                  refine x_rd hW (fun x160 ex160 rx160 => ?_)
                  have U150 : x160 = K9 i4_122 := by rw [ex160, E142, xU_s, R141, v122_2]
                  refine x_if_ne (tgt := 158) hx hb rx160 dX11_market_151 (by decide) (fun c161 => ?_) (fun c161 => ?_)
                  · skip
                    refine x_iconst hx hb dX11_market_158 ?_
                    refine x_iadd hx hb dX11_market_159 ?_
                    refine x_nm (fun x162 ex162 => ?_)
                    refine lv_istore_n (lv' := [(3, .int (xJ x162)), (0, .ref (h0 + 268)), (4, .int (xJ i4_122))]) hx hb dX11_market_160 rfl hl (by decide) rfl (fun ls hl => ?_)
                    refine x_iinc (lv' := [(4, .int (xJ (i4_122 + 1))), (3, .int (xJ x162)), (0, .ref (h0 + 268))]) hx hb hl 2 rfl dX11_market_161 (by decide) rfl (fun ls hl => ?_)
                    refine lv_goto (tgt := 122) hx hb dX11_market_164 (by decide) ?_
                    exact ih122 x162 (i4_122 + 1) s146 H locs ls (by omega) (by omega) hF159 q147 q148 q149 q150 q151 q152 q153 q154 q155 q156 q157 q158 (by omega) (by first | (rw [zct_n (by omega) (by omega)]; omega) | (rw [zct_y (by omega) (by omega)]; omega)) (by rw [E142, xU_k _ _ _ (by first | decide | omega)]; exact v122_2) (fun q q1 q2 => (Classical.em (q < i4_122)).elim (fun h => by rw [E142, xU_j _ _ (by omega)]; exact v122_3 q q1 h) (fun h => by rw [show q = i4_122 from by omega, E142, xU_s, R141, v122_2])) (by omega) (by have hm := hm_122 (); omega) hW (lv_sub hl [2, 1, 0] rfl)
                  refine x_iconst hx hb dX11_market_154 ?_
                  refine lv_goto (tgt := 159) hx hb dX11_market_155 (by decide) ?_
                  refine x_iadd hx hb dX11_market_159 ?_
                  refine x_nm (fun x163 ex163 => ?_)
                  refine lv_istore_n (lv' := [(3, .int (xJ x163)), (0, .ref (h0 + 268)), (4, .int (xJ i4_122))]) hx hb dX11_market_160 rfl hl (by decide) rfl (fun ls hl => ?_)
                  refine x_iinc (lv' := [(4, .int (xJ (i4_122 + 1))), (3, .int (xJ x163)), (0, .ref (h0 + 268))]) hx hb hl 2 rfl dX11_market_161 (by decide) rfl (fun ls hl => ?_)
                  refine lv_goto (tgt := 122) hx hb dX11_market_164 (by decide) ?_
                  exact ih122 x163 (i4_122 + 1) s146 H locs ls (by omega) (by omega) hF159 q147 q148 q149 q150 q151 q152 q153 q154 q155 q156 q157 q158 (by omega) (by first | (rw [zct_n (by omega) (by omega)]; omega) | (rw [zct_y (by omega) (by omega)]; omega)) (by rw [E142, xU_k _ _ _ (by first | decide | omega)]; exact v122_2) (fun q q1 q2 => (Classical.em (q < i4_122)).elim (fun h => by rw [E142, xU_j _ _ (by omega)]; exact v122_3 q q1 h) (fun h => by rw [show q = i4_122 from by omega, E142, xU_s, R141, v122_2])) (by omega) (by have hm := hm_122 (); omega) hW (lv_sub hl [2, 1, 0] rfl)
              exact L122 ((100 - 0 : Int).toNat + 1) 0 0 s42 H locs ls (by decide) (by decide) hF55 q43 q44 q45 q46 q47 q48 q49 q50 q51 q52 q53 q54 (by omega) (rfl) (eK9.symm) (fun q q1 q2 => absurd q2 (by omega)) (by omega) (Nat.lt_succ_self _) hW (lv_sub hl [2, 1, 0] rfl)
            refine x_aload_n hx hb hl 0 rfl dX11_market_112 rfl ?_
            refine x_get (j := 11) (v := .int (xJ (s42 268 11))) hx hb hown hT hE hW cls_X11 (Or.inl (by decide)) (so_268 h0 g _) (by decide) rfl wq1196 dX11_market_113 ?_
            refine x_rd hW (fun x164 ex164 rx164 => ?_)
            rw [eQ]
            exact x_iret hx hb hr hlk hW rx164 ⟨hF55, ⟨q46, q47, q48, q43, q53, q54, trivial⟩, by
                have z := R105.resolve_left (fun q => by omega)
                exact Or.inr ⟨by omega, by omega, eK9.symm.trans z.2.2.2.symm, Or.inl ⟨z.2.1, by omega, Q105, by omega, q44, q45⟩⟩⟩ dX11_market_116
          refine x_if_eq (tgt := 103) hx hb ri2_39 dX11_market_79 (by decide) (fun c165 => ?_) (fun c165 => ?_)
          · skip
            exact J103 i2_39 s_39 H locs ls ri2_39 hF_39 q39_0 q39_1 q39_2 q39_3 q39_4 q39_5 q39_6 q39_7 q39_8 q39_9 q39_10 q39_11 (by first | exact Or.inr (v39_1.resolve_left (fun q => by omega)) | exact B86 (by omega) (by omega) | exact B99) (by first | exact v39_2 | exact Q99) hW (lv_sub hl [0, 1] rfl)
          refine x_aload_n hx hb hl 0 rfl dX11_market_82 rfl ?_
          refine x_get (j := 9) (v := .int (xJ (s_39 268 9))) hx hb hown hT hE hW cls_X11 (Or.inl (by decide)) (so_268 h0 g _) (by decide) rfl wq1194 dX11_market_83 ?_
          refine x_rd hW (fun x166 ex166 rx166 => ?_)
          have bx166 : 0 ≤ x166 ∧ x166 ≤ s_39 268 10 ∧ s_39 268 10 ≤ 240 := by rw [ex166]; exact q39_6
          have B86 : i2_39 = 1 → n ≤ x166 → (i2_39 = 1 ∧ (zMk (xm8 (s0 276)) n (s0 288)).1 = 0 ∧ (zMk (xm8 (s0 276)) n (s0 288)).2.2 = s_39 288) ∨ (i2_39 = 0 ∧ (zMk (xm8 (s0 276)) n (s0 288)).1 ≠ 0 ∧ s_39 268 11 = (zMk (xm8 (s0 276)) n (s0 288)).1 ∧ (zMk (xm8 (s0 276)) n (s0 288)).2.2 = s_39 288) := fun h1 h2 => by
            have z := (v39_1.resolve_right (fun q => by omega)).2.trans (zM_end (by omega))
            rw [if_neg (by omega)] at z
            rw [z]
            exact Or.inl ⟨h1, rfl, rfl⟩
          refine x_aload_n hx hb hl 0 rfl dX11_market_86 rfl ?_
          refine x_get (j := 10) (v := .int (xJ (s_39 268 10))) hx hb hown hT hE hW cls_X11 (Or.inl (by decide)) (so_268 h0 g _) (by decide) rfl wq1195 dX11_market_87 ?_
          refine x_rd hW (fun x167 ex167 rx167 => ?_)
          have fx167 : x167 = n := ex167.trans q39_9
          refine x_icmp_ge (tgt := 103) hx hb rx166 rx167 dX11_market_90 (by decide) (fun c168 => ?_) (fun c168 => ?_)
          · skip
            exact J103 i2_39 s_39 H locs ls ri2_39 hF_39 q39_0 q39_1 q39_2 q39_3 q39_4 q39_5 q39_6 q39_7 q39_8 q39_9 q39_10 q39_11 (by first | exact Or.inr (v39_1.resolve_left (fun q => by omega)) | exact B86 (by omega) (by omega) | exact B99) (by first | exact v39_2 | exact Q99) hW (lv_sub hl [0, 1] rfl)
          refine x_aload_n hx hb hl 0 rfl dX11_market_93 rfl ?_
          refine x_iconst hx hb dX11_market_94 ?_
          refine x_aload_n hx hb hl 0 rfl dX11_market_95 rfl ?_
          refine x_get (j := 9) (v := .int (xJ (s_39 268 9))) hx hb hown hT hE hW cls_X11 (Or.inl (by decide)) (so_268 h0 g _) (by decide) rfl wq1194 dX11_market_96 ?_
          refine x_rd hW (fun x169 ex169 rx169 => ?_)
          have bx169 : 0 ≤ x169 ∧ x169 ≤ s_39 268 10 ∧ s_39 268 10 ≤ 240 := by rw [ex169]; exact q39_6
          refine x_goi (x_runV (As := [.int (xJ 1), .int (xJ x169)]) hx hb hml hown hT hE hW hl.1 (Or.inl (by decide)) (so_268 h0 g _) rfl cf_X11_wrongAt wq1401 wq107 wq1399 (c_X11_wrongAtM l D g T h0 s_39 hW.2.1 1 (by decide) x169 rx169 (by omega) q39_3 q39_4 q39_5 q39_6) ⟨rfl, rfl, ⟨by decide, by decide⟩, ⟨by decide, by decide⟩⟩ rfl rfl (Nat.le_of_ble_eq_true rfl) dX11_market_99) hW (fun x170 s171 H locs rx170 hp172 hW => ?_)
          obtain ⟨fs171, hp172⟩ := hp172
          have hF173 := hF_39.call fs171 (fun k h => by omega)
          have q174 : s171 269 37 = s0 269 37 := (congrFun (fs171 _ (by omega)) _).trans q39_0
          have q175 : s171 269 = s0 269 := (fs171 _ (by omega)).trans q39_1
          have q176 : s171 273 = s0 273 := (fs171 _ (by omega)).trans q39_2
          have ghp172 := hp172.2
          have Q99 : s171 272 = s0 272 := (fs171 272 (by first | decide | omega)).trans v39_2
          have B99 : (x170 = 1 ∧ (zMk (xm8 (s0 276)) n (s0 288)).1 = 0 ∧ (zMk (xm8 (s0 276)) n (s0 288)).2.2 = s171 288) ∨ (x170 = 0 ∧ (zMk (xm8 (s0 276)) n (s0 288)).1 ≠ 0 ∧ s171 268 11 = (zMk (xm8 (s0 276)) n (s0 288)).1 ∧ (zMk (xm8 (s0 276)) n (s0 288)).2.2 = s171 288) := by
            have z := (v39_1.resolve_right (fun q => by omega)).2.trans (zM_end (by omega))
            rw [if_pos (by omega)] at z
            rw [z]
            exact Or.inr ⟨by omega, (by show (-1000 - _ : Int) ≠ 0; omega), (by show _ = (-1000 - _ : Int); omega), (fs171 288 (by first | decide | omega)).symm⟩
          refine lv_istore_n (lv' := [(2, .int (xJ x170)), (0, .ref (h0 + 268))]) hx hb dX11_market_102 rfl hl (by decide) rfl (fun ls hl => ?_)
          exact J103 x170 s171 H locs ls rx170 hF173 q174 q175 q176 hp172.1.1 hp172.1.2.1 hp172.1.2.2.1 hp172.1.2.2.2.1 (hp172.1.2.2.2.2.1.trans q39_7) (hp172.1.2.2.2.2.2.1.trans q39_8) (hp172.1.2.2.2.2.2.2.1.trans q39_9) (hp172.1.2.2.2.2.2.2.2.2.1.trans q39_10) (hp172.1.2.2.2.2.2.2.2.2.2.1.trans q39_11) (by first | exact Or.inr (v39_1.resolve_left (fun q => by omega)) | exact B86 (by omega) (by omega) | exact B99) (by first | exact v39_2 | exact Q99) hW (lv_sub hl [1, 0] rfl)
        refine x_icmp_ge (tgt := 78) hx hb ri3_39 (by decide) dX11_market_42 (by decide) (fun c177 => ?_) (fun c177 => ?_)
        · skip
          exact J78 ls (by omega)  (lv_sub hl [0, 1] rfl)
        refine x_iload_n hx hb hl 1 rfl dX11_market_45 rfl ?_
        refine x_if_eq (tgt := 78) hx hb ri2_39 dX11_market_46 (by decide) (fun c178 => ?_) (fun c178 => ?_)
        · skip
          exact J78 ls (by omega)  (lv_sub hl [0, 1] rfl)
        refine x_aload_n hx hb hl 0 rfl dX11_market_49 rfl ?_
        refine x_bipush hx hb dX11_market_50 (by decide) ?_
        refine x_goi (x_runV (As := [.int (xJ 47)]) hx hb hml hown hT hE hW hl.1 (Or.inl (by decide)) (so_268 h0 g _) rfl cf_X11_takes wq1405 wq108 wq1403 (c_X11_takesM l D g T h0 s_39 hW.2.1 47 (by decide) (by omega) q39_3 q39_4 q39_5 q39_6) ⟨rfl, rfl, ⟨by decide, by decide⟩, ⟨by decide, by decide⟩⟩ rfl rfl (Nat.le_of_ble_eq_true rfl) dX11_market_52) hW (fun x179 s180 H locs rx179 hp181 hW => ?_)
        obtain ⟨fs180, hp181⟩ := hp181
        have hF182 := hF_39.call fs180 (fun k h => by omega)
        have q183 : s180 269 37 = s0 269 37 := (congrFun (fs180 _ (by omega)) _).trans q39_0
        have q184 : s180 269 = s0 269 := (fs180 _ (by omega)).trans q39_1
        have q185 : s180 273 = s0 273 := (fs180 _ (by omega)).trans q39_2
        have ghp181 := hp181.2
        have W52 := ghp181
        have C52 : zhC s_39 = zch (xm8 (s0 276)) n (s_39 268 9) := by
          have z := zhC_ch s_39
          rw [hF_39 276 (by first | decide | omega), show s_39 268 10 = n from by omega] at z
          exact z
        have Q52 : s180 288 = s_39 288 ∧ s180 272 = s0 272 := ⟨fs180 288 (by first | decide | omega), (fs180 272 (by first | decide | omega)).trans v39_2⟩
        have G52 : s180 276 = s0 276 := hF182 276 (by first | decide | omega)
        have N52 : s180 268 10 = n := by omega
        have P52 : x179 ≠ 0 → s180 268 9 = s_39 268 9 + 1 := fun h => by omega
        have B52 : x179 = 0 → ((0 : Int) = 1 ∧ zMk (xm8 (s0 276)) n (s0 288) = zM (xm8 (s0 276)) n (10 - (i3_39 + 1)).toNat (i3_39 + 1) (s180 268 9) (s180 288)) ∨ ((0 : Int) = 0 ∧ (zMk (xm8 (s0 276)) n (s0 288)).1 ≠ 0 ∧ s180 268 11 = (zMk (xm8 (s0 276)) n (s0 288)).1 ∧ (zMk (xm8 (s0 276)) n (s0 288)).2.2 = s180 288) := fun hv => by
          have z := (v39_1.resolve_right (fun q => by omega)).2.trans (zM_no (by omega) (by omega))
          rw [z]
          exact Or.inr ⟨rfl, (by show (-1000 - _ : Int) ≠ 0; omega), (by show _ = (-1000 - _ : Int); omega), Q52.1.symm⟩
        refine x_if_eq (tgt := 70) hx hb rx179 dX11_market_55 (by decide) (fun c186 => ?_) (fun c186 => ?_)
        · skip
          refine x_iconst hx hb dX11_market_70 ?_
          refine lv_istore_n (lv' := [(2, .int (xJ 0)), (0, .ref (h0 + 268)), (3, .int (xJ i3_39))]) hx hb dX11_market_71 rfl hl (by decide) rfl (fun ls hl => ?_)
          refine x_iinc (lv' := [(3, .int (xJ (i3_39 + 1))), (2, .int (xJ 0)), (0, .ref (h0 + 268))]) hx hb hl 2 rfl dX11_market_72 (by decide) rfl (fun ls hl => ?_)
          refine lv_goto (tgt := 39) hx hb dX11_market_75 (by decide) ?_
          exact ih39 0 (i3_39 + 1) s180 H locs ls (by decide) (by omega) hF182 q183 q184 q185 hp181.1.1 hp181.1.2.1 hp181.1.2.2.1 hp181.1.2.2.2.1 (hp181.1.2.2.2.2.1.trans q39_7) (hp181.1.2.2.2.2.2.1.trans q39_8) (hp181.1.2.2.2.2.2.2.1.trans q39_9) (hp181.1.2.2.2.2.2.2.2.1.trans q39_10) (hp181.1.2.2.2.2.2.2.2.2.1.trans q39_11) (by omega) (by first | exact Or.inl ⟨rfl, (v39_1.resolve_right (fun q => by omega)).2.trans (zM_row_ok (by omega) (by omega) (D60.resolve_right (fun q => by omega)).2 (by omega) rfl rfl rfl)⟩ | exact B60 (by omega) (by omega) | exact B52 (by omega)) (by first | exact K60 | exact Q52.2) (by have hm := hm_39 (); omega) hW (lv_sub hl [2, 1, 0] rfl)
        refine x_aload_n hx hb hl 0 rfl dX11_market_58 rfl ?_
        refine x_iload_n hx hb hl 2 rfl dX11_market_59 rfl ?_
        refine x_goi (x_runV (As := [.int (xJ i3_39)]) hx hb hml hown hT hE hW hl.1 (Or.inl (by decide)) (so_268 h0 g _) rfl cf_X11_readsRow wq1387 wq105 wq1385 (c_X11_readsRowM l D g T h0 s180 hW.2.1 i3_39 ri3_39 (by omega) hp181.1.1 hp181.1.2.1 hp181.1.2.2.1 hp181.1.2.2.2.1) ⟨rfl, rfl, ⟨by decide, by decide⟩, ⟨by decide, by decide⟩⟩ rfl rfl (Nat.le_of_ble_eq_true rfl) dX11_market_60) hW (fun x187 s188 H locs rx187 hp189 hW => ?_)
        obtain ⟨fs188, hp189⟩ := hp189
        have hF190 := hF182.call fs188 (fun k h => by omega)
        have q191 : s188 269 37 = s0 269 37 := (congrFun (fs188 _ (by omega)) _).trans q183
        have q192 : s188 269 = s0 269 := (fs188 _ (by omega)).trans q184
        have q193 : s188 273 = s0 273 := (fs188 _ (by omega)).trans q185
        have ghp189 := hp189.2
        have R60 := ghp189
        rw [G52, N52, Q52.1, P52 (by omega)] at R60
        have D60 := R60.cs
        have K60 : s188 272 = s0 272 := (fs188 272 (by first | decide | omega)).trans Q52.2
        have B60 : x187 = 0 → 0 < 10 - i3_39 → ((0 : Int) = 1 ∧ zMk (xm8 (s0 276)) n (s0 288) = zM (xm8 (s0 276)) n (10 - (i3_39 + 1)).toNat (i3_39 + 1) (s188 268 9) (s188 288)) ∨ ((0 : Int) = 0 ∧ (zMk (xm8 (s0 276)) n (s0 288)).1 ≠ 0 ∧ s188 268 11 = (zMk (xm8 (s0 276)) n (s0 288)).1 ∧ (zMk (xm8 (s0 276)) n (s0 288)).2.2 = s188 288) := fun hv _ => by
          obtain ⟨d1, d2, d3, d4⟩ := D60.resolve_left (fun q => by omega)
          have z := (v39_1.resolve_right (fun q => by omega)).2.trans (zM_row_bad (by omega) (by omega) d2)
          rw [z]
          exact Or.inr ⟨rfl, d2, d3, d4⟩
        refine x_if_eq (tgt := 70) hx hb rx187 dX11_market_63 (by decide) (fun c194 => ?_) (fun c194 => ?_)
        · skip
          refine x_iconst hx hb dX11_market_70 ?_
          refine lv_istore_n (lv' := [(2, .int (xJ 0)), (0, .ref (h0 + 268)), (3, .int (xJ i3_39))]) hx hb dX11_market_71 rfl hl (by decide) rfl (fun ls hl => ?_)
          refine x_iinc (lv' := [(3, .int (xJ (i3_39 + 1))), (2, .int (xJ 0)), (0, .ref (h0 + 268))]) hx hb hl 2 rfl dX11_market_72 (by decide) rfl (fun ls hl => ?_)
          refine lv_goto (tgt := 39) hx hb dX11_market_75 (by decide) ?_
          exact ih39 0 (i3_39 + 1) s188 H locs ls (by decide) (by omega) hF190 q191 q192 q193 hp189.1.1 hp189.1.2.1 hp189.1.2.2.1 hp189.1.2.2.2.1 (hp189.1.2.2.2.2.1.trans (hp181.1.2.2.2.2.1.trans q39_7)) (hp189.1.2.2.2.2.2.1.trans (hp181.1.2.2.2.2.2.1.trans q39_8)) (hp189.1.2.2.2.2.2.2.1.trans (hp181.1.2.2.2.2.2.2.1.trans q39_9)) (hp189.1.2.2.2.2.2.2.2.1.trans (hp181.1.2.2.2.2.2.2.2.1.trans q39_10)) (hp189.1.2.2.2.2.2.2.2.2.1.trans (hp181.1.2.2.2.2.2.2.2.2.1.trans q39_11)) (by omega) (by first | exact Or.inl ⟨rfl, (v39_1.resolve_right (fun q => by omega)).2.trans (zM_row_ok (by omega) (by omega) (D60.resolve_right (fun q => by omega)).2 (by omega) rfl rfl rfl)⟩ | exact B60 (by omega) (by omega) | exact B52 (by omega)) (by first | exact K60 | exact Q52.2) (by have hm := hm_39 (); omega) hW (lv_sub hl [2, 1, 0] rfl)
        refine x_iconst hx hb dX11_market_66 ?_
        refine lv_goto (tgt := 71) hx hb dX11_market_67 (by decide) ?_
        refine lv_istore_n (lv' := [(2, .int (xJ 1)), (0, .ref (h0 + 268)), (3, .int (xJ i3_39))]) hx hb dX11_market_71 rfl hl (by decide) rfl (fun ls hl => ?_)
        refine x_iinc (lv' := [(3, .int (xJ (i3_39 + 1))), (2, .int (xJ 1)), (0, .ref (h0 + 268))]) hx hb hl 2 rfl dX11_market_72 (by decide) rfl (fun ls hl => ?_)
        refine lv_goto (tgt := 39) hx hb dX11_market_75 (by decide) ?_
        exact ih39 1 (i3_39 + 1) s188 H locs ls (by decide) (by omega) hF190 q191 q192 q193 hp189.1.1 hp189.1.2.1 hp189.1.2.2.1 hp189.1.2.2.2.1 (hp189.1.2.2.2.2.1.trans (hp181.1.2.2.2.2.1.trans q39_7)) (hp189.1.2.2.2.2.2.1.trans (hp181.1.2.2.2.2.2.1.trans q39_8)) (hp189.1.2.2.2.2.2.2.1.trans (hp181.1.2.2.2.2.2.2.1.trans q39_9)) (hp189.1.2.2.2.2.2.2.2.1.trans (hp181.1.2.2.2.2.2.2.2.1.trans q39_10)) (hp189.1.2.2.2.2.2.2.2.2.1.trans (hp181.1.2.2.2.2.2.2.2.2.1.trans q39_11)) (by omega) (by first | exact Or.inl ⟨rfl, (v39_1.resolve_right (fun q => by omega)).2.trans (zM_row_ok (by omega) (by omega) (D60.resolve_right (fun q => by omega)).2 (by omega) rfl rfl rfl)⟩ | exact B60 (by omega) (by omega) | exact B52 (by omega)) (by first | exact K60 | exact Q52.2) (by have hm := hm_39 (); omega) hW (lv_sub hl [2, 1, 0] rfl)
    exact L39 ((10 - 1 : Int).toNat + 1) x35 1 s36 H locs ls rx35 (by decide) hF38 q39 q40 q41 hp37.1.1 hp37.1.2.1 hp37.1.2.2.1 hp37.1.2.2.2.1 (hp37.1.2.2.2.2.1.trans q27) (hp37.1.2.2.2.2.2.1.trans q28) (hp37.1.2.2.2.2.2.2.1.trans q32) (hp37.1.2.2.2.2.2.2.2.1.trans q25) (hp37.1.2.2.2.2.2.2.2.2.1.trans q26) (by omega) (B33) (Q33) (Nat.lt_succ_self _) hW (lv_sub hl [2, 1, 0] rfl)
  refine x_iconst hx hb dX11_market_19 ?_
  rw [eQ]
  exact x_iret hx hb hr hlk hW (by decide) ⟨hF, ⟨p0, p1, p2, k269_37, k268_17, k268_48, trivial⟩, Or.inl ⟨by omega, by omega, by omega, rfl, rfl, rfl, rfl, rfl⟩⟩ dX11_market_20

set_option maxHeartbeats 4000000 in
set_option maxRecDepth 100000 in
theorem c_X11_fewestF (l : Launch) (D : va_G) (g : xG) (T : Nat × Nat × Nat) (h0 : Nat) (s0 : xS) (hσ : xRR s0) (f : Int) (rf : xR f) (n : Int) (rn : xR n) (q : Int) (rq : xR q) (p0 : IMn s0) (p1 : IMk s0) (p2 : IMo s0) : Met l yX11_fewest (xws yX11_fewest cX11_fewest 6 (some .int)) { frames := 5, cells := 0, slots := 0, locals := 115 } (xP [.ref (h0 + 268), .int (xJ f), .int (xJ n), .int (xJ q)] D g T h0 s0) (xQi D g h0 (fun r τ => xFr (fun k => k = 269 ∨ k = 270 ∨ k = 293 ∨ k = 294 ∨ k = 295 ∨ k = 296 ∨ k = 302 ∨ k = 303 ∨ k = 304) s0 τ ∧ (((IMn τ) ∧ (IMk τ) ∧ (IMo τ) ∧ True) ∧ (∀ q : Int, 0 ≤ q → q < 39 → τ 269 q = s0 269 q)))) 0 0 (xA h0) := by
  refine x_met hσ (by decide) (Nat.le_of_ble_eq_true rfl) ?_
  intro p e s m args below meth c hx hb hr hml hown hT hlk hnm hE hW ls hl
  have hl : lv_has ls 6 [(0, .ref (h0 + 268)), (1, .int (xJ f)), (2, .int (xJ n)), (3, .int (xJ q))] := hl
  obtain ⟨Q, eQ⟩ : ∃ Q, Q = MQ below (xQi D g h0 (fun r τ => xFr (fun k => k = 269 ∨ k = 270 ∨ k = 293 ∨ k = 294 ∨ k = 295 ∨ k = 296 ∨ k = 302 ∨ k = 303 ∨ k = 304) s0 τ ∧ (((IMn τ) ∧ (IMk τ) ∧ (IMo τ) ∧ True) ∧ (∀ q : Int, 0 ≤ q → q < 39 → τ 269 q = s0 269 q)))) args s 0 0 (xA h0) := ⟨_, rfl⟩
  rw [← eQ]
  generalize hHe : ([] : List Loc) = locs at hW ⊢
  obtain ⟨H, eH⟩ : ∃ H, H = s.heap := ⟨_, rfl⟩
  rw [← eH] at hW ⊢
  have hF : xFr (fun k => k = 269 ∨ k = 270 ∨ k = 293 ∨ k = 294 ∨ k = 295 ∨ k = 296 ∨ k = 302 ∨ k = 303 ∨ k = 304) s0 s0 := xFr.rf
  have k268_8 : s0 268 8 = s0 268 8 := rfl
  have k268_58 : s0 268 58 = s0 268 58 := rfl
  have k268_17 : s0 268 17 = s0 268 17 := rfl
  have k268_48 : s0 268 48 = s0 268 48 := rfl
  refine x_aload_n hx hb hl 0 rfl dX11_fewest_0 rfl ?_
  refine x_iload_n hx hb hl 1 rfl dX11_fewest_1 rfl ?_
  refine x_goi (x_runV (As := [.int (xJ f)]) hx hb hml hown hT hE hW hl.1 (Or.inl (by decide)) (so_268 h0 g _) rfl cf_X11_isFelon wq1423 wq111 wq1421 (c_X11_isFelonF l D g T h0 s0 hW.2.1 f rf p0 p1 p2) ⟨rfl, rfl, ⟨by decide, by decide⟩, ⟨by decide, by decide⟩⟩ rfl rfl (Nat.le_of_ble_eq_true rfl) dX11_fewest_2) hW (fun x1 s2 H locs rx1 hp3 hW => ?_)
  obtain ⟨es2, hp3⟩ := hp3
  subst es2
  have ghp3 := hp3
  refine x_if_eq (tgt := 27) hx hb rx1 dX11_fewest_5 (by decide) (fun c4 => ?_) (fun c4 => ?_)
  · skip
    refine x_iconst hx hb dX11_fewest_27 ?_
    rw [eQ]
    exact x_iret hx hb hr hlk hW (by decide) ⟨hF, ⟨p0, p1, p2, trivial⟩, fun _ _ _ => rfl⟩ dX11_fewest_28
  refine x_iload_n hx hb hl 2 rfl dX11_fewest_8 rfl ?_
  refine x_iconst hx hb dX11_fewest_9 ?_
  refine x_bipush hx hb dX11_fewest_10 (by decide) ?_
  refine x_goi (x_runS (As := [.int (xJ n), .int (xJ 1), .int (xJ 30)]) hx hb hml hown hT hE hW hl.1 cf_X11_in wq1383 wq1382 (c_X11_in l D g T h0 s0 hW.2.1 n rn 1 (by decide) 30 (by decide)) ⟨rfl, rfl, ⟨by decide, by decide⟩, ⟨by decide, by decide⟩⟩ rfl rfl (Nat.le_of_ble_eq_true rfl) dX11_fewest_12) hW (fun x5 s6 H locs rx5 hp7 hW => ?_)
  obtain ⟨es6, hp7⟩ := hp7
  subst es6
  have ghp7 := hp7
  refine x_if_eq (tgt := 27) hx hb rx5 dX11_fewest_15 (by decide) (fun c8 => ?_) (fun c8 => ?_)
  · skip
    refine x_iconst hx hb dX11_fewest_27 ?_
    rw [eQ]
    exact x_iret hx hb hr hlk hW (by decide) ⟨hF, ⟨p0, p1, p2, trivial⟩, fun _ _ _ => rfl⟩ dX11_fewest_28
  refine x_iload_n hx hb hl 3 rfl dX11_fewest_18 rfl ?_
  refine x_iconst hx hb dX11_fewest_19 ?_
  refine x_iload_n hx hb hl 2 rfl dX11_fewest_20 rfl ?_
  refine x_goi (x_runS (As := [.int (xJ q), .int (xJ 1), .int (xJ n)]) hx hb hml hown hT hE hW hl.1 cf_X11_in wq1383 wq1382 (c_X11_in l D g T h0 s0 hW.2.1 q rq 1 (by decide) n rn) ⟨rfl, rfl, ⟨by decide, by decide⟩, ⟨by decide, by decide⟩⟩ rfl rfl (Nat.le_of_ble_eq_true rfl) dX11_fewest_21) hW (fun x9 s10 H locs rx9 hp11 hW => ?_)
  obtain ⟨es10, hp11⟩ := hp11
  subst es10
  have ghp11 := hp11
  refine x_if_ne (tgt := 29) hx hb rx9 dX11_fewest_24 (by decide) (fun c12 => ?_) (fun c12 => ?_)
  · skip
    refine x_aload_n hx hb hl 0 rfl dX11_fewest_29 rfl ?_
    refine x_get (j := 0) (v := .ref (h0 + 269)) hx hb hown hT hE hW cls_X11 (Or.inl (by decide)) (so_268 h0 g _) (by decide) rfl wq1185 dX11_fewest_30 ?_
    refine x_aload_n hx hb hl 0 rfl dX11_fewest_33 rfl ?_
    refine x_get (j := 1) (v := .ref (h0 + 270)) hx hb hown hT hE hW cls_X11 (Or.inl (by decide)) (so_268 h0 g _) (by decide) rfl wq1186 dX11_fewest_34 ?_
    refine x_gov (x_runS (As := [.ref (h0 + 269), .ref (h0 + 270)]) hx hb hml hown hT hE hW hl.1 cf_X11_copies wq1647 wq1646 (c_X11_copiesMA l D g T h0 s0 hW.2.1 p0 p1 p2) ⟨rfl, rfl, ⟨by decide, by decide⟩, ⟨by decide, by decide⟩⟩ rfl rfl (Nat.le_of_ble_eq_true rfl) dX11_fewest_37) hW (fun s14 H locs hp15 hW => ?_)
    obtain ⟨fs14, hp15⟩ := hp15
    have hF16 := hF.call fs14 (fun k h => by omega)
    have q17 : s14 268 8 = s0 268 8 := (congrFun (fs14 _ (by omega)) _).trans k268_8
    have q18 : s14 268 58 = s0 268 58 := (congrFun (fs14 _ (by omega)) _).trans k268_58
    have q19 : s14 268 17 = s0 268 17 := (congrFun (fs14 _ (by omega)) _).trans k268_17
    have q20 : s14 268 48 = s0 268 48 := (congrFun (fs14 _ (by omega)) _).trans k268_48
    have ghp15 := hp15.2
    have q21 : s14 270 = s14 270 := rfl
    have A37 : ∀ q : Int, 0 ≤ q → q < 39 → s14 270 q = s0 269 q := ghp15
    refine x_aload_n hx hb hl 0 rfl dX11_fewest_40 rfl ?_
    refine x_gov (x_runV (As := []) hx hb hml hown hT hE hW hl.1 (Or.inl (by decide)) (so_268 h0 g _) rfl cf_X11_laysSteps wq1685 wq155 wq1683 (c_X11_laysSteps l D g T h0 s14 hW.2.1 hp15.1.1 hp15.1.2.1 hp15.1.2.2.1) ⟨rfl, rfl, ⟨by decide, by decide⟩, ⟨by decide, by decide⟩⟩ rfl rfl (Nat.le_of_ble_eq_true rfl) dX11_fewest_41) hW (fun s23 H locs hp24 hW => ?_)
    obtain ⟨fs23, hp24⟩ := hp24
    have hF25 := hF16.call fs23 (fun k h => by omega)
    have q26 : s23 268 8 = s0 268 8 := (congrFun (fs23 _ (by omega)) _).trans q17
    have q27 : s23 268 58 = s0 268 58 := (congrFun (fs23 _ (by omega)) _).trans q18
    have q28 : s23 268 17 = s0 268 17 := (congrFun (fs23 _ (by omega)) _).trans q19
    have q29 : s23 268 48 = s0 268 48 := (congrFun (fs23 _ (by omega)) _).trans q20
    have q30 : s23 270 = s14 270 := (fs23 _ (by omega)).trans q21
    have ghp24 := hp24.2
    refine x_iconst hx hb dX11_fewest_44 ?_
    refine lv_istore (lv' := [(4, .int (xJ 0)), (0, .ref (h0 + 268)), (1, .int (xJ f)), (2, .int (xJ n)), (3, .int (xJ q))]) hx hb dX11_fewest_45 hl (by decide) rfl (fun ls hl => ?_)
    have L47 : ∀ (fu : Nat) (i4_47 : Int) (s_47 : xS) (H : Heap) (locs : List Loc) (ls : Array Slot), (xR i4_47) → (xFr (fun k => k = 269 ∨ k = 270 ∨ k = 293 ∨ k = 294 ∨ k = 295 ∨ k = 296 ∨ k = 302 ∨ k = 303 ∨ k = 304) s0 s_47) → (s_47 268 8 = s0 268 8) → (s_47 268 58 = s0 268 58) → (s_47 268 17 = s0 268 17) → (s_47 268 48 = s0 268 48) → (s_47 270 = s14 270) → (IMn s_47) → (IMk s_47) → (IMo s_47) → (0 ≤ i4_47) → (i4_47 ≤ 3100) → (3100 + 1 - i4_47).toNat < fu → xW D g h0 s H locs s_47 → lv_has ls 6 [(0, .ref (h0 + 268)), (1, .int (xJ f)), (2, .int (xJ n)), (3, .int (xJ q)), (4, .int (xJ i4_47))] → W p l e { frames := 5, cells := 0, slots := 0, locals := 115 } s m args below meth c H locs 0 0 Q (F0 m 47 ls []) := by
      intro fu
      induction fu with
      | zero => intro i4_47 s_47 H locs ls ri4_47 hF_47 q47_0 q47_1 q47_2 q47_3 q47_4 q47_5 q47_6 q47_7 v47_0 v47_1 hm; exact absurd hm (Nat.not_lt_zero _)
      | succ fu ih47 =>
        intro i4_47 s_47 H locs ls ri4_47 hF_47 q47_0 q47_1 q47_2 q47_3 q47_4 q47_5 q47_6 q47_7 v47_0 v47_1 hm hW hl
        have hm_47 := fun (_ : Unit) => hm
        clear hm
        refine x_iload hx hb hl 4 rfl dX11_fewest_47 ?_
        refine x_sipush hx hb dX11_fewest_49 (by decide) ?_
        refine x_icmp_ge (tgt := 91) hx hb ri4_47 (by decide) dX11_fewest_52 (by decide) (fun c31 => ?_) (fun c31 => ?_)
        · skip
          refine x_iconst hx hb dX11_fewest_91 ?_
          refine lv_istore (lv' := [(4, .int (xJ 0)), (0, .ref (h0 + 268)), (1, .int (xJ f)), (2, .int (xJ n)), (3, .int (xJ q))]) hx hb dX11_fewest_92 hl (by decide) rfl (fun ls hl => ?_)
          have L94 : ∀ (fu : Nat) (i4_94 : Int) (s_94 : xS) (H : Heap) (locs : List Loc) (ls : Array Slot), (xR i4_94) → (xFr (fun k => k = 269 ∨ k = 270 ∨ k = 293 ∨ k = 294 ∨ k = 295 ∨ k = 296 ∨ k = 302 ∨ k = 303 ∨ k = 304) s0 s_94) → (s_94 268 8 = s0 268 8) → (s_94 268 58 = s0 268 58) → (s_94 268 17 = s0 268 17) → (s_94 268 48 = s0 268 48) → (s_94 270 = s14 270) → (IMn s_94) → (IMk s_94) → (IMo s_94) → (0 ≤ i4_94) → (n + 1 - i4_94).toNat < fu → xW D g h0 s H locs s_94 → lv_has ls 6 [(0, .ref (h0 + 268)), (2, .int (xJ n)), (3, .int (xJ q)), (4, .int (xJ i4_94))] → W p l e { frames := 5, cells := 0, slots := 0, locals := 115 } s m args below meth c H locs 0 0 Q (F0 m 94 ls []) := by
            intro fu
            induction fu with
            | zero => intro i4_94 s_94 H locs ls ri4_94 hF_94 q94_0 q94_1 q94_2 q94_3 q94_4 q94_5 q94_6 q94_7 v94_0 hm; exact absurd hm (Nat.not_lt_zero _)
            | succ fu ih94 =>
              intro i4_94 s_94 H locs ls ri4_94 hF_94 q94_0 q94_1 q94_2 q94_3 q94_4 q94_5 q94_6 q94_7 v94_0 hm hW hl
              have hm_94 := fun (_ : Unit) => hm
              clear hm
              refine x_iload hx hb hl 3 rfl dX11_fewest_94 ?_
              refine x_iload_n hx hb hl 1 rfl dX11_fewest_96 rfl ?_
              refine x_icmp_ge (tgt := 165) hx hb ri4_94 rn dX11_fewest_97 (by decide) (fun c32 => ?_) (fun c32 => ?_)
              · skip
                refine x_aload_n hx hb hl 0 rfl dX11_fewest_165 rfl ?_
                refine x_get (j := 1) (v := .ref (h0 + 270)) hx hb hown hT hE hW cls_X11 (Or.inl (by decide)) (so_268 h0 g _) (by decide) rfl wq1186 dX11_fewest_166 ?_
                refine x_aload_n hx hb hl 0 rfl dX11_fewest_169 rfl ?_
                refine x_get (j := 0) (v := .ref (h0 + 269)) hx hb hown hT hE hW cls_X11 (Or.inl (by decide)) (so_268 h0 g _) (by decide) rfl wq1185 dX11_fewest_170 ?_
                refine x_gov (x_runS (As := [.ref (h0 + 270), .ref (h0 + 269)]) hx hb hml hown hT hE hW hl.1 cf_X11_copies wq1647 wq1646 (c_X11_copiesMB l D g T h0 s_94 hW.2.1 q94_5 q94_6 q94_7) ⟨rfl, rfl, ⟨by decide, by decide⟩, ⟨by decide, by decide⟩⟩ rfl rfl (Nat.le_of_ble_eq_true rfl) dX11_fewest_173) hW (fun s34 H locs hp35 hW => ?_)
                obtain ⟨fs34, hp35⟩ := hp35
                have hF36 := hF_94.call fs34 (fun k h => by omega)
                have q37 : s34 268 8 = s0 268 8 := (congrFun (fs34 _ (by omega)) _).trans q94_0
                have q38 : s34 268 58 = s0 268 58 := (congrFun (fs34 _ (by omega)) _).trans q94_1
                have q39 : s34 268 17 = s0 268 17 := (congrFun (fs34 _ (by omega)) _).trans q94_2
                have q40 : s34 268 48 = s0 268 48 := (congrFun (fs34 _ (by omega)) _).trans q94_3
                have q41 : s34 270 = s14 270 := (fs34 _ (by omega)).trans q94_4
                have ghp35 := hp35.2
                have Q173 : ∀ q : Int, 0 ≤ q → q < 39 → s34 269 q = s0 269 q := fun q a b => (ghp35 q a b).trans ((congrFun ((fs34 270 (by first | decide | omega)).symm.trans q41) q).trans (A37 q a b))
                refine lv_ldcw (v := xJ 1000000000) hx hb hown (hT _ wq1622) dX11_fewest_176 ?_
                refine lv_istore (lv' := [(4, .int (xJ 1000000000)), (0, .ref (h0 + 268)), (2, .int (xJ n)), (3, .int (xJ q))]) hx hb dX11_fewest_179 hl (by decide) rfl (fun ls hl => ?_)
                refine x_iconst hx hb dX11_fewest_181 ?_
                refine lv_istore (lv' := [(5, .int (xJ 0)), (4, .int (xJ 1000000000)), (0, .ref (h0 + 268)), (2, .int (xJ n)), (3, .int (xJ q))]) hx hb dX11_fewest_182 hl (by decide) rfl (fun ls hl => ?_)
                have L184 : ∀ (fu : Nat) (i4_184 : Int) (i5_184 : Int) (H : Heap) (locs : List Loc) (ls : Array Slot), (xR i4_184) → (xR i5_184) → (0 ≤ i5_184) → (i5_184 ≤ 100) → (100 + 1 - i5_184).toNat < fu → xW D g h0 s H locs s34 → lv_has ls 6 [(0, .ref (h0 + 268)), (3, .int (xJ q)), (4, .int (xJ i4_184)), (5, .int (xJ i5_184))] → W p l e { frames := 5, cells := 0, slots := 0, locals := 115 } s m args below meth c H locs 0 0 Q (F0 m 184 ls []) := by
                  intro fu
                  induction fu with
                  | zero => intro i4_184 i5_184 H locs ls ri4_184 ri5_184 v184_0 v184_1 hm; exact absurd hm (Nat.not_lt_zero _)
                  | succ fu ih184 =>
                    intro i4_184 i5_184 H locs ls ri4_184 ri5_184 v184_0 v184_1 hm hW hl
                    have hm_184 := fun (_ : Unit) => hm
                    clear hm
                    refine x_iload hx hb hl 3 rfl dX11_fewest_184 ?_
                    refine x_bipush hx hb dX11_fewest_186 (by decide) ?_
                    refine x_icmp_ge (tgt := 216) hx hb ri5_184 (by decide) dX11_fewest_188 (by decide) (fun c42 => ?_) (fun c42 => ?_)
                    · skip
                      refine x_iload hx hb hl 2 rfl dX11_fewest_216 ?_
                      refine lv_ldcw (v := xJ 1000000000) hx hb hown (hT _ wq1622) dX11_fewest_218 ?_
                      refine x_icmp_ne (tgt := 229) hx hb ri4_184 (by decide) dX11_fewest_221 (by decide) (fun c43 => ?_) (fun c43 => ?_)
                      · skip
                        refine x_iload hx hb hl 2 rfl dX11_fewest_229 ?_
                        rw [eQ]
                        exact x_iret hx hb hr hlk hW ri4_184 ⟨hF36, ⟨hp35.1.1, hp35.1.2.1, hp35.1.2.2.1, trivial⟩, Q173⟩ dX11_fewest_231
                      refine x_bipush hx hb dX11_fewest_224 (by decide) ?_
                      refine lv_goto (tgt := 231) hx hb dX11_fewest_226 (by decide) ?_
                      rw [eQ]
                      exact x_iret hx hb hr hlk hW (by decide) ⟨hF36, ⟨hp35.1.1, hp35.1.2.1, hp35.1.2.2.1, trivial⟩, Q173⟩ dX11_fewest_231
                    refine x_iload hx hb hl 2 rfl dX11_fewest_191 ?_
                    refine x_aload_n hx hb hl 0 rfl dX11_fewest_193 rfl ?_
                    refine x_get (j := 52) (v := .ref (h0 + 302)) hx hb hown hT hE hW cls_X11 (Or.inl (by decide)) (so_268 h0 g _) (by decide) rfl wq1237 dX11_fewest_194 ?_
                    refine x_bipush hx hb dX11_fewest_197 (by decide) ?_
                    refine x_iload hx hb hl 3 rfl dX11_fewest_199 ?_
                    refine x_imul hx hb dX11_fewest_201 ?_
                    refine x_iload_n hx hb hl 1 rfl dX11_fewest_202 rfl ?_
                    refine x_iadd hx hb dX11_fewest_203 ?_
                    refine x_iald hx hb hE hW (Or.inl (by decide)) (sa_302 h0 g _) (by omega) (by decide) dX11_fewest_204 ?_
                    refine x_rd hW (fun x44 ex44 rx44 => ?_)
                    refine x_goi (x_runS (As := [.int (xJ i4_184), .int (xJ x44)]) hx hb hml hown hT hE hW hl.1 cf_X11_min wq1640 wq1639 (c_X11_min l D g T h0 s34 hW.2.1 i4_184 ri4_184 x44 rx44) ⟨rfl, rfl, ⟨by decide, by decide⟩, ⟨by decide, by decide⟩⟩ rfl rfl (Nat.le_of_ble_eq_true rfl) dX11_fewest_205) hW (fun x45 s46 H locs rx45 hp47 hW => ?_)
                    obtain ⟨es46, hp47⟩ := hp47
                    subst es46
                    have ghp47 := hp47
                    refine lv_istore (lv' := [(4, .int (xJ x45)), (0, .ref (h0 + 268)), (3, .int (xJ q)), (5, .int (xJ i5_184))]) hx hb dX11_fewest_208 hl (by decide) rfl (fun ls hl => ?_)
                    refine x_iinc (lv' := [(5, .int (xJ (i5_184 + 1))), (4, .int (xJ x45)), (0, .ref (h0 + 268)), (3, .int (xJ q))]) hx hb hl 3 rfl dX11_fewest_210 (by decide) rfl (fun ls hl => ?_)
                    refine lv_goto (tgt := 184) hx hb dX11_fewest_213 (by decide) ?_
                    exact ih184 x45 (i5_184 + 1) H locs ls rx45 (by omega) (by omega) (by omega) (by have hm := hm_184 (); omega) hW (lv_sub hl [2, 3, 1, 0] rfl)
                exact L184 ((100 + 1 - 0 : Int).toNat + 1) 1000000000 0 H locs ls (by decide) (by decide) (by omega) (by omega) (Nat.lt_succ_self _) hW (lv_sub hl [2, 4, 1, 0] rfl)
              refine x_aload_n hx hb hl 0 rfl dX11_fewest_100 rfl ?_
              refine x_iconst hx hb dX11_fewest_101 ?_
              refine x_gov (x_runV (As := [.int (xJ 0)]) hx hb hml hown hT hE hW hl.1 (Or.inl (by decide)) (so_268 h0 g _) rfl cf_X11_walksOn wq1547 wq132 wq1545 (c_X11_walksOn l D g T h0 s_94 hW.2.1 0 (by decide) (by omega) q94_5 q94_6 q94_7) ⟨rfl, rfl, ⟨by decide, by decide⟩, ⟨by decide, by decide⟩⟩ rfl rfl (Nat.le_of_ble_eq_true rfl) dX11_fewest_102) hW (fun s49 H locs hp50 hW => ?_)
              obtain ⟨fs49, hp50⟩ := hp50
              have hF51 := hF_94.call fs49 (fun k h => by omega)
              have q52 : s49 268 8 = s0 268 8 := (congrFun (fs49 _ (by omega)) _).trans q94_0
              have q53 : s49 268 58 = s0 268 58 := (congrFun (fs49 _ (by omega)) _).trans q94_1
              have q54 : s49 268 17 = s0 268 17 := (congrFun (fs49 _ (by omega)) _).trans q94_2
              have q55 : s49 268 48 = s0 268 48 := (congrFun (fs49 _ (by omega)) _).trans q94_3
              have q56 : s49 270 = s14 270 := (fs49 _ (by omega)).trans q94_4
              have ghp50 := hp50.2
              refine x_aload_n hx hb hl 0 rfl dX11_fewest_105 rfl ?_
              refine x_iconst hx hb dX11_fewest_106 ?_
              refine x_gov (x_runV (As := [.int (xJ 1)]) hx hb hml hown hT hE hW hl.1 (Or.inl (by decide)) (so_268 h0 g _) rfl cf_X11_walksOn wq1547 wq132 wq1545 (c_X11_walksOn l D g T h0 s49 hW.2.1 1 (by decide) (by omega) hp50.1.1 hp50.1.2.1 hp50.1.2.2.1) ⟨rfl, rfl, ⟨by decide, by decide⟩, ⟨by decide, by decide⟩⟩ rfl rfl (Nat.le_of_ble_eq_true rfl) dX11_fewest_107) hW (fun s58 H locs hp59 hW => ?_)
              obtain ⟨fs58, hp59⟩ := hp59
              have hF60 := hF51.call fs58 (fun k h => by omega)
              have q61 : s58 268 8 = s0 268 8 := (congrFun (fs58 _ (by omega)) _).trans q52
              have q62 : s58 268 58 = s0 268 58 := (congrFun (fs58 _ (by omega)) _).trans q53
              have q63 : s58 268 17 = s0 268 17 := (congrFun (fs58 _ (by omega)) _).trans q54
              have q64 : s58 268 48 = s0 268 48 := (congrFun (fs58 _ (by omega)) _).trans q55
              have q65 : s58 270 = s14 270 := (fs58 _ (by omega)).trans q56
              have ghp59 := hp59.2
              refine x_aload_n hx hb hl 0 rfl dX11_fewest_110 rfl ?_
              refine x_gov (x_runV (As := []) hx hb hml hown hT hE hW hl.1 (Or.inl (by decide)) (so_268 h0 g _) rfl cf_X11_bares wq1592 wq140 wq1590 (c_X11_bares l D g T h0 s58 hW.2.1 hp59.1.1 hp59.1.2.1 hp59.1.2.2.1) ⟨rfl, rfl, ⟨by decide, by decide⟩, ⟨by decide, by decide⟩⟩ rfl rfl (Nat.le_of_ble_eq_true rfl) dX11_fewest_111) hW (fun s67 H locs hp68 hW => ?_)
              obtain ⟨fs67, hp68⟩ := hp68
              have hF69 := hF60.call fs67 (fun k h => by omega)
              have q70 : s67 268 8 = s0 268 8 := (congrFun (fs67 _ (by omega)) _).trans q61
              have q71 : s67 268 58 = s0 268 58 := (congrFun (fs67 _ (by omega)) _).trans q62
              have q72 : s67 268 17 = s0 268 17 := (congrFun (fs67 _ (by omega)) _).trans q63
              have q73 : s67 268 48 = s0 268 48 := (congrFun (fs67 _ (by omega)) _).trans q64
              have q74 : s67 270 = s14 270 := (fs67 _ (by omega)).trans q65
              have q75 : s67 269 37 = s_94 269 37 := (congrFun (fs67 _ (by omega)) _).trans (hp59.1.2.2.2.1.trans hp50.1.2.2.2.1)
              have ghp68 := hp68.2
              refine x_iconst hx hb dX11_fewest_114 ?_
              refine lv_istore (lv' := [(5, .int (xJ 0)), (0, .ref (h0 + 268)), (2, .int (xJ n)), (3, .int (xJ q)), (4, .int (xJ i4_94))]) hx hb dX11_fewest_115 hl (by decide) rfl (fun ls hl => ?_)
              have L117 : ∀ (fu : Nat) (i5_117 : Int) (s_117 : xS) (H : Heap) (locs : List Loc) (ls : Array Slot), (xR i5_117) → (xFr (fun k => k = 269 ∨ k = 270 ∨ k = 293 ∨ k = 294 ∨ k = 295 ∨ k = 296 ∨ k = 302 ∨ k = 303 ∨ k = 304) s0 s_117) → (s_117 268 8 = s0 268 8) → (s_117 268 58 = s0 268 58) → (s_117 268 17 = s0 268 17) → (s_117 268 48 = s0 268 48) → (s_117 270 = s14 270) → (s_117 269 37 = s_94 269 37) → (IMn s_117) → (IMk s_117) → (IMo s_117) → (0 ≤ i5_117) → (i5_117 ≤ 2) → (2 + 1 - i5_117).toNat < fu → xW D g h0 s H locs s_117 → lv_has ls 6 [(0, .ref (h0 + 268)), (2, .int (xJ n)), (3, .int (xJ q)), (4, .int (xJ i4_94)), (5, .int (xJ i5_117))] → W p l e { frames := 5, cells := 0, slots := 0, locals := 115 } s m args below meth c H locs 0 0 Q (F0 m 117 ls []) := by
                intro fu
                induction fu with
                | zero => intro i5_117 s_117 H locs ls ri5_117 hF_117 q117_0 q117_1 q117_2 q117_3 q117_4 q117_5 q117_6 q117_7 q117_8 v117_0 v117_1 hm; exact absurd hm (Nat.not_lt_zero _)
                | succ fu ih117 =>
                  intro i5_117 s_117 H locs ls ri5_117 hF_117 q117_0 q117_1 q117_2 q117_3 q117_4 q117_5 q117_6 q117_7 q117_8 v117_0 v117_1 hm hW hl
                  have hm_117 := fun (_ : Unit) => hm
                  clear hm
                  refine x_iload hx hb hl 4 rfl dX11_fewest_117 ?_
                  refine x_iconst hx hb dX11_fewest_119 ?_
                  refine x_icmp_ge (tgt := 154) hx hb ri5_117 (by decide) dX11_fewest_120 (by decide) (fun c76 => ?_) (fun c76 => ?_)
                  · skip
                    refine x_aload_n hx hb hl 0 rfl dX11_fewest_154 rfl ?_
                    refine x_iload_n hx hb hl 2 rfl dX11_fewest_155 rfl ?_
                    refine x_gov (x_runV (As := [.int (xJ q)]) hx hb hml hown hT hE hW hl.1 (Or.inl (by decide)) (so_268 h0 g _) rfl cf_X11_goesFew wq1689 wq156 wq1687 (c_X11_goesFew l D g T h0 s_117 hW.2.1 q rq (by omega) q117_6 q117_7 q117_8) ⟨rfl, rfl, ⟨by decide, by decide⟩, ⟨by decide, by decide⟩⟩ rfl rfl (Nat.le_of_ble_eq_true rfl) dX11_fewest_156) hW (fun s78 H locs hp79 hW => ?_)
                    obtain ⟨fs78, hp79⟩ := hp79
                    have hF80 := hF_117.call fs78 (fun k h => by omega)
                    have q81 : s78 268 8 = s0 268 8 := (congrFun (fs78 _ (by omega)) _).trans q117_0
                    have q82 : s78 268 58 = s0 268 58 := (congrFun (fs78 _ (by omega)) _).trans q117_1
                    have q83 : s78 268 17 = s0 268 17 := (congrFun (fs78 _ (by omega)) _).trans q117_2
                    have q84 : s78 268 48 = s0 268 48 := (congrFun (fs78 _ (by omega)) _).trans q117_3
                    have q85 : s78 270 = s14 270 := (fs78 _ (by omega)).trans q117_4
                    have q86 : s78 269 37 = s_94 269 37 := (congrFun (fs78 _ (by omega)) _).trans q117_5
                    have ghp79 := hp79.2
                    refine x_iinc (lv' := [(4, .int (xJ (i4_94 + 1))), (0, .ref (h0 + 268)), (2, .int (xJ n)), (3, .int (xJ q)), (5, .int (xJ i5_117))]) hx hb hl 3 rfl dX11_fewest_159 (by decide) rfl (fun ls hl => ?_)
                    refine lv_goto (tgt := 94) hx hb dX11_fewest_162 (by decide) ?_
                    exact ih94 (i4_94 + 1) s78 H locs ls (by omega) hF80 q81 q82 q83 q84 q85 hp79.1.1 hp79.1.2.1 hp79.1.2.2.1 (by omega) (by have hm := hm_94 (); omega) hW (lv_sub hl [1, 2, 3, 0] rfl)
                  refine x_aload_n hx hb hl 0 rfl dX11_fewest_123 rfl ?_
                  refine x_iload hx hb hl 4 rfl dX11_fewest_124 ?_
                  refine x_goi (x_runV (As := [.int (xJ i5_117)]) hx hb hml hown hT hE hW hl.1 (Or.inl (by decide)) (so_268 h0 g _) rfl cf_X11_isJudge wq1409 wq109 wq1407 (c_X11_isJudge l D g T h0 s_117 hW.2.1 i5_117 ri5_117 q117_6 q117_7 q117_8) ⟨rfl, rfl, ⟨by decide, by decide⟩, ⟨by decide, by decide⟩⟩ rfl rfl (Nat.le_of_ble_eq_true rfl) dX11_fewest_126) hW (fun x87 s88 H locs rx87 hp89 hW => ?_)
                  obtain ⟨es88, hp89⟩ := hp89
                  subst es88
                  have ghp89 := hp89
                  refine x_if_eq (tgt := 148) hx hb rx87 dX11_fewest_129 (by decide) (fun c90 => ?_) (fun c90 => ?_)
                  · skip
                    refine x_iinc (lv' := [(5, .int (xJ (i5_117 + 1))), (0, .ref (h0 + 268)), (2, .int (xJ n)), (3, .int (xJ q)), (4, .int (xJ i4_94))]) hx hb hl 4 rfl dX11_fewest_148 (by decide) rfl (fun ls hl => ?_)
                    refine lv_goto (tgt := 117) hx hb dX11_fewest_151 (by decide) ?_
                    exact ih117 (i5_117 + 1) s_117 H locs ls (by omega) hF_117 q117_0 q117_1 q117_2 q117_3 q117_4 q117_5 q117_6 q117_7 q117_8 (by omega) (by omega) (by have hm := hm_117 (); omega) hW (lv_sub hl [1, 2, 3, 4, 0] rfl)
                  refine x_aload_n hx hb hl 0 rfl dX11_fewest_132 rfl ?_
                  refine x_iload hx hb hl 4 rfl dX11_fewest_133 ?_
                  refine x_aload_n hx hb hl 0 rfl dX11_fewest_135 rfl ?_
                  refine x_get (j := 1) (v := .ref (h0 + 270)) hx hb hown hT hE hW cls_X11 (Or.inl (by decide)) (so_268 h0 g _) (by decide) rfl wq1186 dX11_fewest_136 ?_
                  refine x_bipush hx hb dX11_fewest_139 (by decide) ?_
                  refine x_iald hx hb hE hW (Or.inl (by decide)) (sa_270 h0 g _) ⟨by decide, by decide⟩ (by decide) dX11_fewest_141 ?_
                  refine x_rd hW (fun x91 ex91 rx91 => ?_)
                  have bx91 : 0 ≤ x91 ∧ x91 ≤ 9999 := by rw [ex91]; exact (IMn.n2 q117_6).2.2.2.1
                  refine x_iload hx hb hl 3 rfl dX11_fewest_142 ?_
                  refine x_iadd hx hb dX11_fewest_144 ?_
                  refine x_gov (x_runV (As := [.int (xJ i5_117), .int (xJ (x91 + i4_94))]) hx hb hml hown hT hE hW hl.1 (Or.inl (by decide)) (so_268 h0 g _) rfl cf_X11_fallsOf wq1596 wq141 wq1594 (c_X11_fallsOf l D g T h0 s_117 hW.2.1 i5_117 ri5_117 (x91 + i4_94) (by omega) (by omega) q117_6 q117_7 q117_8) ⟨rfl, rfl, ⟨by decide, by decide⟩, ⟨by decide, by decide⟩⟩ rfl rfl (Nat.le_of_ble_eq_true rfl) dX11_fewest_145) hW (fun s93 H locs hp94 hW => ?_)
                  obtain ⟨fs93, hp94⟩ := hp94
                  have hF95 := hF_117.call fs93 (fun k h => by omega)
                  have q96 : s93 268 8 = s0 268 8 := (congrFun (fs93 _ (by omega)) _).trans q117_0
                  have q97 : s93 268 58 = s0 268 58 := (congrFun (fs93 _ (by omega)) _).trans q117_1
                  have q98 : s93 268 17 = s0 268 17 := (congrFun (fs93 _ (by omega)) _).trans q117_2
                  have q99 : s93 268 48 = s0 268 48 := (congrFun (fs93 _ (by omega)) _).trans q117_3
                  have q100 : s93 270 = s14 270 := (fs93 _ (by omega)).trans q117_4
                  have q101 : s93 269 37 = s_94 269 37 := (congrFun (fs93 _ (by omega)) _).trans q117_5
                  have ghp94 := hp94.2
                  refine x_iinc (lv' := [(5, .int (xJ (i5_117 + 1))), (0, .ref (h0 + 268)), (2, .int (xJ n)), (3, .int (xJ q)), (4, .int (xJ i4_94))]) hx hb hl 4 rfl dX11_fewest_148 (by decide) rfl (fun ls hl => ?_)
                  refine lv_goto (tgt := 117) hx hb dX11_fewest_151 (by decide) ?_
                  exact ih117 (i5_117 + 1) s93 H locs ls (by omega) hF95 q96 q97 q98 q99 q100 q101 hp94.1.1 hp94.1.2.1 hp94.1.2.2.1 (by omega) (by omega) (by have hm := hm_117 (); omega) hW (lv_sub hl [1, 2, 3, 4, 0] rfl)
              exact L117 ((2 + 1 - 0 : Int).toNat + 1) 0 s67 H locs ls (by decide) hF69 q70 q71 q72 q73 q74 q75 hp68.1.1 hp68.1.2.1 hp68.1.2.2.1 (by omega) (by omega) (Nat.lt_succ_self _) hW (lv_sub hl [1, 2, 3, 4, 0] rfl)
          exact L94 ((n + 1 - 0 : Int).toNat + 1) 0 s_47 H locs ls (by decide) hF_47 q47_0 q47_1 q47_2 q47_3 q47_4 q47_5 q47_6 q47_7 (by omega) (Nat.lt_succ_self _) hW (lv_sub hl [1, 3, 4, 0] rfl)
        refine x_aload_n hx hb hl 0 rfl dX11_fewest_55 rfl ?_
        refine x_get (j := 52) (v := .ref (h0 + 302)) hx hb hown hT hE hW cls_X11 (Or.inl (by decide)) (so_268 h0 g _) (by decide) rfl wq1237 dX11_fewest_56 ?_
        refine x_iload hx hb hl 4 rfl dX11_fewest_59 ?_
        refine x_iload hx hb hl 4 rfl dX11_fewest_61 ?_
        refine x_bipush hx hb dX11_fewest_63 (by decide) ?_
        refine x_aload_n hx hb hl 0 rfl dX11_fewest_65 rfl ?_
        refine x_get (j := 0) (v := .ref (h0 + 269)) hx hb hown hT hE hW cls_X11 (Or.inl (by decide)) (so_268 h0 g _) (by decide) rfl wq1185 dX11_fewest_66 ?_
        refine x_iconst hx hb dX11_fewest_69 ?_
        refine x_iload_n hx hb hl 1 rfl dX11_fewest_70 rfl ?_
        refine x_iadd hx hb dX11_fewest_71 ?_
        refine x_iald hx hb hE hW (Or.inl (by decide)) (sa_269 h0 g _) (by omega) (by decide) dX11_fewest_72 ?_
        refine x_rd hW (fun x102 ex102 rx102 => ?_)
        have bx102 : 0 ≤ x102 ∧ x102 ≤ 99 := by rw [ex102]; exact (IMn.n1 q47_5).2.2.1 _ (by omega) (by omega)
        refine x_imul hx hb dX11_fewest_73 ?_
        refine x_icmp_ne (tgt := 81) hx hb ri4_47 (by omega) dX11_fewest_74 (by decide) (fun c103 => ?_) (fun c103 => ?_)
        · skip
          refine lv_ldcw (v := xJ 1000000000) hx hb hown (hT _ wq1622) dX11_fewest_81 ?_
          refine x_iast hx hb hE hW (by decide) (fun σ => sa_302 h0 g σ) (by omega) (by decide) (by decide) dX11_fewest_84 (fun H locs s104 es104 hW => ?_)
          have q105 : s104 268 8 = s0 268 8 := (show s104 268 8 = s_47 268 8 from by rw [es104, xU_k _ _ _ (by first | decide | omega)]).trans q47_0
          have q106 : s104 268 58 = s0 268 58 := (show s104 268 58 = s_47 268 58 from by rw [es104, xU_k _ _ _ (by first | decide | omega)]).trans q47_1
          have q107 : s104 268 17 = s0 268 17 := (show s104 268 17 = s_47 268 17 from by rw [es104, xU_k _ _ _ (by first | decide | omega)]).trans q47_2
          have q108 : s104 268 48 = s0 268 48 := (show s104 268 48 = s_47 268 48 from by rw [es104, xU_k _ _ _ (by first | decide | omega)]).trans q47_3
          have q109 : s104 270 = s14 270 := by rw [es104, xU_k _ _ _ (by first | decide | omega)]; exact q47_4
          have q110 : IMn s104 := by rw [es104]; exact IMn_o (by unfold suIMn; first | decide | omega) q47_5
          have q111 : IMk s104 := by rw [es104]; exact IMk_o (by unfold suIMk; first | decide | omega) q47_6
          have q112 : IMo s104 := by rw [es104]; exact IMo_o (by unfold suIMo; first | decide | omega) q47_7
          have hF113 := hF_47.put es104 (by omega)
          refine x_iinc (lv' := [(4, .int (xJ (i4_47 + 1))), (0, .ref (h0 + 268)), (1, .int (xJ f)), (2, .int (xJ n)), (3, .int (xJ q))]) hx hb hl 4 rfl dX11_fewest_85 (by decide) rfl (fun ls hl => ?_)
          refine lv_goto (tgt := 47) hx hb dX11_fewest_88 (by decide) ?_
          exact ih47 (i4_47 + 1) s104 H locs ls (by omega) hF113 q105 q106 q107 q108 q109 q110 q111 q112 (by omega) (by omega) (by have hm := hm_47 (); omega) hW (lv_sub hl [1, 2, 3, 4, 0] rfl)
        refine x_iconst hx hb dX11_fewest_77 ?_
        refine lv_goto (tgt := 84) hx hb dX11_fewest_78 (by decide) ?_
        refine x_iast hx hb hE hW (by decide) (fun σ => sa_302 h0 g σ) (by omega) (by decide) (by decide) dX11_fewest_84 (fun H locs s114 es114 hW => ?_)
        have q115 : s114 268 8 = s0 268 8 := (show s114 268 8 = s_47 268 8 from by rw [es114, xU_k _ _ _ (by first | decide | omega)]).trans q47_0
        have q116 : s114 268 58 = s0 268 58 := (show s114 268 58 = s_47 268 58 from by rw [es114, xU_k _ _ _ (by first | decide | omega)]).trans q47_1
        have q117 : s114 268 17 = s0 268 17 := (show s114 268 17 = s_47 268 17 from by rw [es114, xU_k _ _ _ (by first | decide | omega)]).trans q47_2
        have q118 : s114 268 48 = s0 268 48 := (show s114 268 48 = s_47 268 48 from by rw [es114, xU_k _ _ _ (by first | decide | omega)]).trans q47_3
        have q119 : s114 270 = s14 270 := by rw [es114, xU_k _ _ _ (by first | decide | omega)]; exact q47_4
        have q120 : IMn s114 := by rw [es114]; exact IMn_o (by unfold suIMn; first | decide | omega) q47_5
        have q121 : IMk s114 := by rw [es114]; exact IMk_o (by unfold suIMk; first | decide | omega) q47_6
        have q122 : IMo s114 := by rw [es114]; exact IMo_o (by unfold suIMo; first | decide | omega) q47_7
        have hF123 := hF_47.put es114 (by omega)
        refine x_iinc (lv' := [(4, .int (xJ (i4_47 + 1))), (0, .ref (h0 + 268)), (1, .int (xJ f)), (2, .int (xJ n)), (3, .int (xJ q))]) hx hb hl 4 rfl dX11_fewest_85 (by decide) rfl (fun ls hl => ?_)
        refine lv_goto (tgt := 47) hx hb dX11_fewest_88 (by decide) ?_
        exact ih47 (i4_47 + 1) s114 H locs ls (by omega) hF123 q115 q116 q117 q118 q119 q120 q121 q122 (by omega) (by omega) (by have hm := hm_47 (); omega) hW (lv_sub hl [1, 2, 3, 4, 0] rfl)
    exact L47 ((3100 + 1 - 0 : Int).toNat + 1) 0 s23 H locs ls (by decide) hF25 q26 q27 q28 q29 q30 hp24.1.1 hp24.1.2.1 hp24.1.2.2.1 (by omega) (by omega) (Nat.lt_succ_self _) hW (lv_sub hl [1, 2, 3, 4, 0] rfl)
  refine x_iconst hx hb dX11_fewest_27 ?_
  rw [eQ]
  exact x_iret hx hb hr hlk hW (by decide) ⟨hF, ⟨p0, p1, p2, trivial⟩, fun _ _ _ => rfl⟩ dX11_fewest_28
set_option maxHeartbeats 4000000 in
set_option maxRecDepth 100000 in
theorem c_X11_laysDarkF (l : Launch) (D : va_G) (g : xG) (T : Nat × Nat × Nat) (h0 : Nat) (s0 : xS) (hσ : xRR s0) (n : Int) (rn : xR n) (hn : 1 ≤ n ∧ n ≤ 60) (p0 : IMn s0) (p1 : IMk s0) (p2 : IMo s0) : Met l yX11_laysDark (xws yX11_laysDark cX11_laysDark 4 none) { frames := 5, cells := 0, slots := 0, locals := 114 } (xP [.ref (h0 + 268), .int (xJ n)] D g T h0 s0) (xQv D g h0 (fun τ => xFr (fun k => k = 269 ∨ k = 270 ∨ k = 293 ∨ k = 294 ∨ k = 295 ∨ k = 305) s0 τ ∧ (((IMn τ) ∧ (IMk τ) ∧ (IMo τ) ∧ True) ∧ (∀ q : Int, 0 ≤ q → q < 39 → τ 269 q = s0 269 q)))) 0 0 (xA h0) := by
  refine x_met hσ (by decide) (Nat.le_of_ble_eq_true rfl) ?_
  intro p e s m args below meth c hx hb hr hml hown hT hlk hnm hE hW ls hl
  have hl : lv_has ls 4 [(0, .ref (h0 + 268)), (1, .int (xJ n))] := hl
  obtain ⟨Q, eQ⟩ : ∃ Q, Q = MQ below (xQv D g h0 (fun τ => xFr (fun k => k = 269 ∨ k = 270 ∨ k = 293 ∨ k = 294 ∨ k = 295 ∨ k = 305) s0 τ ∧ (((IMn τ) ∧ (IMk τ) ∧ (IMo τ) ∧ True) ∧ (∀ q : Int, 0 ≤ q → q < 39 → τ 269 q = s0 269 q)))) args s 0 0 (xA h0) := ⟨_, rfl⟩
  rw [← eQ]
  generalize hHe : ([] : List Loc) = locs at hW ⊢
  obtain ⟨H, eH⟩ : ∃ H, H = s.heap := ⟨_, rfl⟩
  rw [← eH] at hW ⊢
  have hF : xFr (fun k => k = 269 ∨ k = 270 ∨ k = 293 ∨ k = 294 ∨ k = 295 ∨ k = 305) s0 s0 := xFr.rf
  have k268_8 : s0 268 8 = s0 268 8 := rfl
  have k268_58 : s0 268 58 = s0 268 58 := rfl
  have k268_17 : s0 268 17 = s0 268 17 := rfl
  have k268_48 : s0 268 48 = s0 268 48 := rfl
  have kg269 : s0 269 = s0 269 := rfl
  refine x_iconst hx hb dX11_laysDark_0 ?_
  refine lv_istore_n (lv' := [(2, .int (xJ 0)), (0, .ref (h0 + 268)), (1, .int (xJ n))]) hx hb dX11_laysDark_1 rfl hl (by decide) rfl (fun ls hl => ?_)
  have L2 : ∀ (fu : Nat) (i2_2 : Int) (s_2 : xS) (H : Heap) (locs : List Loc) (ls : Array Slot), (xR i2_2) → (xFr (fun k => k = 269 ∨ k = 270 ∨ k = 293 ∨ k = 294 ∨ k = 295 ∨ k = 305) s0 s_2) → (IMn s_2) → (IMk s_2) → (IMo s_2) → (s_2 268 8 = s0 268 8) → (s_2 268 58 = s0 268 58) → (s_2 268 17 = s0 268 17) → (s_2 268 48 = s0 268 48) → (s_2 269 = s0 269) → (0 ≤ i2_2) → (i2_2 ≤ 100) → (100 + 1 - i2_2).toNat < fu → xW D g h0 s H locs s_2 → lv_has ls 4 [(0, .ref (h0 + 268)), (1, .int (xJ n)), (2, .int (xJ i2_2))] → W p l e { frames := 5, cells := 0, slots := 0, locals := 114 } s m args below meth c H locs 0 0 Q (F0 m 2 ls []) := by
    intro fu
    induction fu with
    | zero => intro i2_2 s_2 H locs ls ri2_2 hF_2 q2_0 q2_1 q2_2 q2_3 q2_4 q2_5 q2_6 q2_7 v2_0 v2_1 hm; exact absurd hm (Nat.not_lt_zero _)
    | succ fu ih2 =>
      intro i2_2 s_2 H locs ls ri2_2 hF_2 q2_0 q2_1 q2_2 q2_3 q2_4 q2_5 q2_6 q2_7 v2_0 v2_1 hm hW hl
      have hm_2 := fun (_ : Unit) => hm
      clear hm
      refine x_iload_n hx hb hl 2 rfl dX11_laysDark_2 rfl ?_
      refine x_bipush hx hb dX11_laysDark_3 (by decide) ?_
      refine x_icmp_ge (tgt := 21) hx hb ri2_2 (by decide) dX11_laysDark_5 (by decide) (fun c1 => ?_) (fun c1 => ?_)
      · skip
        refine x_aload_n hx hb hl 0 rfl dX11_laysDark_21 rfl ?_
        refine x_get (j := 0) (v := .ref (h0 + 269)) hx hb hown hT hE hW cls_X11 (Or.inl (by decide)) (so_268 h0 g _) (by decide) rfl wq1185 dX11_laysDark_22 ?_
        refine x_aload_n hx hb hl 0 rfl dX11_laysDark_25 rfl ?_
        refine x_get (j := 1) (v := .ref (h0 + 270)) hx hb hown hT hE hW cls_X11 (Or.inl (by decide)) (so_268 h0 g _) (by decide) rfl wq1186 dX11_laysDark_26 ?_
        refine x_gov (x_runS (As := [.ref (h0 + 269), .ref (h0 + 270)]) hx hb hml hown hT hE hW hl.1 cf_X11_copies wq1647 wq1646 (c_X11_copiesMA l D g T h0 s_2 hW.2.1 q2_0 q2_1 q2_2) ⟨rfl, rfl, ⟨by decide, by decide⟩, ⟨by decide, by decide⟩⟩ rfl rfl (Nat.le_of_ble_eq_true rfl) dX11_laysDark_29) hW (fun s3 H locs hp4 hW => ?_)
        obtain ⟨fs3, hp4⟩ := hp4
        have hF5 := hF_2.call fs3 (fun k h => by omega)
        have q6 : s3 268 8 = s0 268 8 := (congrFun (fs3 _ (by omega)) _).trans q2_3
        have q7 : s3 268 58 = s0 268 58 := (congrFun (fs3 _ (by omega)) _).trans q2_4
        have q8 : s3 268 17 = s0 268 17 := (congrFun (fs3 _ (by omega)) _).trans q2_5
        have q9 : s3 268 48 = s0 268 48 := (congrFun (fs3 _ (by omega)) _).trans q2_6
        have q10 : s3 269 = s0 269 := (fs3 _ (by omega)).trans q2_7
        have ghp4 := hp4.2
        have q11 : s3 270 = s3 270 := rfl
        have A29 : ∀ q : Int, 0 ≤ q → q < 39 → s3 270 q = s0 269 q := fun q a b => (ghp4 q a b).trans (congrFun ((fs3 269 (by first | decide | omega)).symm.trans q10) q)
        refine x_iconst hx hb dX11_laysDark_32 ?_
        refine lv_istore_n (lv' := [(2, .int (xJ 0)), (0, .ref (h0 + 268)), (1, .int (xJ n))]) hx hb dX11_laysDark_33 rfl hl (by decide) rfl (fun ls hl => ?_)
        have L34 : ∀ (fu : Nat) (i2_34 : Int) (s_34 : xS) (H : Heap) (locs : List Loc) (ls : Array Slot), (xR i2_34) → (xFr (fun k => k = 269 ∨ k = 270 ∨ k = 293 ∨ k = 294 ∨ k = 295 ∨ k = 305) s0 s_34) → (s_34 268 8 = s0 268 8) → (s_34 268 58 = s0 268 58) → (s_34 268 17 = s0 268 17) → (s_34 268 48 = s0 268 48) → (IMn s_34) → (IMk s_34) → (IMo s_34) → (s_34 270 = s3 270) → (0 ≤ i2_34) → (n + 1 - i2_34).toNat < fu → xW D g h0 s H locs s_34 → lv_has ls 4 [(0, .ref (h0 + 268)), (1, .int (xJ n)), (2, .int (xJ i2_34))] → W p l e { frames := 5, cells := 0, slots := 0, locals := 114 } s m args below meth c H locs 0 0 Q (F0 m 34 ls []) := by
          intro fu
          induction fu with
          | zero => intro i2_34 s_34 H locs ls ri2_34 hF_34 q34_0 q34_1 q34_2 q34_3 q34_5 q34_6 q34_7 q34_8 v34_0 hm; exact absurd hm (Nat.not_lt_zero _)
          | succ fu ih34 =>
            intro i2_34 s_34 H locs ls ri2_34 hF_34 q34_0 q34_1 q34_2 q34_3 q34_5 q34_6 q34_7 q34_8 v34_0 hm hW hl
            have hm_34 := fun (_ : Unit) => hm
            clear hm
            refine x_iload_n hx hb hl 2 rfl dX11_laysDark_34 rfl ?_
            refine x_iload_n hx hb hl 1 rfl dX11_laysDark_35 rfl ?_
            refine x_icmp_ge (tgt := 135) hx hb ri2_34 rn dX11_laysDark_36 (by decide) (fun c12 => ?_) (fun c12 => ?_)
            · skip
              refine x_aload_n hx hb hl 0 rfl dX11_laysDark_135 rfl ?_
              refine x_get (j := 1) (v := .ref (h0 + 270)) hx hb hown hT hE hW cls_X11 (Or.inl (by decide)) (so_268 h0 g _) (by decide) rfl wq1186 dX11_laysDark_136 ?_
              refine x_aload_n hx hb hl 0 rfl dX11_laysDark_139 rfl ?_
              refine x_get (j := 0) (v := .ref (h0 + 269)) hx hb hown hT hE hW cls_X11 (Or.inl (by decide)) (so_268 h0 g _) (by decide) rfl wq1185 dX11_laysDark_140 ?_
              refine x_gov (x_runS (As := [.ref (h0 + 270), .ref (h0 + 269)]) hx hb hml hown hT hE hW hl.1 cf_X11_copies wq1647 wq1646 (c_X11_copiesMB l D g T h0 s_34 hW.2.1 q34_5 q34_6 q34_7) ⟨rfl, rfl, ⟨by decide, by decide⟩, ⟨by decide, by decide⟩⟩ rfl rfl (Nat.le_of_ble_eq_true rfl) dX11_laysDark_143) hW (fun s14 H locs hp15 hW => ?_)
              obtain ⟨fs14, hp15⟩ := hp15
              have hF16 := hF_34.call fs14 (fun k h => by omega)
              have q17 : s14 268 8 = s0 268 8 := (congrFun (fs14 _ (by omega)) _).trans q34_0
              have q18 : s14 268 58 = s0 268 58 := (congrFun (fs14 _ (by omega)) _).trans q34_1
              have q19 : s14 268 17 = s0 268 17 := (congrFun (fs14 _ (by omega)) _).trans q34_2
              have q20 : s14 268 48 = s0 268 48 := (congrFun (fs14 _ (by omega)) _).trans q34_3
              have q21 : s14 270 = s3 270 := (fs14 _ (by omega)).trans q34_8
              have ghp15 := hp15.2
              have Q143 : ∀ q : Int, 0 ≤ q → q < 39 → s14 269 q = s0 269 q := fun q a b => (ghp15 q a b).trans ((congrFun ((fs14 270 (by first | decide | omega)).symm.trans q21) q).trans (A29 q a b))
              rw [eQ]
              exact x_vret hx hb hr hlk hW ⟨hF16, ⟨hp15.1.1, hp15.1.2.1, hp15.1.2.2.1, trivial⟩, Q143⟩ dX11_laysDark_146
            refine x_aload_n hx hb hl 0 rfl dX11_laysDark_39 rfl ?_
            refine x_iconst hx hb dX11_laysDark_40 ?_
            refine x_gov (x_runV (As := [.int (xJ 0)]) hx hb hml hown hT hE hW hl.1 (Or.inl (by decide)) (so_268 h0 g _) rfl cf_X11_walksOn wq1547 wq132 wq1545 (c_X11_walksOn l D g T h0 s_34 hW.2.1 0 (by decide) (by omega) q34_5 q34_6 q34_7) ⟨rfl, rfl, ⟨by decide, by decide⟩, ⟨by decide, by decide⟩⟩ rfl rfl (Nat.le_of_ble_eq_true rfl) dX11_laysDark_41) hW (fun s23 H locs hp24 hW => ?_)
            obtain ⟨fs23, hp24⟩ := hp24
            have hF25 := hF_34.call fs23 (fun k h => by omega)
            have q26 : s23 268 8 = s0 268 8 := (congrFun (fs23 _ (by omega)) _).trans q34_0
            have q27 : s23 268 58 = s0 268 58 := (congrFun (fs23 _ (by omega)) _).trans q34_1
            have q28 : s23 268 17 = s0 268 17 := (congrFun (fs23 _ (by omega)) _).trans q34_2
            have q29 : s23 268 48 = s0 268 48 := (congrFun (fs23 _ (by omega)) _).trans q34_3
            have q30 : s23 270 = s3 270 := (fs23 _ (by omega)).trans q34_8
            have ghp24 := hp24.2
            refine x_aload_n hx hb hl 0 rfl dX11_laysDark_44 rfl ?_
            refine x_iconst hx hb dX11_laysDark_45 ?_
            refine x_gov (x_runV (As := [.int (xJ 1)]) hx hb hml hown hT hE hW hl.1 (Or.inl (by decide)) (so_268 h0 g _) rfl cf_X11_walksOn wq1547 wq132 wq1545 (c_X11_walksOn l D g T h0 s23 hW.2.1 1 (by decide) (by omega) hp24.1.1 hp24.1.2.1 hp24.1.2.2.1) ⟨rfl, rfl, ⟨by decide, by decide⟩, ⟨by decide, by decide⟩⟩ rfl rfl (Nat.le_of_ble_eq_true rfl) dX11_laysDark_46) hW (fun s32 H locs hp33 hW => ?_)
            obtain ⟨fs32, hp33⟩ := hp33
            have hF34 := hF25.call fs32 (fun k h => by omega)
            have q35 : s32 268 8 = s0 268 8 := (congrFun (fs32 _ (by omega)) _).trans q26
            have q36 : s32 268 58 = s0 268 58 := (congrFun (fs32 _ (by omega)) _).trans q27
            have q37 : s32 268 17 = s0 268 17 := (congrFun (fs32 _ (by omega)) _).trans q28
            have q38 : s32 268 48 = s0 268 48 := (congrFun (fs32 _ (by omega)) _).trans q29
            have q39 : s32 270 = s3 270 := (fs32 _ (by omega)).trans q30
            have ghp33 := hp33.2
            refine x_aload_n hx hb hl 0 rfl dX11_laysDark_49 rfl ?_
            refine x_gov (x_runV (As := []) hx hb hml hown hT hE hW hl.1 (Or.inl (by decide)) (so_268 h0 g _) rfl cf_X11_bares wq1592 wq140 wq1590 (c_X11_bares l D g T h0 s32 hW.2.1 hp33.1.1 hp33.1.2.1 hp33.1.2.2.1) ⟨rfl, rfl, ⟨by decide, by decide⟩, ⟨by decide, by decide⟩⟩ rfl rfl (Nat.le_of_ble_eq_true rfl) dX11_laysDark_50) hW (fun s41 H locs hp42 hW => ?_)
            obtain ⟨fs41, hp42⟩ := hp42
            have hF43 := hF34.call fs41 (fun k h => by omega)
            have q44 : s41 268 8 = s0 268 8 := (congrFun (fs41 _ (by omega)) _).trans q35
            have q45 : s41 268 58 = s0 268 58 := (congrFun (fs41 _ (by omega)) _).trans q36
            have q46 : s41 268 17 = s0 268 17 := (congrFun (fs41 _ (by omega)) _).trans q37
            have q47 : s41 268 48 = s0 268 48 := (congrFun (fs41 _ (by omega)) _).trans q38
            have q48 : s41 270 = s3 270 := (fs41 _ (by omega)).trans q39
            have q49 : s41 269 37 = s_34 269 37 := (congrFun (fs41 _ (by omega)) _).trans (hp33.1.2.2.2.1.trans hp24.1.2.2.2.1)
            have ghp42 := hp42.2
            refine x_iconst hx hb dX11_laysDark_53 ?_
            refine lv_istore_n (lv' := [(3, .int (xJ 0)), (0, .ref (h0 + 268)), (1, .int (xJ n)), (2, .int (xJ i2_34))]) hx hb dX11_laysDark_54 rfl hl (by decide) rfl (fun ls hl => ?_)
            have L55 : ∀ (fu : Nat) (i3_55 : Int) (s_55 : xS) (H : Heap) (locs : List Loc) (ls : Array Slot), (xR i3_55) → (xFr (fun k => k = 269 ∨ k = 270 ∨ k = 293 ∨ k = 294 ∨ k = 295 ∨ k = 305) s0 s_55) → (s_55 268 8 = s0 268 8) → (s_55 268 58 = s0 268 58) → (s_55 268 17 = s0 268 17) → (s_55 268 48 = s0 268 48) → (s_55 270 = s3 270) → (s_55 269 37 = s_34 269 37) → (IMn s_55) → (IMk s_55) → (IMo s_55) → (0 ≤ i3_55) → (i3_55 ≤ 2) → (2 + 1 - i3_55).toNat < fu → xW D g h0 s H locs s_55 → lv_has ls 4 [(0, .ref (h0 + 268)), (1, .int (xJ n)), (2, .int (xJ i2_34)), (3, .int (xJ i3_55))] → W p l e { frames := 5, cells := 0, slots := 0, locals := 114 } s m args below meth c H locs 0 0 Q (F0 m 55 ls []) := by
              intro fu
              induction fu with
              | zero => intro i3_55 s_55 H locs ls ri3_55 hF_55 q55_0 q55_1 q55_2 q55_3 q55_4 q55_5 q55_6 q55_7 q55_8 v55_0 v55_1 hm; exact absurd hm (Nat.not_lt_zero _)
              | succ fu ih55 =>
                intro i3_55 s_55 H locs ls ri3_55 hF_55 q55_0 q55_1 q55_2 q55_3 q55_4 q55_5 q55_6 q55_7 q55_8 v55_0 v55_1 hm hW hl
                have hm_55 := fun (_ : Unit) => hm
                clear hm
                refine x_iload_n hx hb hl 3 rfl dX11_laysDark_55 rfl ?_
                refine x_iconst hx hb dX11_laysDark_56 ?_
                refine x_icmp_ge (tgt := 88) hx hb ri3_55 (by decide) dX11_laysDark_57 (by decide) (fun c50 => ?_) (fun c50 => ?_)
                · skip
                  refine x_iconst hx hb dX11_laysDark_88 ?_
                  refine lv_istore_n (lv' := [(3, .int (xJ 0)), (0, .ref (h0 + 268)), (1, .int (xJ n)), (2, .int (xJ i2_34))]) hx hb dX11_laysDark_89 rfl hl (by decide) rfl (fun ls hl => ?_)
                  have L90 : ∀ (fu : Nat) (i3_90 : Int) (s_90 : xS) (H : Heap) (locs : List Loc) (ls : Array Slot), (xR i3_90) → (xFr (fun k => k = 269 ∨ k = 270 ∨ k = 293 ∨ k = 294 ∨ k = 295 ∨ k = 305) s0 s_90) → (s_90 268 8 = s0 268 8) → (s_90 268 58 = s0 268 58) → (s_90 268 17 = s0 268 17) → (s_90 268 48 = s0 268 48) → (s_90 270 = s3 270) → (s_90 269 37 = s_34 269 37) → (IMn s_90) → (IMk s_90) → (IMo s_90) → (0 ≤ i3_90) → (i3_90 ≤ 100) → (100 + 1 - i3_90).toNat < fu → xW D g h0 s H locs s_90 → lv_has ls 4 [(0, .ref (h0 + 268)), (1, .int (xJ n)), (2, .int (xJ i2_34)), (3, .int (xJ i3_90))] → W p l e { frames := 5, cells := 0, slots := 0, locals := 114 } s m args below meth c H locs 0 0 Q (F0 m 90 ls []) := by
                    intro fu
                    induction fu with
                    | zero => intro i3_90 s_90 H locs ls ri3_90 hF_90 q90_0 q90_1 q90_2 q90_3 q90_4 q90_5 q90_6 q90_7 q90_8 v90_0 v90_1 hm; exact absurd hm (Nat.not_lt_zero _)
                    | succ fu ih90 =>
                      intro i3_90 s_90 H locs ls ri3_90 hF_90 q90_0 q90_1 q90_2 q90_3 q90_4 q90_5 q90_6 q90_7 q90_8 v90_0 v90_1 hm hW hl
                      have hm_90 := fun (_ : Unit) => hm
                      clear hm
                      refine x_iload_n hx hb hl 3 rfl dX11_laysDark_90 rfl ?_
                      refine x_bipush hx hb dX11_laysDark_91 (by decide) ?_
                      refine x_icmp_ge (tgt := 129) hx hb ri3_90 (by decide) dX11_laysDark_93 (by decide) (fun c51 => ?_) (fun c51 => ?_)
                      · skip
                        refine x_iinc (lv' := [(2, .int (xJ (i2_34 + 1))), (0, .ref (h0 + 268)), (1, .int (xJ n)), (3, .int (xJ i3_90))]) hx hb hl 2 rfl dX11_laysDark_129 (by decide) rfl (fun ls hl => ?_)
                        refine lv_goto (tgt := 34) hx hb dX11_laysDark_132 (by decide) ?_
                        exact ih34 (i2_34 + 1) s_90 H locs ls (by omega) hF_90 q90_0 q90_1 q90_2 q90_3 q90_6 q90_7 q90_8 q90_4 (by omega) (by have hm := hm_34 (); omega) hW (lv_sub hl [1, 2, 0] rfl)
                      refine x_aload_n hx hb hl 0 rfl dX11_laysDark_96 rfl ?_
                      refine x_get (j := 55) (v := .ref (h0 + 305)) hx hb hown hT hE hW cls_X11 (Or.inl (by decide)) (so_268 h0 g _) (by decide) rfl wq1240 dX11_laysDark_97 ?_
                      refine x_iload_n hx hb hl 3 rfl dX11_laysDark_100 rfl ?_
                      refine x_aload_n hx hb hl 0 rfl dX11_laysDark_101 rfl ?_
                      refine x_get (j := 55) (v := .ref (h0 + 305)) hx hb hown hT hE hW cls_X11 (Or.inl (by decide)) (so_268 h0 g _) (by decide) rfl wq1240 dX11_laysDark_102 ?_
                      refine x_iload_n hx hb hl 3 rfl dX11_laysDark_105 rfl ?_
                      refine x_iald hx hb hE hW (Or.inl (by decide)) (sa_305 h0 g _) (by omega) (by decide) dX11_laysDark_106 ?_
                      refine x_rd hW (fun x52 ex52 rx52 => ?_)
                      refine x_aload_n hx hb hl 0 rfl dX11_laysDark_107 rfl ?_
                      refine x_get (j := 40) (v := .ref (h0 + 295)) hx hb hown hT hE hW cls_X11 (Or.inl (by decide)) (so_268 h0 g _) (by decide) rfl wq1225 dX11_laysDark_108 ?_
                      refine x_iload_n hx hb hl 3 rfl dX11_laysDark_111 rfl ?_
                      refine x_iald hx hb hE hW (Or.inl (by decide)) (sa_295 h0 g _) (by omega) (by decide) dX11_laysDark_112 ?_
                      refine x_rd hW (fun x53 ex53 rx53 => ?_)
                      refine x_if_le (tgt := 120) hx hb rx53 dX11_laysDark_113 (by decide) (fun c54 => ?_) (fun c54 => ?_)
                      · skip
                        refine x_iconst hx hb dX11_laysDark_120 ?_
                        refine x_iadd hx hb dX11_laysDark_121 ?_
                        refine x_any (fun x55 rx55 => ?_)
                        refine x_iast hx hb hE hW (by decide) (fun σ => sa_305 h0 g σ) (by omega) (by decide) rx55 dX11_laysDark_122 (fun H locs s56 es56 hW => ?_)
                        have q57 : s56 268 8 = s0 268 8 := (show s56 268 8 = s_90 268 8 from by rw [es56, xU_k _ _ _ (by first | decide | omega)]).trans q90_0
                        have q58 : s56 268 58 = s0 268 58 := (show s56 268 58 = s_90 268 58 from by rw [es56, xU_k _ _ _ (by first | decide | omega)]).trans q90_1
                        have q59 : s56 268 17 = s0 268 17 := (show s56 268 17 = s_90 268 17 from by rw [es56, xU_k _ _ _ (by first | decide | omega)]).trans q90_2
                        have q60 : s56 268 48 = s0 268 48 := (show s56 268 48 = s_90 268 48 from by rw [es56, xU_k _ _ _ (by first | decide | omega)]).trans q90_3
                        have q61 : s56 270 = s3 270 := by rw [es56, xU_k _ _ _ (by first | decide | omega)]; exact q90_4
                        have q62 : s56 269 37 = s_34 269 37 := (show s56 269 37 = s_90 269 37 from by rw [es56, xU_k _ _ _ (by first | decide | omega)]).trans q90_5
                        have q63 : IMn s56 := by rw [es56]; exact IMn_o (by unfold suIMn; first | decide | omega) q90_6
                        have q64 : IMk s56 := by rw [es56]; exact IMk_o (by unfold suIMk; first | decide | omega) q90_7
                        have q65 : IMo s56 := by rw [es56]; exact IMo_o (by unfold suIMo; first | decide | omega) q90_8
                        have hF66 := hF_90.put es56 (by omega)
                        refine x_iinc (lv' := [(3, .int (xJ (i3_90 + 1))), (0, .ref (h0 + 268)), (1, .int (xJ n)), (2, .int (xJ i2_34))]) hx hb hl 3 rfl dX11_laysDark_123 (by decide) rfl (fun ls hl => ?_)
                        refine lv_goto (tgt := 90) hx hb dX11_laysDark_126 (by decide) ?_
                        exact ih90 (i3_90 + 1) s56 H locs ls (by omega) hF66 q57 q58 q59 q60 q61 q62 q63 q64 q65 (by omega) (by omega) (by have hm := hm_90 (); omega) hW (lv_sub hl [1, 2, 3, 0] rfl)
                      refine x_iconst hx hb dX11_laysDark_116 ?_
                      refine lv_goto (tgt := 121) hx hb dX11_laysDark_117 (by decide) ?_
                      refine x_iadd hx hb dX11_laysDark_121 ?_
                      refine x_any (fun x67 rx67 => ?_)
                      refine x_iast hx hb hE hW (by decide) (fun σ => sa_305 h0 g σ) (by omega) (by decide) rx67 dX11_laysDark_122 (fun H locs s68 es68 hW => ?_)
                      have q69 : s68 268 8 = s0 268 8 := (show s68 268 8 = s_90 268 8 from by rw [es68, xU_k _ _ _ (by first | decide | omega)]).trans q90_0
                      have q70 : s68 268 58 = s0 268 58 := (show s68 268 58 = s_90 268 58 from by rw [es68, xU_k _ _ _ (by first | decide | omega)]).trans q90_1
                      have q71 : s68 268 17 = s0 268 17 := (show s68 268 17 = s_90 268 17 from by rw [es68, xU_k _ _ _ (by first | decide | omega)]).trans q90_2
                      have q72 : s68 268 48 = s0 268 48 := (show s68 268 48 = s_90 268 48 from by rw [es68, xU_k _ _ _ (by first | decide | omega)]).trans q90_3
                      have q73 : s68 270 = s3 270 := by rw [es68, xU_k _ _ _ (by first | decide | omega)]; exact q90_4
                      have q74 : s68 269 37 = s_34 269 37 := (show s68 269 37 = s_90 269 37 from by rw [es68, xU_k _ _ _ (by first | decide | omega)]).trans q90_5
                      have q75 : IMn s68 := by rw [es68]; exact IMn_o (by unfold suIMn; first | decide | omega) q90_6
                      have q76 : IMk s68 := by rw [es68]; exact IMk_o (by unfold suIMk; first | decide | omega) q90_7
                      have q77 : IMo s68 := by rw [es68]; exact IMo_o (by unfold suIMo; first | decide | omega) q90_8
                      have hF78 := hF_90.put es68 (by omega)
                      refine x_iinc (lv' := [(3, .int (xJ (i3_90 + 1))), (0, .ref (h0 + 268)), (1, .int (xJ n)), (2, .int (xJ i2_34))]) hx hb hl 3 rfl dX11_laysDark_123 (by decide) rfl (fun ls hl => ?_)
                      refine lv_goto (tgt := 90) hx hb dX11_laysDark_126 (by decide) ?_
                      exact ih90 (i3_90 + 1) s68 H locs ls (by omega) hF78 q69 q70 q71 q72 q73 q74 q75 q76 q77 (by omega) (by omega) (by have hm := hm_90 (); omega) hW (lv_sub hl [1, 2, 3, 0] rfl)
                  exact L90 ((100 + 1 - 0 : Int).toNat + 1) 0 s_55 H locs ls (by decide) hF_55 q55_0 q55_1 q55_2 q55_3 q55_4 q55_5 q55_6 q55_7 q55_8 (by omega) (by omega) (Nat.lt_succ_self _) hW (lv_sub hl [1, 2, 3, 0] rfl)
                refine x_aload_n hx hb hl 0 rfl dX11_laysDark_60 rfl ?_
                refine x_iload_n hx hb hl 3 rfl dX11_laysDark_61 rfl ?_
                refine x_goi (x_runV (As := [.int (xJ i3_55)]) hx hb hml hown hT hE hW hl.1 (Or.inl (by decide)) (so_268 h0 g _) rfl cf_X11_isJudge wq1409 wq109 wq1407 (c_X11_isJudge l D g T h0 s_55 hW.2.1 i3_55 ri3_55 q55_6 q55_7 q55_8) ⟨rfl, rfl, ⟨by decide, by decide⟩, ⟨by decide, by decide⟩⟩ rfl rfl (Nat.le_of_ble_eq_true rfl) dX11_laysDark_62) hW (fun x79 s80 H locs rx79 hp81 hW => ?_)
                obtain ⟨es80, hp81⟩ := hp81
                subst es80
                have ghp81 := hp81
                refine x_if_eq (tgt := 82) hx hb rx79 dX11_laysDark_65 (by decide) (fun c82 => ?_) (fun c82 => ?_)
                · skip
                  refine x_iinc (lv' := [(3, .int (xJ (i3_55 + 1))), (0, .ref (h0 + 268)), (1, .int (xJ n)), (2, .int (xJ i2_34))]) hx hb hl 3 rfl dX11_laysDark_82 (by decide) rfl (fun ls hl => ?_)
                  refine lv_goto (tgt := 55) hx hb dX11_laysDark_85 (by decide) ?_
                  exact ih55 (i3_55 + 1) s_55 H locs ls (by omega) hF_55 q55_0 q55_1 q55_2 q55_3 q55_4 q55_5 q55_6 q55_7 q55_8 (by omega) (by omega) (by have hm := hm_55 (); omega) hW (lv_sub hl [1, 2, 3, 0] rfl)
                refine x_aload_n hx hb hl 0 rfl dX11_laysDark_68 rfl ?_
                refine x_iload_n hx hb hl 3 rfl dX11_laysDark_69 rfl ?_
                refine x_aload_n hx hb hl 0 rfl dX11_laysDark_70 rfl ?_
                refine x_get (j := 1) (v := .ref (h0 + 270)) hx hb hown hT hE hW cls_X11 (Or.inl (by decide)) (so_268 h0 g _) (by decide) rfl wq1186 dX11_laysDark_71 ?_
                refine x_bipush hx hb dX11_laysDark_74 (by decide) ?_
                refine x_iald hx hb hE hW (Or.inl (by decide)) (sa_270 h0 g _) ⟨by decide, by decide⟩ (by decide) dX11_laysDark_76 ?_
                refine x_rd hW (fun x83 ex83 rx83 => ?_)
                have bx83 : 0 ≤ x83 ∧ x83 ≤ 9999 := by rw [ex83]; exact (IMn.n2 q55_6).2.2.2.1
                refine x_iload_n hx hb hl 2 rfl dX11_laysDark_77 rfl ?_
                refine x_iadd hx hb dX11_laysDark_78 ?_
                refine x_gov (x_runV (As := [.int (xJ i3_55), .int (xJ (x83 + i2_34))]) hx hb hml hown hT hE hW hl.1 (Or.inl (by decide)) (so_268 h0 g _) rfl cf_X11_fallsOf wq1596 wq141 wq1594 (c_X11_fallsOf l D g T h0 s_55 hW.2.1 i3_55 ri3_55 (x83 + i2_34) (by omega) (by omega) q55_6 q55_7 q55_8) ⟨rfl, rfl, ⟨by decide, by decide⟩, ⟨by decide, by decide⟩⟩ rfl rfl (Nat.le_of_ble_eq_true rfl) dX11_laysDark_79) hW (fun s85 H locs hp86 hW => ?_)
                obtain ⟨fs85, hp86⟩ := hp86
                have hF87 := hF_55.call fs85 (fun k h => by omega)
                have q88 : s85 268 8 = s0 268 8 := (congrFun (fs85 _ (by omega)) _).trans q55_0
                have q89 : s85 268 58 = s0 268 58 := (congrFun (fs85 _ (by omega)) _).trans q55_1
                have q90 : s85 268 17 = s0 268 17 := (congrFun (fs85 _ (by omega)) _).trans q55_2
                have q91 : s85 268 48 = s0 268 48 := (congrFun (fs85 _ (by omega)) _).trans q55_3
                have q92 : s85 270 = s3 270 := (fs85 _ (by omega)).trans q55_4
                have q93 : s85 269 37 = s_34 269 37 := (congrFun (fs85 _ (by omega)) _).trans q55_5
                have ghp86 := hp86.2
                refine x_iinc (lv' := [(3, .int (xJ (i3_55 + 1))), (0, .ref (h0 + 268)), (1, .int (xJ n)), (2, .int (xJ i2_34))]) hx hb hl 3 rfl dX11_laysDark_82 (by decide) rfl (fun ls hl => ?_)
                refine lv_goto (tgt := 55) hx hb dX11_laysDark_85 (by decide) ?_
                exact ih55 (i3_55 + 1) s85 H locs ls (by omega) hF87 q88 q89 q90 q91 q92 q93 hp86.1.1 hp86.1.2.1 hp86.1.2.2.1 (by omega) (by omega) (by have hm := hm_55 (); omega) hW (lv_sub hl [1, 2, 3, 0] rfl)
            exact L55 ((2 + 1 - 0 : Int).toNat + 1) 0 s41 H locs ls (by decide) hF43 q44 q45 q46 q47 q48 q49 hp42.1.1 hp42.1.2.1 hp42.1.2.2.1 (by omega) (by omega) (Nat.lt_succ_self _) hW (lv_sub hl [1, 2, 3, 0] rfl)
        exact L34 ((n + 1 - 0 : Int).toNat + 1) 0 s3 H locs ls (by decide) hF5 q6 q7 q8 q9 hp4.1.1 hp4.1.2.1 hp4.1.2.2.1 q11 (by omega) (Nat.lt_succ_self _) hW (lv_sub hl [1, 2, 0] rfl)
      refine x_aload_n hx hb hl 0 rfl dX11_laysDark_8 rfl ?_
      refine x_get (j := 55) (v := .ref (h0 + 305)) hx hb hown hT hE hW cls_X11 (Or.inl (by decide)) (so_268 h0 g _) (by decide) rfl wq1240 dX11_laysDark_9 ?_
      refine x_iload_n hx hb hl 2 rfl dX11_laysDark_12 rfl ?_
      refine x_iconst hx hb dX11_laysDark_13 ?_
      refine x_iast hx hb hE hW (by decide) (fun σ => sa_305 h0 g σ) (by omega) (by decide) (by decide) dX11_laysDark_14 (fun H locs s94 es94 hW => ?_)
      have q95 : IMn s94 := by rw [es94]; exact IMn_o (by unfold suIMn; first | decide | omega) q2_0
      have q96 : IMk s94 := by rw [es94]; exact IMk_o (by unfold suIMk; first | decide | omega) q2_1
      have q97 : IMo s94 := by rw [es94]; exact IMo_o (by unfold suIMo; first | decide | omega) q2_2
      have q98 : s94 268 8 = s0 268 8 := (show s94 268 8 = s_2 268 8 from by rw [es94, xU_k _ _ _ (by first | decide | omega)]).trans q2_3
      have q99 : s94 268 58 = s0 268 58 := (show s94 268 58 = s_2 268 58 from by rw [es94, xU_k _ _ _ (by first | decide | omega)]).trans q2_4
      have q100 : s94 268 17 = s0 268 17 := (show s94 268 17 = s_2 268 17 from by rw [es94, xU_k _ _ _ (by first | decide | omega)]).trans q2_5
      have q101 : s94 268 48 = s0 268 48 := (show s94 268 48 = s_2 268 48 from by rw [es94, xU_k _ _ _ (by first | decide | omega)]).trans q2_6
      have q102 : s94 269 = s0 269 := by rw [es94, xU_k _ _ _ (by first | decide | omega)]; exact q2_7
      have hF103 := hF_2.put es94 (by omega)
      refine x_iinc (lv' := [(2, .int (xJ (i2_2 + 1))), (0, .ref (h0 + 268)), (1, .int (xJ n))]) hx hb hl 2 rfl dX11_laysDark_15 (by decide) rfl (fun ls hl => ?_)
      refine lv_goto (tgt := 2) hx hb dX11_laysDark_18 (by decide) ?_
      exact ih2 (i2_2 + 1) s94 H locs ls (by omega) hF103 q95 q96 q97 q98 q99 q100 q101 q102 (by omega) (by omega) (by have hm := hm_2 (); omega) hW (lv_sub hl [1, 2, 0] rfl)
  exact L2 ((100 + 1 - 0 : Int).toNat + 1) 0 s0 H locs ls (by decide) hF p0 p1 p2 k268_8 k268_58 k268_17 k268_48 kg269 (by omega) (by omega) (Nat.lt_succ_self _) hW (lv_sub hl [1, 2, 0] rfl)
set_option maxHeartbeats 4000000 in
set_option maxRecDepth 100000 in
theorem c_X11_darkF (l : Launch) (D : va_G) (g : xG) (T : Nat × Nat × Nat) (h0 : Nat) (s0 : xS) (hσ : xRR s0) (n : Int) (rn : xR n) (x : Int) (rx : xR x) (p0 : IMn s0) (p1 : IMk s0) (p2 : IMo s0) : Met l yX11_dark (xws yX11_dark cX11_dark 6 (some .int)) { frames := 6, cells := 0, slots := 0, locals := 137 } (xP [.ref (h0 + 268), .int (xJ n), .int (xJ x)] D g T h0 s0) (xQi D g h0 (fun r τ => xFr (fun k => k = 269 ∨ k = 270 ∨ k = 293 ∨ k = 294 ∨ k = 295 ∨ k = 305) s0 τ ∧ (((IMn τ) ∧ (IMk τ) ∧ (IMo τ) ∧ True) ∧ (∀ q : Int, 0 ≤ q → q < 39 → τ 269 q = s0 269 q)))) 0 0 (xA h0) := by
  refine x_met hσ (by decide) (Nat.le_of_ble_eq_true rfl) ?_
  intro p e s m args below meth c hx hb hr hml hown hT hlk hnm hE hW ls hl
  have hl : lv_has ls 6 [(0, .ref (h0 + 268)), (1, .int (xJ n)), (2, .int (xJ x))] := hl
  obtain ⟨Q, eQ⟩ : ∃ Q, Q = MQ below (xQi D g h0 (fun r τ => xFr (fun k => k = 269 ∨ k = 270 ∨ k = 293 ∨ k = 294 ∨ k = 295 ∨ k = 305) s0 τ ∧ (((IMn τ) ∧ (IMk τ) ∧ (IMo τ) ∧ True) ∧ (∀ q : Int, 0 ≤ q → q < 39 → τ 269 q = s0 269 q)))) args s 0 0 (xA h0) := ⟨_, rfl⟩
  rw [← eQ]
  generalize hHe : ([] : List Loc) = locs at hW ⊢
  obtain ⟨H, eH⟩ : ∃ H, H = s.heap := ⟨_, rfl⟩
  rw [← eH] at hW ⊢
  have hF : xFr (fun k => k = 269 ∨ k = 270 ∨ k = 293 ∨ k = 294 ∨ k = 295 ∨ k = 305) s0 s0 := xFr.rf
  have k268_8 : s0 268 8 = s0 268 8 := rfl
  have k268_58 : s0 268 58 = s0 268 58 := rfl
  have k268_17 : s0 268 17 = s0 268 17 := rfl
  have k268_48 : s0 268 48 = s0 268 48 := rfl
  refine x_iload_n hx hb hl 1 rfl dX11_dark_0 rfl ?_
  refine x_iconst hx hb dX11_dark_1 ?_
  refine x_bipush hx hb dX11_dark_2 (by decide) ?_
  refine x_goi (x_runS (As := [.int (xJ n), .int (xJ 1), .int (xJ 60)]) hx hb hml hown hT hE hW hl.1 cf_X11_in wq1383 wq1382 (c_X11_in l D g T h0 s0 hW.2.1 n rn 1 (by decide) 60 (by decide)) ⟨rfl, rfl, ⟨by decide, by decide⟩, ⟨by decide, by decide⟩⟩ rfl rfl (Nat.le_of_ble_eq_true rfl) dX11_dark_4) hW (fun x1 s2 H locs rx1 hp3 hW => ?_)
  obtain ⟨es2, hp3⟩ := hp3
  subst es2
  have ghp3 := hp3
  refine x_if_eq (tgt := 19) hx hb rx1 dX11_dark_7 (by decide) (fun c4 => ?_) (fun c4 => ?_)
  · skip
    refine x_iconst hx hb dX11_dark_19 ?_
    rw [eQ]
    exact x_iret hx hb hr hlk hW (by decide) ⟨hF, ⟨p0, p1, p2, trivial⟩, fun _ _ _ => rfl⟩ dX11_dark_20
  refine x_iload_n hx hb hl 2 rfl dX11_dark_10 rfl ?_
  refine x_iconst hx hb dX11_dark_11 ?_
  refine x_iconst hx hb dX11_dark_12 ?_
  refine x_goi (x_runS (As := [.int (xJ x), .int (xJ 0), .int (xJ 2)]) hx hb hml hown hT hE hW hl.1 cf_X11_in wq1383 wq1382 (c_X11_in l D g T h0 s0 hW.2.1 x rx 0 (by decide) 2 (by decide)) ⟨rfl, rfl, ⟨by decide, by decide⟩, ⟨by decide, by decide⟩⟩ rfl rfl (Nat.le_of_ble_eq_true rfl) dX11_dark_13) hW (fun x5 s6 H locs rx5 hp7 hW => ?_)
  obtain ⟨es6, hp7⟩ := hp7
  subst es6
  have ghp7 := hp7
  refine x_if_ne (tgt := 21) hx hb rx5 dX11_dark_16 (by decide) (fun c8 => ?_) (fun c8 => ?_)
  · skip
    refine x_aload_n hx hb hl 0 rfl dX11_dark_21 rfl ?_
    refine x_iload_n hx hb hl 1 rfl dX11_dark_22 rfl ?_
    refine x_gov (x_runV (As := [.int (xJ n)]) hx hb hml hown hT hE hW hl.1 (Or.inl (by decide)) (so_268 h0 g _) rfl cf_X11_laysDark wq1724 wq160 wq1722 (c_X11_laysDarkF l D g T h0 s0 hW.2.1 n rn (by omega) p0 p1 p2) ⟨rfl, rfl, ⟨by decide, by decide⟩, ⟨by decide, by decide⟩⟩ rfl rfl (Nat.le_of_ble_eq_true rfl) dX11_dark_23) hW (fun s10 H locs hp11 hW => ?_)
    obtain ⟨fs10, hp11⟩ := hp11
    have hF12 := hF.call fs10 (fun k h => by omega)
    have q13 : s10 268 8 = s0 268 8 := (congrFun (fs10 _ (by omega)) _).trans k268_8
    have q14 : s10 268 58 = s0 268 58 := (congrFun (fs10 _ (by omega)) _).trans k268_58
    have q15 : s10 268 17 = s0 268 17 := (congrFun (fs10 _ (by omega)) _).trans k268_17
    have q16 : s10 268 48 = s0 268 48 := (congrFun (fs10 _ (by omega)) _).trans k268_48
    have ghp11 := hp11.2
    have Q23 := ghp11
    refine x_iconst hx hb dX11_dark_26 ?_
    refine lv_istore_n (lv' := [(3, .int (xJ 0)), (0, .ref (h0 + 268)), (1, .int (xJ n)), (2, .int (xJ x))]) hx hb dX11_dark_27 rfl hl (by decide) rfl (fun ls hl => ?_)
    refine x_bipush hx hb dX11_dark_28 (by decide) ?_
    refine lv_istore (lv' := [(4, .int (xJ (-2))), (3, .int (xJ 0)), (0, .ref (h0 + 268)), (1, .int (xJ n)), (2, .int (xJ x))]) hx hb dX11_dark_30 hl (by decide) rfl (fun ls hl => ?_)
    refine x_iconst hx hb dX11_dark_32 ?_
    refine lv_istore (lv' := [(5, .int (xJ 0)), (4, .int (xJ (-2))), (3, .int (xJ 0)), (0, .ref (h0 + 268)), (1, .int (xJ n)), (2, .int (xJ x))]) hx hb dX11_dark_33 hl (by decide) rfl (fun ls hl => ?_)
    have L35 : ∀ (fu : Nat) (i3_35 : Int) (i4_35 : Int) (i5_35 : Int) (ls : Array Slot), (xR i3_35) → (xR i4_35) → (xR i5_35) → (0 ≤ i5_35) → (i5_35 ≤ 100) → (0 ≤ i3_35 ∧ i3_35 ≤ i5_35) → (i4_35 = -2 ∨ (0 ≤ i4_35 ∧ i4_35 < 100)) → (100 + 1 - i5_35).toNat < fu → lv_has ls 6 [(0, .ref (h0 + 268)), (2, .int (xJ x)), (3, .int (xJ i3_35)), (4, .int (xJ i4_35)), (5, .int (xJ i5_35))] → W p l e { frames := 6, cells := 0, slots := 0, locals := 137 } s m args below meth c H locs 0 0 Q (F0 m 35 ls []) := by
      intro fu
      induction fu with
      | zero => intro i3_35 i4_35 i5_35 ls ri3_35 ri4_35 ri5_35 v35_0 v35_1 v35_2 v35_3 hm; exact absurd hm (Nat.not_lt_zero _)
      | succ fu ih35 =>
        intro i3_35 i4_35 i5_35 ls ri3_35 ri4_35 ri5_35 v35_0 v35_1 v35_2 v35_3 hm  hl
        have hm_35 := fun (_ : Unit) => hm
        clear hm
        refine x_iload hx hb hl 4 rfl dX11_dark_35 ?_
        refine x_bipush hx hb dX11_dark_37 (by decide) ?_
        refine x_icmp_ge (tgt := 108) hx hb ri5_35 (by decide) dX11_dark_39 (by decide) (fun c17 => ?_) (fun c17 => ?_)
        · skip
          refine x_iload_n hx hb hl 1 rfl dX11_dark_108 rfl ?_
          refine x_if_ne (tgt := 116) hx hb rx dX11_dark_109 (by decide) (fun c18 => ?_) (fun c18 => ?_)
          · skip
            refine x_iload_n hx hb hl 1 rfl dX11_dark_116 rfl ?_
            refine x_iconst hx hb dX11_dark_117 ?_
            refine x_icmp_ne (tgt := 126) hx hb rx (by decide) dX11_dark_118 (by decide) (fun c19 => ?_) (fun c19 => ?_)
            · skip
              refine x_iload hx hb hl 3 rfl dX11_dark_126 ?_
              refine x_bipush hx hb dX11_dark_128 (by decide) ?_
              refine x_icmp_ne (tgt := 137) hx hb ri4_35 (by decide) dX11_dark_130 (by decide) (fun c20 => ?_) (fun c20 => ?_)
              · skip
                refine x_aload_n hx hb hl 0 rfl dX11_dark_137 rfl ?_
                refine x_get (j := 55) (v := .ref (h0 + 305)) hx hb hown hT hE hW cls_X11 (Or.inl (by decide)) (so_268 h0 g _) (by decide) rfl wq1240 dX11_dark_138 ?_
                refine x_iload hx hb hl 3 rfl dX11_dark_141 ?_
                refine x_iald hx hb hE hW (Or.inl (by decide)) (sa_305 h0 g _) (by omega) (by decide) dX11_dark_143 ?_
                refine x_rd hW (fun x21 ex21 rx21 => ?_)
                rw [eQ]
                exact x_iret hx hb hr hlk hW rx21 ⟨hF12, ⟨hp11.1.1, hp11.1.2.1, hp11.1.2.2.1, trivial⟩, Q23⟩ dX11_dark_144
              refine x_iconst hx hb dX11_dark_133 ?_
              refine lv_goto (tgt := 144) hx hb dX11_dark_134 (by decide) ?_
              rw [eQ]
              exact x_iret hx hb hr hlk hW (by decide) ⟨hF12, ⟨hp11.1.1, hp11.1.2.1, hp11.1.2.2.1, trivial⟩, Q23⟩ dX11_dark_144
            refine x_iload hx hb hl 3 rfl dX11_dark_121 ?_
            refine lv_goto (tgt := 144) hx hb dX11_dark_123 (by decide) ?_
            rw [eQ]
            exact x_iret hx hb hr hlk hW ri4_35 ⟨hF12, ⟨hp11.1.1, hp11.1.2.1, hp11.1.2.2.1, trivial⟩, Q23⟩ dX11_dark_144
          refine x_iload_n hx hb hl 2 rfl dX11_dark_112 rfl ?_
          refine lv_goto (tgt := 144) hx hb dX11_dark_113 (by decide) ?_
          rw [eQ]
          exact x_iret hx hb hr hlk hW ri3_35 ⟨hF12, ⟨hp11.1.1, hp11.1.2.1, hp11.1.2.2.1, trivial⟩, Q23⟩ dX11_dark_144
        refine x_aload_n hx hb hl 0 rfl dX11_dark_42 rfl ?_
        refine x_get (j := 3) (v := .ref (h0 + 272)) hx hb hown hT hE hW cls_X11 (Or.inl (by decide)) (so_268 h0 g _) (by decide) rfl wq1188 dX11_dark_43 ?_
        refine x_iload hx hb hl 4 rfl dX11_dark_46 ?_
        refine x_iald hx hb hE hW (Or.inl (by decide)) (sa_272 h0 g _) (by omega) (by decide) dX11_dark_48 ?_
        refine x_rd hW (fun x22 ex22 rx22 => ?_)
        refine x_iconst hx hb dX11_dark_49 ?_
        refine x_icmp_ne (tgt := 56) hx hb rx22 (by decide) dX11_dark_50 (by decide) (fun c23 => ?_) (fun c23 => ?_)
        · skip
          refine x_iload_n hx hb hl 2 rfl dX11_dark_56 rfl ?_
          refine x_aload_n hx hb hl 0 rfl dX11_dark_57 rfl ?_
          refine x_get (j := 55) (v := .ref (h0 + 305)) hx hb hown hT hE hW cls_X11 (Or.inl (by decide)) (so_268 h0 g _) (by decide) rfl wq1240 dX11_dark_58 ?_
          refine x_iload hx hb hl 4 rfl dX11_dark_61 ?_
          refine x_iald hx hb hE hW (Or.inl (by decide)) (sa_305 h0 g _) (by omega) (by decide) dX11_dark_63 ?_
          refine x_rd hW (fun x24 ex24 rx24 => ?_)
          have J72 : ∀ (t0_72 : Int) (ls : Array Slot), (xR t0_72) → (0 ≤ t0_72 ∧ t0_72 ≤ 1) → lv_has ls 6 [(0, .ref (h0 + 268)), (2, .int (xJ x)), (4, .int (xJ i4_35)), (5, .int (xJ i5_35))] → W p l e { frames := 6, cells := 0, slots := 0, locals := 137 } s m args below meth c H locs 0 0 Q (F0 m 72 ls [.int (xJ t0_72), .int (xJ i3_35)]) := by
            intro t0_72 ls rt0_72 v72_0  hl
            refine x_iadd hx hb dX11_dark_72 ?_
            refine x_nm (fun x25 ex25 => ?_)
            refine lv_istore_n (lv' := [(3, .int (xJ x25)), (0, .ref (h0 + 268)), (2, .int (xJ x)), (4, .int (xJ i4_35)), (5, .int (xJ i5_35))]) hx hb dX11_dark_73 rfl hl (by decide) rfl (fun ls hl => ?_)
            refine x_iload hx hb hl 3 rfl dX11_dark_74 ?_
            refine x_bipush hx hb dX11_dark_76 (by decide) ?_
            refine x_icmp_eq (tgt := 98) hx hb ri4_35 (by decide) dX11_dark_78 (by decide) (fun c26 => ?_) (fun c26 => ?_)
            · skip
              refine x_iload hx hb hl 4 rfl dX11_dark_98 ?_
              refine lv_istore (lv' := [(4, .int (xJ i5_35)), (3, .int (xJ x25)), (0, .ref (h0 + 268)), (2, .int (xJ x)), (5, .int (xJ i5_35))]) hx hb dX11_dark_100 hl (by decide) rfl (fun ls hl => ?_)
              refine x_iinc (lv' := [(5, .int (xJ (i5_35 + 1))), (4, .int (xJ i5_35)), (3, .int (xJ x25)), (0, .ref (h0 + 268)), (2, .int (xJ x))]) hx hb hl 4 rfl dX11_dark_102 (by decide) rfl (fun ls hl => ?_)
              refine lv_goto (tgt := 35) hx hb dX11_dark_105 (by decide) ?_
              exact ih35 x25 i5_35 (i5_35 + 1) ls (by omega) ri5_35 (by omega) (by omega) (by omega) (by omega) (by omega) (by have hm := hm_35 (); omega)  (lv_sub hl [3, 4, 2, 1, 0] rfl)
            refine x_aload_n hx hb hl 1 rfl dX11_dark_81 rfl ?_
            refine x_get (j := 55) (v := .ref (h0 + 305)) hx hb hown hT hE hW cls_X11 (Or.inl (by decide)) (so_268 h0 g _) (by decide) rfl wq1240 dX11_dark_82 ?_
            refine x_iload hx hb hl 4 rfl dX11_dark_85 ?_
            refine x_iald hx hb hE hW (Or.inl (by decide)) (sa_305 h0 g _) (by omega) (by decide) dX11_dark_87 ?_
            refine x_rd hW (fun x27 ex27 rx27 => ?_)
            refine x_aload_n hx hb hl 1 rfl dX11_dark_88 rfl ?_
            refine x_get (j := 55) (v := .ref (h0 + 305)) hx hb hown hT hE hW cls_X11 (Or.inl (by decide)) (so_268 h0 g _) (by decide) rfl wq1240 dX11_dark_89 ?_
            refine x_iload hx hb hl 3 rfl dX11_dark_92 ?_
            refine x_iald hx hb hE hW (Or.inl (by decide)) (sa_305 h0 g _) (by omega) (by decide) dX11_dark_94 ?_
            refine x_rd hW (fun x28 ex28 rx28 => ?_)
            refine x_icmp_le (tgt := 102) hx hb rx27 rx28 dX11_dark_95 (by decide) (fun c29 => ?_) (fun c29 => ?_)
            · skip
              refine x_iinc (lv' := [(5, .int (xJ (i5_35 + 1))), (3, .int (xJ x25)), (0, .ref (h0 + 268)), (2, .int (xJ x)), (4, .int (xJ i4_35))]) hx hb hl 4 rfl dX11_dark_102 (by decide) rfl (fun ls hl => ?_)
              refine lv_goto (tgt := 35) hx hb dX11_dark_105 (by decide) ?_
              exact ih35 x25 i4_35 (i5_35 + 1) ls (by omega) ri4_35 (by omega) (by omega) (by omega) (by omega) (by omega) (by have hm := hm_35 (); omega)  (lv_sub hl [2, 3, 1, 4, 0] rfl)
            refine x_iload hx hb hl 4 rfl dX11_dark_98 ?_
            refine lv_istore (lv' := [(4, .int (xJ i5_35)), (3, .int (xJ x25)), (0, .ref (h0 + 268)), (2, .int (xJ x)), (5, .int (xJ i5_35))]) hx hb dX11_dark_100 hl (by decide) rfl (fun ls hl => ?_)
            refine x_iinc (lv' := [(5, .int (xJ (i5_35 + 1))), (4, .int (xJ i5_35)), (3, .int (xJ x25)), (0, .ref (h0 + 268)), (2, .int (xJ x))]) hx hb hl 4 rfl dX11_dark_102 (by decide) rfl (fun ls hl => ?_)
            refine lv_goto (tgt := 35) hx hb dX11_dark_105 (by decide) ?_
            exact ih35 x25 i5_35 (i5_35 + 1) ls (by omega) ri5_35 (by omega) (by omega) (by omega) (by omega) (by omega) (by have hm := hm_35 (); omega)  (lv_sub hl [3, 4, 2, 1, 0] rfl)
          refine x_if_ne (tgt := 71) hx hb rx24 dX11_dark_64 (by decide) (fun c30 => ?_) (fun c30 => ?_)
          · skip
            refine x_iconst hx hb dX11_dark_71 ?_
            exact J72 0 ls (by decide) (by omega)  (lv_sub hl [0, 1, 3, 4] rfl)
          refine x_iconst hx hb dX11_dark_67 ?_
          refine lv_goto (tgt := 72) hx hb dX11_dark_68 (by decide) ?_
          exact J72 1 ls (by decide) (by omega)  (lv_sub hl [0, 1, 3, 4] rfl)
        refine lv_goto (tgt := 102) hx hb dX11_dark_53 (by decide) ?_
        refine x_iinc (lv' := [(5, .int (xJ (i5_35 + 1))), (0, .ref (h0 + 268)), (2, .int (xJ x)), (3, .int (xJ i3_35)), (4, .int (xJ i4_35))]) hx hb hl 4 rfl dX11_dark_102 (by decide) rfl (fun ls hl => ?_)
        refine lv_goto (tgt := 35) hx hb dX11_dark_105 (by decide) ?_
        exact ih35 i3_35 i4_35 (i5_35 + 1) ls ri3_35 ri4_35 (by omega) (by omega) (by omega) (by omega) (by omega) (by have hm := hm_35 (); omega)  (lv_sub hl [1, 2, 3, 4, 0] rfl)
    exact L35 ((100 + 1 - 0 : Int).toNat + 1) 0 (-2) 0 ls (by decide) (by decide) (by decide) (by omega) (by omega) (by omega) (by omega) (Nat.lt_succ_self _)  (lv_sub hl [3, 5, 2, 1, 0] rfl)
  refine x_iconst hx hb dX11_dark_19 ?_
  rw [eQ]
  exact x_iret hx hb hr hlk hW (by decide) ⟨hF, ⟨p0, p1, p2, trivial⟩, fun _ _ _ => rfl⟩ dX11_dark_20

/-! ===== the reference's sets as bits ===== -/
theorem zbv_1023 : ∀ a : Fin 1024, zbv (fun i => if xsh ((a.val : Nat) : Int) i % 2 = 1 then 0 else -1) 10 = ((a.val : Nat) : Int) := by decide +kernel
theorem zbv_3 : ∀ a : Fin 4, zbv (fun i => if xsh ((a.val : Nat) : Int) i % 2 = 1 then 0 else -1) 2 = ((a.val : Nat) : Int) := by decide +kernel
theorem zbv_10 {f : Int → Int} {a : Int} (ha : 0 ≤ a ∧ a < 1024) (h : ∀ i : Int, 0 ≤ i → i < 10 → (f i ≠ -1 ↔ xsh a i % 2 = 1)) : zbv f 10 = a := by
  have z := zbv_1023 ⟨a.toNat, by omega⟩
  have e : ((a.toNat : Nat) : Int) = a := by omega
  have z : zbv (fun i => if xsh ((a.toNat : Nat) : Int) i % 2 = 1 then 0 else -1) 10 = ((a.toNat : Nat) : Int) := z
  rw [e] at z
  rw [← z]
  refine zbv_c (fun i i1 i2 => (h i i1 (by omega)).trans ?_)
  show _ ↔ (if xsh a i % 2 = 1 then (0 : Int) else -1) ≠ -1
  by_cases c : xsh a i % 2 = 1
  · rw [if_pos c]; exact ⟨fun _ => by decide, fun _ => c⟩
  · rw [if_neg c]; exact ⟨fun q => absurd q c, fun q => absurd rfl q⟩
theorem zbv_2 {f : Int → Int} {a : Int} (ha : 0 ≤ a ∧ a ≤ 3) (h : ∀ i : Int, 0 ≤ i → i < 2 → (f i ≠ -1 ↔ xsh a i % 2 = 1)) : zbv f 2 = a := by
  have z := zbv_3 ⟨a.toNat, by omega⟩
  have e : ((a.toNat : Nat) : Int) = a := by omega
  have z : zbv (fun i => if xsh ((a.toNat : Nat) : Int) i % 2 = 1 then 0 else -1) 2 = ((a.toNat : Nat) : Int) := z
  rw [e] at z
  rw [← z]
  refine zbv_c (fun i i1 i2 => (h i i1 (by omega)).trans ?_)
  show _ ↔ (if xsh a i % 2 = 1 then (0 : Int) else -1) ≠ -1
  by_cases c : xsh a i % 2 = 1
  · rw [if_pos c]; exact ⟨fun _ => by decide, fun _ => c⟩
  · rw [if_neg c]; exact ⟨fun q => absurd q c, fun q => absurd rfl q⟩
theorem xJ_or0 {a x : Int} (ra : xR a) (rx : xR x) (h : xJ x = xJ a ||| xJ 0) : x = a := by
  have e : xJ a ||| xJ 0 = xJ a := by
    refine Int32.toBitVec_inj.mp ?_
    rw [Int32.toBitVec_or]
    exact BitVec.or_zero
  rw [e] at h
  exact (xJ_eq rx ra).mp h
set_option maxHeartbeats 4000000 in
set_option maxRecDepth 100000 in
theorem c_X11_owedAllF (l : Launch) (D : va_G) (g : xG) (T : Nat × Nat × Nat) (h0 : Nat) (s0 : xS) (hσ : xRR s0) (hO : ∀ f : Int, 0 ≤ f → f < 10 → 0 ≤ (zYN (s0 269) 0 0 0) (14 + f) ∧ (zYN (s0 269) 0 0 0) (14 + f) ≤ 999) (p0 : IMn s0) (p1 : IMk s0) (p2 : IMo s0) : Met l yX11_owedAll (xws yX11_owedAll cX11_owedAll 3 (some .int)) { frames := 2, cells := 0, slots := 0, locals := 42 } (xP [.ref (h0 + 268)] D g T h0 s0) (xQi D g h0 (fun r τ => s0 = τ ∧ (r = zSm (zYN (s0 269) 0 0 0)))) 0 0 (xA h0) := by
  refine x_met hσ (by decide) (Nat.le_of_ble_eq_true rfl) ?_
  intro p e s m args below meth c hx hb hr hml hown hT hlk hnm hE hW ls hl
  have hl : lv_has ls 3 [(0, .ref (h0 + 268))] := hl
  obtain ⟨Q, eQ⟩ : ∃ Q, Q = MQ below (xQi D g h0 (fun r τ => s0 = τ ∧ (r = zSm (zYN (s0 269) 0 0 0)))) args s 0 0 (xA h0) := ⟨_, rfl⟩
  rw [← eQ]
  generalize hHe : ([] : List Loc) = locs at hW ⊢
  obtain ⟨H, eH⟩ : ∃ H, H = s.heap := ⟨_, rfl⟩
  rw [← eH] at hW ⊢
  have k268_8 : s0 268 8 = s0 268 8 := rfl
  have k268_58 : s0 268 58 = s0 268 58 := rfl
  have k268_17 : s0 268 17 = s0 268 17 := rfl
  have k268_48 : s0 268 48 = s0 268 48 := rfl
  refine x_iconst hx hb dX11_owedAll_0 ?_
  refine lv_istore_n (lv' := [(1, .int (xJ 0)), (0, .ref (h0 + 268))]) hx hb dX11_owedAll_1 rfl hl (by decide) rfl (fun ls hl => ?_)
  refine x_iconst hx hb dX11_owedAll_2 ?_
  refine lv_istore_n (lv' := [(2, .int (xJ 0)), (1, .int (xJ 0)), (0, .ref (h0 + 268))]) hx hb dX11_owedAll_3 rfl hl (by decide) rfl (fun ls hl => ?_)
  have L4 : ∀ (fu : Nat) (i1_4 : Int) (i2_4 : Int) (H : Heap) (locs : List Loc) (ls : Array Slot), (xR i1_4) → (xR i2_4) → (0 ≤ i2_4 ∧ i2_4 ≤ 10) → (i1_4 = zsu (fun f => (zYN (s0 269) 0 0 0) (14 + f)) (i2_4).toNat) → (0 ≤ i1_4 ∧ i1_4 ≤ 999 * i2_4) → (10 - i2_4).toNat < fu → xW D g h0 s H locs s0 → lv_has ls 3 [(0, .ref (h0 + 268)), (1, .int (xJ i1_4)), (2, .int (xJ i2_4))] → W p l e { frames := 2, cells := 0, slots := 0, locals := 42 } s m args below meth c H locs 0 0 Q (F0 m 4 ls []) := by
    intro fu
    induction fu with
    | zero => intro i1_4 i2_4 H locs ls ri1_4 ri2_4 v4_0 v4_1 v4_2 hm; exact absurd hm (Nat.not_lt_zero _)
    | succ fu ih4 =>
      intro i1_4 i2_4 H locs ls ri1_4 ri2_4 v4_0 v4_1 v4_2 hm hW hl
      have hm_4 := fun (_ : Unit) => hm
      clear hm
      refine x_iload_n hx hb hl 2 rfl dX11_owedAll_4 rfl ?_
      refine x_bipush hx hb dX11_owedAll_5 (by decide) ?_
      refine x_icmp_ge (tgt := 40) hx hb ri2_4 (by decide) dX11_owedAll_7 (by decide) (fun c1 => ?_) (fun c1 => ?_)
      · skip
        refine x_iload_n hx hb hl 1 rfl dX11_owedAll_40 rfl ?_
        rw [eQ]
        exact x_iret hx hb hr hlk hW ri1_4 ⟨rfl, by rw [v4_1, show (i2_4).toNat = 10 from by omega]; rfl⟩ dX11_owedAll_41
      refine x_iload_n hx hb hl 1 rfl dX11_owedAll_10 rfl ?_
      refine x_aload_n hx hb hl 0 rfl dX11_owedAll_11 rfl ?_
      refine x_iload_n hx hb hl 2 rfl dX11_owedAll_12 rfl ?_
      refine x_goi (x_runV (As := [.int (xJ i2_4)]) hx hb hml hown hT hE hW hl.1 (Or.inl (by decide)) (so_268 h0 g _) rfl cf_X11_isFelon wq1423 wq111 wq1421 (c_X11_isFelonF l D g T h0 s0 hW.2.1 i2_4 ri2_4 p0 p1 p2) ⟨rfl, rfl, ⟨by decide, by decide⟩, ⟨by decide, by decide⟩⟩ rfl rfl (Nat.le_of_ble_eq_true rfl) dX11_owedAll_13) hW (fun x2 s3 H locs rx2 hp4 hW => ?_)
      obtain ⟨es3, hp4⟩ := hp4
      subst es3
      have ghp4 := hp4
      have H13 := ghp4
      have J32 : ∀ (t0_32 : Int) (ls : Array Slot), (xR t0_32) → (t0_32 = (zYN (s0 269) 0 0 0) (14 + i2_4)) → lv_has ls 3 [(0, .ref (h0 + 268)), (2, .int (xJ i2_4))] → W p l e { frames := 2, cells := 0, slots := 0, locals := 42 } s m args below meth c H locs 0 0 Q (F0 m 32 ls [.int (xJ t0_32), .int (xJ i1_4)]) := by
        intro t0_32 ls rt0_32 v32_0  hl
        refine x_iadd hx hb dX11_owedAll_32 ?_
        have B32 := hO i2_4 (by omega) (by omega)
        rw [← v32_0] at B32
        refine x_nm (fun x5 ex5 => ?_)
        refine lv_istore_n (lv' := [(1, .int (xJ x5)), (0, .ref (h0 + 268)), (2, .int (xJ i2_4))]) hx hb dX11_owedAll_33 rfl hl (by decide) rfl (fun ls hl => ?_)
        refine x_iinc (lv' := [(2, .int (xJ (i2_4 + 1))), (1, .int (xJ x5)), (0, .ref (h0 + 268))]) hx hb hl 2 rfl dX11_owedAll_34 (by decide) rfl (fun ls hl => ?_)
        refine lv_goto (tgt := 4) hx hb dX11_owedAll_37 (by decide) ?_
        exact ih4 x5 (i2_4 + 1) H locs ls (by omega) (by omega) (by omega) (by
            rw [show (i2_4 + 1).toNat = i2_4.toNat + 1 from by omega]
            show _ = zsu (fun f => (zYN (s0 269) 0 0 0) (14 + f)) i2_4.toNat + (zYN (s0 269) 0 0 0) (14 + ((i2_4.toNat : Nat) : Int))
            rw [show ((i2_4.toNat : Nat) : Int) = i2_4 from by omega, ← v4_1]
            omega) (by omega) (by have hm := hm_4 (); omega) hW (lv_sub hl [2, 1, 0] rfl)
      refine x_if_eq (tgt := 31) hx hb rx2 dX11_owedAll_16 (by decide) (fun c6 => ?_) (fun c6 => ?_)
      · skip
        refine x_iconst hx hb dX11_owedAll_31 ?_
        exact J32 0 ls (by decide) (by first | (rw [zYN_O (by omega), if_pos (by omega)]; exact V27) | (rw [zYN_O (by omega), if_neg (by omega)]))  (lv_sub hl [0, 2] rfl)
      refine x_aload_n hx hb hl 0 rfl dX11_owedAll_19 rfl ?_
      refine x_get (j := 0) (v := .ref (h0 + 269)) hx hb hown hT hE hW cls_X11 (Or.inl (by decide)) (so_268 h0 g _) (by decide) rfl wq1185 dX11_owedAll_20 ?_
      refine x_bipush hx hb dX11_owedAll_23 (by decide) ?_
      refine x_iload_n hx hb hl 2 rfl dX11_owedAll_25 rfl ?_
      refine x_iadd hx hb dX11_owedAll_26 ?_
      refine x_iald hx hb hE hW (Or.inl (by decide)) (sa_269 h0 g _) (by omega) (by decide) dX11_owedAll_27 ?_
      refine x_rd hW (fun x7 ex7 rx7 => ?_)
      have V27 := ex7
      refine lv_goto (tgt := 32) hx hb dX11_owedAll_28 (by decide) ?_
      exact J32 x7 ls rx7 (by first | (rw [zYN_O (by omega), if_pos (by omega)]; exact V27) | (rw [zYN_O (by omega), if_neg (by omega)]))  (lv_sub hl [0, 2] rfl)
  exact L4 ((10 - 0 : Int).toNat + 1) 0 0 H locs ls (by decide) (by decide) (by omega) (rfl) (by omega) (Nat.lt_succ_self _) hW (lv_sub hl [2, 1, 0] rfl)
set_option maxHeartbeats 4000000 in
set_option maxRecDepth 100000 in
theorem c_X11_lampSetF (l : Launch) (D : va_G) (g : xG) (T : Nat × Nat × Nat) (h0 : Nat) (s0 : xS) (hσ : xRR s0) (p0 : IMn s0) (p1 : IMk s0) (p2 : IMo s0) : Met l yX11_lampSet (xws yX11_lampSet cX11_lampSet 3 (some .int)) { frames := 0, cells := 0, slots := 0, locals := 0 } (xP [.ref (h0 + 268)] D g T h0 s0) (xQi D g h0 (fun r τ => s0 = τ ∧ (r = zbv (s0 273) 4))) 0 0 (xA h0) := by
  refine x_met hσ (by decide) (Nat.le_of_ble_eq_true rfl) ?_
  intro p e s m args below meth c hx hb hr hml hown hT hlk hnm hE hW ls hl
  have hl : lv_has ls 3 [(0, .ref (h0 + 268))] := hl
  obtain ⟨Q, eQ⟩ : ∃ Q, Q = MQ below (xQi D g h0 (fun r τ => s0 = τ ∧ (r = zbv (s0 273) 4))) args s 0 0 (xA h0) := ⟨_, rfl⟩
  rw [← eQ]
  generalize hHe : ([] : List Loc) = locs at hW ⊢
  obtain ⟨H, eH⟩ : ∃ H, H = s.heap := ⟨_, rfl⟩
  rw [← eH] at hW ⊢
  have k268_8 : s0 268 8 = s0 268 8 := rfl
  have k268_58 : s0 268 58 = s0 268 58 := rfl
  have k268_17 : s0 268 17 = s0 268 17 := rfl
  have k268_48 : s0 268 48 = s0 268 48 := rfl
  refine x_iconst hx hb dX11_lampSet_0 ?_
  refine lv_istore_n (lv' := [(1, .int (xJ 0)), (0, .ref (h0 + 268))]) hx hb dX11_lampSet_1 rfl hl (by decide) rfl (fun ls hl => ?_)
  refine x_iconst hx hb dX11_lampSet_2 ?_
  refine lv_istore_n (lv' := [(2, .int (xJ 0)), (1, .int (xJ 0)), (0, .ref (h0 + 268))]) hx hb dX11_lampSet_3 rfl hl (by decide) rfl (fun ls hl => ?_)
  have L4 : ∀ (fu : Nat) (i1_4 : Int) (i2_4 : Int) (ls : Array Slot), (xR i1_4) → (xR i2_4) → (0 ≤ i2_4 ∧ i2_4 ≤ 4) → (i1_4 = zbv (s0 273) (i2_4).toNat) → (4 - i2_4).toNat < fu → lv_has ls 3 [(0, .ref (h0 + 268)), (1, .int (xJ i1_4)), (2, .int (xJ i2_4))] → W p l e { frames := 0, cells := 0, slots := 0, locals := 0 } s m args below meth c H locs 0 0 Q (F0 m 4 ls []) := by
    intro fu
    induction fu with
    | zero => intro i1_4 i2_4 ls ri1_4 ri2_4 v4_0 v4_1 hm; exact absurd hm (Nat.not_lt_zero _)
    | succ fu ih4 =>
      intro i1_4 i2_4 ls ri1_4 ri2_4 v4_0 v4_1 hm  hl
      have hm_4 := fun (_ : Unit) => hm
      clear hm
      refine x_iload_n hx hb hl 2 rfl dX11_lampSet_4 rfl ?_
      refine x_iconst hx hb dX11_lampSet_5 ?_
      refine x_icmp_ge (tgt := 35) hx hb ri2_4 (by decide) dX11_lampSet_6 (by decide) (fun c1 => ?_) (fun c1 => ?_)
      · skip
        refine x_iload_n hx hb hl 1 rfl dX11_lampSet_35 rfl ?_
        rw [eQ]
        exact x_iret hx hb hr hlk hW ri1_4 ⟨rfl, by rw [v4_1, show (i2_4).toNat = 4 from by omega]⟩ dX11_lampSet_36
      refine x_iload_n hx hb hl 1 rfl dX11_lampSet_9 rfl ?_
      refine x_aload_n hx hb hl 0 rfl dX11_lampSet_10 rfl ?_
      refine x_get (j := 4) (v := .ref (h0 + 273)) hx hb hown hT hE hW cls_X11 (Or.inl (by decide)) (so_268 h0 g _) (by decide) rfl wq1189 dX11_lampSet_11 ?_
      refine x_iload_n hx hb hl 2 rfl dX11_lampSet_14 rfl ?_
      refine x_iald hx hb hE hW (Or.inl (by decide)) (sa_273 h0 g _) (by omega) (by decide) dX11_lampSet_15 ?_
      refine x_rd hW (fun x2 ex2 rx2 => ?_)
      have bx2 : -1 ≤ x2 ∧ x2 ≤ 99 := by rw [ex2]; exact IMn.l p0 _ (by omega) (by omega)
      have V15 : x2 = s0 273 i2_4 := ex2
      refine x_iconst hx hb dX11_lampSet_16 ?_
      have J27 : ∀ (t0_27 : Int) (ls : Array Slot), (xR t0_27) → ((t0_27 = 0 ∧ s0 273 i2_4 = -1) ∨ (s0 273 i2_4 ≠ -1 ∧ xJ t0_27 = xJ 1 <<< (xJ i2_4 &&& 31))) → lv_has ls 3 [(0, .ref (h0 + 268)), (2, .int (xJ i2_4))] → W p l e { frames := 0, cells := 0, slots := 0, locals := 0 } s m args below meth c H locs 0 0 Q (F0 m 27 ls [.int (xJ t0_27), .int (xJ i1_4)]) := by
        intro t0_27 ls rt0_27 v27_0  hl
        refine lv_ior hx hb dX11_lampSet_27 ?_
        refine x_anyE (fun x3 ex3 rx3 => ?_)
        have W27 := ex3
        refine lv_istore_n (lv' := [(1, .int (xJ x3)), (0, .ref (h0 + 268)), (2, .int (xJ i2_4))]) hx hb dX11_lampSet_28 rfl hl (by decide) rfl (fun ls hl => ?_)
        refine x_iinc (lv' := [(2, .int (xJ (i2_4 + 1))), (1, .int (xJ x3)), (0, .ref (h0 + 268))]) hx hb hl 2 rfl dX11_lampSet_29 (by decide) rfl (fun ls hl => ?_)
        refine lv_goto (tgt := 4) hx hb dX11_lampSet_32 (by decide) ?_
        exact ih4 x3 (i2_4 + 1) ls rx3 (by omega) (by omega) (by
            rw [show (i2_4 + 1).toNat = i2_4.toNat + 1 from by omega]
            rcases v27_0 with g | g
            · rw [zbv_n (i := i2_4) (by omega) (fun c => c g.2), ← v4_1]
              exact xJ_or0 ri1_4 rx3 (by rw [← g.1]; exact W27)
            · rw [zbv_y (i := i2_4) (by omega) g.1, ← v4_1]
              exact zbo_j (by rw [v4_1]; exact zbv_r (by omega)) (by omega) g.2 rx3 W27) (by have hm := hm_4 (); omega)  (lv_sub hl [2, 1, 0] rfl)
      refine x_icmp_ne (tgt := 24) hx hb rx2 (by decide) dX11_lampSet_17 (by decide) (fun c4 => ?_) (fun c4 => ?_)
      · skip
        refine x_iconst hx hb dX11_lampSet_24 ?_
        refine x_iload_n hx hb hl 2 rfl dX11_lampSet_25 rfl ?_
        refine lv_ishl hx hb dX11_lampSet_26 ?_
        refine x_anyE (fun x5 ex5 rx5 => ?_)
        have V26 := ex5
        exact J27 x5 ls rx5 (by first | exact Or.inl ⟨by omega, by omega⟩ | exact Or.inr ⟨by omega, V26⟩)  (lv_sub hl [0, 2] rfl)
      refine x_iconst hx hb dX11_lampSet_20 ?_
      refine lv_goto (tgt := 27) hx hb dX11_lampSet_21 (by decide) ?_
      exact J27 0 ls (by decide) (by first | exact Or.inl ⟨by omega, by omega⟩ | exact Or.inr ⟨by omega, V26⟩)  (lv_sub hl [0, 2] rfl)
  exact L4 ((4 - 0 : Int).toNat + 1) 0 0 ls (by decide) (by decide) (by omega) (rfl) (Nat.lt_succ_self _)  (lv_sub hl [2, 1, 0] rfl)
set_option maxHeartbeats 4000000 in
set_option maxRecDepth 100000 in
theorem c_X11_countF (l : Launch) (D : va_G) (g : xG) (T : Nat × Nat × Nat) (h0 : Nat) (s0 : xS) (hσ : xRR s0) (w : Int) (rw : xR w) (K9 : Int → Int) (n9 : Int → Int) (w9 : Int → Int → Int) (q9 : zLaw) (l9 : Int → Int) (hok : zLok q9) (hlr : zLR s0 q9) (hK : ∀ t : Int, 0 ≤ t → t < 100 → s0 272 t = K9 t ∧ 0 ≤ K9 t ∧ K9 t ≤ 3) (hlm : ∀ i : Int, 0 ≤ i → i < 4 → s0 273 i = l9 i) (hw : ∀ j : Int, 0 ≤ j → j < 2 → s0 274 j = n9 j ∧ ∀ i : Int, 0 ≤ i → i < n9 j → s0 275 (60 * j + i) = w9 j i) (hY : zYq (zYr s0)) (hB : 0 ≤ s0 269 36 ∧ s0 269 36 < 1024) (hJt : zJt K9 (zY4 (zYr s0))) (hb34 : 0 ≤ s0 269 34 ∧ s0 269 34 ≤ 3) (hb35 : 0 ≤ s0 269 35 ∧ s0 269 35 < 1024) (p0 : IMn s0) (p1 : IMk s0) (p2 : IMo s0) : Met l yX11_count (xws yX11_count cX11_count 2 (some .int)) { frames := 3, cells := 0, slots := 0, locals := 71 } (xP [.ref (h0 + 268), .int (xJ w)] D g T h0 s0) (xQi D g h0 (fun r τ => xFr (fun k => k = 293 ∨ k = 294) s0 τ ∧ (((IMn τ) ∧ (IMk τ) ∧ (IMo τ) ∧ True) ∧ (r = zcw K9 l9 n9 q9 (zYN (s0 269) 0 0 0) (s0 268 8) w)))) 0 0 (xA h0) := by
  refine x_met hσ (by decide) (Nat.le_of_ble_eq_true rfl) ?_
  intro p e s m args below meth c hx hb hr hml hown hT hlk hnm hE hW ls hl
  have hl : lv_has ls 2 [(0, .ref (h0 + 268)), (1, .int (xJ w))] := hl
  obtain ⟨Q, eQ⟩ : ∃ Q, Q = MQ below (xQi D g h0 (fun r τ => xFr (fun k => k = 293 ∨ k = 294) s0 τ ∧ (((IMn τ) ∧ (IMk τ) ∧ (IMo τ) ∧ True) ∧ (r = zcw K9 l9 n9 q9 (zYN (s0 269) 0 0 0) (s0 268 8) w)))) args s 0 0 (xA h0) := ⟨_, rfl⟩
  rw [← eQ]
  generalize hHe : ([] : List Loc) = locs at hW ⊢
  obtain ⟨H, eH⟩ : ∃ H, H = s.heap := ⟨_, rfl⟩
  rw [← eH] at hW ⊢
  have hF : xFr (fun k => k = 293 ∨ k = 294) s0 s0 := xFr.rf
  have k268_8 : s0 268 8 = s0 268 8 := rfl
  have k268_58 : s0 268 58 = s0 268 58 := rfl
  have k268_17 : s0 268 17 = s0 268 17 := rfl
  have k268_8 : s0 268 8 = s0 268 8 := rfl
  have k268_48 : s0 268 48 = s0 268 48 := rfl
  have k268_17 : s0 268 17 = s0 268 17 := rfl
  have k268_8 : s0 268 8 = s0 268 8 := rfl
  have hm7 := (IMn.n1 p0).2.2.2.1
  have hl6 := hlr.2.2.2.2.2
  have hY0 : zYq (zYN (s0 269) 0 0 0) := zYN_q hY
  have hj0 : ∀ i : Int, 0 ≤ i → i < 2 → (zYN (s0 269) 0 0 0 i ≠ -1 ↔ xsh (s0 269 34) i % 2 = 1) := fun i i1 i2 => zYN_Jn ⟨i1, i2⟩ ((IMn.n1 p0).1 i i1 i2).1
  have hf0 : ∀ i : Int, 0 ≤ i → i < 10 → (zYN (s0 269) 0 0 0 (4 + i) ≠ -1 ↔ xsh (s0 269 35) i % 2 = 1) := fun i i1 i2 => zYN_Fn ⟨i1, i2⟩ ((IMn.n1 p0).2.2.1 (4 + i) (by omega) (by omega)).1
  refine x_iload_n hx hb hl 1 rfl dX11_count_0 rfl ?_
  rcases (show (w < 0 ∨ 8 < w) ∨ w = 0 ∨ w = 1 ∨ w = 2 ∨ w = 3 ∨ w = 4 ∨ w = 5 ∨ w = 6 ∨ w = 7 ∨ w = 8 from by omega) with c1 | c1 | c1 | c1 | c1 | c1 | c1 | c1 | c1 | c1
  · refine x_tabOut (tgt := 124) hx hb rw dX11_count_1 c1 (by decide) ?_
    refine x_iload_n hx hb hl 1 rfl dX11_count_124 rfl ?_
    refine x_bipush hx hb dX11_count_125 (by decide) ?_
    refine x_bipush hx hb dX11_count_127 (by decide) ?_
    refine x_goi (x_runS (As := [.int (xJ w), .int (xJ 10), .int (xJ 11)]) hx hb hml hown hT hE hW hl.1 cf_X11_in wq1383 wq1382 (c_X11_in l D g T h0 s0 hW.2.1 w rw 10 (by decide) 11 (by decide)) ⟨rfl, rfl, ⟨by decide, by decide⟩, ⟨by decide, by decide⟩⟩ rfl rfl (Nat.le_of_ble_eq_true rfl) dX11_count_129) hW (fun x2 s3 H locs rx2 hp4 hW => ?_)
    obtain ⟨es3, hp4⟩ := hp4
    subst es3
    have ghp4 := hp4
    have J158 : ∀ (H : Heap) (locs : List Loc) (ls : Array Slot), ((w < 10 ∨ 11 < w) ∨ (zYN (s0 269) 0 0 0) (w - 10) = -1) → xW D g h0 s H locs s0 → lv_has ls 2 [(0, .ref (h0 + 268)), (1, .int (xJ w))] → W p l e { frames := 3, cells := 0, slots := 0, locals := 71 } s m args below meth c H locs 0 0 Q (F0 m 158 ls []) := by
      intro H locs ls v158_0 hW hl
      refine x_iload_n hx hb hl 1 rfl dX11_count_158 rfl ?_
      refine x_bipush hx hb dX11_count_159 (by decide) ?_
      refine x_bipush hx hb dX11_count_161 (by decide) ?_
      refine x_goi (x_runS (As := [.int (xJ w), .int (xJ 20), .int (xJ 21)]) hx hb hml hown hT hE hW hl.1 cf_X11_in wq1383 wq1382 (c_X11_in l D g T h0 s0 hW.2.1 w rw 20 (by decide) 21 (by decide)) ⟨rfl, rfl, ⟨by decide, by decide⟩, ⟨by decide, by decide⟩⟩ rfl rfl (Nat.le_of_ble_eq_true rfl) dX11_count_163) hW (fun x5 s6 H locs rx5 hp7 hW => ?_)
      obtain ⟨es6, hp7⟩ := hp7
      subst es6
      have ghp7 := hp7
      refine x_if_eq (tgt := 191) hx hb rx5 dX11_count_166 (by decide) (fun c8 => ?_) (fun c8 => ?_)
      · skip
        refine x_iload_n hx hb hl 1 rfl dX11_count_191 rfl ?_
        refine x_bipush hx hb dX11_count_192 (by decide) ?_
        refine x_bipush hx hb dX11_count_194 (by decide) ?_
        refine x_goi (x_runS (As := [.int (xJ w), .int (xJ 30), .int (xJ 33)]) hx hb hml hown hT hE hW hl.1 cf_X11_in wq1383 wq1382 (c_X11_in l D g T h0 s0 hW.2.1 w rw 30 (by decide) 33 (by decide)) ⟨rfl, rfl, ⟨by decide, by decide⟩, ⟨by decide, by decide⟩⟩ rfl rfl (Nat.le_of_ble_eq_true rfl) dX11_count_196) hW (fun x9 s10 H locs rx9 hp11 hW => ?_)
        obtain ⟨es10, hp11⟩ := hp11
        subst es10
        have ghp11 := hp11
        refine x_if_eq (tgt := 212) hx hb rx9 dX11_count_199 (by decide) (fun c12 => ?_) (fun c12 => ?_)
        · skip
          refine x_iload_n hx hb hl 1 rfl dX11_count_212 rfl ?_
          refine x_bipush hx hb dX11_count_213 (by decide) ?_
          refine x_sipush hx hb dX11_count_215 (by decide) ?_
          refine x_goi (x_runS (As := [.int (xJ w), .int (xJ 100), .int (xJ 199)]) hx hb hml hown hT hE hW hl.1 cf_X11_in wq1383 wq1382 (c_X11_in l D g T h0 s0 hW.2.1 w rw 100 (by decide) 199 (by decide)) ⟨rfl, rfl, ⟨by decide, by decide⟩, ⟨by decide, by decide⟩⟩ rfl rfl (Nat.le_of_ble_eq_true rfl) dX11_count_218) hW (fun x13 s14 H locs rx13 hp15 hW => ?_)
          obtain ⟨es14, hp15⟩ := hp15
          subst es14
          have ghp15 := hp15
          refine x_if_eq (tgt := 236) hx hb rx13 dX11_count_221 (by decide) (fun c16 => ?_) (fun c16 => ?_)
          · skip
            refine x_iconst hx hb dX11_count_236 ?_
            rw [eQ]
            exact x_iret hx hb hr hlk hW (by decide) ⟨hF, ⟨p0, p1, p2, trivial⟩, by unfold zcw; (repeat' split) <;> omega⟩ dX11_count_237
          refine x_aload_n hx hb hl 0 rfl dX11_count_224 rfl ?_
          refine x_get (j := 3) (v := .ref (h0 + 272)) hx hb hown hT hE hW cls_X11 (Or.inl (by decide)) (so_268 h0 g _) (by decide) rfl wq1188 dX11_count_225 ?_
          refine x_iload_n hx hb hl 1 rfl dX11_count_228 rfl ?_
          refine x_bipush hx hb dX11_count_229 (by decide) ?_
          refine x_isub hx hb dX11_count_231 ?_
          refine x_iald hx hb hE hW (Or.inl (by decide)) (sa_272 h0 g _) (by omega) (by decide) dX11_count_232 ?_
          refine x_rd hW (fun x17 ex17 rx17 => ?_)
          have V232 : x17 = K9 (w - 100) := ex17.trans (hK _ (by omega) (by omega)).1
          refine lv_goto (tgt := 237) hx hb dX11_count_233 (by decide) ?_
          rw [eQ]
          exact x_iret hx hb hr hlk hW rx17 ⟨hF, ⟨p0, p1, p2, trivial⟩, by unfold zcw; (repeat' split) <;> omega⟩ dX11_count_237
        refine x_aload_n hx hb hl 0 rfl dX11_count_202 rfl ?_
        refine x_get (j := 4) (v := .ref (h0 + 273)) hx hb hown hT hE hW cls_X11 (Or.inl (by decide)) (so_268 h0 g _) (by decide) rfl wq1189 dX11_count_203 ?_
        refine x_iload_n hx hb hl 1 rfl dX11_count_206 rfl ?_
        refine x_bipush hx hb dX11_count_207 (by decide) ?_
        refine x_isub hx hb dX11_count_209 ?_
        refine x_iald hx hb hE hW (Or.inl (by decide)) (sa_273 h0 g _) (by omega) (by decide) dX11_count_210 ?_
        refine x_rd hW (fun x18 ex18 rx18 => ?_)
        have bx18 : -1 ≤ x18 ∧ x18 ≤ 99 := by rw [ex18]; exact IMn.l p0 _ (by omega) (by omega)
        have V210 : x18 = l9 (w - 30) := ex18.trans (hlm _ (by omega) (by omega))
        rw [eQ]
        exact x_iret hx hb hr hlk hW rx18 ⟨hF, ⟨p0, p1, p2, trivial⟩, by unfold zcw; (repeat' split) <;> omega⟩ dX11_count_211
      refine x_aload_n hx hb hl 0 rfl dX11_count_169 rfl ?_
      refine x_get (j := 5) (v := .ref (h0 + 274)) hx hb hown hT hE hW cls_X11 (Or.inl (by decide)) (so_268 h0 g _) (by decide) rfl wq1190 dX11_count_170 ?_
      refine x_iload_n hx hb hl 1 rfl dX11_count_173 rfl ?_
      refine x_bipush hx hb dX11_count_174 (by decide) ?_
      refine x_isub hx hb dX11_count_176 ?_
      refine x_iald hx hb hE hW (Or.inl (by decide)) (sa_274 h0 g _) (by omega) (by decide) dX11_count_177 ?_
      refine x_rd hW (fun x19 ex19 rx19 => ?_)
      have bx19 : 0 ≤ x19 ∧ x19 ≤ 60 := by rw [ex19]; exact IMn.w p0 _ (by omega) (by omega)
      have V177 : x19 = n9 (w - 20) := ex19.trans (hw _ (by omega) (by omega)).1
      refine x_aload_n hx hb hl 0 rfl dX11_count_178 rfl ?_
      refine x_get (j := 0) (v := .ref (h0 + 269)) hx hb hown hT hE hW cls_X11 (Or.inl (by decide)) (so_268 h0 g _) (by decide) rfl wq1185 dX11_count_179 ?_
      refine x_iconst hx hb dX11_count_182 ?_
      refine x_iload_n hx hb hl 1 rfl dX11_count_183 rfl ?_
      refine x_iadd hx hb dX11_count_184 ?_
      refine x_bipush hx hb dX11_count_185 (by decide) ?_
      refine x_isub hx hb dX11_count_187 ?_
      refine x_iald hx hb hE hW (Or.inl (by decide)) (sa_269 h0 g _) (by omega) (by decide) dX11_count_188 ?_
      refine x_rd hW (fun x20 ex20 rx20 => ?_)
      have bx20 : 0 ≤ x20 := by rw [ex20]; exact (IMn.n1 p0).2.1 _ (by omega) (by omega)
      have V188 : x20 = (zYN (s0 269) 0 0 0) (w - 18) := by
        have e : x20 = s0 269 (w - 18) := ex20.trans (congrArg (s0 269) (by omega))
        rw [zYN_S (by omega)]
        exact e
      refine x_isub hx hb dX11_count_189 ?_
      rw [eQ]
      exact x_iret hx hb hr hlk hW (by omega) ⟨hF, ⟨p0, p1, p2, trivial⟩, by unfold zcw; (repeat' split) <;> omega⟩ dX11_count_190
    refine x_if_eq (tgt := 158) hx hb rx2 dX11_count_132 (by decide) (fun c21 => ?_) (fun c21 => ?_)
    · skip
      exact J158 H locs ls (by omega) hW (lv_sub hl [0, 1] rfl)
    refine x_aload_n hx hb hl 0 rfl dX11_count_135 rfl ?_
    refine x_iload_n hx hb hl 1 rfl dX11_count_136 rfl ?_
    refine x_bipush hx hb dX11_count_137 (by decide) ?_
    refine x_isub hx hb dX11_count_139 ?_
    refine x_goi (x_runV (As := [.int (xJ (w - 10))]) hx hb hml hown hT hE hW hl.1 (Or.inl (by decide)) (so_268 h0 g _) rfl cf_X11_isJudge wq1409 wq109 wq1407 (c_X11_isJudgeJ l D g T h0 s0 hW.2.1 (w - 10) (by omega) p0 p1 p2) ⟨rfl, rfl, ⟨by decide, by decide⟩, ⟨by decide, by decide⟩⟩ rfl rfl (Nat.le_of_ble_eq_true rfl) dX11_count_140) hW (fun x22 s23 H locs rx22 hp24 hW => ?_)
    obtain ⟨es23, hp24⟩ := hp24
    subst es23
    have ghp24 := hp24
    have H140 := ghp24
    have J140 := hj0 (w - 10) (by omega) (by omega)
    refine x_if_eq (tgt := 158) hx hb rx22 dX11_count_143 (by decide) (fun c25 => ?_) (fun c25 => ?_)
    · skip
      exact J158 H locs ls (by omega) hW (lv_sub hl [0, 1] rfl)
    refine x_aload_n hx hb hl 0 rfl dX11_count_146 rfl ?_
    refine x_get (j := 0) (v := .ref (h0 + 269)) hx hb hown hT hE hW cls_X11 (Or.inl (by decide)) (so_268 h0 g _) (by decide) rfl wq1185 dX11_count_147 ?_
    refine x_iconst hx hb dX11_count_150 ?_
    refine x_iload_n hx hb hl 1 rfl dX11_count_151 rfl ?_
    refine x_iadd hx hb dX11_count_152 ?_
    refine x_bipush hx hb dX11_count_153 (by decide) ?_
    refine x_isub hx hb dX11_count_155 ?_
    refine x_iald hx hb hE hW (Or.inl (by decide)) (sa_269 h0 g _) (by omega) (by decide) dX11_count_156 ?_
    refine x_rd hW (fun x26 ex26 rx26 => ?_)
    have bx26 : 0 ≤ x26 ∧ x26 ≤ 99 := by rw [ex26]; exact (IMn.n1 p0).1 _ (by omega) (by omega)
    have V156 : x26 = (zYN (s0 269) 0 0 0) (w - 10) := by
      have e : x26 = s0 269 (w - 10) := ex26.trans (congrArg (s0 269) (by omega))
      rw [zYN_J (by omega), zrj_p (by omega)]
      exact e
    rw [eQ]
    exact x_iret hx hb hr hlk hW rx26 ⟨hF, ⟨p0, p1, p2, trivial⟩, by unfold zcw; (repeat' split) <;> omega⟩ dX11_count_157
  · refine x_tabIn (v := 0) (tgt := 52) hx hb rw c1 dX11_count_1 (by decide) rfl (by decide) ?_
    refine x_aload_n hx hb hl 0 rfl dX11_count_52 rfl ?_
    refine x_get (j := 0) (v := .ref (h0 + 269)) hx hb hown hT hE hW cls_X11 (Or.inl (by decide)) (so_268 h0 g _) (by decide) rfl wq1185 dX11_count_53 ?_
    refine x_bipush hx hb dX11_count_56 (by decide) ?_
    refine x_iald hx hb hE hW (Or.inl (by decide)) (sa_269 h0 g _) ⟨by decide, by decide⟩ (by decide) dX11_count_58 ?_
    refine x_rd hW (fun x27 ex27 rx27 => ?_)
    have bx27 : 0 ≤ x27 ∧ x27 ≤ 9999 := by rw [ex27]; exact (IMn.n1 p0).2.2.2.1
    have V58 : x27 = (zYN (s0 269) 0 0 0) 44 := ex27
    rw [eQ]
    exact x_iret hx hb hr hlk hW rx27 ⟨hF, ⟨p0, p1, p2, trivial⟩, by unfold zcw; (repeat' split) <;> omega⟩ dX11_count_59
  · refine x_tabIn (v := 1) (tgt := 60) hx hb rw c1 dX11_count_1 (by decide) rfl (by decide) ?_
    refine x_aload_n hx hb hl 0 rfl dX11_count_60 rfl ?_
    refine x_get (j := 0) (v := .ref (h0 + 269)) hx hb hown hT hE hW cls_X11 (Or.inl (by decide)) (so_268 h0 g _) (by decide) rfl wq1185 dX11_count_61 ?_
    refine x_bipush hx hb dX11_count_64 (by decide) ?_
    refine x_iald hx hb hE hW (Or.inl (by decide)) (sa_269 h0 g _) ⟨by decide, by decide⟩ (by decide) dX11_count_66 ?_
    refine x_rd hW (fun x28 ex28 rx28 => ?_)
    have V66 : x28 = zbv (zYN (s0 269) 0 0 0) 2 := ex28.trans (zbv_2 hb34 hj0).symm
    rw [eQ]
    exact x_iret hx hb hr hlk hW rx28 ⟨hF, ⟨p0, p1, p2, trivial⟩, by unfold zcw; (repeat' split) <;> omega⟩ dX11_count_67
  · refine x_tabIn (v := 2) (tgt := 68) hx hb rw c1 dX11_count_1 (by decide) rfl (by decide) ?_
    refine x_aload_n hx hb hl 0 rfl dX11_count_68 rfl ?_
    refine x_get (j := 0) (v := .ref (h0 + 269)) hx hb hown hT hE hW cls_X11 (Or.inl (by decide)) (so_268 h0 g _) (by decide) rfl wq1185 dX11_count_69 ?_
    refine x_bipush hx hb dX11_count_72 (by decide) ?_
    refine x_iald hx hb hE hW (Or.inl (by decide)) (sa_269 h0 g _) ⟨by decide, by decide⟩ (by decide) dX11_count_74 ?_
    refine x_rd hW (fun x29 ex29 rx29 => ?_)
    have V74 : x29 = zbv (fun i => (zYN (s0 269) 0 0 0) (4 + i)) 10 := ex29.trans (zbv_10 hb35 hf0).symm
    rw [eQ]
    exact x_iret hx hb hr hlk hW rx29 ⟨hF, ⟨p0, p1, p2, trivial⟩, by unfold zcw; (repeat' split) <;> omega⟩ dX11_count_75
  · refine x_tabIn (v := 3) (tgt := 76) hx hb rw c1 dX11_count_1 (by decide) rfl (by decide) ?_
    refine x_aload_n hx hb hl 0 rfl dX11_count_76 rfl ?_
    refine x_goi (x_runV (As := []) hx hb hml hown hT hE hW hl.1 (Or.inl (by decide)) (so_268 h0 g _) rfl cf_X11_lampSet wq1784 wq165 wq1782 (c_X11_lampSetF l D g T h0 s0 hW.2.1 p0 p1 p2) ⟨rfl, rfl, ⟨by decide, by decide⟩, ⟨by decide, by decide⟩⟩ rfl rfl (Nat.le_of_ble_eq_true rfl) dX11_count_77) hW (fun x30 s31 H locs rx30 hp32 hW => ?_)
    obtain ⟨es31, hp32⟩ := hp32
    subst es31
    have ghp32 := hp32
    have V77 : x30 = zbv l9 4 := ghp32.trans (zbv_c (fun i i1 i2 => by rw [hlm i i1 (by omega)]))
    rw [eQ]
    exact x_iret hx hb hr hlk hW rx30 ⟨hF, ⟨p0, p1, p2, trivial⟩, by unfold zcw; (repeat' split) <;> omega⟩ dX11_count_80
  · refine x_tabIn (v := 4) (tgt := 81) hx hb rw c1 dX11_count_1 (by decide) rfl (by decide) ?_
    refine x_aload_n hx hb hl 0 rfl dX11_count_81 rfl ?_
    refine x_goi (x_runV (As := []) hx hb hml hown hT hE hW hl.1 (Or.inl (by decide)) (so_268 h0 g _) rfl cf_X11_owedAll wq1788 wq166 wq1786 (c_X11_owedAllF l D g T h0 s0 hW.2.1 (fun f f1 f2 => (hY0 f f1 f2).2.1) p0 p1 p2) ⟨rfl, rfl, ⟨by decide, by decide⟩, ⟨by decide, by decide⟩⟩ rfl rfl (Nat.le_of_ble_eq_true rfl) dX11_count_82) hW (fun x33 s34 H locs rx33 hp35 hW => ?_)
    obtain ⟨es34, hp35⟩ := hp35
    subst es34
    have ghp35 := hp35
    have V82 := ghp35
    rw [eQ]
    exact x_iret hx hb hr hlk hW rx33 ⟨hF, ⟨p0, p1, p2, trivial⟩, by unfold zcw; (repeat' split) <;> omega⟩ dX11_count_85
  · refine x_tabIn (v := 5) (tgt := 86) hx hb rw c1 dX11_count_1 (by decide) rfl (by decide) ?_
    refine x_aload_n hx hb hl 0 rfl dX11_count_86 rfl ?_
    refine x_get (j := 17) (v := .int (xJ (s0 268 17))) hx hb hown hT hE hW cls_X11 (Or.inl (by decide)) (so_268 h0 g _) (by decide) rfl wq1202 dX11_count_87 ?_
    refine x_rd hW (fun x36 ex36 rx36 => ?_)
    have bx36 : 0 ≤ x36 ∧ x36 ≤ 16 := by rw [ex36]; exact IMk.c p1
    have fx36 : x36 = s0 268 17 := ex36.trans k268_17
    have V87 : x36 = q9.2.2.2.2.2 := ex36.trans hl6
    rw [eQ]
    exact x_iret hx hb hr hlk hW rx36 ⟨hF, ⟨p0, p1, p2, trivial⟩, by unfold zcw; (repeat' split) <;> omega⟩ dX11_count_90
  · refine x_tabIn (v := 6) (tgt := 91) hx hb rw c1 dX11_count_1 (by decide) rfl (by decide) ?_
    refine x_aload_n hx hb hl 0 rfl dX11_count_91 rfl ?_
    refine x_get (j := 8) (v := .int (xJ (s0 268 8))) hx hb hown hT hE hW cls_X11 (Or.inl (by decide)) (so_268 h0 g _) (by decide) rfl wq1193 dX11_count_92 ?_
    refine x_rd hW (fun x37 ex37 rx37 => ?_)
    have bx37 : 0 ≤ x37 ∧ x37 ≤ 260 := by rw [ex37]; exact IMn.t p0
    have fx37 : x37 = s0 268 8 := ex37.trans k268_8
    have V92 : x37 = s0 268 8 := ex37
    rw [eQ]
    exact x_iret hx hb hr hlk hW rx37 ⟨hF, ⟨p0, p1, p2, trivial⟩, by unfold zcw; (repeat' split) <;> omega⟩ dX11_count_95
  · refine x_tabIn (v := 7) (tgt := 96) hx hb rw c1 dX11_count_1 (by decide) rfl (by decide) ?_
    refine x_aload_n hx hb hl 0 rfl dX11_count_96 rfl ?_
    refine x_get (j := 0) (v := .ref (h0 + 269)) hx hb hown hT hE hW cls_X11 (Or.inl (by decide)) (so_268 h0 g _) (by decide) rfl wq1185 dX11_count_97 ?_
    refine x_bipush hx hb dX11_count_100 (by decide) ?_
    refine x_iald hx hb hE hW (Or.inl (by decide)) (sa_269 h0 g _) ⟨by decide, by decide⟩ (by decide) dX11_count_102 ?_
    refine x_rd hW (fun x38 ex38 rx38 => ?_)
    have bx38 : 0 ≤ x38 ∧ x38 ≤ 65535 := by rw [ex38]; exact (IMn.n1 p0).2.2.2.2
    have V102 : x38 = (zYN (s0 269) 0 0 0) 45 := ex38
    rw [eQ]
    exact x_iret hx hb hr hlk hW rx38 ⟨hF, ⟨p0, p1, p2, trivial⟩, by unfold zcw; (repeat' split) <;> omega⟩ dX11_count_103
  · refine x_tabIn (v := 8) (tgt := 104) hx hb rw c1 dX11_count_1 (by decide) rfl (by decide) ?_
    refine x_aload_n hx hb hl 0 rfl dX11_count_104 rfl ?_
    refine x_aload_n hx hb hl 0 rfl dX11_count_105 rfl ?_
    refine x_get (j := 0) (v := .ref (h0 + 269)) hx hb hown hT hE hW cls_X11 (Or.inl (by decide)) (so_268 h0 g _) (by decide) rfl wq1185 dX11_count_106 ?_
    refine x_bipush hx hb dX11_count_109 (by decide) ?_
    refine x_iald hx hb hE hW (Or.inl (by decide)) (sa_269 h0 g _) ⟨by decide, by decide⟩ (by decide) dX11_count_111 ?_
    refine x_rd hW (fun x39 ex39 rx39 => ?_)
    have bx39 : 0 ≤ x39 ∧ x39 ≤ 9999 := by rw [ex39]; exact (IMn.n1 p0).2.2.2.1
    have V111 : x39 = (zYN (s0 269) 0 0 0) 44 := ex39
    refine x_goi (x_runV (As := [.int (xJ x39)]) hx hb hml hown hT hE hW hl.1 (Or.inl (by decide)) (so_268 h0 g _) rfl cf_X11_isNight wq1604 wq143 wq1602 (c_X11_isNightF l D g T h0 s0 hW.2.1 x39 rx39 q9 (hok) (by first | exact hlr | exact hlr.f (fun k hk => hF k (by omega)) (by omega)) (by omega) p0 p1 p2) ⟨rfl, rfl, ⟨by decide, by decide⟩, ⟨by decide, by decide⟩⟩ rfl rfl (Nat.le_of_ble_eq_true rfl) dX11_count_112) hW (fun x40 s41 H locs rx40 hp42 hW => ?_)
    obtain ⟨fs41, hp42⟩ := hp42
    have hF43 := hF.call fs41 (fun k h => by omega)
    have q44 : s41 268 8 = s0 268 8 := (congrFun (fs41 _ (by omega)) _).trans k268_8
    have q45 : s41 268 58 = s0 268 58 := (congrFun (fs41 _ (by omega)) _).trans k268_58
    have q46 : s41 268 17 = s0 268 17 := (congrFun (fs41 _ (by omega)) _).trans k268_17
    have q47 : s41 268 48 = s0 268 48 := (congrFun (fs41 _ (by omega)) _).trans k268_48
    have ghp42 := hp42.2
    have V112 : x40 = zni q9 ((zYN (s0 269) 0 0 0) 44) := by rw [← V111]; exact ghp42
    have R112 := zni_r q9 ((zYN (s0 269) 0 0 0) 44)
    refine x_if_eq (tgt := 122) hx hb rx40 dX11_count_115 (by decide) (fun c48 => ?_) (fun c48 => ?_)
    · skip
      refine x_iconst hx hb dX11_count_122 ?_
      rw [eQ]
      exact x_iret hx hb hr hlk hW (by decide) ⟨hF43, ⟨hp42.1.1, hp42.1.2.1, hp42.1.2.2.1, trivial⟩, by unfold zcw; (repeat' split) <;> omega⟩ dX11_count_123
    refine x_iconst hx hb dX11_count_118 ?_
    refine lv_goto (tgt := 123) hx hb dX11_count_119 (by decide) ?_
    rw [eQ]
    exact x_iret hx hb hr hlk hW (by decide) ⟨hF43, ⟨hp42.1.1, hp42.1.2.1, hp42.1.2.2.1, trivial⟩, by unfold zcw; (repeat' split) <;> omega⟩ dX11_count_123
set_option maxHeartbeats 4000000 in
set_option maxRecDepth 100000 in
theorem c_X11_tapeNumberF (l : Launch) (D : va_G) (g : xG) (T : Nat × Nat × Nat) (h0 : Nat) (s0 : xS) (hσ : xRR s0) (x : Int) (rx : xR x) (hx0 : 0 ≤ x ∧ x ≤ 64) (p0 : IMn s0) (p1 : IMk s0) (p2 : IMo s0) : Met l yX11_tapeNumber (xws yX11_tapeNumber cX11_tapeNumber 4 (some .int)) { frames := 0, cells := 0, slots := 0, locals := 0 } (xP [.ref (h0 + 268), .int (xJ x)] D g T h0 s0) (xQi D g h0 (fun r τ => s0 = τ ∧ (r = znb (xm8 (s0 276)) (4 * x) 4))) 0 0 (xA h0) := by
  refine x_met hσ (by decide) (Nat.le_of_ble_eq_true rfl) ?_
  intro p e s m args below meth c hx hb hr hml hown hT hlk hnm hE hW ls hl
  have hl : lv_has ls 4 [(0, .ref (h0 + 268)), (1, .int (xJ x))] := hl
  obtain ⟨Q, eQ⟩ : ∃ Q, Q = MQ below (xQi D g h0 (fun r τ => s0 = τ ∧ (r = znb (xm8 (s0 276)) (4 * x) 4))) args s 0 0 (xA h0) := ⟨_, rfl⟩
  rw [← eQ]
  generalize hHe : ([] : List Loc) = locs at hW ⊢
  obtain ⟨H, eH⟩ : ∃ H, H = s.heap := ⟨_, rfl⟩
  rw [← eH] at hW ⊢
  have k268_8 : s0 268 8 = s0 268 8 := rfl
  have k268_58 : s0 268 58 = s0 268 58 := rfl
  have k268_17 : s0 268 17 = s0 268 17 := rfl
  have k268_48 : s0 268 48 = s0 268 48 := rfl
  refine x_iconst hx hb dX11_tapeNumber_0 ?_
  refine lv_istore_n (lv' := [(2, .int (xJ 0)), (0, .ref (h0 + 268)), (1, .int (xJ x))]) hx hb dX11_tapeNumber_1 rfl hl (by decide) rfl (fun ls hl => ?_)
  refine x_iconst hx hb dX11_tapeNumber_2 ?_
  refine x_iload_n hx hb hl 2 rfl dX11_tapeNumber_3 rfl ?_
  refine x_imul hx hb dX11_tapeNumber_4 ?_
  refine x_nm (fun x1 ex1 => ?_)
  refine lv_istore_n (lv' := [(3, .int (xJ x1)), (2, .int (xJ 0)), (0, .ref (h0 + 268)), (1, .int (xJ x))]) hx hb dX11_tapeNumber_5 rfl hl (by decide) rfl (fun ls hl => ?_)
  have L6 : ∀ (fu : Nat) (i2_6 : Int) (i3_6 : Int) (ls : Array Slot), (xR i2_6) → (xR i3_6) → (4 * x ≤ i3_6 ∧ i3_6 ≤ 4 * x + 4) → (i2_6 = znb (xm8 (s0 276)) (4 * x) (i3_6 - 4 * x).toNat) → (4 * x + 4 - i3_6).toNat < fu → lv_has ls 4 [(0, .ref (h0 + 268)), (1, .int (xJ x)), (2, .int (xJ i2_6)), (3, .int (xJ i3_6))] → W p l e { frames := 0, cells := 0, slots := 0, locals := 0 } s m args below meth c H locs 0 0 Q (F0 m 6 ls []) := by
    intro fu
    induction fu with
    | zero => intro i2_6 i3_6 ls ri2_6 ri3_6 v6_0 v6_1 hm; exact absurd hm (Nat.not_lt_zero _)
    | succ fu ih6 =>
      intro i2_6 i3_6 ls ri2_6 ri3_6 v6_0 v6_1 hm  hl
      have hm_6 := fun (_ : Unit) => hm
      clear hm
      refine x_iload_n hx hb hl 3 rfl dX11_tapeNumber_6 rfl ?_
      refine x_iconst hx hb dX11_tapeNumber_7 ?_
      refine x_iload_n hx hb hl 1 rfl dX11_tapeNumber_8 rfl ?_
      refine x_imul hx hb dX11_tapeNumber_9 ?_
      refine x_iconst hx hb dX11_tapeNumber_10 ?_
      refine x_iadd hx hb dX11_tapeNumber_11 ?_
      refine x_icmp_ge (tgt := 37) hx hb ri3_6 (by omega) dX11_tapeNumber_12 (by decide) (fun c2 => ?_) (fun c2 => ?_)
      · skip
        refine x_iload_n hx hb hl 2 rfl dX11_tapeNumber_37 rfl ?_
        rw [eQ]
        exact x_iret hx hb hr hlk hW ri2_6 ⟨rfl, by rw [v6_1, show (i3_6 - 4 * x).toNat = 4 from by omega]⟩ dX11_tapeNumber_38
      refine x_iload_n hx hb hl 2 rfl dX11_tapeNumber_15 rfl ?_
      refine x_bipush hx hb dX11_tapeNumber_16 (by decide) ?_
      refine lv_ishl hx hb dX11_tapeNumber_18 ?_
      refine x_anyE (fun x3 ex3 rx3 => ?_)
      have V18 := ex3
      refine x_aload_n hx hb hl 0 rfl dX11_tapeNumber_19 rfl ?_
      refine x_get (j := 7) (v := .ref (h0 + 276)) hx hb hown hT hE hW cls_X11 (Or.inl (by decide)) (so_268 h0 g _) (by decide) rfl wq1192 dX11_tapeNumber_20 ?_
      refine x_iload_n hx hb hl 3 rfl dX11_tapeNumber_23 rfl ?_
      refine x_bald hx hb hE hW (Or.inl (by decide)) (sa_276 h0 g _) (by omega) (by decide) dX11_tapeNumber_24 ?_
      refine x_rd hW (fun x4 ex4 rx4 => ?_)
      have V24 : x4 = s0 276 i3_6 := ex4
      refine x_sipush hx hb dX11_tapeNumber_25 (by decide) ?_
      refine x_and255 hx hb rx4 dX11_tapeNumber_28 ?_
      refine x_nm (fun x5 ex5 => ?_)
      refine lv_ior hx hb dX11_tapeNumber_29 ?_
      refine x_anyE (fun x6 ex6 rx6 => ?_)
      have W29 : x6 = zn8 i2_6 _ := zn8_i V18 rx6 ex6
      refine lv_istore_n (lv' := [(2, .int (xJ x6)), (0, .ref (h0 + 268)), (1, .int (xJ x)), (3, .int (xJ i3_6))]) hx hb dX11_tapeNumber_30 rfl hl (by decide) rfl (fun ls hl => ?_)
      refine x_iinc (lv' := [(3, .int (xJ (i3_6 + 1))), (2, .int (xJ x6)), (0, .ref (h0 + 268)), (1, .int (xJ x))]) hx hb hl 3 rfl dX11_tapeNumber_31 (by decide) rfl (fun ls hl => ?_)
      refine lv_goto (tgt := 6) hx hb dX11_tapeNumber_34 (by decide) ?_
      exact ih6 x6 (i3_6 + 1) ls rx6 (by omega) (by omega) (by
            rw [show (i3_6 + 1 - 4 * x).toNat = (i3_6 - 4 * x).toNat + 1 from by omega, W29]
            exact znb_s (i := i3_6 - 4 * x) (by omega) v6_1 (by rw [show 4 * x + (i3_6 - 4 * x) = i3_6 from by omega]; show _ = s0 276 i3_6 % 256; omega)) (by have hm := hm_6 (); omega)  (lv_sub hl [2, 3, 1, 0] rfl)
  exact L6 ((4 * x + 4 - x1 : Int).toNat + 1) 0 x1 ls (by decide) (by omega) (by omega) (by rw [show (x1 - 4 * x).toNat = 0 from by omega]; rfl) (Nat.lt_succ_self _)  (lv_sub hl [2, 3, 1, 0] rfl)
set_option maxHeartbeats 4000000 in
set_option maxRecDepth 100000 in
theorem c_X11_checkF (l : Launch) (D : va_G) (g : xG) (T : Nat × Nat × Nat) (h0 : Nat) (s0 : xS) (hσ : xRR s0) (n : Int) (rn : xR n) (p0 : IMn s0) (p1 : IMk s0) (p2 : IMo s0) : Met l yX11_check (xws yX11_check cX11_check 3 (some .int)) { frames := 2, cells := 0, slots := 0, locals := 42 } (xP [.ref (h0 + 268), .int (xJ n)] D g T h0 s0) (xQi D g h0 (fun r τ => xFr (fun k => k = 268) s0 τ ∧ (((IMn τ) ∧ (IMk τ) ∧ (IMo τ) ∧ (τ 268 58 = s0 268 58) ∧ (τ 268 17 = s0 268 17) ∧ (τ 268 48 = s0 268 48) ∧ True) ∧ (((n < 0 ∨ 10 < n ∨ s0 268 8 / 4 < n) ∧ τ 268 8 = s0 268 8 ∧ r = -2) ∨ (¬ (n < 0 ∨ 10 < n ∨ s0 268 8 / 4 < n) ∧ τ 268 8 = 0 ∧ r = zck (xm8 (s0 276)) (fun f => (zYN (s0 269) 0 0 0) (14 + f)) n.toNat))))) 0 0 (xA h0) := by
  refine x_met hσ (by decide) (Nat.le_of_ble_eq_true rfl) ?_
  intro p e s m args below meth c hx hb hr hml hown hT hlk hnm hE hW ls hl
  have hl : lv_has ls 3 [(0, .ref (h0 + 268)), (1, .int (xJ n))] := hl
  obtain ⟨Q, eQ⟩ : ∃ Q, Q = MQ below (xQi D g h0 (fun r τ => xFr (fun k => k = 268) s0 τ ∧ (((IMn τ) ∧ (IMk τ) ∧ (IMo τ) ∧ (τ 268 58 = s0 268 58) ∧ (τ 268 17 = s0 268 17) ∧ (τ 268 48 = s0 268 48) ∧ True) ∧ (((n < 0 ∨ 10 < n ∨ s0 268 8 / 4 < n) ∧ τ 268 8 = s0 268 8 ∧ r = -2) ∨ (¬ (n < 0 ∨ 10 < n ∨ s0 268 8 / 4 < n) ∧ τ 268 8 = 0 ∧ r = zck (xm8 (s0 276)) (fun f => (zYN (s0 269) 0 0 0) (14 + f)) n.toNat))))) args s 0 0 (xA h0) := ⟨_, rfl⟩
  rw [← eQ]
  generalize hHe : ([] : List Loc) = locs at hW ⊢
  obtain ⟨H, eH⟩ : ∃ H, H = s.heap := ⟨_, rfl⟩
  rw [← eH] at hW ⊢
  have hF : xFr (fun k => k = 268) s0 s0 := xFr.rf
  have k268_58 : s0 268 58 = s0 268 58 := rfl
  have k268_17 : s0 268 17 = s0 268 17 := rfl
  have k268_48 : s0 268 48 = s0 268 48 := rfl
  have k268_8 : s0 268 8 = s0 268 8 := rfl
  refine x_iload_n hx hb hl 1 rfl dX11_check_0 rfl ?_
  refine x_iconst hx hb dX11_check_1 ?_
  refine x_bipush hx hb dX11_check_2 (by decide) ?_
  refine x_goi (x_runS (As := [.int (xJ n), .int (xJ 0), .int (xJ 10)]) hx hb hml hown hT hE hW hl.1 cf_X11_in wq1383 wq1382 (c_X11_in l D g T h0 s0 hW.2.1 n rn 0 (by decide) 10 (by decide)) ⟨rfl, rfl, ⟨by decide, by decide⟩, ⟨by decide, by decide⟩⟩ rfl rfl (Nat.le_of_ble_eq_true rfl) dX11_check_4) hW (fun x1 s2 H locs rx1 hp3 hW => ?_)
  obtain ⟨es2, hp3⟩ := hp3
  subst es2
  have ghp3 := hp3
  refine x_if_eq (tgt := 20) hx hb rx1 dX11_check_7 (by decide) (fun c4 => ?_) (fun c4 => ?_)
  · skip
    refine x_bipush hx hb dX11_check_20 (by decide) ?_
    rw [eQ]
    exact x_iret hx hb hr hlk hW (by decide) ⟨hF, ⟨p0, p1, p2, k268_58, k268_17, k268_48, trivial⟩, Or.inl ⟨by omega, by omega, rfl⟩⟩ dX11_check_22
  refine x_iload_n hx hb hl 1 rfl dX11_check_10 rfl ?_
  refine x_aload_n hx hb hl 0 rfl dX11_check_11 rfl ?_
  refine x_get (j := 8) (v := .int (xJ (s0 268 8))) hx hb hown hT hE hW cls_X11 (Or.inl (by decide)) (so_268 h0 g _) (by decide) rfl wq1193 dX11_check_12 ?_
  refine x_rd hW (fun x5 ex5 rx5 => ?_)
  have bx5 : 0 ≤ x5 ∧ x5 ≤ 260 := by rw [ex5]; exact IMn.t p0
  have fx5 : x5 = s0 268 8 := ex5.trans k268_8
  refine x_iconst hx hb dX11_check_15 ?_
  refine x_idiv hx hb rx5 (by decide) (by omega) (by decide) dX11_check_16 ?_
  refine x_icmp_le (tgt := 23) hx hb rn (by omega) dX11_check_17 (by decide) (fun c6 => ?_) (fun c6 => ?_)
  · skip
    refine x_aload_n hx hb hl 0 rfl dX11_check_23 rfl ?_
    refine x_iconst hx hb dX11_check_24 ?_
    refine x_put (j := 8) hx hb hown hT hE hW cls_X11 (by decide) (fun σ => so_268 h0 g σ) (by decide) (st_X11_8 h0 s0 268 0) (ln_X11_8 h0 _ _) wq1193 rfl rfl rfl (by decide) dX11_check_25 (fun H locs s7 es7 hW => ?_)
    have q8 : IMn s7 := by rw [es7]; exact IMn_268 p0 (by omega)
    have q9 : IMk s7 := by rw [es7]; exact IMk_268 p1 (by omega)
    have q10 : IMo s7 := by rw [es7]; exact IMo_o (by unfold suIMo; first | decide | omega) p2
    have q11 : s7 268 58 = s0 268 58 := (show s7 268 58 = s0 268 58 from by rw [es7, xU_j _ _ (by decide)]).trans k268_58
    have q12 : s7 268 17 = s0 268 17 := (show s7 268 17 = s0 268 17 from by rw [es7, xU_j _ _ (by decide)]).trans k268_17
    have q13 : s7 268 48 = s0 268 48 := (show s7 268 48 = s0 268 48 from by rw [es7, xU_j _ _ (by decide)]).trans k268_48
    have q14 : s7 268 8 = 0 := by rw [es7, xU_s]
    have hF15 := hF.put es7 (by omega)
    refine x_iconst hx hb dX11_check_28 ?_
    refine lv_istore_n (lv' := [(2, .int (xJ 0)), (0, .ref (h0 + 268)), (1, .int (xJ n))]) hx hb dX11_check_29 rfl hl (by decide) rfl (fun ls hl => ?_)
    have L30 : ∀ (fu : Nat) (i2_30 : Int) (H : Heap) (locs : List Loc) (ls : Array Slot), (xR i2_30) → (0 ≤ i2_30 ∧ i2_30 ≤ n) → (zck (xm8 (s0 276)) (fun f => (zYN (s0 269) 0 0 0) (14 + f)) (i2_30).toNat = -1) → (n - i2_30).toNat < fu → xW D g h0 s H locs s7 → lv_has ls 3 [(0, .ref (h0 + 268)), (1, .int (xJ n)), (2, .int (xJ i2_30))] → W p l e { frames := 2, cells := 0, slots := 0, locals := 42 } s m args below meth c H locs 0 0 Q (F0 m 30 ls []) := by
      intro fu
      induction fu with
      | zero => intro i2_30 H locs ls ri2_30 v30_0 v30_1 hm; exact absurd hm (Nat.not_lt_zero _)
      | succ fu ih30 =>
        intro i2_30 H locs ls ri2_30 v30_0 v30_1 hm hW hl
        have hm_30 := fun (_ : Unit) => hm
        clear hm
        refine x_iload_n hx hb hl 2 rfl dX11_check_30 rfl ?_
        refine x_iload_n hx hb hl 1 rfl dX11_check_31 rfl ?_
        refine x_icmp_ge (tgt := 72) hx hb ri2_30 rn dX11_check_32 (by decide) (fun c16 => ?_) (fun c16 => ?_)
        · skip
          refine x_iconst hx hb dX11_check_72 ?_
          rw [eQ]
          exact x_iret hx hb hr hlk hW (by decide) ⟨hF15, ⟨q8, q9, q10, q11, q12, q13, trivial⟩, Or.inr ⟨by omega, by omega, by rw [show n.toNat = (i2_30).toNat from by omega]; exact v30_1.symm⟩⟩ dX11_check_73
        refine x_aload_n hx hb hl 0 rfl dX11_check_35 rfl ?_
        refine x_iload_n hx hb hl 2 rfl dX11_check_36 rfl ?_
        refine x_goi (x_runV (As := [.int (xJ i2_30)]) hx hb hml hown hT hE hW hl.1 (Or.inl (by decide)) (so_268 h0 g _) rfl cf_X11_tapeNumber wq1776 wq164 wq1774 (c_X11_tapeNumberF l D g T h0 s7 hW.2.1 i2_30 ri2_30 (by omega) q8 q9 q10) ⟨rfl, rfl, ⟨by decide, by decide⟩, ⟨by decide, by decide⟩⟩ rfl rfl (Nat.le_of_ble_eq_true rfl) dX11_check_37) hW (fun x17 s18 H locs rx17 hp19 hW => ?_)
        obtain ⟨es18, hp19⟩ := hp19
        subst es18
        have ghp19 := hp19
        have H37 : x17 = znb (xm8 (s0 276)) (4 * i2_30) 4 := ghp19.trans (by rw [hF15 276 (by first | decide | omega)])
        refine x_aload_n hx hb hl 0 rfl dX11_check_40 rfl ?_
        refine x_iload_n hx hb hl 2 rfl dX11_check_41 rfl ?_
        refine x_goi (x_runV (As := [.int (xJ i2_30)]) hx hb hml hown hT hE hW hl.1 (Or.inl (by decide)) (so_268 h0 g _) rfl cf_X11_isFelon wq1423 wq111 wq1421 (c_X11_isFelonF l D g T h0 s7 hW.2.1 i2_30 ri2_30 q8 q9 q10) ⟨rfl, rfl, ⟨by decide, by decide⟩, ⟨by decide, by decide⟩⟩ rfl rfl (Nat.le_of_ble_eq_true rfl) dX11_check_42) hW (fun x20 s21 H locs rx20 hp22 hW => ?_)
        obtain ⟨es21, hp22⟩ := hp22
        subst es21
        have ghp22 := hp22
        have H42 := ghp22
        rw [hF15 269 (by first | decide | omega)] at H42
        have J61 : ∀ (t0_61 : Int) (ls : Array Slot), (xR t0_61) → (t0_61 = (zYN (s0 269) 0 0 0) (14 + i2_30)) → lv_has ls 3 [(0, .ref (h0 + 268)), (1, .int (xJ n)), (2, .int (xJ i2_30))] → W p l e { frames := 2, cells := 0, slots := 0, locals := 42 } s m args below meth c H locs 0 0 Q (F0 m 61 ls [.int (xJ t0_61), .int (xJ x17)]) := by
          intro t0_61 ls rt0_61 v61_0  hl
          refine x_icmp_eq (tgt := 66) hx hb rx17 rt0_61 dX11_check_61 (by decide) (fun c23 => ?_) (fun c23 => ?_)
          · skip
            refine x_iinc (lv' := [(2, .int (xJ (i2_30 + 1))), (0, .ref (h0 + 268)), (1, .int (xJ n))]) hx hb hl 2 rfl dX11_check_66 (by decide) rfl (fun ls hl => ?_)
            refine lv_goto (tgt := 30) hx hb dX11_check_69 (by decide) ?_
            exact ih30 (i2_30 + 1) H locs ls (by omega) (by omega) (by
                rw [show (i2_30 + 1).toNat = i2_30.toNat + 1 from by omega]
                exact zck_r (i := i2_30) (by omega) v30_1 (by show _ = (zYN (s0 269) 0 0 0) (14 + i2_30); rw [← v61_0, ← H37]; omega)) (by have hm := hm_30 (); omega) hW (lv_sub hl [1, 2, 0] rfl)
          refine x_iload_n hx hb hl 2 rfl dX11_check_64 rfl ?_
          rw [eQ]
          exact x_iret hx hb hr hlk hW ri2_30 ⟨hF15, ⟨q8, q9, q10, q11, q12, q13, trivial⟩, by
              have z := zck_w (g := xm8 (s0 276)) (O := fun f => (zYN (s0 269) 0 0 0) (14 + f)) (k := i2_30.toNat) (i := i2_30) (by omega) v30_1 (by show _ ≠ (zYN (s0 269) 0 0 0) (14 + i2_30); rw [← v61_0, ← H37]; omega)
              refine Or.inr ⟨by omega, by omega, ?_⟩
              rw [show n.toNat = (i2_30.toNat + 1) + (n - i2_30 - 1).toNat from by omega, zck_st (by rw [z]; omega), z]⟩ dX11_check_65
        refine x_if_eq (tgt := 60) hx hb rx20 dX11_check_45 (by decide) (fun c24 => ?_) (fun c24 => ?_)
        · skip
          refine x_iconst hx hb dX11_check_60 ?_
          exact J61 0 ls (by decide) (by first | (rw [zYN_O (by omega), if_pos (by omega)]; exact V56) | (rw [zYN_O (by omega), if_neg (by omega)]))  (lv_sub hl [0, 1, 2] rfl)
        refine x_aload_n hx hb hl 0 rfl dX11_check_48 rfl ?_
        refine x_get (j := 0) (v := .ref (h0 + 269)) hx hb hown hT hE hW cls_X11 (Or.inl (by decide)) (so_268 h0 g _) (by decide) rfl wq1185 dX11_check_49 ?_
        refine x_bipush hx hb dX11_check_52 (by decide) ?_
        refine x_iload_n hx hb hl 2 rfl dX11_check_54 rfl ?_
        refine x_iadd hx hb dX11_check_55 ?_
        refine x_iald hx hb hE hW (Or.inl (by decide)) (sa_269 h0 g _) (by omega) (by decide) dX11_check_56 ?_
        refine x_rd hW (fun x25 ex25 rx25 => ?_)
        have V56 : x25 = s0 269 (14 + i2_30) := by rw [ex25, hF15 269 (by first | decide | omega)]
        refine lv_goto (tgt := 61) hx hb dX11_check_57 (by decide) ?_
        exact J61 x25 ls rx25 (by first | (rw [zYN_O (by omega), if_pos (by omega)]; exact V56) | (rw [zYN_O (by omega), if_neg (by omega)]))  (lv_sub hl [0, 1, 2] rfl)
    exact L30 ((n - 0 : Int).toNat + 1) 0 H locs ls (by decide) (by omega) (rfl) (Nat.lt_succ_self _) hW (lv_sub hl [1, 2, 0] rfl)
  refine x_bipush hx hb dX11_check_20 (by decide) ?_
  rw [eQ]
  exact x_iret hx hb hr hlk hW (by decide) ⟨hF, ⟨p0, p1, p2, k268_58, k268_17, k268_48, trivial⟩, Or.inl ⟨by omega, by omega, rfl⟩⟩ dX11_check_22

set_option maxHeartbeats 4000000 in
set_option maxRecDepth 100000 in
theorem c_X11_typesF (l : Launch) (D : va_G) (g : xG) (T : Nat × Nat × Nat) (h0 : Nat) (s0 : xS) (hσ : xRR s0) (v : Int) (rv : xR v) (zl : Int) (hz : 0 ≤ zl ∧ zl ≤ 256) (p0 : IMn s0) (p1 : IMk s0) (p2 : IMo s0) (p3 : s0 268 8 = zl) : Met l yX11_types (xws yX11_types cX11_types 3 none) { frames := 0, cells := 0, slots := 0, locals := 0 } (xP [.ref (h0 + 268), .int (xJ v)] D g T h0 s0) (xQv D g h0 (fun τ => xFr (fun k => k = 268 ∨ k = 276) s0 τ ∧ (((IMn τ) ∧ (IMk τ) ∧ (IMo τ) ∧ (τ 268 8 = zl + 4) ∧ (τ 268 58 = s0 268 58) ∧ (τ 268 17 = s0 268 17) ∧ (τ 268 48 = s0 268 48) ∧ True) ∧ (xm8 (τ 276) = xputn (xm8 (s0 276)) zl v 4 ∧ (xb8 (s0 276) → xb8 (τ 276)))))) 0 0 (xA h0) := by
  refine x_met hσ (by decide) (Nat.le_of_ble_eq_true rfl) ?_
  intro p e s m args below meth c hx hb hr hml hown hT hlk hnm hE hW ls hl
  have hl : lv_has ls 3 [(0, .ref (h0 + 268)), (1, .int (xJ v))] := hl
  obtain ⟨Q, eQ⟩ : ∃ Q, Q = MQ below (xQv D g h0 (fun τ => xFr (fun k => k = 268 ∨ k = 276) s0 τ ∧ (((IMn τ) ∧ (IMk τ) ∧ (IMo τ) ∧ (τ 268 8 = zl + 4) ∧ (τ 268 58 = s0 268 58) ∧ (τ 268 17 = s0 268 17) ∧ (τ 268 48 = s0 268 48) ∧ True) ∧ (xm8 (τ 276) = xputn (xm8 (s0 276)) zl v 4 ∧ (xb8 (s0 276) → xb8 (τ 276)))))) args s 0 0 (xA h0) := ⟨_, rfl⟩
  rw [← eQ]
  generalize hHe : ([] : List Loc) = locs at hW ⊢
  obtain ⟨H, eH⟩ : ∃ H, H = s.heap := ⟨_, rfl⟩
  rw [← eH] at hW ⊢
  have hF : xFr (fun k => k = 268 ∨ k = 276) s0 s0 := xFr.rf
  have k268_58 : s0 268 58 = s0 268 58 := rfl
  have k268_17 : s0 268 17 = s0 268 17 := rfl
  have k268_48 : s0 268 48 = s0 268 48 := rfl
  refine x_iconst hx hb dX11_types_0 ?_
  refine lv_istore_n (lv' := [(2, .int (xJ 3)), (0, .ref (h0 + 268)), (1, .int (xJ v))]) hx hb dX11_types_1 rfl hl (by decide) rfl (fun ls hl => ?_)
  have L2 : ∀ (fu : Nat) (i2_2 : Int) (s_2 : xS) (H : Heap) (locs : List Loc) (ls : Array Slot), (xR i2_2) → (xFr (fun k => k = 268 ∨ k = 276) s0 s_2) → (IMn s_2) → (IMk s_2) → (IMo s_2) → (s_2 268 58 = s0 268 58) → (s_2 268 17 = s0 268 17) → (s_2 268 48 = s0 268 48) → (-1 ≤ i2_2 ∧ i2_2 ≤ 3) → (s_2 268 8 = zl + 3 - i2_2) → (xm8 (s_2 276) = xputn (xm8 (s0 276)) zl v (s_2 268 8 - zl)) → (xb8 (s0 276) → xb8 (s_2 276)) → (i2_2 + 1).toNat < fu → xW D g h0 s H locs s_2 → lv_has ls 3 [(0, .ref (h0 + 268)), (1, .int (xJ v)), (2, .int (xJ i2_2))] → W p l e { frames := 0, cells := 0, slots := 0, locals := 0 } s m args below meth c H locs 0 0 Q (F0 m 2 ls []) := by
    intro fu
    induction fu with
    | zero => intro i2_2 s_2 H locs ls ri2_2 hF_2 q2_0 q2_1 q2_2 q2_4 q2_5 q2_6 v2_0 v2_1 v2_2 v2_3 hm; exact absurd hm (Nat.not_lt_zero _)
    | succ fu ih2 =>
      intro i2_2 s_2 H locs ls ri2_2 hF_2 q2_0 q2_1 q2_2 q2_4 q2_5 q2_6 v2_0 v2_1 v2_2 v2_3 hm hW hl
      have hm_2 := fun (_ : Unit) => hm
      clear hm
      refine x_iload_n hx hb hl 2 rfl dX11_types_2 rfl ?_
      refine x_if_lt (tgt := 38) hx hb ri2_2 dX11_types_3 (by decide) (fun c1 => ?_) (fun c1 => ?_)
      · skip
        rw [eQ]
        exact x_vret hx hb hr hlk hW ⟨hF_2, ⟨q2_0, q2_1, q2_2, (by omega), q2_4, q2_5, q2_6, trivial⟩, ⟨v2_2.trans (xputn_c (by omega)), v2_3⟩⟩ dX11_types_38
      refine x_aload_n hx hb hl 0 rfl dX11_types_6 rfl ?_
      refine x_get (j := 7) (v := .ref (h0 + 276)) hx hb hown hT hE hW cls_X11 (Or.inl (by decide)) (so_268 h0 g _) (by decide) rfl wq1192 dX11_types_7 ?_
      refine x_aload_n hx hb hl 0 rfl dX11_types_10 rfl ?_
      refine x_get (j := 8) (v := .int (xJ (s_2 268 8))) hx hb hown hT hE hW cls_X11 (Or.inl (by decide)) (so_268 h0 g _) (by decide) rfl wq1193 dX11_types_11 ?_
      refine x_rd hW (fun x2 ex2 rx2 => ?_)
      have bx2 : 0 ≤ x2 ∧ x2 ≤ 260 := by rw [ex2]; exact IMn.t q2_0
      have q3 : s_2 268 8 = x2 := ex2.symm
      refine x_iload_n hx hb hl 1 rfl dX11_types_14 rfl ?_
      refine x_bipush hx hb dX11_types_15 (by decide) ?_
      refine x_iload_n hx hb hl 2 rfl dX11_types_17 rfl ?_
      refine x_imul hx hb dX11_types_18 ?_
      refine x_shr hx hb rv (by omega) dX11_types_19 (fun x4 ex4 rx4 => ?_)
      refine x_i2bm hx hb rx4 dX11_types_20 (fun x5 rx5 mx5 bx5 => ?_)
      obtain ⟨y7, ey7, ry7, my7, by7⟩ := xnbm (v := x5) rx5
      refine x_bast (w := y7) hx hb hE hW (by decide) (fun σ => sa_276 h0 g σ) (by omega) (by decide) ey7 ry7 dX11_types_21 (fun H locs s6 es6 hW => ?_)
      have q8 : IMn s6 := by rw [es6]; exact IMn_o (by unfold suIMn; first | decide | omega) q2_0
      have q9 : IMk s6 := by rw [es6]; exact IMk_o (by unfold suIMk; first | decide | omega) q2_1
      have q10 : IMo s6 := by rw [es6]; exact IMo_o (by unfold suIMo; first | decide | omega) q2_2
      have q11 : s6 268 58 = s0 268 58 := (show s6 268 58 = s_2 268 58 from by rw [es6, xU_k _ _ _ (by first | decide | omega)]).trans q2_4
      have q12 : s6 268 17 = s0 268 17 := (show s6 268 17 = s_2 268 17 from by rw [es6, xU_k _ _ _ (by first | decide | omega)]).trans q2_5
      have q13 : s6 268 48 = s0 268 48 := (show s6 268 48 = s_2 268 48 from by rw [es6, xU_k _ _ _ (by first | decide | omega)]).trans q2_6
      have q14 : s6 268 8 = x2 := (show s6 268 8 = s_2 268 8 from by rw [es6, xU_k _ _ _ (by first | decide | omega)]).trans q3
      have hF15 := hF_2.put es6 (by omega)
      have D21 : xb8 (s_2 276) → xb8 (s6 276) := fun h => by rw [es6, xU_xud]; exact xb8_ud h (by omega)
      have A21 : xm8 (s6 276) = xputn (xm8 (s0 276)) zl v (x2 - zl + 1) := by rw [es6, xU_xud, xm8_ud]; exact xput_step (l := 8 * i2_2) (v2_2.trans (xputn_c (by omega))) (by omega) (by omega) (by omega)
      refine x_aload_n hx hb hl 0 rfl dX11_types_22 rfl ?_
      refine x_aload_n hx hb hl 0 rfl dX11_types_23 rfl ?_
      refine x_get (j := 8) (v := .int (xJ (s6 268 8))) hx hb hown hT hE hW cls_X11 (Or.inl (by decide)) (so_268 h0 g _) (by decide) rfl wq1193 dX11_types_24 ?_
      refine x_rd hW (fun x16 ex16 rx16 => ?_)
      have bx16 : 0 ≤ x16 ∧ x16 ≤ 260 := by rw [ex16]; exact IMn.t q8
      have fx16 : x16 = x2 := ex16.trans q14
      refine x_iconst hx hb dX11_types_27 ?_
      refine x_iadd hx hb dX11_types_28 ?_
      refine x_put (j := 8) hx hb hown hT hE hW cls_X11 (by decide) (fun σ => so_268 h0 g σ) (by decide) (st_X11_8 h0 s6 268 (x16 + 1)) (ln_X11_8 h0 _ _) wq1193 rfl rfl rfl (by omega) dX11_types_29 (fun H locs s17 es17 hW => ?_)
      have q18 : IMn s17 := by rw [es17]; exact IMn_268 q8 (by omega)
      have q19 : IMk s17 := by rw [es17]; exact IMk_268 q9 (by omega)
      have q20 : IMo s17 := by rw [es17]; exact IMo_o (by unfold suIMo; first | decide | omega) q10
      have q21 : s17 268 58 = s0 268 58 := (show s17 268 58 = s6 268 58 from by rw [es17, xU_j _ _ (by decide)]).trans q11
      have q22 : s17 268 17 = s0 268 17 := (show s17 268 17 = s6 268 17 from by rw [es17, xU_j _ _ (by decide)]).trans q12
      have q23 : s17 268 48 = s0 268 48 := (show s17 268 48 = s6 268 48 from by rw [es17, xU_j _ _ (by decide)]).trans q13
      have q24 : s17 268 8 = (x16 + 1) := by rw [es17, xU_s]
      have hF25 := hF15.put es17 (by omega)
      refine x_iinc (lv' := [(2, .int (xJ (i2_2 + (-1)))), (0, .ref (h0 + 268)), (1, .int (xJ v))]) hx hb hl 2 rfl dX11_types_32 (by decide) rfl (fun ls hl => ?_)
      refine lv_goto (tgt := 2) hx hb dX11_types_35 (by decide) ?_
      exact ih2 (i2_2 + (-1)) s17 H locs ls (by omega) hF25 q18 q19 q20 q21 q22 q23 (by omega) (by rw [q24]; omega) (by rw [es17, xU_k _ _ _ (by first | decide | omega), xU_s, A21]; exact xputn_c (by omega)) (fun h => by rw [es17, xU_k _ _ _ (by first | decide | omega)]; exact D21 (v2_3 h)) (by have hm := hm_2 (); omega) hW (lv_sub hl [1, 2, 0] rfl)
  exact L2 ((3 + 1 : Int).toNat + 1) 3 s0 H locs ls (by decide) hF p0 p1 p2 k268_58 k268_17 k268_48 (by omega) (by rw [p3]; omega) (((xputn_c (by omega)).trans (xputn_0 _ _ _)).symm) (id) (Nat.lt_succ_self _) hW (lv_sub hl [1, 2, 0] rfl)
set_option maxHeartbeats 4000000 in
set_option maxRecDepth 100000 in
theorem c_X11_feedF (l : Launch) (D : va_G) (g : xG) (T : Nat × Nat × Nat) (h0 : Nat) (s0 : xS) (hσ : xRR s0) (v1 : Int) (rv1 : xR v1) (v2 : Int) (rv2 : xR v2) (v3 : Int) (rv3 : xR v3) (v4 : Int) (rv4 : xR v4) (v5 : Int) (rv5 : xR v5) (p0 : IMn s0) (p1 : IMk s0) (p2 : IMo s0) : Met l yX11_feed (xws yX11_feed cX11_feed 6 (some .int)) { frames := 1, cells := 0, slots := 0, locals := 22 } (xP [.ref (h0 + 268), .int (xJ v1), .int (xJ v2), .int (xJ v3), .int (xJ v4), .int (xJ v5)] D g T h0 s0) (xQi D g h0 (fun r τ => xFr (fun k => k = 268 ∨ k = 276) s0 τ ∧ (((IMn τ) ∧ (IMk τ) ∧ (IMo τ) ∧ (τ 268 58 = s0 268 58) ∧ (τ 268 17 = s0 268 17) ∧ (τ 268 48 = s0 268 48) ∧ True) ∧ ((s0 268 8 ≤ 240 ∧ τ 268 8 = s0 268 8 + 20 ∧ r = s0 268 8 + 20 ∧ xm8 (τ 276) = xfeed (xm8 (s0 276)) (s0 268 8) v1 v2 v3 v4 v5 ∧ (xb8 (s0 276) → xb8 (τ 276))) ∨ (240 < s0 268 8 ∧ τ 268 8 = s0 268 8 ∧ r = -1 ∧ τ 276 = s0 276))))) 0 0 (xA h0) := by
  refine x_met hσ (by decide) (Nat.le_of_ble_eq_true rfl) ?_
  intro p e s m args below meth c hx hb hr hml hown hT hlk hnm hE hW ls hl
  have hl : lv_has ls 6 [(0, .ref (h0 + 268)), (1, .int (xJ v1)), (2, .int (xJ v2)), (3, .int (xJ v3)), (4, .int (xJ v4)), (5, .int (xJ v5))] := hl
  obtain ⟨Q, eQ⟩ : ∃ Q, Q = MQ below (xQi D g h0 (fun r τ => xFr (fun k => k = 268 ∨ k = 276) s0 τ ∧ (((IMn τ) ∧ (IMk τ) ∧ (IMo τ) ∧ (τ 268 58 = s0 268 58) ∧ (τ 268 17 = s0 268 17) ∧ (τ 268 48 = s0 268 48) ∧ True) ∧ ((s0 268 8 ≤ 240 ∧ τ 268 8 = s0 268 8 + 20 ∧ r = s0 268 8 + 20 ∧ xm8 (τ 276) = xfeed (xm8 (s0 276)) (s0 268 8) v1 v2 v3 v4 v5 ∧ (xb8 (s0 276) → xb8 (τ 276))) ∨ (240 < s0 268 8 ∧ τ 268 8 = s0 268 8 ∧ r = -1 ∧ τ 276 = s0 276))))) args s 0 0 (xA h0) := ⟨_, rfl⟩
  rw [← eQ]
  generalize hHe : ([] : List Loc) = locs at hW ⊢
  obtain ⟨H, eH⟩ : ∃ H, H = s.heap := ⟨_, rfl⟩
  rw [← eH] at hW ⊢
  have hF : xFr (fun k => k = 268 ∨ k = 276) s0 s0 := xFr.rf
  have k268_58 : s0 268 58 = s0 268 58 := rfl
  have k268_17 : s0 268 17 = s0 268 17 := rfl
  have k268_48 : s0 268 48 = s0 268 48 := rfl
  have k268_8 : s0 268 8 = s0 268 8 := rfl
  refine x_aload_n hx hb hl 0 rfl dX11_feed_0 rfl ?_
  refine x_get (j := 8) (v := .int (xJ (s0 268 8))) hx hb hown hT hE hW cls_X11 (Or.inl (by decide)) (so_268 h0 g _) (by decide) rfl wq1193 dX11_feed_1 ?_
  refine x_rd hW (fun x1 ex1 rx1 => ?_)
  have bx1 : 0 ≤ x1 ∧ x1 ≤ 260 := by rw [ex1]; exact IMn.t p0
  have fx1 : x1 = s0 268 8 := ex1.trans k268_8
  refine x_bipush hx hb dX11_feed_4 (by decide) ?_
  refine x_iadd hx hb dX11_feed_6 ?_
  refine x_sipush hx hb dX11_feed_7 (by decide) ?_
  refine x_icmp_le (tgt := 15) hx hb (by omega) (by decide) dX11_feed_10 (by decide) (fun c2 => ?_) (fun c2 => ?_)
  · skip
    refine x_aload_n hx hb hl 0 rfl dX11_feed_15 rfl ?_
    refine x_iload_n hx hb hl 1 rfl dX11_feed_16 rfl ?_
    refine x_gov (x_runV (As := [.int (xJ v1)]) hx hb hml hown hT hE hW hl.1 (Or.inl (by decide)) (so_268 h0 g _) rfl cf_X11_types wq1376 wq104 wq1374 (c_X11_typesF l D g T h0 s0 hW.2.1 v1 rv1 (s0 268 8) (by omega) p0 p1 p2 k268_8) ⟨rfl, rfl, ⟨by decide, by decide⟩, ⟨by decide, by decide⟩⟩ rfl rfl (Nat.le_of_ble_eq_true rfl) dX11_feed_17) hW (fun s4 H locs hp5 hW => ?_)
    obtain ⟨fs4, hp5⟩ := hp5
    have hF6 := hF.call fs4 (fun k h => by omega)
    have ghp5 := hp5.2
    obtain ⟨B17, D17⟩ := ghp5
    refine x_aload_n hx hb hl 0 rfl dX11_feed_20 rfl ?_
    refine x_iload_n hx hb hl 2 rfl dX11_feed_21 rfl ?_
    refine x_gov (x_runV (As := [.int (xJ v2)]) hx hb hml hown hT hE hW hl.1 (Or.inl (by decide)) (so_268 h0 g _) rfl cf_X11_types wq1376 wq104 wq1374 (c_X11_typesF l D g T h0 s4 hW.2.1 v2 rv2 ((s0 268 8) + 4) (by omega) hp5.1.1 hp5.1.2.1 hp5.1.2.2.1 hp5.1.2.2.2.1) ⟨rfl, rfl, ⟨by decide, by decide⟩, ⟨by decide, by decide⟩⟩ rfl rfl (Nat.le_of_ble_eq_true rfl) dX11_feed_22) hW (fun s8 H locs hp9 hW => ?_)
    obtain ⟨fs8, hp9⟩ := hp9
    have hF10 := hF6.call fs8 (fun k h => by omega)
    have ghp9 := hp9.2
    obtain ⟨B22, D22⟩ := ghp9
    rw [B17] at B22
    refine x_aload_n hx hb hl 0 rfl dX11_feed_25 rfl ?_
    refine x_iload_n hx hb hl 3 rfl dX11_feed_26 rfl ?_
    refine x_gov (x_runV (As := [.int (xJ v3)]) hx hb hml hown hT hE hW hl.1 (Or.inl (by decide)) (so_268 h0 g _) rfl cf_X11_types wq1376 wq104 wq1374 (c_X11_typesF l D g T h0 s8 hW.2.1 v3 rv3 (((s0 268 8) + 4) + 4) (by omega) hp9.1.1 hp9.1.2.1 hp9.1.2.2.1 hp9.1.2.2.2.1) ⟨rfl, rfl, ⟨by decide, by decide⟩, ⟨by decide, by decide⟩⟩ rfl rfl (Nat.le_of_ble_eq_true rfl) dX11_feed_27) hW (fun s12 H locs hp13 hW => ?_)
    obtain ⟨fs12, hp13⟩ := hp13
    have hF14 := hF10.call fs12 (fun k h => by omega)
    have ghp13 := hp13.2
    obtain ⟨B27, D27⟩ := ghp13
    rw [B22] at B27
    refine x_aload_n hx hb hl 0 rfl dX11_feed_30 rfl ?_
    refine x_iload hx hb hl 4 rfl dX11_feed_31 ?_
    refine x_gov (x_runV (As := [.int (xJ v4)]) hx hb hml hown hT hE hW hl.1 (Or.inl (by decide)) (so_268 h0 g _) rfl cf_X11_types wq1376 wq104 wq1374 (c_X11_typesF l D g T h0 s12 hW.2.1 v4 rv4 ((((s0 268 8) + 4) + 4) + 4) (by omega) hp13.1.1 hp13.1.2.1 hp13.1.2.2.1 hp13.1.2.2.2.1) ⟨rfl, rfl, ⟨by decide, by decide⟩, ⟨by decide, by decide⟩⟩ rfl rfl (Nat.le_of_ble_eq_true rfl) dX11_feed_33) hW (fun s16 H locs hp17 hW => ?_)
    obtain ⟨fs16, hp17⟩ := hp17
    have hF18 := hF14.call fs16 (fun k h => by omega)
    have ghp17 := hp17.2
    obtain ⟨B33, D33⟩ := ghp17
    rw [B27] at B33
    refine x_aload_n hx hb hl 0 rfl dX11_feed_36 rfl ?_
    refine x_iload hx hb hl 5 rfl dX11_feed_37 ?_
    refine x_gov (x_runV (As := [.int (xJ v5)]) hx hb hml hown hT hE hW hl.1 (Or.inl (by decide)) (so_268 h0 g _) rfl cf_X11_types wq1376 wq104 wq1374 (c_X11_typesF l D g T h0 s16 hW.2.1 v5 rv5 (((((s0 268 8) + 4) + 4) + 4) + 4) (by omega) hp17.1.1 hp17.1.2.1 hp17.1.2.2.1 hp17.1.2.2.2.1) ⟨rfl, rfl, ⟨by decide, by decide⟩, ⟨by decide, by decide⟩⟩ rfl rfl (Nat.le_of_ble_eq_true rfl) dX11_feed_39) hW (fun s20 H locs hp21 hW => ?_)
    obtain ⟨fs20, hp21⟩ := hp21
    have hF22 := hF18.call fs20 (fun k h => by omega)
    have ghp21 := hp21.2
    obtain ⟨B39, D39⟩ := ghp21
    rw [B33] at B39
    refine x_aload_n hx hb hl 0 rfl dX11_feed_42 rfl ?_
    refine x_get (j := 8) (v := .int (xJ (s20 268 8))) hx hb hown hT hE hW cls_X11 (Or.inl (by decide)) (so_268 h0 g _) (by decide) rfl wq1193 dX11_feed_43 ?_
    refine x_rd hW (fun x23 ex23 rx23 => ?_)
    have bx23 : 0 ≤ x23 ∧ x23 ≤ 260 := by rw [ex23]; exact IMn.t hp21.1.1
    have fx23 : x23 = ((((((s0 268 8) + 4) + 4) + 4) + 4) + 4) := ex23.trans hp21.1.2.2.2.1
    rw [eQ]
    exact x_iret hx hb hr hlk hW rx23 ⟨hF22, ⟨hp21.1.1, hp21.1.2.1, hp21.1.2.2.1, (hp21.1.2.2.2.2.1.trans (hp17.1.2.2.2.2.1.trans (hp13.1.2.2.2.2.1.trans (hp9.1.2.2.2.2.1.trans (hp5.1.2.2.2.2.1.trans k268_58))))), (hp21.1.2.2.2.2.2.1.trans (hp17.1.2.2.2.2.2.1.trans (hp13.1.2.2.2.2.2.1.trans (hp9.1.2.2.2.2.2.1.trans (hp5.1.2.2.2.2.2.1.trans k268_17))))), (hp21.1.2.2.2.2.2.2.1.trans (hp17.1.2.2.2.2.2.2.1.trans (hp13.1.2.2.2.2.2.2.1.trans (hp9.1.2.2.2.2.2.2.1.trans (hp5.1.2.2.2.2.2.2.1.trans k268_48))))), trivial⟩, Or.inl ⟨by omega, by omega, by omega, B39, fun h => D39 (D33 (D27 (D22 (D17 h))))⟩⟩ dX11_feed_46
  refine x_iconst hx hb dX11_feed_13 ?_
  rw [eQ]
  exact x_iret hx hb hr hlk hW (by decide) ⟨hF, ⟨p0, p1, p2, k268_58, k268_17, k268_48, trivial⟩, Or.inr ⟨by omega, by omega, by omega, rfl⟩⟩ dX11_feed_14
set_option maxHeartbeats 4000000 in
set_option maxRecDepth 100000 in
theorem c_X11_cloudyF (l : Launch) (D : va_G) (g : xG) (T : Nat × Nat × Nat) (h0 : Nat) (s0 : xS) (hσ : xRR s0) (n : Int) (rn : xR n) (w : Int) (rw : xR w) (x : Int) (rx : xR x) (p0 : IMn s0) (p1 : IMk s0) (p2 : IMo s0) : Met l yX11_cloudy (xws yX11_cloudy cX11_cloudy 10 (some .int)) { frames := 1, cells := 0, slots := 0, locals := 22 } (xP [.ref (h0 + 268), .int (xJ n), .int (xJ w), .int (xJ x)] D g T h0 s0) (xQi D g h0 (fun r τ => xFr (fun k => k = 268) s0 τ ∧ (((IMn τ) ∧ (IMk τ) ∧ (IMo τ) ∧ (τ 268 58 = s0 268 58) ∧ (τ 268 17 = s0 268 17) ∧ (τ 268 48 = s0 268 48) ∧ True) ∧ (((n < 1 ∨ 10 < n ∨ w < 0 ∨ 90 < w ∨ x < 0 ∨ 2 < x ∨ s0 268 8 < n) ∧ τ 268 8 = s0 268 8 ∧ r = -1) ∨ (¬ (n < 1 ∨ 10 < n ∨ w < 0 ∨ 90 < w ∨ x < 0 ∨ 2 < x ∨ s0 268 8 < n) ∧ τ 268 8 = 0 ∧ ((zbad (s0 276) n 1 9 ∧ r = -3) ∨ (¬ zbad (s0 276) n 1 9 ∧ r = zans (s0 276) n w x 1023))))))) 0 0 (xA h0) := by
  refine x_met hσ (by decide) (Nat.le_of_ble_eq_true rfl) ?_
  intro p e s m args below meth c hx hb hr hml hown hT hlk hnm hE hW ls hl
  have hl : lv_has ls 10 [(0, .ref (h0 + 268)), (1, .int (xJ n)), (2, .int (xJ w)), (3, .int (xJ x))] := hl
  obtain ⟨Q, eQ⟩ : ∃ Q, Q = MQ below (xQi D g h0 (fun r τ => xFr (fun k => k = 268) s0 τ ∧ (((IMn τ) ∧ (IMk τ) ∧ (IMo τ) ∧ (τ 268 58 = s0 268 58) ∧ (τ 268 17 = s0 268 17) ∧ (τ 268 48 = s0 268 48) ∧ True) ∧ (((n < 1 ∨ 10 < n ∨ w < 0 ∨ 90 < w ∨ x < 0 ∨ 2 < x ∨ s0 268 8 < n) ∧ τ 268 8 = s0 268 8 ∧ r = -1) ∨ (¬ (n < 1 ∨ 10 < n ∨ w < 0 ∨ 90 < w ∨ x < 0 ∨ 2 < x ∨ s0 268 8 < n) ∧ τ 268 8 = 0 ∧ ((zbad (s0 276) n 1 9 ∧ r = -3) ∨ (¬ zbad (s0 276) n 1 9 ∧ r = zans (s0 276) n w x 1023))))))) args s 0 0 (xA h0) := ⟨_, rfl⟩
  rw [← eQ]
  generalize hHe : ([] : List Loc) = locs at hW ⊢
  obtain ⟨H, eH⟩ : ∃ H, H = s.heap := ⟨_, rfl⟩
  rw [← eH] at hW ⊢
  have hF : xFr (fun k => k = 268) s0 s0 := xFr.rf
  have k268_58 : s0 268 58 = s0 268 58 := rfl
  have k268_17 : s0 268 17 = s0 268 17 := rfl
  have k268_48 : s0 268 48 = s0 268 48 := rfl
  have k268_8 : s0 268 8 = s0 268 8 := rfl
  have hpw : 1 ≤ n ∧ n ≤ 10 → 1 ≤ zpw n ∧ zpw n ≤ 1024 := fun h => zpw_le ⟨by omega, h.2⟩
  refine x_iload_n hx hb hl 1 rfl dX11_cloudy_0 rfl ?_
  refine x_iconst hx hb dX11_cloudy_1 ?_
  refine x_bipush hx hb dX11_cloudy_2 (by decide) ?_
  refine x_goi (x_runS (As := [.int (xJ n), .int (xJ 1), .int (xJ 10)]) hx hb hml hown hT hE hW hl.1 cf_X11_in wq1383 wq1382 (c_X11_in l D g T h0 s0 hW.2.1 n rn 1 (by decide) 10 (by decide)) ⟨rfl, rfl, ⟨by decide, by decide⟩, ⟨by decide, by decide⟩⟩ rfl rfl (Nat.le_of_ble_eq_true rfl) dX11_cloudy_4) hW (fun x1 s2 H locs rx1 hp3 hW => ?_)
  obtain ⟨es2, hp3⟩ := hp3
  subst es2
  have ghp3 := hp3
  refine x_if_eq (tgt := 37) hx hb rx1 dX11_cloudy_7 (by decide) (fun c4 => ?_) (fun c4 => ?_)
  · skip
    refine x_iconst hx hb dX11_cloudy_37 ?_
    rw [eQ]
    exact x_iret hx hb hr hlk hW (by decide) ⟨hF, ⟨p0, p1, p2, k268_58, k268_17, k268_48, trivial⟩, Or.inl ⟨by omega, by omega, by omega⟩⟩ dX11_cloudy_38
  refine x_iload_n hx hb hl 2 rfl dX11_cloudy_10 rfl ?_
  refine x_iconst hx hb dX11_cloudy_11 ?_
  refine x_bipush hx hb dX11_cloudy_12 (by decide) ?_
  refine x_goi (x_runS (As := [.int (xJ w), .int (xJ 0), .int (xJ 90)]) hx hb hml hown hT hE hW hl.1 cf_X11_in wq1383 wq1382 (c_X11_in l D g T h0 s0 hW.2.1 w rw 0 (by decide) 90 (by decide)) ⟨rfl, rfl, ⟨by decide, by decide⟩, ⟨by decide, by decide⟩⟩ rfl rfl (Nat.le_of_ble_eq_true rfl) dX11_cloudy_14) hW (fun x5 s6 H locs rx5 hp7 hW => ?_)
  obtain ⟨es6, hp7⟩ := hp7
  subst es6
  have ghp7 := hp7
  refine x_if_eq (tgt := 37) hx hb rx5 dX11_cloudy_17 (by decide) (fun c8 => ?_) (fun c8 => ?_)
  · skip
    refine x_iconst hx hb dX11_cloudy_37 ?_
    rw [eQ]
    exact x_iret hx hb hr hlk hW (by decide) ⟨hF, ⟨p0, p1, p2, k268_58, k268_17, k268_48, trivial⟩, Or.inl ⟨by omega, by omega, by omega⟩⟩ dX11_cloudy_38
  refine x_iload_n hx hb hl 3 rfl dX11_cloudy_20 rfl ?_
  refine x_iconst hx hb dX11_cloudy_21 ?_
  refine x_iconst hx hb dX11_cloudy_22 ?_
  refine x_goi (x_runS (As := [.int (xJ x), .int (xJ 0), .int (xJ 2)]) hx hb hml hown hT hE hW hl.1 cf_X11_in wq1383 wq1382 (c_X11_in l D g T h0 s0 hW.2.1 x rx 0 (by decide) 2 (by decide)) ⟨rfl, rfl, ⟨by decide, by decide⟩, ⟨by decide, by decide⟩⟩ rfl rfl (Nat.le_of_ble_eq_true rfl) dX11_cloudy_23) hW (fun x9 s10 H locs rx9 hp11 hW => ?_)
  obtain ⟨es10, hp11⟩ := hp11
  subst es10
  have ghp11 := hp11
  refine x_if_eq (tgt := 37) hx hb rx9 dX11_cloudy_26 (by decide) (fun c12 => ?_) (fun c12 => ?_)
  · skip
    refine x_iconst hx hb dX11_cloudy_37 ?_
    rw [eQ]
    exact x_iret hx hb hr hlk hW (by decide) ⟨hF, ⟨p0, p1, p2, k268_58, k268_17, k268_48, trivial⟩, Or.inl ⟨by omega, by omega, by omega⟩⟩ dX11_cloudy_38
  refine x_iload_n hx hb hl 1 rfl dX11_cloudy_29 rfl ?_
  refine x_aload_n hx hb hl 0 rfl dX11_cloudy_30 rfl ?_
  refine x_get (j := 8) (v := .int (xJ (s0 268 8))) hx hb hown hT hE hW cls_X11 (Or.inl (by decide)) (so_268 h0 g _) (by decide) rfl wq1193 dX11_cloudy_31 ?_
  refine x_rd hW (fun x13 ex13 rx13 => ?_)
  have bx13 : 0 ≤ x13 ∧ x13 ≤ 260 := by rw [ex13]; exact IMn.t p0
  have fx13 : x13 = s0 268 8 := ex13.trans k268_8
  refine x_icmp_le (tgt := 39) hx hb rn rx13 dX11_cloudy_34 (by decide) (fun c14 => ?_) (fun c14 => ?_)
  · skip
    refine x_aload_n hx hb hl 0 rfl dX11_cloudy_39 rfl ?_
    refine x_iconst hx hb dX11_cloudy_40 ?_
    refine x_put (j := 8) hx hb hown hT hE hW cls_X11 (by decide) (fun σ => so_268 h0 g σ) (by decide) (st_X11_8 h0 s0 268 0) (ln_X11_8 h0 _ _) wq1193 rfl rfl rfl (by decide) dX11_cloudy_41 (fun H locs s15 es15 hW => ?_)
    have q16 : IMn s15 := by rw [es15]; exact IMn_268 p0 (by omega)
    have q17 : IMk s15 := by rw [es15]; exact IMk_268 p1 (by omega)
    have q18 : IMo s15 := by rw [es15]; exact IMo_o (by unfold suIMo; first | decide | omega) p2
    have q19 : s15 268 58 = s0 268 58 := (show s15 268 58 = s0 268 58 from by rw [es15, xU_j _ _ (by decide)]).trans k268_58
    have q20 : s15 268 17 = s0 268 17 := (show s15 268 17 = s0 268 17 from by rw [es15, xU_j _ _ (by decide)]).trans k268_17
    have q21 : s15 268 48 = s0 268 48 := (show s15 268 48 = s0 268 48 from by rw [es15, xU_j _ _ (by decide)]).trans k268_48
    have q22 : s15 268 8 = 0 := by rw [es15, xU_s]
    have hF23 := hF.put es15 (by omega)
    refine x_iconst hx hb dX11_cloudy_44 ?_
    refine lv_istore (lv' := [(4, .int (xJ 0)), (0, .ref (h0 + 268)), (1, .int (xJ n)), (2, .int (xJ w)), (3, .int (xJ x))]) hx hb dX11_cloudy_45 hl (by decide) rfl (fun ls hl => ?_)
    have L47 : ∀ (fu : Nat) (i4_47 : Int) (H : Heap) (locs : List Loc) (ls : Array Slot), (xR i4_47) → (0 ≤ i4_47 ∧ i4_47 ≤ n) → (∀ q : Int, 0 ≤ q → q < i4_47 → 1 ≤ s0 276 q ∧ s0 276 q ≤ 9) → (11 - i4_47).toNat < fu → xW D g h0 s H locs s15 → lv_has ls 10 [(0, .ref (h0 + 268)), (1, .int (xJ n)), (2, .int (xJ w)), (3, .int (xJ x)), (4, .int (xJ i4_47))] → W p l e { frames := 1, cells := 0, slots := 0, locals := 22 } s m args below meth c H locs 0 0 Q (F0 m 47 ls []) := by
      intro fu
      induction fu with
      | zero => intro i4_47 H locs ls ri4_47 v47_0 v47_1 hm; exact absurd hm (Nat.not_lt_zero _)
      | succ fu ih47 =>
        intro i4_47 H locs ls ri4_47 v47_0 v47_1 hm hW hl
        have hm_47 := fun (_ : Unit) => hm
        clear hm
        refine x_iload hx hb hl 4 rfl dX11_cloudy_47 ?_
        refine x_iload_n hx hb hl 1 rfl dX11_cloudy_49 rfl ?_
        refine x_icmp_ge (tgt := 78) hx hb ri4_47 rn dX11_cloudy_50 (by decide) (fun c24 => ?_) (fun c24 => ?_)
        · skip
          refine x_iconst hx hb dX11_cloudy_78 ?_
          refine lv_istore (lv' := [(4, .int (xJ 0)), (0, .ref (h0 + 268)), (1, .int (xJ n)), (2, .int (xJ w)), (3, .int (xJ x))]) hx hb dX11_cloudy_79 hl (by decide) rfl (fun ls hl => ?_)
          refine x_bipush hx hb dX11_cloudy_81 (by decide) ?_
          refine lv_istore (lv' := [(5, .int (xJ (-2))), (4, .int (xJ 0)), (0, .ref (h0 + 268)), (1, .int (xJ n)), (2, .int (xJ w)), (3, .int (xJ x))]) hx hb dX11_cloudy_83 hl (by decide) rfl (fun ls hl => ?_)
          refine x_sipush hx hb dX11_cloudy_85 (by decide) ?_
          refine lv_istore (lv' := [(6, .int (xJ 1023)), (5, .int (xJ (-2))), (4, .int (xJ 0)), (0, .ref (h0 + 268)), (1, .int (xJ n)), (2, .int (xJ w)), (3, .int (xJ x))]) hx hb dX11_cloudy_88 hl (by decide) rfl (fun ls hl => ?_)
          refine x_iconst hx hb dX11_cloudy_90 ?_
          refine lv_istore (lv' := [(7, .int (xJ 0)), (6, .int (xJ 1023)), (5, .int (xJ (-2))), (4, .int (xJ 0)), (0, .ref (h0 + 268)), (1, .int (xJ n)), (2, .int (xJ w)), (3, .int (xJ x))]) hx hb dX11_cloudy_91 hl (by decide) rfl (fun ls hl => ?_)
          have L93 : ∀ (fu : Nat) (i4_93 : Int) (i5_93 : Int) (i6_93 : Int) (i7_93 : Int) (H : Heap) (locs : List Loc) (ls : Array Slot), (xR i4_93) → (xR i5_93) → (xR i6_93) → (xR i7_93) → (0 ≤ i7_93 ∧ i7_93 ≤ zpw n) → (0 ≤ i4_93 ∧ i4_93 ≤ i7_93) → (i4_93 = zcm (s0 276) n w (i7_93).toNat) → (i5_93 = zcf (s0 276) n w (i7_93).toNat) → (i6_93 = zca (s0 276) n w 1023 (i7_93).toNat) → (1024 - i7_93).toNat < fu → xW D g h0 s H locs s15 → lv_has ls 10 [(0, .ref (h0 + 268)), (1, .int (xJ n)), (2, .int (xJ w)), (3, .int (xJ x)), (4, .int (xJ i4_93)), (5, .int (xJ i5_93)), (6, .int (xJ i6_93)), (7, .int (xJ i7_93))] → W p l e { frames := 1, cells := 0, slots := 0, locals := 22 } s m args below meth c H locs 0 0 Q (F0 m 93 ls []) := by
            intro fu
            induction fu with
            | zero => intro i4_93 i5_93 i6_93 i7_93 H locs ls ri4_93 ri5_93 ri6_93 ri7_93 v93_0 v93_1 v93_2 v93_3 v93_4 hm; exact absurd hm (Nat.not_lt_zero _)
            | succ fu ih93 =>
              intro i4_93 i5_93 i6_93 i7_93 H locs ls ri4_93 ri5_93 ri6_93 ri7_93 v93_0 v93_1 v93_2 v93_3 v93_4 hm hW hl
              have hm_93 := fun (_ : Unit) => hm
              clear hm
              refine x_iload hx hb hl 7 rfl dX11_cloudy_93 ?_
              refine x_iconst hx hb dX11_cloudy_95 ?_
              refine x_iload_n hx hb hl 1 rfl dX11_cloudy_96 rfl ?_
              refine x_shl1 hx hb (by omega) dX11_cloudy_97 (fun x25 ex25 bx25 => ?_)
              have P97 : x25 = zpw n := ex25
              refine x_icmp_ge (tgt := 187) hx hb ri7_93 (by omega) dX11_cloudy_98 (by decide) (fun c26 => ?_) (fun c26 => ?_)
              · skip
                refine x_iload_n hx hb hl 3 rfl dX11_cloudy_187 rfl ?_
                refine x_if_ne (tgt := 196) hx hb rx dX11_cloudy_188 (by decide) (fun c27 => ?_) (fun c27 => ?_)
                · skip
                  refine x_iload_n hx hb hl 3 rfl dX11_cloudy_196 rfl ?_
                  refine x_iconst hx hb dX11_cloudy_197 ?_
                  refine x_icmp_eq (tgt := 206) hx hb rx (by decide) dX11_cloudy_198 (by decide) (fun c28 => ?_) (fun c28 => ?_)
                  · skip
                    refine x_iload hx hb hl 5 rfl dX11_cloudy_206 ?_
                    refine lv_goto (tgt := 213) hx hb dX11_cloudy_208 (by decide) ?_
                    rw [eQ]
                    exact x_iret hx hb hr hlk hW ri5_93 ⟨hF23, ⟨q16, q17, q18, q19, q20, q21, trivial⟩, Or.inr ⟨by omega, by omega, Or.inr ⟨fun ⟨i, h1, h2, h3⟩ => by have := v47_1 i h1 (by omega); omega, zans_i (i := i7_93) (c := i4_93) (d := i5_93) (e := i6_93) (by omega) v93_2 v93_3 v93_4 (by omega)⟩⟩⟩ dX11_cloudy_213
                  refine x_iload hx hb hl 4 rfl dX11_cloudy_201 ?_
                  refine x_if_ne (tgt := 211) hx hb ri4_93 dX11_cloudy_203 (by decide) (fun c29 => ?_) (fun c29 => ?_)
                  · skip
                    refine x_iload hx hb hl 6 rfl dX11_cloudy_211 ?_
                    rw [eQ]
                    exact x_iret hx hb hr hlk hW ri6_93 ⟨hF23, ⟨q16, q17, q18, q19, q20, q21, trivial⟩, Or.inr ⟨by omega, by omega, Or.inr ⟨fun ⟨i, h1, h2, h3⟩ => by have := v47_1 i h1 (by omega); omega, zans_i (i := i7_93) (c := i4_93) (d := i5_93) (e := i6_93) (by omega) v93_2 v93_3 v93_4 (by omega)⟩⟩⟩ dX11_cloudy_213
                  refine x_iload hx hb hl 5 rfl dX11_cloudy_206 ?_
                  refine lv_goto (tgt := 213) hx hb dX11_cloudy_208 (by decide) ?_
                  rw [eQ]
                  exact x_iret hx hb hr hlk hW ri5_93 ⟨hF23, ⟨q16, q17, q18, q19, q20, q21, trivial⟩, Or.inr ⟨by omega, by omega, Or.inr ⟨fun ⟨i, h1, h2, h3⟩ => by have := v47_1 i h1 (by omega); omega, zans_i (i := i7_93) (c := i4_93) (d := i5_93) (e := i6_93) (by omega) v93_2 v93_3 v93_4 (by omega)⟩⟩⟩ dX11_cloudy_213
                refine x_iload hx hb hl 4 rfl dX11_cloudy_191 ?_
                refine lv_goto (tgt := 213) hx hb dX11_cloudy_193 (by decide) ?_
                rw [eQ]
                exact x_iret hx hb hr hlk hW ri4_93 ⟨hF23, ⟨q16, q17, q18, q19, q20, q21, trivial⟩, Or.inr ⟨by omega, by omega, Or.inr ⟨fun ⟨i, h1, h2, h3⟩ => by have := v47_1 i h1 (by omega); omega, zans_i (i := i7_93) (c := i4_93) (d := i5_93) (e := i6_93) (by omega) v93_2 v93_3 v93_4 (by omega)⟩⟩⟩ dX11_cloudy_213
              refine x_iconst hx hb dX11_cloudy_101 ?_
              refine lv_istore (lv' := [(8, .int (xJ 0)), (0, .ref (h0 + 268)), (1, .int (xJ n)), (2, .int (xJ w)), (3, .int (xJ x)), (4, .int (xJ i4_93)), (5, .int (xJ i5_93)), (6, .int (xJ i6_93)), (7, .int (xJ i7_93))]) hx hb dX11_cloudy_102 hl (by decide) rfl (fun ls hl => ?_)
              refine x_iconst hx hb dX11_cloudy_104 ?_
              refine lv_istore (lv' := [(9, .int (xJ 0)), (8, .int (xJ 0)), (0, .ref (h0 + 268)), (1, .int (xJ n)), (2, .int (xJ w)), (3, .int (xJ x)), (4, .int (xJ i4_93)), (5, .int (xJ i5_93)), (6, .int (xJ i6_93)), (7, .int (xJ i7_93))]) hx hb dX11_cloudy_105 hl (by decide) rfl (fun ls hl => ?_)
              have L107 : ∀ (fu : Nat) (i8_107 : Int) (i9_107 : Int) (H : Heap) (locs : List Loc) (ls : Array Slot), (xR i8_107) → (xR i9_107) → (0 ≤ i9_107 ∧ i9_107 ≤ n) → (i8_107 = zsum (s0 276) i7_93 (i9_107).toNat) → (0 ≤ i8_107 ∧ i8_107 ≤ 9 * i9_107) → (11 - i9_107).toNat < fu → xW D g h0 s H locs s15 → lv_has ls 10 [(0, .ref (h0 + 268)), (1, .int (xJ n)), (2, .int (xJ w)), (3, .int (xJ x)), (4, .int (xJ i4_93)), (5, .int (xJ i5_93)), (6, .int (xJ i6_93)), (7, .int (xJ i7_93)), (8, .int (xJ i8_107)), (9, .int (xJ i9_107))] → W p l e { frames := 1, cells := 0, slots := 0, locals := 22 } s m args below meth c H locs 0 0 Q (F0 m 107 ls []) := by
                intro fu
                induction fu with
                | zero => intro i8_107 i9_107 H locs ls ri8_107 ri9_107 v107_0 v107_1 v107_2 hm; exact absurd hm (Nat.not_lt_zero _)
                | succ fu ih107 =>
                  intro i8_107 i9_107 H locs ls ri8_107 ri9_107 v107_0 v107_1 v107_2 hm hW hl
                  have hm_107 := fun (_ : Unit) => hm
                  clear hm
                  refine x_iload hx hb hl 9 rfl dX11_cloudy_107 ?_
                  refine x_iload_n hx hb hl 1 rfl dX11_cloudy_109 rfl ?_
                  refine x_icmp_ge (tgt := 145) hx hb ri9_107 rn dX11_cloudy_110 (by decide) (fun c30 => ?_) (fun c30 => ?_)
                  · skip
                    refine x_iload hx hb hl 8 rfl dX11_cloudy_145 ?_
                    have Z145 : i8_107 = zsum (s0 276) i7_93 n.toNat := by rw [show n = i9_107 from by omega]; exact v107_1
                    refine x_iload_n hx hb hl 2 rfl dX11_cloudy_147 rfl ?_
                    refine x_icmp_eq (tgt := 154) hx hb ri8_107 rw dX11_cloudy_148 (by decide) (fun c31 => ?_) (fun c31 => ?_)
                    · skip
                      refine x_iload hx hb hl 4 rfl dX11_cloudy_154 ?_
                      refine x_if_ne (tgt := 164) hx hb ri4_93 dX11_cloudy_156 (by decide) (fun c32 => ?_) (fun c32 => ?_)
                      · skip
                        refine x_iload hx hb hl 5 rfl dX11_cloudy_164 ?_
                        refine lv_istore (lv' := [(5, .int (xJ i5_93)), (0, .ref (h0 + 268)), (1, .int (xJ n)), (2, .int (xJ w)), (3, .int (xJ x)), (4, .int (xJ i4_93)), (6, .int (xJ i6_93)), (7, .int (xJ i7_93)), (8, .int (xJ i8_107)), (9, .int (xJ i9_107))]) hx hb dX11_cloudy_166 hl (by decide) rfl (fun ls hl => ?_)
                        refine x_iload hx hb hl 5 rfl dX11_cloudy_168 ?_
                        refine x_iconst hx hb dX11_cloudy_170 ?_
                        refine x_iadd hx hb dX11_cloudy_171 ?_
                        refine x_nm (fun x33 ex33 => ?_)
                        refine lv_istore (lv' := [(4, .int (xJ x33)), (5, .int (xJ i5_93)), (0, .ref (h0 + 268)), (1, .int (xJ n)), (2, .int (xJ w)), (3, .int (xJ x)), (6, .int (xJ i6_93)), (7, .int (xJ i7_93)), (8, .int (xJ i8_107)), (9, .int (xJ i9_107))]) hx hb dX11_cloudy_172 hl (by decide) rfl (fun ls hl => ?_)
                        refine x_iload hx hb hl 6 rfl dX11_cloudy_174 ?_
                        refine x_iload hx hb hl 7 rfl dX11_cloudy_176 ?_
                        refine x_zand hx hb dX11_cloudy_178 (fun x34 ex34 rx34 => ?_)
                        have Z178 : x34 = zand i6_93 i7_93 := ex34
                        refine lv_istore (lv' := [(6, .int (xJ x34)), (4, .int (xJ x33)), (5, .int (xJ i5_93)), (0, .ref (h0 + 268)), (1, .int (xJ n)), (2, .int (xJ w)), (3, .int (xJ x)), (7, .int (xJ i7_93)), (8, .int (xJ i8_107)), (9, .int (xJ i9_107))]) hx hb dX11_cloudy_179 hl (by decide) rfl (fun ls hl => ?_)
                        refine x_iinc (lv' := [(7, .int (xJ (i7_93 + 1))), (6, .int (xJ x34)), (4, .int (xJ x33)), (5, .int (xJ i5_93)), (0, .ref (h0 + 268)), (1, .int (xJ n)), (2, .int (xJ w)), (3, .int (xJ x)), (8, .int (xJ i8_107)), (9, .int (xJ i9_107))]) hx hb hl 7 rfl dX11_cloudy_181 (by decide) rfl (fun ls hl => ?_)
                        refine lv_goto (tgt := 93) hx hb dX11_cloudy_184 (by decide) ?_
                        exact ih93 x33 i5_93 x34 (i7_93 + 1) H locs ls (by omega) ri5_93 rx34 (by omega) (by omega) (by omega) (by first | (have z9 := zcs_n (f := s0 276) (n := n) (w := w) (a0 := 1023) (i := i7_93) (by omega) (by omega); omega) | (have z9 := zcs_y (f := s0 276) (n := n) (w := w) (a0 := 1023) (i := i7_93) (by omega) (by omega); omega)) (by first | (have z9 := zcs_n (f := s0 276) (n := n) (w := w) (a0 := 1023) (i := i7_93) (by omega) (by omega); omega) | (have z9 := zcs_y (f := s0 276) (n := n) (w := w) (a0 := 1023) (i := i7_93) (by omega) (by omega); omega)) (by first | (have z9 := zcs_n (f := s0 276) (n := n) (w := w) (a0 := 1023) (i := i7_93) (by omega) (by omega); omega) | (have z9 := zcs_y (f := s0 276) (n := n) (w := w) (a0 := 1023) (i := i7_93) (by omega) (by omega); rw [z9.2.2.2, ← v93_4]; exact Z178)) (by have hm := hm_93 (); omega) hW (lv_sub hl [4, 5, 6, 7, 2, 3, 1, 0] rfl)
                      refine x_iload hx hb hl 7 rfl dX11_cloudy_159 ?_
                      refine lv_goto (tgt := 166) hx hb dX11_cloudy_161 (by decide) ?_
                      refine lv_istore (lv' := [(5, .int (xJ i7_93)), (0, .ref (h0 + 268)), (1, .int (xJ n)), (2, .int (xJ w)), (3, .int (xJ x)), (4, .int (xJ i4_93)), (6, .int (xJ i6_93)), (7, .int (xJ i7_93)), (8, .int (xJ i8_107)), (9, .int (xJ i9_107))]) hx hb dX11_cloudy_166 hl (by decide) rfl (fun ls hl => ?_)
                      refine x_iload hx hb hl 5 rfl dX11_cloudy_168 ?_
                      refine x_iconst hx hb dX11_cloudy_170 ?_
                      refine x_iadd hx hb dX11_cloudy_171 ?_
                      refine x_nm (fun x35 ex35 => ?_)
                      refine lv_istore (lv' := [(4, .int (xJ x35)), (5, .int (xJ i7_93)), (0, .ref (h0 + 268)), (1, .int (xJ n)), (2, .int (xJ w)), (3, .int (xJ x)), (6, .int (xJ i6_93)), (7, .int (xJ i7_93)), (8, .int (xJ i8_107)), (9, .int (xJ i9_107))]) hx hb dX11_cloudy_172 hl (by decide) rfl (fun ls hl => ?_)
                      refine x_iload hx hb hl 6 rfl dX11_cloudy_174 ?_
                      refine x_iload hx hb hl 7 rfl dX11_cloudy_176 ?_
                      refine x_zand hx hb dX11_cloudy_178 (fun x36 ex36 rx36 => ?_)
                      have Z178 : x36 = zand i6_93 i7_93 := ex36
                      refine lv_istore (lv' := [(6, .int (xJ x36)), (4, .int (xJ x35)), (5, .int (xJ i7_93)), (0, .ref (h0 + 268)), (1, .int (xJ n)), (2, .int (xJ w)), (3, .int (xJ x)), (7, .int (xJ i7_93)), (8, .int (xJ i8_107)), (9, .int (xJ i9_107))]) hx hb dX11_cloudy_179 hl (by decide) rfl (fun ls hl => ?_)
                      refine x_iinc (lv' := [(7, .int (xJ (i7_93 + 1))), (6, .int (xJ x36)), (4, .int (xJ x35)), (5, .int (xJ i7_93)), (0, .ref (h0 + 268)), (1, .int (xJ n)), (2, .int (xJ w)), (3, .int (xJ x)), (8, .int (xJ i8_107)), (9, .int (xJ i9_107))]) hx hb hl 7 rfl dX11_cloudy_181 (by decide) rfl (fun ls hl => ?_)
                      refine lv_goto (tgt := 93) hx hb dX11_cloudy_184 (by decide) ?_
                      exact ih93 x35 i7_93 x36 (i7_93 + 1) H locs ls (by omega) ri7_93 rx36 (by omega) (by omega) (by omega) (by first | (have z9 := zcs_n (f := s0 276) (n := n) (w := w) (a0 := 1023) (i := i7_93) (by omega) (by omega); omega) | (have z9 := zcs_y (f := s0 276) (n := n) (w := w) (a0 := 1023) (i := i7_93) (by omega) (by omega); omega)) (by first | (have z9 := zcs_n (f := s0 276) (n := n) (w := w) (a0 := 1023) (i := i7_93) (by omega) (by omega); omega) | (have z9 := zcs_y (f := s0 276) (n := n) (w := w) (a0 := 1023) (i := i7_93) (by omega) (by omega); omega)) (by first | (have z9 := zcs_n (f := s0 276) (n := n) (w := w) (a0 := 1023) (i := i7_93) (by omega) (by omega); omega) | (have z9 := zcs_y (f := s0 276) (n := n) (w := w) (a0 := 1023) (i := i7_93) (by omega) (by omega); rw [z9.2.2.2, ← v93_4]; exact Z178)) (by have hm := hm_93 (); omega) hW (lv_sub hl [4, 5, 6, 7, 2, 3, 1, 0] rfl)
                    refine lv_goto (tgt := 181) hx hb dX11_cloudy_151 (by decide) ?_
                    refine x_iinc (lv' := [(7, .int (xJ (i7_93 + 1))), (0, .ref (h0 + 268)), (1, .int (xJ n)), (2, .int (xJ w)), (3, .int (xJ x)), (4, .int (xJ i4_93)), (5, .int (xJ i5_93)), (6, .int (xJ i6_93)), (8, .int (xJ i8_107)), (9, .int (xJ i9_107))]) hx hb hl 7 rfl dX11_cloudy_181 (by decide) rfl (fun ls hl => ?_)
                    refine lv_goto (tgt := 93) hx hb dX11_cloudy_184 (by decide) ?_
                    exact ih93 i4_93 i5_93 i6_93 (i7_93 + 1) H locs ls ri4_93 ri5_93 ri6_93 (by omega) (by omega) (by omega) (by first | (have z9 := zcs_n (f := s0 276) (n := n) (w := w) (a0 := 1023) (i := i7_93) (by omega) (by omega); omega) | (have z9 := zcs_y (f := s0 276) (n := n) (w := w) (a0 := 1023) (i := i7_93) (by omega) (by omega); omega)) (by first | (have z9 := zcs_n (f := s0 276) (n := n) (w := w) (a0 := 1023) (i := i7_93) (by omega) (by omega); omega) | (have z9 := zcs_y (f := s0 276) (n := n) (w := w) (a0 := 1023) (i := i7_93) (by omega) (by omega); omega)) (by first | (have z9 := zcs_n (f := s0 276) (n := n) (w := w) (a0 := 1023) (i := i7_93) (by omega) (by omega); omega) | (have z9 := zcs_y (f := s0 276) (n := n) (w := w) (a0 := 1023) (i := i7_93) (by omega) (by omega); rw [z9.2.2.2, ← v93_4]; exact Z178)) (by have hm := hm_93 (); omega) hW (lv_sub hl [1, 2, 3, 4, 5, 6, 7, 0] rfl)
                  refine x_iload hx hb hl 8 rfl dX11_cloudy_113 ?_
                  refine x_iload hx hb hl 7 rfl dX11_cloudy_115 ?_
                  refine x_iload hx hb hl 9 rfl dX11_cloudy_117 ?_
                  refine x_goi (x_runS (As := [.int (xJ i7_93), .int (xJ i9_107)]) hx hb hml hown hT hE hW hl.1 cf_X11_has wq1415 wq1414 (c_X11_has l D g T h0 s15 hW.2.1 i7_93 ri7_93 i9_107 ri9_107) ⟨rfl, rfl, ⟨by decide, by decide⟩, ⟨by decide, by decide⟩⟩ rfl rfl (Nat.le_of_ble_eq_true rfl) dX11_cloudy_119) hW (fun x37 s38 H locs rx37 hp39 hW => ?_)
                  obtain ⟨es38, hp39⟩ := hp39
                  subst es38
                  have ghp39 := hp39
                  have Z119 := ghp39
                  refine x_if_eq (tgt := 129) hx hb rx37 dX11_cloudy_122 (by decide) (fun c40 => ?_) (fun c40 => ?_)
                  · skip
                    refine x_aload_n hx hb hl 0 rfl dX11_cloudy_129 rfl ?_
                    refine x_get (j := 7) (v := .ref (h0 + 276)) hx hb hown hT hE hW cls_X11 (Or.inl (by decide)) (so_268 h0 g _) (by decide) rfl wq1192 dX11_cloudy_130 ?_
                    refine x_iload hx hb hl 9 rfl dX11_cloudy_133 ?_
                    refine x_bald hx hb hE hW (Or.inl (by decide)) (sa_276 h0 g _) (by omega) (by decide) dX11_cloudy_135 ?_
                    refine x_rd hW (fun x41 ex41 rx41 => ?_)
                    have b135 : x41 = s0 276 i9_107 := by rw [ex41, hF23 276 (by first | decide | omega)]
                    have c135 := v47_1 i9_107 (by omega) (by omega)
                    refine x_iadd hx hb dX11_cloudy_136 ?_
                    refine x_nm (fun x42 ex42 => ?_)
                    refine lv_istore (lv' := [(8, .int (xJ x42)), (0, .ref (h0 + 268)), (1, .int (xJ n)), (2, .int (xJ w)), (3, .int (xJ x)), (4, .int (xJ i4_93)), (5, .int (xJ i5_93)), (6, .int (xJ i6_93)), (7, .int (xJ i7_93)), (9, .int (xJ i9_107))]) hx hb dX11_cloudy_137 hl (by decide) rfl (fun ls hl => ?_)
                    refine x_iinc (lv' := [(9, .int (xJ (i9_107 + 1))), (8, .int (xJ x42)), (0, .ref (h0 + 268)), (1, .int (xJ n)), (2, .int (xJ w)), (3, .int (xJ x)), (4, .int (xJ i4_93)), (5, .int (xJ i5_93)), (6, .int (xJ i6_93)), (7, .int (xJ i7_93))]) hx hb hl 9 rfl dX11_cloudy_139 (by decide) rfl (fun ls hl => ?_)
                    refine lv_goto (tgt := 107) hx hb dX11_cloudy_142 (by decide) ?_
                    exact ih107 x42 (i9_107 + 1) H locs ls (by omega) (by omega) (by omega) (by first | (rw [zsum_n (by omega) (by omega)]; omega) | (rw [zsum_y (by omega) (by omega)]; omega)) (by omega) (by have hm := hm_107 (); omega) hW (lv_sub hl [2, 3, 4, 5, 6, 7, 8, 9, 1, 0] rfl)
                  refine x_iconst hx hb dX11_cloudy_125 ?_
                  refine lv_goto (tgt := 136) hx hb dX11_cloudy_126 (by decide) ?_
                  refine x_iadd hx hb dX11_cloudy_136 ?_
                  refine x_nm (fun x43 ex43 => ?_)
                  refine lv_istore (lv' := [(8, .int (xJ x43)), (0, .ref (h0 + 268)), (1, .int (xJ n)), (2, .int (xJ w)), (3, .int (xJ x)), (4, .int (xJ i4_93)), (5, .int (xJ i5_93)), (6, .int (xJ i6_93)), (7, .int (xJ i7_93)), (9, .int (xJ i9_107))]) hx hb dX11_cloudy_137 hl (by decide) rfl (fun ls hl => ?_)
                  refine x_iinc (lv' := [(9, .int (xJ (i9_107 + 1))), (8, .int (xJ x43)), (0, .ref (h0 + 268)), (1, .int (xJ n)), (2, .int (xJ w)), (3, .int (xJ x)), (4, .int (xJ i4_93)), (5, .int (xJ i5_93)), (6, .int (xJ i6_93)), (7, .int (xJ i7_93))]) hx hb hl 9 rfl dX11_cloudy_139 (by decide) rfl (fun ls hl => ?_)
                  refine lv_goto (tgt := 107) hx hb dX11_cloudy_142 (by decide) ?_
                  exact ih107 x43 (i9_107 + 1) H locs ls (by omega) (by omega) (by omega) (by first | (rw [zsum_n (by omega) (by omega)]; omega) | (rw [zsum_y (by omega) (by omega)]; omega)) (by omega) (by have hm := hm_107 (); omega) hW (lv_sub hl [2, 3, 4, 5, 6, 7, 8, 9, 1, 0] rfl)
              exact L107 ((11 - 0 : Int).toNat + 1) 0 0 H locs ls (by decide) (by decide) (by omega) (rfl) (by omega) (Nat.lt_succ_self _) hW (lv_sub hl [2, 3, 4, 5, 6, 7, 8, 9, 1, 0] rfl)
          exact L93 ((1024 - 0 : Int).toNat + 1) 0 (-2) 1023 0 H locs ls (by decide) (by decide) (by decide) (by decide) (by omega) (by omega) (rfl) (rfl) (rfl) (Nat.lt_succ_self _) hW (lv_sub hl [4, 5, 6, 7, 3, 2, 1, 0] rfl)
        refine x_aload_n hx hb hl 0 rfl dX11_cloudy_53 rfl ?_
        refine x_get (j := 7) (v := .ref (h0 + 276)) hx hb hown hT hE hW cls_X11 (Or.inl (by decide)) (so_268 h0 g _) (by decide) rfl wq1192 dX11_cloudy_54 ?_
        refine x_iload hx hb hl 4 rfl dX11_cloudy_57 ?_
        refine x_bald hx hb hE hW (Or.inl (by decide)) (sa_276 h0 g _) (by omega) (by decide) dX11_cloudy_59 ?_
        refine x_rd hW (fun x44 ex44 rx44 => ?_)
        have b59 : x44 = s0 276 i4_47 := by rw [ex44, hF23 276 (by first | decide | omega)]
        refine x_iconst hx hb dX11_cloudy_60 ?_
        refine x_bipush hx hb dX11_cloudy_61 (by decide) ?_
        refine x_goi (x_runS (As := [.int (xJ x44), .int (xJ 1), .int (xJ 9)]) hx hb hml hown hT hE hW hl.1 cf_X11_in wq1383 wq1382 (c_X11_in l D g T h0 s15 hW.2.1 x44 rx44 1 (by decide) 9 (by decide)) ⟨rfl, rfl, ⟨by decide, by decide⟩, ⟨by decide, by decide⟩⟩ rfl rfl (Nat.le_of_ble_eq_true rfl) dX11_cloudy_63) hW (fun x45 s46 H locs rx45 hp47 hW => ?_)
        obtain ⟨es46, hp47⟩ := hp47
        subst es46
        have ghp47 := hp47
        refine x_if_ne (tgt := 72) hx hb rx45 dX11_cloudy_66 (by decide) (fun c48 => ?_) (fun c48 => ?_)
        · skip
          refine x_iinc (lv' := [(4, .int (xJ (i4_47 + 1))), (0, .ref (h0 + 268)), (1, .int (xJ n)), (2, .int (xJ w)), (3, .int (xJ x))]) hx hb hl 4 rfl dX11_cloudy_72 (by decide) rfl (fun ls hl => ?_)
          refine lv_goto (tgt := 47) hx hb dX11_cloudy_75 (by decide) ?_
          exact ih47 (i4_47 + 1) H locs ls (by omega) (by omega) (fun q h1 h2 => (Classical.em (q < (i4_47 + 1) - 1)).elim (fun z => v47_1 q h1 (by omega)) (fun z => by rw [show q = i4_47 from by omega]; omega)) (by have hm := hm_47 (); omega) hW (lv_sub hl [1, 2, 3, 4, 0] rfl)
        refine x_bipush hx hb dX11_cloudy_69 (by decide) ?_
        rw [eQ]
        exact x_iret hx hb hr hlk hW (by decide) ⟨hF23, ⟨q16, q17, q18, q19, q20, q21, trivial⟩, Or.inr ⟨by omega, by omega, Or.inl ⟨⟨i4_47, by omega, by omega, by omega⟩, by omega⟩⟩⟩ dX11_cloudy_71
    exact L47 ((11 - 0 : Int).toNat + 1) 0 H locs ls (by decide) (by omega) (fun q h1 h2 => absurd h2 (by omega)) (Nat.lt_succ_self _) hW (lv_sub hl [1, 2, 3, 4, 0] rfl)
  refine x_iconst hx hb dX11_cloudy_37 ?_
  rw [eQ]
  exact x_iret hx hb hr hlk hW (by decide) ⟨hF, ⟨p0, p1, p2, k268_58, k268_17, k268_48, trivial⟩, Or.inl ⟨by omega, by omega, by omega⟩⟩ dX11_cloudy_38
set_option maxHeartbeats 4000000 in
set_option maxRecDepth 100000 in
theorem c_X11_togetherF (l : Launch) (D : va_G) (g : xG) (T : Nat × Nat × Nat) (h0 : Nat) (s0 : xS) (hσ : xRR s0) (n : Int) (rn : xR n) (x : Int) (rx : xR x) (p0 : IMn s0) (p1 : IMk s0) (p2 : IMo s0) : Met l yX11_together (xws yX11_together cX11_together 8 (some .int)) { frames := 2, cells := 0, slots := 0, locals := 47 } (xP [.ref (h0 + 268), .int (xJ n), .int (xJ x)] D g T h0 s0) (xQi D g h0 (fun r τ => xFr (fun k => k = 268 ∨ k = 306 ∨ k = 307) s0 τ ∧ (((IMn τ) ∧ (IMk τ) ∧ (IMo τ) ∧ (τ 268 58 = s0 268 58) ∧ (τ 268 17 = s0 268 17) ∧ (τ 268 48 = s0 268 48) ∧ True) ∧ (((n < 1 ∨ 8 < n ∨ x < 0 ∨ 2 < x ∨ s0 268 8 < 2 * n + 1 ∨ s0 268 8 < 2 * n + 1 + 2 * (s0 276 (2 * n) % 256)) ∧ τ 268 8 = s0 268 8 ∧ r = -1) ∨ (¬ (n < 1 ∨ 8 < n ∨ x < 0 ∨ 2 < x ∨ s0 268 8 < 2 * n + 1 ∨ s0 268 8 < 2 * n + 1 + 2 * (s0 276 (2 * n) % 256)) ∧ τ 268 8 = 0))))) 0 0 (xA h0) := by
  refine x_met hσ (by decide) (Nat.le_of_ble_eq_true rfl) ?_
  intro p e s m args below meth c hx hb hr hml hown hT hlk hnm hE hW ls hl
  have hl : lv_has ls 8 [(0, .ref (h0 + 268)), (1, .int (xJ n)), (2, .int (xJ x))] := hl
  obtain ⟨Q, eQ⟩ : ∃ Q, Q = MQ below (xQi D g h0 (fun r τ => xFr (fun k => k = 268 ∨ k = 306 ∨ k = 307) s0 τ ∧ (((IMn τ) ∧ (IMk τ) ∧ (IMo τ) ∧ (τ 268 58 = s0 268 58) ∧ (τ 268 17 = s0 268 17) ∧ (τ 268 48 = s0 268 48) ∧ True) ∧ (((n < 1 ∨ 8 < n ∨ x < 0 ∨ 2 < x ∨ s0 268 8 < 2 * n + 1 ∨ s0 268 8 < 2 * n + 1 + 2 * (s0 276 (2 * n) % 256)) ∧ τ 268 8 = s0 268 8 ∧ r = -1) ∨ (¬ (n < 1 ∨ 8 < n ∨ x < 0 ∨ 2 < x ∨ s0 268 8 < 2 * n + 1 ∨ s0 268 8 < 2 * n + 1 + 2 * (s0 276 (2 * n) % 256)) ∧ τ 268 8 = 0))))) args s 0 0 (xA h0) := ⟨_, rfl⟩
  rw [← eQ]
  generalize hHe : ([] : List Loc) = locs at hW ⊢
  obtain ⟨H, eH⟩ : ∃ H, H = s.heap := ⟨_, rfl⟩
  rw [← eH] at hW ⊢
  have hF : xFr (fun k => k = 268 ∨ k = 306 ∨ k = 307) s0 s0 := xFr.rf
  have k268_58 : s0 268 58 = s0 268 58 := rfl
  have k268_17 : s0 268 17 = s0 268 17 := rfl
  have k268_48 : s0 268 48 = s0 268 48 := rfl
  have k268_8 : s0 268 8 = s0 268 8 := rfl
  refine x_iload_n hx hb hl 1 rfl dX11_together_0 rfl ?_
  refine x_iconst hx hb dX11_together_1 ?_
  refine x_bipush hx hb dX11_together_2 (by decide) ?_
  refine x_goi (x_runS (As := [.int (xJ n), .int (xJ 1), .int (xJ 8)]) hx hb hml hown hT hE hW hl.1 cf_X11_in wq1383 wq1382 (c_X11_in l D g T h0 s0 hW.2.1 n rn 1 (by decide) 8 (by decide)) ⟨rfl, rfl, ⟨by decide, by decide⟩, ⟨by decide, by decide⟩⟩ rfl rfl (Nat.le_of_ble_eq_true rfl) dX11_together_4) hW (fun x1 s2 H locs rx1 hp3 hW => ?_)
  obtain ⟨es2, hp3⟩ := hp3
  subst es2
  have ghp3 := hp3
  refine x_if_eq (tgt := 31) hx hb rx1 dX11_together_7 (by decide) (fun c4 => ?_) (fun c4 => ?_)
  · skip
    refine x_iconst hx hb dX11_together_31 ?_
    rw [eQ]
    exact x_iret hx hb hr hlk hW (by decide) ⟨hF, ⟨p0, p1, p2, k268_58, k268_17, k268_48, trivial⟩, by omega⟩ dX11_together_32
  refine x_iload_n hx hb hl 2 rfl dX11_together_10 rfl ?_
  refine x_iconst hx hb dX11_together_11 ?_
  refine x_iconst hx hb dX11_together_12 ?_
  refine x_goi (x_runS (As := [.int (xJ x), .int (xJ 0), .int (xJ 2)]) hx hb hml hown hT hE hW hl.1 cf_X11_in wq1383 wq1382 (c_X11_in l D g T h0 s0 hW.2.1 x rx 0 (by decide) 2 (by decide)) ⟨rfl, rfl, ⟨by decide, by decide⟩, ⟨by decide, by decide⟩⟩ rfl rfl (Nat.le_of_ble_eq_true rfl) dX11_together_13) hW (fun x5 s6 H locs rx5 hp7 hW => ?_)
  obtain ⟨es6, hp7⟩ := hp7
  subst es6
  have ghp7 := hp7
  refine x_if_eq (tgt := 31) hx hb rx5 dX11_together_16 (by decide) (fun c8 => ?_) (fun c8 => ?_)
  · skip
    refine x_iconst hx hb dX11_together_31 ?_
    rw [eQ]
    exact x_iret hx hb hr hlk hW (by decide) ⟨hF, ⟨p0, p1, p2, k268_58, k268_17, k268_48, trivial⟩, by omega⟩ dX11_together_32
  refine x_iconst hx hb dX11_together_19 ?_
  refine x_iload_n hx hb hl 1 rfl dX11_together_20 rfl ?_
  refine x_imul hx hb dX11_together_21 ?_
  refine x_iconst hx hb dX11_together_22 ?_
  refine x_iadd hx hb dX11_together_23 ?_
  refine x_aload_n hx hb hl 0 rfl dX11_together_24 rfl ?_
  refine x_get (j := 8) (v := .int (xJ (s0 268 8))) hx hb hown hT hE hW cls_X11 (Or.inl (by decide)) (so_268 h0 g _) (by decide) rfl wq1193 dX11_together_25 ?_
  refine x_rd hW (fun x9 ex9 rx9 => ?_)
  have bx9 : 0 ≤ x9 ∧ x9 ≤ 260 := by rw [ex9]; exact IMn.t p0
  have fx9 : x9 = s0 268 8 := ex9.trans k268_8
  refine x_icmp_le (tgt := 33) hx hb (by omega) rx9 dX11_together_28 (by decide) (fun c10 => ?_) (fun c10 => ?_)
  · skip
    refine x_aload_n hx hb hl 0 rfl dX11_together_33 rfl ?_
    refine x_get (j := 7) (v := .ref (h0 + 276)) hx hb hown hT hE hW cls_X11 (Or.inl (by decide)) (so_268 h0 g _) (by decide) rfl wq1192 dX11_together_34 ?_
    refine x_iconst hx hb dX11_together_37 ?_
    refine x_iload_n hx hb hl 1 rfl dX11_together_38 rfl ?_
    refine x_imul hx hb dX11_together_39 ?_
    refine x_bald hx hb hE hW (Or.inl (by decide)) (sa_276 h0 g _) (by omega) (by decide) dX11_together_40 ?_
    refine x_rd hW (fun x11 ex11 rx11 => ?_)
    refine x_sipush hx hb dX11_together_41 (by decide) ?_
    refine x_and255 hx hb rx11 dX11_together_44 ?_
    refine x_nm (fun x12 ex12 => ?_)
    refine lv_istore_n (lv' := [(3, .int (xJ x12)), (0, .ref (h0 + 268)), (1, .int (xJ n)), (2, .int (xJ x))]) hx hb dX11_together_45 rfl hl (by decide) rfl (fun ls hl => ?_)
    refine x_iconst hx hb dX11_together_46 ?_
    refine x_iload_n hx hb hl 2 rfl dX11_together_47 rfl ?_
    refine x_imul hx hb dX11_together_48 ?_
    refine x_iconst hx hb dX11_together_49 ?_
    refine x_iadd hx hb dX11_together_50 ?_
    refine x_iconst hx hb dX11_together_51 ?_
    refine x_iload_n hx hb hl 0 rfl dX11_together_52 rfl ?_
    refine x_imul hx hb dX11_together_53 ?_
    refine x_iadd hx hb dX11_together_54 ?_
    refine x_aload_n hx hb hl 1 rfl dX11_together_55 rfl ?_
    refine x_get (j := 8) (v := .int (xJ (s0 268 8))) hx hb hown hT hE hW cls_X11 (Or.inl (by decide)) (so_268 h0 g _) (by decide) rfl wq1193 dX11_together_56 ?_
    refine x_rd hW (fun x13 ex13 rx13 => ?_)
    have bx13 : 0 ≤ x13 ∧ x13 ≤ 260 := by rw [ex13]; exact IMn.t p0
    have fx13 : x13 = s0 268 8 := ex13.trans k268_8
    refine x_icmp_le (tgt := 64) hx hb (by omega) rx13 dX11_together_59 (by decide) (fun c14 => ?_) (fun c14 => ?_)
    · skip
      refine x_aload_n hx hb hl 1 rfl dX11_together_64 rfl ?_
      refine x_iconst hx hb dX11_together_65 ?_
      refine x_put (j := 8) hx hb hown hT hE hW cls_X11 (by decide) (fun σ => so_268 h0 g σ) (by decide) (st_X11_8 h0 s0 268 0) (ln_X11_8 h0 _ _) wq1193 rfl rfl rfl (by decide) dX11_together_66 (fun H locs s15 es15 hW => ?_)
      have q16 : IMn s15 := by rw [es15]; exact IMn_268 p0 (by omega)
      have q17 : IMk s15 := by rw [es15]; exact IMk_268 p1 (by omega)
      have q18 : IMo s15 := by rw [es15]; exact IMo_o (by unfold suIMo; first | decide | omega) p2
      have q19 : s15 268 58 = s0 268 58 := (show s15 268 58 = s0 268 58 from by rw [es15, xU_j _ _ (by decide)]).trans k268_58
      have q20 : s15 268 17 = s0 268 17 := (show s15 268 17 = s0 268 17 from by rw [es15, xU_j _ _ (by decide)]).trans k268_17
      have q21 : s15 268 48 = s0 268 48 := (show s15 268 48 = s0 268 48 from by rw [es15, xU_j _ _ (by decide)]).trans k268_48
      have q22 : s15 268 8 = 0 := by rw [es15, xU_s]
      have hF23 := hF.put es15 (by omega)
      refine x_iload_n hx hb hl 0 rfl dX11_together_69 rfl ?_
      refine x_bipush hx hb dX11_together_70 (by decide) ?_
      refine x_icmp_le (tgt := 78) hx hb (by omega) (by decide) dX11_together_72 (by decide) (fun c24 => ?_) (fun c24 => ?_)
      · skip
        refine x_iconst hx hb dX11_together_78 ?_
        refine lv_istore (lv' := [(4, .int (xJ 0)), (3, .int (xJ x12)), (0, .ref (h0 + 268)), (1, .int (xJ n)), (2, .int (xJ x))]) hx hb dX11_together_79 hl (by decide) rfl (fun ls hl => ?_)
        have L81 : ∀ (fu : Nat) (i4_81 : Int) (s_81 : xS) (H : Heap) (locs : List Loc) (ls : Array Slot), (xR i4_81) → (xFr (fun k => k = 268 ∨ k = 306 ∨ k = 307) s0 s_81) → (IMn s_81) → (IMk s_81) → (IMo s_81) → (s_81 268 58 = s0 268 58) → (s_81 268 17 = s0 268 17) → (s_81 268 48 = s0 268 48) → (s_81 268 8 = 0) → (0 ≤ i4_81) → (n + 1 - i4_81).toNat < fu → xW D g h0 s H locs s_81 → lv_has ls 8 [(0, .ref (h0 + 268)), (1, .int (xJ n)), (2, .int (xJ x)), (3, .int (xJ x12)), (4, .int (xJ i4_81))] → W p l e { frames := 2, cells := 0, slots := 0, locals := 47 } s m args below meth c H locs 0 0 Q (F0 m 81 ls []) := by
          intro fu
          induction fu with
          | zero => intro i4_81 s_81 H locs ls ri4_81 hF_81 q81_0 q81_1 q81_2 q81_3 q81_4 q81_5 q81_6 v81_0 hm; exact absurd hm (Nat.not_lt_zero _)
          | succ fu ih81 =>
            intro i4_81 s_81 H locs ls ri4_81 hF_81 q81_0 q81_1 q81_2 q81_3 q81_4 q81_5 q81_6 v81_0 hm hW hl
            have hm_81 := fun (_ : Unit) => hm
            clear hm
            refine x_iload hx hb hl 4 rfl dX11_together_81 ?_
            refine x_iload_n hx hb hl 1 rfl dX11_together_83 rfl ?_
            refine x_icmp_ge (tgt := 110) hx hb ri4_81 rn dX11_together_84 (by decide) (fun c25 => ?_) (fun c25 => ?_)
            · skip
              refine x_iconst hx hb dX11_together_110 ?_
              refine lv_istore (lv' := [(4, .int (xJ 0)), (0, .ref (h0 + 268)), (1, .int (xJ n)), (2, .int (xJ x)), (3, .int (xJ x12))]) hx hb dX11_together_111 hl (by decide) rfl (fun ls hl => ?_)
              have L113 : ∀ (fu : Nat) (i4_113 : Int) (H : Heap) (locs : List Loc) (ls : Array Slot), (xR i4_113) → (0 ≤ i4_113 ∧ i4_113 ≤ 24) → (∀ q : Int, 0 ≤ q → q < i4_113 → 0 ≤ s0 276 (2 * n + 1 + q) ∧ s0 276 (2 * n + 1 + q) ≤ n - 1) → (2 * x12 - i4_113).toNat < fu → xW D g h0 s H locs s_81 → lv_has ls 8 [(0, .ref (h0 + 268)), (1, .int (xJ n)), (2, .int (xJ x)), (3, .int (xJ x12)), (4, .int (xJ i4_113))] → W p l e { frames := 2, cells := 0, slots := 0, locals := 47 } s m args below meth c H locs 0 0 Q (F0 m 113 ls []) := by
                intro fu
                induction fu with
                | zero => intro i4_113 H locs ls ri4_113 v113_0 v113_1 hm; exact absurd hm (Nat.not_lt_zero _)
                | succ fu ih113 =>
                  intro i4_113 H locs ls ri4_113 v113_0 v113_1 hm hW hl
                  have hm_113 := fun (_ : Unit) => hm
                  clear hm
                  refine x_iload hx hb hl 4 rfl dX11_together_113 ?_
                  refine x_iconst hx hb dX11_together_115 ?_
                  refine x_iload_n hx hb hl 3 rfl dX11_together_116 rfl ?_
                  refine x_imul hx hb dX11_together_117 ?_
                  refine x_icmp_ge (tgt := 153) hx hb ri4_113 (by omega) dX11_together_118 (by decide) (fun c26 => ?_) (fun c26 => ?_)
                  · skip
                    refine x_iconst hx hb dX11_together_153 ?_
                    refine lv_istore (lv' := [(4, .int (xJ 0)), (0, .ref (h0 + 268)), (1, .int (xJ n)), (2, .int (xJ x)), (3, .int (xJ x12))]) hx hb dX11_together_154 hl (by decide) rfl (fun ls hl => ?_)
                    have L156 : ∀ (fu : Nat) (i4_156 : Int) (s_156 : xS) (H : Heap) (locs : List Loc) (ls : Array Slot), (xR i4_156) → (xFr (fun k => k = 268 ∨ k = 306 ∨ k = 307) s0 s_156) → (IMn s_156) → (IMk s_156) → (IMo s_156) → (s_156 268 58 = s0 268 58) → (s_156 268 17 = s0 268 17) → (s_156 268 48 = s0 268 48) → (s_156 268 8 = 0) → (0 ≤ i4_156) → (x12 + 1 - i4_156).toNat < fu → xW D g h0 s H locs s_156 → lv_has ls 8 [(0, .ref (h0 + 268)), (1, .int (xJ n)), (2, .int (xJ x)), (3, .int (xJ x12)), (4, .int (xJ i4_156))] → W p l e { frames := 2, cells := 0, slots := 0, locals := 47 } s m args below meth c H locs 0 0 Q (F0 m 156 ls []) := by
                      intro fu
                      induction fu with
                      | zero => intro i4_156 s_156 H locs ls ri4_156 hF_156 q156_0 q156_1 q156_2 q156_3 q156_4 q156_5 q156_6 v156_0 hm; exact absurd hm (Nat.not_lt_zero _)
                      | succ fu ih156 =>
                        intro i4_156 s_156 H locs ls ri4_156 hF_156 q156_0 q156_1 q156_2 q156_3 q156_4 q156_5 q156_6 v156_0 hm hW hl
                        have hm_156 := fun (_ : Unit) => hm
                        clear hm
                        refine x_iload hx hb hl 4 rfl dX11_together_156 ?_
                        refine x_iload_n hx hb hl 3 rfl dX11_together_158 rfl ?_
                        refine x_icmp_ge (tgt := 203) hx hb ri4_156 (by omega) dX11_together_159 (by decide) (fun c27 => ?_) (fun c27 => ?_)
                        · skip
                          refine x_iconst hx hb dX11_together_203 ?_
                          refine lv_istore (lv' := [(4, .int (xJ 0)), (0, .ref (h0 + 268)), (1, .int (xJ n)), (2, .int (xJ x)), (3, .int (xJ x12))]) hx hb dX11_together_204 hl (by decide) rfl (fun ls hl => ?_)
                          have L206 : ∀ (fu : Nat) (i4_206 : Int) (s_206 : xS) (H : Heap) (locs : List Loc) (ls : Array Slot), (xR i4_206) → (xFr (fun k => k = 268 ∨ k = 306 ∨ k = 307) s0 s_206) → (IMn s_206) → (IMk s_206) → (IMo s_206) → (s_206 268 58 = s0 268 58) → (s_206 268 17 = s0 268 17) → (s_206 268 48 = s0 268 48) → (s_206 268 8 = 0) → (0 ≤ i4_206) → (n + 1 - i4_206).toNat < fu → xW D g h0 s H locs s_206 → lv_has ls 8 [(0, .ref (h0 + 268)), (1, .int (xJ n)), (2, .int (xJ x)), (4, .int (xJ i4_206))] → W p l e { frames := 2, cells := 0, slots := 0, locals := 47 } s m args below meth c H locs 0 0 Q (F0 m 206 ls []) := by
                            intro fu
                            induction fu with
                            | zero => intro i4_206 s_206 H locs ls ri4_206 hF_206 q206_0 q206_1 q206_2 q206_3 q206_4 q206_5 q206_6 v206_0 hm; exact absurd hm (Nat.not_lt_zero _)
                            | succ fu ih206 =>
                              intro i4_206 s_206 H locs ls ri4_206 hF_206 q206_0 q206_1 q206_2 q206_3 q206_4 q206_5 q206_6 v206_0 hm hW hl
                              have hm_206 := fun (_ : Unit) => hm
                              clear hm
                              refine x_iload hx hb hl 3 rfl dX11_together_206 ?_
                              refine x_iload_n hx hb hl 1 rfl dX11_together_208 rfl ?_
                              refine x_icmp_ge (tgt := 278) hx hb ri4_206 rn dX11_together_209 (by decide) (fun c28 => ?_) (fun c28 => ?_)
                              · skip
                                refine x_iconst hx hb dX11_together_278 ?_
                                refine lv_istore (lv' := [(4, .int (xJ 0)), (0, .ref (h0 + 268)), (1, .int (xJ n)), (2, .int (xJ x))]) hx hb dX11_together_279 hl (by decide) rfl (fun ls hl => ?_)
                                refine x_iconst hx hb dX11_together_281 ?_
                                refine lv_istore (lv' := [(5, .int (xJ 0)), (4, .int (xJ 0)), (0, .ref (h0 + 268)), (1, .int (xJ n)), (2, .int (xJ x))]) hx hb dX11_together_282 hl (by decide) rfl (fun ls hl => ?_)
                                refine x_iconst hx hb dX11_together_284 ?_
                                refine lv_istore (lv' := [(6, .int (xJ 0)), (5, .int (xJ 0)), (4, .int (xJ 0)), (0, .ref (h0 + 268)), (1, .int (xJ n)), (2, .int (xJ x))]) hx hb dX11_together_285 hl (by decide) rfl (fun ls hl => ?_)
                                refine x_iconst hx hb dX11_together_287 ?_
                                refine lv_istore (lv' := [(7, .int (xJ 0)), (6, .int (xJ 0)), (5, .int (xJ 0)), (4, .int (xJ 0)), (0, .ref (h0 + 268)), (1, .int (xJ n)), (2, .int (xJ x))]) hx hb dX11_together_288 hl (by decide) rfl (fun ls hl => ?_)
                                have L290 : ∀ (fu : Nat) (i4_290 : Int) (i5_290 : Int) (i6_290 : Int) (i7_290 : Int) (H : Heap) (locs : List Loc) (ls : Array Slot), (xR i4_290) → (xR i5_290) → (xR i6_290) → (xR i7_290) → (0 ≤ i7_290) → (n + 1 - i7_290).toNat < fu → xW D g h0 s H locs s_206 → lv_has ls 8 [(0, .ref (h0 + 268)), (1, .int (xJ n)), (2, .int (xJ x)), (4, .int (xJ i4_290)), (5, .int (xJ i5_290)), (6, .int (xJ i6_290)), (7, .int (xJ i7_290))] → W p l e { frames := 2, cells := 0, slots := 0, locals := 47 } s m args below meth c H locs 0 0 Q (F0 m 290 ls []) := by
                                  intro fu
                                  induction fu with
                                  | zero => intro i4_290 i5_290 i6_290 i7_290 H locs ls ri4_290 ri5_290 ri6_290 ri7_290 v290_0 hm; exact absurd hm (Nat.not_lt_zero _)
                                  | succ fu ih290 =>
                                    intro i4_290 i5_290 i6_290 i7_290 H locs ls ri4_290 ri5_290 ri6_290 ri7_290 v290_0 hm hW hl
                                    have hm_290 := fun (_ : Unit) => hm
                                    clear hm
                                    refine x_iload hx hb hl 6 rfl dX11_together_290 ?_
                                    refine x_iload_n hx hb hl 1 rfl dX11_together_292 rfl ?_
                                    refine x_icmp_ge (tgt := 346) hx hb ri7_290 rn dX11_together_293 (by decide) (fun c29 => ?_) (fun c29 => ?_)
                                    · skip
                                      refine x_iload_n hx hb hl 2 rfl dX11_together_346 rfl ?_
                                      refine x_if_ne (tgt := 355) hx hb rx dX11_together_347 (by decide) (fun c30 => ?_) (fun c30 => ?_)
                                      · skip
                                        refine x_iload_n hx hb hl 2 rfl dX11_together_355 rfl ?_
                                        refine x_iconst hx hb dX11_together_356 ?_
                                        refine x_icmp_ne (tgt := 365) hx hb rx (by decide) dX11_together_357 (by decide) (fun c31 => ?_) (fun c31 => ?_)
                                        · skip
                                          refine x_iload hx hb hl 5 rfl dX11_together_365 ?_
                                          rw [eQ]
                                          exact x_iret hx hb hr hlk hW ri6_290 ⟨hF_206, ⟨q206_0, q206_1, q206_2, q206_3, q206_4, q206_5, trivial⟩, by omega⟩ dX11_together_367
                                        refine x_iload hx hb hl 4 rfl dX11_together_360 ?_
                                        refine lv_goto (tgt := 367) hx hb dX11_together_362 (by decide) ?_
                                        rw [eQ]
                                        exact x_iret hx hb hr hlk hW ri5_290 ⟨hF_206, ⟨q206_0, q206_1, q206_2, q206_3, q206_4, q206_5, trivial⟩, by omega⟩ dX11_together_367
                                      refine x_iload hx hb hl 3 rfl dX11_together_350 ?_
                                      refine lv_goto (tgt := 367) hx hb dX11_together_352 (by decide) ?_
                                      rw [eQ]
                                      exact x_iret hx hb hr hlk hW ri4_290 ⟨hF_206, ⟨q206_0, q206_1, q206_2, q206_3, q206_4, q206_5, trivial⟩, by omega⟩ dX11_together_367
                                    refine x_aload_n hx hb hl 0 rfl dX11_together_296 rfl ?_
                                    refine x_get (j := 56) (v := .ref (h0 + 306)) hx hb hown hT hE hW cls_X11 (Or.inl (by decide)) (so_268 h0 g _) (by decide) rfl wq1241 dX11_together_297 ?_
                                    refine x_iload hx hb hl 6 rfl dX11_together_300 ?_
                                    refine x_iald hx hb hE hW (Or.inl (by decide)) (sa_306 h0 g _) (by omega) (by decide) dX11_together_302 ?_
                                    refine x_rd hW (fun x32 ex32 rx32 => ?_)
                                    have bx32 : 0 ≤ x32 ∧ x32 ≤ 7 := by rw [ex32]; exact IMo.b q206_2 _ (by omega) (by omega)
                                    refine x_iload hx hb hl 6 rfl dX11_together_303 ?_
                                    have J314 : ∀ (i5_314 : Int) (ls : Array Slot), (xR i5_314) → lv_has ls 8 [(0, .ref (h0 + 268)), (1, .int (xJ n)), (2, .int (xJ x)), (4, .int (xJ i4_290)), (5, .int (xJ i5_314)), (6, .int (xJ i6_290)), (7, .int (xJ i7_290))] → W p l e { frames := 2, cells := 0, slots := 0, locals := 47 } s m args below meth c H locs 0 0 Q (F0 m 314 ls []) := by
                                      intro i5_314 ls ri5_314  hl
                                      refine x_iload hx hb hl 3 rfl dX11_together_314 ?_
                                      refine x_aload_n hx hb hl 0 rfl dX11_together_316 rfl ?_
                                      refine x_get (j := 57) (v := .ref (h0 + 307)) hx hb hown hT hE hW cls_X11 (Or.inl (by decide)) (so_268 h0 g _) (by decide) rfl wq1242 dX11_together_317 ?_
                                      refine x_iload hx hb hl 6 rfl dX11_together_320 ?_
                                      refine x_iald hx hb hE hW (Or.inl (by decide)) (sa_307 h0 g _) (by omega) (by decide) dX11_together_322 ?_
                                      refine x_rd hW (fun x33 ex33 rx33 => ?_)
                                      refine x_iadd hx hb dX11_together_323 ?_
                                      refine x_any (fun x34 rx34 => ?_)
                                      refine lv_istore (lv' := [(4, .int (xJ x34)), (0, .ref (h0 + 268)), (1, .int (xJ n)), (2, .int (xJ x)), (5, .int (xJ i5_314)), (6, .int (xJ i6_290)), (7, .int (xJ i7_290))]) hx hb dX11_together_324 hl (by decide) rfl (fun ls hl => ?_)
                                      refine x_iload hx hb hl 5 rfl dX11_together_326 ?_
                                      refine x_aload_n hx hb hl 1 rfl dX11_together_328 rfl ?_
                                      refine x_get (j := 57) (v := .ref (h0 + 307)) hx hb hown hT hE hW cls_X11 (Or.inl (by decide)) (so_268 h0 g _) (by decide) rfl wq1242 dX11_together_329 ?_
                                      refine x_iload hx hb hl 6 rfl dX11_together_332 ?_
                                      refine x_iald hx hb hE hW (Or.inl (by decide)) (sa_307 h0 g _) (by omega) (by decide) dX11_together_334 ?_
                                      refine x_rd hW (fun x35 ex35 rx35 => ?_)
                                      refine x_goi (x_runS (As := [.int (xJ i6_290), .int (xJ x35)]) hx hb hml hown hT hE hW hl.1 cf_X11_max wq1677 wq1676 (c_X11_max l D g T h0 s_206 hW.2.1 i6_290 ri6_290 x35 rx35) ⟨rfl, rfl, ⟨by decide, by decide⟩, ⟨by decide, by decide⟩⟩ rfl rfl (Nat.le_of_ble_eq_true rfl) dX11_together_335) hW (fun x36 s37 H locs rx36 hp38 hW => ?_)
                                      obtain ⟨es37, hp38⟩ := hp38
                                      subst es37
                                      have ghp38 := hp38
                                      refine lv_istore (lv' := [(6, .int (xJ x36)), (4, .int (xJ x34)), (0, .ref (h0 + 268)), (1, .int (xJ n)), (2, .int (xJ x)), (5, .int (xJ i5_314)), (7, .int (xJ i7_290))]) hx hb dX11_together_338 hl (by decide) rfl (fun ls hl => ?_)
                                      refine x_iinc (lv' := [(7, .int (xJ (i7_290 + 1))), (6, .int (xJ x36)), (4, .int (xJ x34)), (0, .ref (h0 + 268)), (1, .int (xJ n)), (2, .int (xJ x)), (5, .int (xJ i5_314))]) hx hb hl 6 rfl dX11_together_340 (by decide) rfl (fun ls hl => ?_)
                                      refine lv_goto (tgt := 290) hx hb dX11_together_343 (by decide) ?_
                                      exact ih290 x34 i5_314 x36 (i7_290 + 1) H locs ls rx34 ri5_314 rx36 (by omega) (by omega) (by have hm := hm_290 (); omega) hW (lv_sub hl [3, 4, 5, 2, 6, 1, 0] rfl)
                                    refine x_icmp_ne (tgt := 314) hx hb rx32 ri7_290 dX11_together_305 (by decide) (fun c39 => ?_) (fun c39 => ?_)
                                    · skip
                                      exact J314 i5_290 ls ri5_290  (lv_sub hl [0, 1, 2, 3, 4, 5, 6] rfl)
                                    refine x_iload hx hb hl 4 rfl dX11_together_308 ?_
                                    refine x_iconst hx hb dX11_together_310 ?_
                                    refine x_iadd hx hb dX11_together_311 ?_
                                    refine x_any (fun x40 rx40 => ?_)
                                    refine lv_istore (lv' := [(5, .int (xJ x40)), (0, .ref (h0 + 268)), (1, .int (xJ n)), (2, .int (xJ x)), (4, .int (xJ i4_290)), (6, .int (xJ i6_290)), (7, .int (xJ i7_290))]) hx hb dX11_together_312 hl (by decide) rfl (fun ls hl => ?_)
                                    exact J314 x40 ls rx40  (lv_sub hl [1, 2, 3, 4, 0, 5, 6] rfl)
                                exact L290 ((n + 1 - 0 : Int).toNat + 1) 0 0 0 0 H locs ls (by decide) (by decide) (by decide) (by decide) (by omega) (Nat.lt_succ_self _) hW (lv_sub hl [4, 5, 6, 3, 2, 1, 0] rfl)
                              refine x_aload_n hx hb hl 0 rfl dX11_together_212 rfl ?_
                              refine x_get (j := 57) (v := .ref (h0 + 307)) hx hb hown hT hE hW cls_X11 (Or.inl (by decide)) (so_268 h0 g _) (by decide) rfl wq1242 dX11_together_213 ?_
                              refine x_aload_n hx hb hl 0 rfl dX11_together_216 rfl ?_
                              refine x_get (j := 56) (v := .ref (h0 + 306)) hx hb hown hT hE hW cls_X11 (Or.inl (by decide)) (so_268 h0 g _) (by decide) rfl wq1241 dX11_together_217 ?_
                              refine x_iload hx hb hl 3 rfl dX11_together_220 ?_
                              refine x_iald hx hb hE hW (Or.inl (by decide)) (sa_306 h0 g _) (by omega) (by decide) dX11_together_222 ?_
                              refine x_rd hW (fun x41 ex41 rx41 => ?_)
                              have bx41 : 0 ≤ x41 ∧ x41 ≤ 7 := by rw [ex41]; exact IMo.b q206_2 _ (by omega) (by omega)
                              refine x_aload_n hx hb hl 0 rfl dX11_together_223 rfl ?_
                              refine x_get (j := 57) (v := .ref (h0 + 307)) hx hb hown hT hE hW cls_X11 (Or.inl (by decide)) (so_268 h0 g _) (by decide) rfl wq1242 dX11_together_224 ?_
                              refine x_aload_n hx hb hl 0 rfl dX11_together_227 rfl ?_
                              refine x_get (j := 56) (v := .ref (h0 + 306)) hx hb hown hT hE hW cls_X11 (Or.inl (by decide)) (so_268 h0 g _) (by decide) rfl wq1241 dX11_together_228 ?_
                              refine x_iload hx hb hl 3 rfl dX11_together_231 ?_
                              refine x_iald hx hb hE hW (Or.inl (by decide)) (sa_306 h0 g _) (by omega) (by decide) dX11_together_233 ?_
                              refine x_rd hW (fun x42 ex42 rx42 => ?_)
                              have bx42 : 0 ≤ x42 ∧ x42 ≤ 7 := by rw [ex42]; exact IMo.b q206_2 _ (by omega) (by omega)
                              refine x_iald hx hb hE hW (Or.inl (by decide)) (sa_307 h0 g _) (by omega) (by decide) dX11_together_234 ?_
                              refine x_rd hW (fun x43 ex43 rx43 => ?_)
                              refine x_aload_n hx hb hl 0 rfl dX11_together_235 rfl ?_
                              refine x_get (j := 7) (v := .ref (h0 + 276)) hx hb hown hT hE hW cls_X11 (Or.inl (by decide)) (so_268 h0 g _) (by decide) rfl wq1192 dX11_together_236 ?_
                              refine x_iconst hx hb dX11_together_239 ?_
                              refine x_iload hx hb hl 3 rfl dX11_together_240 ?_
                              refine x_imul hx hb dX11_together_242 ?_
                              refine x_bald hx hb hE hW (Or.inl (by decide)) (sa_276 h0 g _) (by omega) (by decide) dX11_together_243 ?_
                              refine x_rd hW (fun x44 ex44 rx44 => ?_)
                              refine x_sipush hx hb dX11_together_244 (by decide) ?_
                              refine x_and255 hx hb rx44 dX11_together_247 ?_
                              refine x_nm (fun x45 ex45 => ?_)
                              refine x_sipush hx hb dX11_together_248 (by decide) ?_
                              refine x_imul hx hb dX11_together_251 ?_
                              refine x_aload_n hx hb hl 0 rfl dX11_together_252 rfl ?_
                              refine x_get (j := 7) (v := .ref (h0 + 276)) hx hb hown hT hE hW cls_X11 (Or.inl (by decide)) (so_268 h0 g _) (by decide) rfl wq1192 dX11_together_253 ?_
                              refine x_iconst hx hb dX11_together_256 ?_
                              refine x_iload hx hb hl 3 rfl dX11_together_257 ?_
                              refine x_imul hx hb dX11_together_259 ?_
                              refine x_iconst hx hb dX11_together_260 ?_
                              refine x_iadd hx hb dX11_together_261 ?_
                              refine x_bald hx hb hE hW (Or.inl (by decide)) (sa_276 h0 g _) (by omega) (by decide) dX11_together_262 ?_
                              refine x_rd hW (fun x46 ex46 rx46 => ?_)
                              refine x_sipush hx hb dX11_together_263 (by decide) ?_
                              refine x_and255 hx hb rx46 dX11_together_266 ?_
                              refine x_nm (fun x47 ex47 => ?_)
                              refine x_iadd hx hb dX11_together_267 ?_
                              refine x_goi (x_runS (As := [.int (xJ x43), .int (xJ ((x45 * 256) + x47))]) hx hb hml hown hT hE hW hl.1 cf_X11_max wq1677 wq1676 (c_X11_max l D g T h0 s_206 hW.2.1 x43 rx43 ((x45 * 256) + x47) (by omega)) ⟨rfl, rfl, ⟨by decide, by decide⟩, ⟨by decide, by decide⟩⟩ rfl rfl (Nat.le_of_ble_eq_true rfl) dX11_together_268) hW (fun x48 s49 H locs rx48 hp50 hW => ?_)
                              obtain ⟨es49, hp50⟩ := hp50
                              subst es49
                              have ghp50 := hp50
                              refine x_iast hx hb hE hW (by decide) (fun σ => sa_307 h0 g σ) (by omega) (by decide) rx48 dX11_together_271 (fun H locs s51 es51 hW => ?_)
                              have q52 : IMn s51 := by rw [es51]; exact IMn_o (by unfold suIMn; first | decide | omega) q206_0
                              have q53 : IMk s51 := by rw [es51]; exact IMk_o (by unfold suIMk; first | decide | omega) q206_1
                              have q54 : IMo s51 := by rw [es51]; exact IMo_o (by unfold suIMo; first | decide | omega) q206_2
                              have q55 : s51 268 58 = s0 268 58 := (show s51 268 58 = s_206 268 58 from by rw [es51, xU_k _ _ _ (by first | decide | omega)]).trans q206_3
                              have q56 : s51 268 17 = s0 268 17 := (show s51 268 17 = s_206 268 17 from by rw [es51, xU_k _ _ _ (by first | decide | omega)]).trans q206_4
                              have q57 : s51 268 48 = s0 268 48 := (show s51 268 48 = s_206 268 48 from by rw [es51, xU_k _ _ _ (by first | decide | omega)]).trans q206_5
                              have q58 : s51 268 8 = 0 := (show s51 268 8 = s_206 268 8 from by rw [es51, xU_k _ _ _ (by first | decide | omega)]).trans q206_6
                              have hF59 := hF_206.put es51 (by omega)
                              refine x_iinc (lv' := [(4, .int (xJ (i4_206 + 1))), (0, .ref (h0 + 268)), (1, .int (xJ n)), (2, .int (xJ x))]) hx hb hl 3 rfl dX11_together_272 (by decide) rfl (fun ls hl => ?_)
                              refine lv_goto (tgt := 206) hx hb dX11_together_275 (by decide) ?_
                              exact ih206 (i4_206 + 1) s51 H locs ls (by omega) hF59 q52 q53 q54 q55 q56 q57 q58 (by omega) (by have hm := hm_206 (); omega) hW (lv_sub hl [1, 2, 3, 0] rfl)
                          exact L206 ((n + 1 - 0 : Int).toNat + 1) 0 s_156 H locs ls (by decide) hF_156 q156_0 q156_1 q156_2 q156_3 q156_4 q156_5 q156_6 (by omega) (Nat.lt_succ_self _) hW (lv_sub hl [1, 2, 3, 0] rfl)
                        refine x_aload_n hx hb hl 0 rfl dX11_together_162 rfl ?_
                        refine x_aload_n hx hb hl 0 rfl dX11_together_163 rfl ?_
                        refine x_get (j := 7) (v := .ref (h0 + 276)) hx hb hown hT hE hW cls_X11 (Or.inl (by decide)) (so_268 h0 g _) (by decide) rfl wq1192 dX11_together_164 ?_
                        refine x_iconst hx hb dX11_together_167 ?_
                        refine x_iload_n hx hb hl 1 rfl dX11_together_168 rfl ?_
                        refine x_imul hx hb dX11_together_169 ?_
                        refine x_iconst hx hb dX11_together_170 ?_
                        refine x_iadd hx hb dX11_together_171 ?_
                        refine x_iconst hx hb dX11_together_172 ?_
                        refine x_iload hx hb hl 4 rfl dX11_together_173 ?_
                        refine x_imul hx hb dX11_together_175 ?_
                        refine x_iadd hx hb dX11_together_176 ?_
                        refine x_bald hx hb hE hW (Or.inl (by decide)) (sa_276 h0 g _) (by omega) (by decide) dX11_together_177 ?_
                        refine x_rd hW (fun x60 ex60 rx60 => ?_)
                        have ux60 : (2 * n + 1 + ((((2 * n) + 1) + (2 * i4_156)) - (2 * n + 1))) = (((2 * n) + 1) + (2 * i4_156)) := by omega
                        have wx60 := v113_1 ((((2 * n) + 1) + (2 * i4_156)) - (2 * n + 1)) (by omega) (by omega)
                        rw [ux60, ← hF_156 276 (by first | decide | omega), ← ex60] at wx60
                        have tx60 : 0 ≤ x60 ∧ x60 ≤ 7 := by omega
                        refine x_aload_n hx hb hl 0 rfl dX11_together_178 rfl ?_
                        refine x_get (j := 7) (v := .ref (h0 + 276)) hx hb hown hT hE hW cls_X11 (Or.inl (by decide)) (so_268 h0 g _) (by decide) rfl wq1192 dX11_together_179 ?_
                        refine x_iconst hx hb dX11_together_182 ?_
                        refine x_iload_n hx hb hl 1 rfl dX11_together_183 rfl ?_
                        refine x_imul hx hb dX11_together_184 ?_
                        refine x_iconst hx hb dX11_together_185 ?_
                        refine x_iadd hx hb dX11_together_186 ?_
                        refine x_iconst hx hb dX11_together_187 ?_
                        refine x_iload hx hb hl 4 rfl dX11_together_188 ?_
                        refine x_imul hx hb dX11_together_190 ?_
                        refine x_iadd hx hb dX11_together_191 ?_
                        refine x_bald hx hb hE hW (Or.inl (by decide)) (sa_276 h0 g _) (by omega) (by decide) dX11_together_192 ?_
                        refine x_rd hW (fun x61 ex61 rx61 => ?_)
                        have ux61 : (2 * n + 1 + ((((2 * n) + 2) + (2 * i4_156)) - (2 * n + 1))) = (((2 * n) + 2) + (2 * i4_156)) := by omega
                        have wx61 := v113_1 ((((2 * n) + 2) + (2 * i4_156)) - (2 * n + 1)) (by omega) (by omega)
                        rw [ux61, ← hF_156 276 (by first | decide | omega), ← ex61] at wx61
                        have tx61 : 0 ≤ x61 ∧ x61 ≤ 7 := by omega
                        refine x_iload_n hx hb hl 1 rfl dX11_together_193 rfl ?_
                        refine x_gov (x_runV (As := [.int (xJ x60), .int (xJ x61), .int (xJ n)]) hx hb hml hown hT hE hW hl.1 (Or.inl (by decide)) (so_268 h0 g _) rfl cf_X11_binds wq1748 wq163 wq1746 (c_X11_binds l D g T h0 s_156 hW.2.1 x60 rx60 x61 rx61 n rn (by omega) q156_0 q156_1 q156_2) ⟨rfl, rfl, ⟨by decide, by decide⟩, ⟨by decide, by decide⟩⟩ rfl rfl (Nat.le_of_ble_eq_true rfl) dX11_together_194) hW (fun s63 H locs hp64 hW => ?_)
                        obtain ⟨fs63, hp64⟩ := hp64
                        have hF65 := hF_156.call fs63 (fun k h => by omega)
                        have q66 : s63 268 58 = s0 268 58 := (congrFun (fs63 _ (by omega)) _).trans q156_3
                        have q67 : s63 268 17 = s0 268 17 := (congrFun (fs63 _ (by omega)) _).trans q156_4
                        have q68 : s63 268 48 = s0 268 48 := (congrFun (fs63 _ (by omega)) _).trans q156_5
                        have q69 : s63 268 8 = 0 := (congrFun (fs63 _ (by omega)) _).trans q156_6
                        have ghp64 := hp64.2
                        refine x_iinc (lv' := [(4, .int (xJ (i4_156 + 1))), (0, .ref (h0 + 268)), (1, .int (xJ n)), (2, .int (xJ x)), (3, .int (xJ x12))]) hx hb hl 4 rfl dX11_together_197 (by decide) rfl (fun ls hl => ?_)
                        refine lv_goto (tgt := 156) hx hb dX11_together_200 (by decide) ?_
                        exact ih156 (i4_156 + 1) s63 H locs ls (by omega) hF65 hp64.1.1 hp64.1.2.1 hp64.1.2.2.1 q66 q67 q68 q69 (by omega) (by have hm := hm_156 (); omega) hW (lv_sub hl [1, 2, 3, 4, 0] rfl)
                    exact L156 ((x12 + 1 - 0 : Int).toNat + 1) 0 s_81 H locs ls (by decide) hF_81 q81_0 q81_1 q81_2 q81_3 q81_4 q81_5 q81_6 (by omega) (Nat.lt_succ_self _) hW (lv_sub hl [1, 2, 3, 4, 0] rfl)
                  refine x_aload_n hx hb hl 0 rfl dX11_together_121 rfl ?_
                  refine x_get (j := 7) (v := .ref (h0 + 276)) hx hb hown hT hE hW cls_X11 (Or.inl (by decide)) (so_268 h0 g _) (by decide) rfl wq1192 dX11_together_122 ?_
                  refine x_iconst hx hb dX11_together_125 ?_
                  refine x_iload_n hx hb hl 1 rfl dX11_together_126 rfl ?_
                  refine x_imul hx hb dX11_together_127 ?_
                  refine x_iconst hx hb dX11_together_128 ?_
                  refine x_iadd hx hb dX11_together_129 ?_
                  refine x_iload hx hb hl 4 rfl dX11_together_130 ?_
                  refine x_iadd hx hb dX11_together_132 ?_
                  refine x_bald hx hb hE hW (Or.inl (by decide)) (sa_276 h0 g _) (by omega) (by decide) dX11_together_133 ?_
                  refine x_rd hW (fun x70 ex70 rx70 => ?_)
                  refine x_iconst hx hb dX11_together_134 ?_
                  refine x_iload_n hx hb hl 1 rfl dX11_together_135 rfl ?_
                  refine x_iconst hx hb dX11_together_136 ?_
                  refine x_isub hx hb dX11_together_137 ?_
                  refine x_goi (x_runS (As := [.int (xJ x70), .int (xJ 0), .int (xJ (n - 1))]) hx hb hml hown hT hE hW hl.1 cf_X11_in wq1383 wq1382 (c_X11_in l D g T h0 s_81 hW.2.1 x70 rx70 0 (by decide) (n - 1) (by omega)) ⟨rfl, rfl, ⟨by decide, by decide⟩, ⟨by decide, by decide⟩⟩ rfl rfl (Nat.le_of_ble_eq_true rfl) dX11_together_138) hW (fun x71 s72 H locs rx71 hp73 hW => ?_)
                  obtain ⟨es72, hp73⟩ := hp73
                  subst es72
                  have ghp73 := hp73
                  refine x_if_ne (tgt := 147) hx hb rx71 dX11_together_141 (by decide) (fun c74 => ?_) (fun c74 => ?_)
                  · skip
                    refine x_iinc (lv' := [(4, .int (xJ (i4_113 + 1))), (0, .ref (h0 + 268)), (1, .int (xJ n)), (2, .int (xJ x)), (3, .int (xJ x12))]) hx hb hl 4 rfl dX11_together_147 (by decide) rfl (fun ls hl => ?_)
                    refine lv_goto (tgt := 113) hx hb dX11_together_150 (by decide) ?_
                    exact ih113 (i4_113 + 1) H locs ls (by omega) (by omega) (fun q h1 h2 => (Classical.em (q < (i4_113 + 1) - 1)).elim (fun hq => v113_1 q h1 (by omega)) (fun hq => by rw [show q = i4_113 from by omega, ← hF_81 276 (by first | decide | omega)]; omega)) (by have hm := hm_113 (); omega) hW (lv_sub hl [1, 2, 3, 4, 0] rfl)
                  refine x_bipush hx hb dX11_together_144 (by decide) ?_
                  rw [eQ]
                  exact x_iret hx hb hr hlk hW (by decide) ⟨hF_81, ⟨q81_0, q81_1, q81_2, q81_3, q81_4, q81_5, trivial⟩, by omega⟩ dX11_together_146
              exact L113 ((2 * x12 - 0 : Int).toNat + 1) 0 H locs ls (by decide) (by omega) (fun q h1 h2 => False.elim (by omega)) (Nat.lt_succ_self _) hW (lv_sub hl [1, 2, 3, 4, 0] rfl)
            refine x_aload_n hx hb hl 0 rfl dX11_together_87 rfl ?_
            refine x_get (j := 56) (v := .ref (h0 + 306)) hx hb hown hT hE hW cls_X11 (Or.inl (by decide)) (so_268 h0 g _) (by decide) rfl wq1241 dX11_together_88 ?_
            refine x_iload hx hb hl 4 rfl dX11_together_91 ?_
            refine x_iload hx hb hl 4 rfl dX11_together_93 ?_
            refine x_iast hx hb hE hW (by decide) (fun σ => sa_306 h0 g σ) (by omega) (by decide) ri4_81 dX11_together_95 (fun H locs s75 es75 hW => ?_)
            have q76 : IMn s75 := by rw [es75]; exact IMn_o (by unfold suIMn; first | decide | omega) q81_0
            have q77 : IMk s75 := by rw [es75]; exact IMk_o (by unfold suIMk; first | decide | omega) q81_1
            have q78 : IMo s75 := by rw [es75]; exact IMo_306 q81_2 (by omega)
            have q79 : s75 268 58 = s0 268 58 := (show s75 268 58 = s_81 268 58 from by rw [es75, xU_k _ _ _ (by first | decide | omega)]).trans q81_3
            have q80 : s75 268 17 = s0 268 17 := (show s75 268 17 = s_81 268 17 from by rw [es75, xU_k _ _ _ (by first | decide | omega)]).trans q81_4
            have q81 : s75 268 48 = s0 268 48 := (show s75 268 48 = s_81 268 48 from by rw [es75, xU_k _ _ _ (by first | decide | omega)]).trans q81_5
            have q82 : s75 268 8 = 0 := (show s75 268 8 = s_81 268 8 from by rw [es75, xU_k _ _ _ (by first | decide | omega)]).trans q81_6
            have hF83 := hF_81.put es75 (by omega)
            refine x_aload_n hx hb hl 0 rfl dX11_together_96 rfl ?_
            refine x_get (j := 57) (v := .ref (h0 + 307)) hx hb hown hT hE hW cls_X11 (Or.inl (by decide)) (so_268 h0 g _) (by decide) rfl wq1242 dX11_together_97 ?_
            refine x_iload hx hb hl 4 rfl dX11_together_100 ?_
            refine x_iconst hx hb dX11_together_102 ?_
            refine x_iast hx hb hE hW (by decide) (fun σ => sa_307 h0 g σ) (by omega) (by decide) (by decide) dX11_together_103 (fun H locs s84 es84 hW => ?_)
            have q85 : IMn s84 := by rw [es84]; exact IMn_o (by unfold suIMn; first | decide | omega) q76
            have q86 : IMk s84 := by rw [es84]; exact IMk_o (by unfold suIMk; first | decide | omega) q77
            have q87 : IMo s84 := by rw [es84]; exact IMo_o (by unfold suIMo; first | decide | omega) q78
            have q88 : s84 268 58 = s0 268 58 := (show s84 268 58 = s75 268 58 from by rw [es84, xU_k _ _ _ (by first | decide | omega)]).trans q79
            have q89 : s84 268 17 = s0 268 17 := (show s84 268 17 = s75 268 17 from by rw [es84, xU_k _ _ _ (by first | decide | omega)]).trans q80
            have q90 : s84 268 48 = s0 268 48 := (show s84 268 48 = s75 268 48 from by rw [es84, xU_k _ _ _ (by first | decide | omega)]).trans q81
            have q91 : s84 268 8 = 0 := (show s84 268 8 = s75 268 8 from by rw [es84, xU_k _ _ _ (by first | decide | omega)]).trans q82
            have hF92 := hF83.put es84 (by omega)
            refine x_iinc (lv' := [(4, .int (xJ (i4_81 + 1))), (0, .ref (h0 + 268)), (1, .int (xJ n)), (2, .int (xJ x)), (3, .int (xJ x12))]) hx hb hl 4 rfl dX11_together_104 (by decide) rfl (fun ls hl => ?_)
            refine lv_goto (tgt := 81) hx hb dX11_together_107 (by decide) ?_
            exact ih81 (i4_81 + 1) s84 H locs ls (by omega) hF92 q85 q86 q87 q88 q89 q90 q91 (by omega) (by have hm := hm_81 (); omega) hW (lv_sub hl [1, 2, 3, 4, 0] rfl)
        exact L81 ((n + 1 - 0 : Int).toNat + 1) 0 s15 H locs ls (by decide) hF23 q16 q17 q18 q19 q20 q21 q22 (by omega) (Nat.lt_succ_self _) hW (lv_sub hl [2, 3, 4, 1, 0] rfl)
      refine x_bipush hx hb dX11_together_75 (by decide) ?_
      rw [eQ]
      exact x_iret hx hb hr hlk hW (by decide) ⟨hF23, ⟨q16, q17, q18, q19, q20, q21, trivial⟩, by omega⟩ dX11_together_77
    refine x_iconst hx hb dX11_together_62 ?_
    rw [eQ]
    exact x_iret hx hb hr hlk hW (by decide) ⟨hF, ⟨p0, p1, p2, k268_58, k268_17, k268_48, trivial⟩, by omega⟩ dX11_together_63
  refine x_iconst hx hb dX11_together_31 ?_
  rw [eQ]
  exact x_iret hx hb hr hlk hW (by decide) ⟨hF, ⟨p0, p1, p2, k268_58, k268_17, k268_48, trivial⟩, by omega⟩ dX11_together_32
set_option maxHeartbeats 4000000 in
set_option maxRecDepth 100000 in
theorem c_X11_printsF (l : Launch) (D : va_G) (g : xG) (T : Nat × Nat × Nat) (h0 : Nat) (s0 : xS) (hσ : xRR s0) (n : Int) (rn : xR n) (x : Int) (rx : xR x) (p0 : IMn s0) (p1 : IMk s0) (p2 : IMo s0) : Met l yX11_prints (xws yX11_prints cX11_prints 6 (some .int)) { frames := 5, cells := 0, slots := 0, locals := 115 } (xP [.ref (h0 + 268), .int (xJ n), .int (xJ x)] D g T h0 s0) (xQi D g h0 (fun r τ => xFr (fun k => k = 268 ∨ k = 296) s0 τ ∧ (((IMn τ) ∧ (IMk τ) ∧ (IMo τ) ∧ (τ 268 58 = s0 268 58) ∧ (τ 268 17 = s0 268 17) ∧ (τ 268 48 = s0 268 48) ∧ True) ∧ (((n < 2 ∨ 20 < n ∨ x < 0 ∨ 1 < x ∨ s0 268 8 < n) ∧ τ 268 8 = s0 268 8 ∧ r = -1) ∨ (¬ (n < 2 ∨ 20 < n ∨ x < 0 ∨ 1 < x ∨ s0 268 8 < n) ∧ τ 268 8 = 0))))) 0 0 (xA h0) := by
  refine x_met hσ (by decide) (Nat.le_of_ble_eq_true rfl) ?_
  intro p e s m args below meth c hx hb hr hml hown hT hlk hnm hE hW ls hl
  have hl : lv_has ls 6 [(0, .ref (h0 + 268)), (1, .int (xJ n)), (2, .int (xJ x))] := hl
  obtain ⟨Q, eQ⟩ : ∃ Q, Q = MQ below (xQi D g h0 (fun r τ => xFr (fun k => k = 268 ∨ k = 296) s0 τ ∧ (((IMn τ) ∧ (IMk τ) ∧ (IMo τ) ∧ (τ 268 58 = s0 268 58) ∧ (τ 268 17 = s0 268 17) ∧ (τ 268 48 = s0 268 48) ∧ True) ∧ (((n < 2 ∨ 20 < n ∨ x < 0 ∨ 1 < x ∨ s0 268 8 < n) ∧ τ 268 8 = s0 268 8 ∧ r = -1) ∨ (¬ (n < 2 ∨ 20 < n ∨ x < 0 ∨ 1 < x ∨ s0 268 8 < n) ∧ τ 268 8 = 0))))) args s 0 0 (xA h0) := ⟨_, rfl⟩
  rw [← eQ]
  generalize hHe : ([] : List Loc) = locs at hW ⊢
  obtain ⟨H, eH⟩ : ∃ H, H = s.heap := ⟨_, rfl⟩
  rw [← eH] at hW ⊢
  have hF : xFr (fun k => k = 268 ∨ k = 296) s0 s0 := xFr.rf
  have k268_58 : s0 268 58 = s0 268 58 := rfl
  have k268_17 : s0 268 17 = s0 268 17 := rfl
  have k268_48 : s0 268 48 = s0 268 48 := rfl
  have k268_8 : s0 268 8 = s0 268 8 := rfl
  refine x_iload_n hx hb hl 1 rfl dX11_prints_0 rfl ?_
  refine x_iconst hx hb dX11_prints_1 ?_
  refine x_bipush hx hb dX11_prints_2 (by decide) ?_
  refine x_goi (x_runS (As := [.int (xJ n), .int (xJ 2), .int (xJ 20)]) hx hb hml hown hT hE hW hl.1 cf_X11_in wq1383 wq1382 (c_X11_in l D g T h0 s0 hW.2.1 n rn 2 (by decide) 20 (by decide)) ⟨rfl, rfl, ⟨by decide, by decide⟩, ⟨by decide, by decide⟩⟩ rfl rfl (Nat.le_of_ble_eq_true rfl) dX11_prints_4) hW (fun x1 s2 H locs rx1 hp3 hW => ?_)
  obtain ⟨es2, hp3⟩ := hp3
  subst es2
  have ghp3 := hp3
  refine x_if_eq (tgt := 27) hx hb rx1 dX11_prints_7 (by decide) (fun c4 => ?_) (fun c4 => ?_)
  · skip
    refine x_iconst hx hb dX11_prints_27 ?_
    rw [eQ]
    exact x_iret hx hb hr hlk hW (by decide) ⟨hF, ⟨p0, p1, p2, k268_58, k268_17, k268_48, trivial⟩, by omega⟩ dX11_prints_28
  refine x_iload_n hx hb hl 2 rfl dX11_prints_10 rfl ?_
  refine x_iconst hx hb dX11_prints_11 ?_
  refine x_iconst hx hb dX11_prints_12 ?_
  refine x_goi (x_runS (As := [.int (xJ x), .int (xJ 0), .int (xJ 1)]) hx hb hml hown hT hE hW hl.1 cf_X11_in wq1383 wq1382 (c_X11_in l D g T h0 s0 hW.2.1 x rx 0 (by decide) 1 (by decide)) ⟨rfl, rfl, ⟨by decide, by decide⟩, ⟨by decide, by decide⟩⟩ rfl rfl (Nat.le_of_ble_eq_true rfl) dX11_prints_13) hW (fun x5 s6 H locs rx5 hp7 hW => ?_)
  obtain ⟨es6, hp7⟩ := hp7
  subst es6
  have ghp7 := hp7
  refine x_if_eq (tgt := 27) hx hb rx5 dX11_prints_16 (by decide) (fun c8 => ?_) (fun c8 => ?_)
  · skip
    refine x_iconst hx hb dX11_prints_27 ?_
    rw [eQ]
    exact x_iret hx hb hr hlk hW (by decide) ⟨hF, ⟨p0, p1, p2, k268_58, k268_17, k268_48, trivial⟩, by omega⟩ dX11_prints_28
  refine x_iload_n hx hb hl 1 rfl dX11_prints_19 rfl ?_
  refine x_aload_n hx hb hl 0 rfl dX11_prints_20 rfl ?_
  refine x_get (j := 8) (v := .int (xJ (s0 268 8))) hx hb hown hT hE hW cls_X11 (Or.inl (by decide)) (so_268 h0 g _) (by decide) rfl wq1193 dX11_prints_21 ?_
  refine x_rd hW (fun x9 ex9 rx9 => ?_)
  have bx9 : 0 ≤ x9 ∧ x9 ≤ 260 := by rw [ex9]; exact IMn.t p0
  have fx9 : x9 = s0 268 8 := ex9.trans k268_8
  refine x_icmp_le (tgt := 29) hx hb rn rx9 dX11_prints_24 (by decide) (fun c10 => ?_) (fun c10 => ?_)
  · skip
    refine x_aload_n hx hb hl 0 rfl dX11_prints_29 rfl ?_
    refine x_iconst hx hb dX11_prints_30 ?_
    refine x_put (j := 8) hx hb hown hT hE hW cls_X11 (by decide) (fun σ => so_268 h0 g σ) (by decide) (st_X11_8 h0 s0 268 0) (ln_X11_8 h0 _ _) wq1193 rfl rfl rfl (by decide) dX11_prints_31 (fun H locs s11 es11 hW => ?_)
    have q12 : IMn s11 := by rw [es11]; exact IMn_268 p0 (by omega)
    have q13 : IMk s11 := by rw [es11]; exact IMk_268 p1 (by omega)
    have q14 : IMo s11 := by rw [es11]; exact IMo_o (by unfold suIMo; first | decide | omega) p2
    have q15 : s11 268 58 = s0 268 58 := (show s11 268 58 = s0 268 58 from by rw [es11, xU_j _ _ (by decide)]).trans k268_58
    have q16 : s11 268 17 = s0 268 17 := (show s11 268 17 = s0 268 17 from by rw [es11, xU_j _ _ (by decide)]).trans k268_17
    have q17 : s11 268 48 = s0 268 48 := (show s11 268 48 = s0 268 48 from by rw [es11, xU_j _ _ (by decide)]).trans k268_48
    have q18 : s11 268 8 = 0 := by rw [es11, xU_s]
    have hF19 := hF.put es11 (by omega)
    refine x_aload_n hx hb hl 0 rfl dX11_prints_34 rfl ?_
    refine x_iload_n hx hb hl 1 rfl dX11_prints_35 rfl ?_
    refine x_goi (x_runV (As := [.int (xJ n)]) hx hb hml hown hT hE hW hl.1 (Or.inl (by decide)) (so_268 h0 g _) rfl cf_X11_areSpots wq1732 wq161 wq1730 (c_X11_areSpots l D g T h0 s11 hW.2.1 n rn (by omega) q12 q13 q14) ⟨rfl, rfl, ⟨by decide, by decide⟩, ⟨by decide, by decide⟩⟩ rfl rfl (Nat.le_of_ble_eq_true rfl) dX11_prints_36) hW (fun x20 s21 H locs rx20 hp22 hW => ?_)
    obtain ⟨es21, hp22⟩ := hp22
    subst es21
    have ghp22 := hp22
    have ha := ghp22
    have hq9 := hF19 276 (by first | decide | omega)
    refine x_if_ne (tgt := 45) hx hb rx20 dX11_prints_39 (by decide) (fun c23 => ?_) (fun c23 => ?_)
    · skip
      refine x_iload_n hx hb hl 2 rfl dX11_prints_45 rfl ?_
      refine x_iconst hx hb dX11_prints_46 ?_
      refine x_icmp_ne (tgt := 63) hx hb rx (by decide) dX11_prints_47 (by decide) (fun c24 => ?_) (fun c24 => ?_)
      · skip
        refine x_aload_n hx hb hl 0 rfl dX11_prints_63 rfl ?_
        refine x_iload_n hx hb hl 1 rfl dX11_prints_64 rfl ?_
        refine x_goi (x_runV (As := [.int (xJ n)]) hx hb hml hown hT hE hW hl.1 (Or.inl (by decide)) (so_268 h0 g _) rfl cf_X11_failsAt wq1736 wq162 wq1734 (c_X11_failsAt l D g T h0 s11 hW.2.1 n rn (by omega) ((ha.resolve_left (by omega)).2) q12 q13 q14) ⟨rfl, rfl, ⟨by decide, by decide⟩, ⟨by decide, by decide⟩⟩ rfl rfl (Nat.le_of_ble_eq_true rfl) dX11_prints_65) hW (fun x25 s26 H locs rx25 hp27 hW => ?_)
        obtain ⟨fs26, hp27⟩ := hp27
        have hF28 := hF19.call fs26 (fun k h => by omega)
        have q29 : s26 268 58 = s0 268 58 := (congrFun (fs26 _ (by omega)) _).trans q15
        have q30 : s26 268 17 = s0 268 17 := (congrFun (fs26 _ (by omega)) _).trans q16
        have q31 : s26 268 48 = s0 268 48 := (congrFun (fs26 _ (by omega)) _).trans q17
        have q32 : s26 268 8 = 0 := (congrFun (fs26 _ (by omega)) _).trans q18
        have ghp27 := hp27.2
        refine lv_istore_n (lv' := [(3, .int (xJ x25)), (0, .ref (h0 + 268)), (1, .int (xJ n)), (2, .int (xJ x))]) hx hb dX11_prints_68 rfl hl (by decide) rfl (fun ls hl => ?_)
        refine x_iconst hx hb dX11_prints_69 ?_
        refine lv_istore (lv' := [(4, .int (xJ 0)), (3, .int (xJ x25)), (0, .ref (h0 + 268)), (1, .int (xJ n)), (2, .int (xJ x))]) hx hb dX11_prints_70 hl (by decide) rfl (fun ls hl => ?_)
        refine x_iconst hx hb dX11_prints_72 ?_
        refine lv_istore (lv' := [(5, .int (xJ 0)), (4, .int (xJ 0)), (3, .int (xJ x25)), (0, .ref (h0 + 268)), (1, .int (xJ n)), (2, .int (xJ x))]) hx hb dX11_prints_73 hl (by decide) rfl (fun ls hl => ?_)
        have L75 : ∀ (fu : Nat) (i4_75 : Int) (i5_75 : Int) (s_75 : xS) (H : Heap) (locs : List Loc) (ls : Array Slot), (xR i4_75) → (xR i5_75) → (xFr (fun k => k = 268 ∨ k = 296) s0 s_75) → (s_75 268 58 = s0 268 58) → (s_75 268 17 = s0 268 17) → (s_75 268 48 = s0 268 48) → (s_75 268 8 = 0) → (IMn s_75) → (IMk s_75) → (IMo s_75) → (0 ≤ i5_75) → (i5_75 ≤ 10) → (10 + 1 - i5_75).toNat < fu → xW D g h0 s H locs s_75 → lv_has ls 6 [(0, .ref (h0 + 268)), (2, .int (xJ x)), (3, .int (xJ x25)), (4, .int (xJ i4_75)), (5, .int (xJ i5_75))] → W p l e { frames := 5, cells := 0, slots := 0, locals := 115 } s m args below meth c H locs 0 0 Q (F0 m 75 ls []) := by
          intro fu
          induction fu with
          | zero => intro i4_75 i5_75 s_75 H locs ls ri4_75 ri5_75 hF_75 q75_0 q75_1 q75_2 q75_3 q75_4 q75_5 q75_6 v75_0 v75_1 hm; exact absurd hm (Nat.not_lt_zero _)
          | succ fu ih75 =>
            intro i4_75 i5_75 s_75 H locs ls ri4_75 ri5_75 hF_75 q75_0 q75_1 q75_2 q75_3 q75_4 q75_5 q75_6 v75_0 v75_1 hm hW hl
            have hm_75 := fun (_ : Unit) => hm
            clear hm
            refine x_iload hx hb hl 4 rfl dX11_prints_75 ?_
            refine x_bipush hx hb dX11_prints_77 (by decide) ?_
            refine x_icmp_ge (tgt := 141) hx hb ri5_75 (by decide) dX11_prints_79 (by decide) (fun c33 => ?_) (fun c33 => ?_)
            · skip
              refine x_iload_n hx hb hl 1 rfl dX11_prints_141 rfl ?_
              refine x_if_ne (tgt := 157) hx hb rx dX11_prints_142 (by decide) (fun c34 => ?_) (fun c34 => ?_)
              · skip
                refine x_iload hx hb hl 3 rfl dX11_prints_157 ?_
                refine x_if_ne (tgt := 166) hx hb ri4_75 dX11_prints_159 (by decide) (fun c35 => ?_) (fun c35 => ?_)
                · skip
                  refine x_iload_n hx hb hl 2 rfl dX11_prints_166 rfl ?_
                  refine x_iconst hx hb dX11_prints_167 ?_
                  refine x_icmp_ne (tgt := 176) hx hb rx25 (by decide) dX11_prints_168 (by decide) (fun c36 => ?_) (fun c36 => ?_)
                  · skip
                    refine x_iload_n hx hb hl 2 rfl dX11_prints_176 rfl ?_
                    rw [eQ]
                    exact x_iret hx hb hr hlk hW rx25 ⟨hF_75, ⟨q75_4, q75_5, q75_6, q75_0, q75_1, q75_2, trivial⟩, by omega⟩ dX11_prints_177
                  refine x_bipush hx hb dX11_prints_171 (by decide) ?_
                  refine lv_goto (tgt := 177) hx hb dX11_prints_173 (by decide) ?_
                  rw [eQ]
                  exact x_iret hx hb hr hlk hW (by decide) ⟨hF_75, ⟨q75_4, q75_5, q75_6, q75_0, q75_1, q75_2, trivial⟩, by omega⟩ dX11_prints_177
                refine x_iconst hx hb dX11_prints_162 ?_
                refine lv_goto (tgt := 177) hx hb dX11_prints_163 (by decide) ?_
                rw [eQ]
                exact x_iret hx hb hr hlk hW (by decide) ⟨hF_75, ⟨q75_4, q75_5, q75_6, q75_0, q75_1, q75_2, trivial⟩, by omega⟩ dX11_prints_177
              refine x_iload_n hx hb hl 2 rfl dX11_prints_145 rfl ?_
              refine x_iconst hx hb dX11_prints_146 ?_
              refine x_icmp_ne (tgt := 155) hx hb rx25 (by decide) dX11_prints_147 (by decide) (fun c37 => ?_) (fun c37 => ?_)
              · skip
                refine x_iconst hx hb dX11_prints_155 ?_
                rw [eQ]
                exact x_iret hx hb hr hlk hW (by decide) ⟨hF_75, ⟨q75_4, q75_5, q75_6, q75_0, q75_1, q75_2, trivial⟩, by omega⟩ dX11_prints_156
              refine x_iload hx hb hl 3 rfl dX11_prints_150 ?_
              refine lv_goto (tgt := 156) hx hb dX11_prints_152 (by decide) ?_
              rw [eQ]
              exact x_iret hx hb hr hlk hW ri4_75 ⟨hF_75, ⟨q75_4, q75_5, q75_6, q75_0, q75_1, q75_2, trivial⟩, by omega⟩ dX11_prints_156
            refine x_aload_n hx hb hl 0 rfl dX11_prints_82 rfl ?_
            refine x_iload hx hb hl 4 rfl dX11_prints_83 ?_
            refine x_goi (x_runV (As := [.int (xJ i5_75)]) hx hb hml hown hT hE hW hl.1 (Or.inl (by decide)) (so_268 h0 g _) rfl cf_X11_isFelon wq1423 wq111 wq1421 (c_X11_isFelonF l D g T h0 s_75 hW.2.1 i5_75 ri5_75 q75_4 q75_5 q75_6) ⟨rfl, rfl, ⟨by decide, by decide⟩, ⟨by decide, by decide⟩⟩ rfl rfl (Nat.le_of_ble_eq_true rfl) dX11_prints_85) hW (fun x38 s39 H locs rx38 hp40 hW => ?_)
            obtain ⟨es39, hp40⟩ := hp40
            subst es39
            have ghp40 := hp40
            refine x_if_ne (tgt := 94) hx hb rx38 dX11_prints_88 (by decide) (fun c41 => ?_) (fun c41 => ?_)
            · skip
              refine x_aload_n hx hb hl 0 rfl dX11_prints_94 rfl ?_
              refine x_aload_n hx hb hl 0 rfl dX11_prints_95 rfl ?_
              refine x_get (j := 0) (v := .ref (h0 + 269)) hx hb hown hT hE hW cls_X11 (Or.inl (by decide)) (so_268 h0 g _) (by decide) rfl wq1185 dX11_prints_96 ?_
              refine x_iconst hx hb dX11_prints_99 ?_
              refine x_iload hx hb hl 4 rfl dX11_prints_100 ?_
              refine x_iadd hx hb dX11_prints_102 ?_
              refine x_iald hx hb hE hW (Or.inl (by decide)) (sa_269 h0 g _) (by omega) (by decide) dX11_prints_103 ?_
              refine x_rd hW (fun x42 ex42 rx42 => ?_)
              have bx42 : 0 ≤ x42 ∧ x42 ≤ 99 := by rw [ex42]; exact (IMn.n1 q75_4).2.2.1 _ (by omega) (by omega)
              refine x_iconst hx hb dX11_prints_104 ?_
              refine x_iconst hx hb dX11_prints_105 ?_
              refine x_gov (x_runV (As := [.int (xJ x42), .int (xJ 3), .int (xJ 1)]) hx hb hml hown hT hE hW hl.1 (Or.inl (by decide)) (so_268 h0 g _) rfl cf_X11_laysCosts wq1637 wq151 wq1635 (c_X11_laysCosts l D g T h0 s_75 hW.2.1 x42 rx42 3 (by decide) 1 (by decide) q75_4 q75_5 q75_6) ⟨rfl, rfl, ⟨by decide, by decide⟩, ⟨by decide, by decide⟩⟩ rfl rfl (Nat.le_of_ble_eq_true rfl) dX11_prints_106) hW (fun s44 H locs hp45 hW => ?_)
              obtain ⟨fs44, hp45⟩ := hp45
              have hF46 := hF_75.call fs44 (fun k h => by omega)
              have q47 : s44 268 58 = s0 268 58 := (congrFun (fs44 _ (by omega)) _).trans q75_0
              have q48 : s44 268 17 = s0 268 17 := (congrFun (fs44 _ (by omega)) _).trans q75_1
              have q49 : s44 268 48 = s0 268 48 := (congrFun (fs44 _ (by omega)) _).trans q75_2
              have q50 : s44 268 8 = 0 := (congrFun (fs44 _ (by omega)) _).trans q75_3
              have ghp45 := hp45.2
              refine x_aload_n hx hb hl 0 rfl dX11_prints_109 rfl ?_
              refine x_get (j := 45) (v := .ref (h0 + 296)) hx hb hown hT hE hW cls_X11 (Or.inl (by decide)) (so_268 h0 g _) (by decide) rfl wq1230 dX11_prints_110 ?_
              refine x_aload_n hx hb hl 0 rfl dX11_prints_113 rfl ?_
              refine x_get (j := 7) (v := .ref (h0 + 276)) hx hb hown hT hE hW cls_X11 (Or.inl (by decide)) (so_268 h0 g _) (by decide) rfl wq1192 dX11_prints_114 ?_
              refine x_iconst hx hb dX11_prints_117 ?_
              refine x_bald hx hb hE hW (Or.inl (by decide)) (sa_276 h0 g _) ⟨by decide, by decide⟩ (by decide) dX11_prints_118 ?_
              refine x_rd hW (fun x51 ex51 rx51 => ?_)
              have tx51 : 0 ≤ x51 ∧ x51 ≤ 99 := by rw [ex51, hF46 276 (by first | decide | omega), ← hq9]; exact (ha.resolve_left (by omega)).2 _ (by omega) (by omega)
              refine x_iald hx hb hE hW (Or.inl (by decide)) (sa_296 h0 g _) (by omega) (by decide) dX11_prints_119 ?_
              refine x_rd hW (fun x52 ex52 rx52 => ?_)
              refine lv_ldcw (v := xJ 1000000000) hx hb hown (hT _ wq1622) dX11_prints_120 ?_
              refine x_icmp_ge (tgt := 135) hx hb rx52 (by decide) dX11_prints_123 (by decide) (fun c53 => ?_) (fun c53 => ?_)
              · skip
                refine x_iinc (lv' := [(5, .int (xJ (i5_75 + 1))), (0, .ref (h0 + 268)), (2, .int (xJ x)), (3, .int (xJ x25)), (4, .int (xJ i4_75))]) hx hb hl 4 rfl dX11_prints_135 (by decide) rfl (fun ls hl => ?_)
                refine lv_goto (tgt := 75) hx hb dX11_prints_138 (by decide) ?_
                exact ih75 i4_75 (i5_75 + 1) s44 H locs ls ri4_75 (by omega) hF46 q47 q48 q49 q50 hp45.1.1 hp45.1.2.1 hp45.1.2.2.1 (by omega) (by omega) (by have hm := hm_75 (); omega) hW (lv_sub hl [1, 2, 3, 4, 0] rfl)
              refine x_iload hx hb hl 3 rfl dX11_prints_126 ?_
              refine x_iconst hx hb dX11_prints_128 ?_
              refine x_iload hx hb hl 4 rfl dX11_prints_129 ?_
              refine lv_ishl hx hb dX11_prints_131 ?_
              refine x_any (fun x54 rx54 => ?_)
              refine lv_ior hx hb dX11_prints_132 ?_
              refine x_any (fun x55 rx55 => ?_)
              refine lv_istore (lv' := [(4, .int (xJ x55)), (0, .ref (h0 + 268)), (2, .int (xJ x)), (3, .int (xJ x25)), (5, .int (xJ i5_75))]) hx hb dX11_prints_133 hl (by decide) rfl (fun ls hl => ?_)
              refine x_iinc (lv' := [(5, .int (xJ (i5_75 + 1))), (4, .int (xJ x55)), (0, .ref (h0 + 268)), (2, .int (xJ x)), (3, .int (xJ x25))]) hx hb hl 4 rfl dX11_prints_135 (by decide) rfl (fun ls hl => ?_)
              refine lv_goto (tgt := 75) hx hb dX11_prints_138 (by decide) ?_
              exact ih75 x55 (i5_75 + 1) s44 H locs ls rx55 (by omega) hF46 q47 q48 q49 q50 hp45.1.1 hp45.1.2.1 hp45.1.2.2.1 (by omega) (by omega) (by have hm := hm_75 (); omega) hW (lv_sub hl [2, 3, 4, 1, 0] rfl)
            refine lv_goto (tgt := 135) hx hb dX11_prints_91 (by decide) ?_
            refine x_iinc (lv' := [(5, .int (xJ (i5_75 + 1))), (0, .ref (h0 + 268)), (2, .int (xJ x)), (3, .int (xJ x25)), (4, .int (xJ i4_75))]) hx hb hl 4 rfl dX11_prints_135 (by decide) rfl (fun ls hl => ?_)
            refine lv_goto (tgt := 75) hx hb dX11_prints_138 (by decide) ?_
            exact ih75 i4_75 (i5_75 + 1) s_75 H locs ls ri4_75 (by omega) hF_75 q75_0 q75_1 q75_2 q75_3 q75_4 q75_5 q75_6 (by omega) (by omega) (by have hm := hm_75 (); omega) hW (lv_sub hl [1, 2, 3, 4, 0] rfl)
        exact L75 ((10 + 1 - 0 : Int).toNat + 1) 0 0 s26 H locs ls (by decide) (by decide) hF28 q29 q30 q31 q32 hp27.1.1 hp27.1.2.1 hp27.1.2.2.1 (by omega) (by omega) (Nat.lt_succ_self _) hW (lv_sub hl [3, 5, 2, 1, 0] rfl)
      refine x_aload_n hx hb hl 0 rfl dX11_prints_50 rfl ?_
      refine x_get (j := 0) (v := .ref (h0 + 269)) hx hb hown hT hE hW cls_X11 (Or.inl (by decide)) (so_268 h0 g _) (by decide) rfl wq1185 dX11_prints_51 ?_
      refine x_bipush hx hb dX11_prints_54 (by decide) ?_
      refine x_iald hx hb hE hW (Or.inl (by decide)) (sa_269 h0 g _) ⟨by decide, by decide⟩ (by decide) dX11_prints_56 ?_
      refine x_rd hW (fun x56 ex56 rx56 => ?_)
      refine x_if_ne (tgt := 63) hx hb rx56 dX11_prints_57 (by decide) (fun c57 => ?_) (fun c57 => ?_)
      · skip
        refine x_aload_n hx hb hl 0 rfl dX11_prints_63 rfl ?_
        refine x_iload_n hx hb hl 1 rfl dX11_prints_64 rfl ?_
        refine x_goi (x_runV (As := [.int (xJ n)]) hx hb hml hown hT hE hW hl.1 (Or.inl (by decide)) (so_268 h0 g _) rfl cf_X11_failsAt wq1736 wq162 wq1734 (c_X11_failsAt l D g T h0 s11 hW.2.1 n rn (by omega) ((ha.resolve_left (by omega)).2) q12 q13 q14) ⟨rfl, rfl, ⟨by decide, by decide⟩, ⟨by decide, by decide⟩⟩ rfl rfl (Nat.le_of_ble_eq_true rfl) dX11_prints_65) hW (fun x58 s59 H locs rx58 hp60 hW => ?_)
        obtain ⟨fs59, hp60⟩ := hp60
        have hF61 := hF19.call fs59 (fun k h => by omega)
        have q62 : s59 268 58 = s0 268 58 := (congrFun (fs59 _ (by omega)) _).trans q15
        have q63 : s59 268 17 = s0 268 17 := (congrFun (fs59 _ (by omega)) _).trans q16
        have q64 : s59 268 48 = s0 268 48 := (congrFun (fs59 _ (by omega)) _).trans q17
        have q65 : s59 268 8 = 0 := (congrFun (fs59 _ (by omega)) _).trans q18
        have ghp60 := hp60.2
        refine lv_istore_n (lv' := [(3, .int (xJ x58)), (0, .ref (h0 + 268)), (1, .int (xJ n)), (2, .int (xJ x))]) hx hb dX11_prints_68 rfl hl (by decide) rfl (fun ls hl => ?_)
        refine x_iconst hx hb dX11_prints_69 ?_
        refine lv_istore (lv' := [(4, .int (xJ 0)), (3, .int (xJ x58)), (0, .ref (h0 + 268)), (1, .int (xJ n)), (2, .int (xJ x))]) hx hb dX11_prints_70 hl (by decide) rfl (fun ls hl => ?_)
        refine x_iconst hx hb dX11_prints_72 ?_
        refine lv_istore (lv' := [(5, .int (xJ 0)), (4, .int (xJ 0)), (3, .int (xJ x58)), (0, .ref (h0 + 268)), (1, .int (xJ n)), (2, .int (xJ x))]) hx hb dX11_prints_73 hl (by decide) rfl (fun ls hl => ?_)
        have L75 : ∀ (fu : Nat) (i4_75 : Int) (i5_75 : Int) (s_75 : xS) (H : Heap) (locs : List Loc) (ls : Array Slot), (xR i4_75) → (xR i5_75) → (xFr (fun k => k = 268 ∨ k = 296) s0 s_75) → (s_75 268 58 = s0 268 58) → (s_75 268 17 = s0 268 17) → (s_75 268 48 = s0 268 48) → (s_75 268 8 = 0) → (IMn s_75) → (IMk s_75) → (IMo s_75) → (0 ≤ i5_75) → (i5_75 ≤ 10) → (10 + 1 - i5_75).toNat < fu → xW D g h0 s H locs s_75 → lv_has ls 6 [(0, .ref (h0 + 268)), (2, .int (xJ x)), (3, .int (xJ x58)), (4, .int (xJ i4_75)), (5, .int (xJ i5_75))] → W p l e { frames := 5, cells := 0, slots := 0, locals := 115 } s m args below meth c H locs 0 0 Q (F0 m 75 ls []) := by
          intro fu
          induction fu with
          | zero => intro i4_75 i5_75 s_75 H locs ls ri4_75 ri5_75 hF_75 q75_0 q75_1 q75_2 q75_3 q75_4 q75_5 q75_6 v75_0 v75_1 hm; exact absurd hm (Nat.not_lt_zero _)
          | succ fu ih75 =>
            intro i4_75 i5_75 s_75 H locs ls ri4_75 ri5_75 hF_75 q75_0 q75_1 q75_2 q75_3 q75_4 q75_5 q75_6 v75_0 v75_1 hm hW hl
            have hm_75 := fun (_ : Unit) => hm
            clear hm
            refine x_iload hx hb hl 4 rfl dX11_prints_75 ?_
            refine x_bipush hx hb dX11_prints_77 (by decide) ?_
            refine x_icmp_ge (tgt := 141) hx hb ri5_75 (by decide) dX11_prints_79 (by decide) (fun c66 => ?_) (fun c66 => ?_)
            · skip
              refine x_iload_n hx hb hl 1 rfl dX11_prints_141 rfl ?_
              refine x_if_ne (tgt := 157) hx hb rx dX11_prints_142 (by decide) (fun c67 => ?_) (fun c67 => ?_)
              · skip
                refine x_iload hx hb hl 3 rfl dX11_prints_157 ?_
                refine x_if_ne (tgt := 166) hx hb ri4_75 dX11_prints_159 (by decide) (fun c68 => ?_) (fun c68 => ?_)
                · skip
                  refine x_iload_n hx hb hl 2 rfl dX11_prints_166 rfl ?_
                  refine x_iconst hx hb dX11_prints_167 ?_
                  refine x_icmp_ne (tgt := 176) hx hb rx58 (by decide) dX11_prints_168 (by decide) (fun c69 => ?_) (fun c69 => ?_)
                  · skip
                    refine x_iload_n hx hb hl 2 rfl dX11_prints_176 rfl ?_
                    rw [eQ]
                    exact x_iret hx hb hr hlk hW rx58 ⟨hF_75, ⟨q75_4, q75_5, q75_6, q75_0, q75_1, q75_2, trivial⟩, by omega⟩ dX11_prints_177
                  refine x_bipush hx hb dX11_prints_171 (by decide) ?_
                  refine lv_goto (tgt := 177) hx hb dX11_prints_173 (by decide) ?_
                  rw [eQ]
                  exact x_iret hx hb hr hlk hW (by decide) ⟨hF_75, ⟨q75_4, q75_5, q75_6, q75_0, q75_1, q75_2, trivial⟩, by omega⟩ dX11_prints_177
                refine x_iconst hx hb dX11_prints_162 ?_
                refine lv_goto (tgt := 177) hx hb dX11_prints_163 (by decide) ?_
                rw [eQ]
                exact x_iret hx hb hr hlk hW (by decide) ⟨hF_75, ⟨q75_4, q75_5, q75_6, q75_0, q75_1, q75_2, trivial⟩, by omega⟩ dX11_prints_177
              refine x_iload_n hx hb hl 2 rfl dX11_prints_145 rfl ?_
              refine x_iconst hx hb dX11_prints_146 ?_
              refine x_icmp_ne (tgt := 155) hx hb rx58 (by decide) dX11_prints_147 (by decide) (fun c70 => ?_) (fun c70 => ?_)
              · skip
                refine x_iconst hx hb dX11_prints_155 ?_
                rw [eQ]
                exact x_iret hx hb hr hlk hW (by decide) ⟨hF_75, ⟨q75_4, q75_5, q75_6, q75_0, q75_1, q75_2, trivial⟩, by omega⟩ dX11_prints_156
              refine x_iload hx hb hl 3 rfl dX11_prints_150 ?_
              refine lv_goto (tgt := 156) hx hb dX11_prints_152 (by decide) ?_
              rw [eQ]
              exact x_iret hx hb hr hlk hW ri4_75 ⟨hF_75, ⟨q75_4, q75_5, q75_6, q75_0, q75_1, q75_2, trivial⟩, by omega⟩ dX11_prints_156
            refine x_aload_n hx hb hl 0 rfl dX11_prints_82 rfl ?_
            refine x_iload hx hb hl 4 rfl dX11_prints_83 ?_
            refine x_goi (x_runV (As := [.int (xJ i5_75)]) hx hb hml hown hT hE hW hl.1 (Or.inl (by decide)) (so_268 h0 g _) rfl cf_X11_isFelon wq1423 wq111 wq1421 (c_X11_isFelonF l D g T h0 s_75 hW.2.1 i5_75 ri5_75 q75_4 q75_5 q75_6) ⟨rfl, rfl, ⟨by decide, by decide⟩, ⟨by decide, by decide⟩⟩ rfl rfl (Nat.le_of_ble_eq_true rfl) dX11_prints_85) hW (fun x71 s72 H locs rx71 hp73 hW => ?_)
            obtain ⟨es72, hp73⟩ := hp73
            subst es72
            have ghp73 := hp73
            refine x_if_ne (tgt := 94) hx hb rx71 dX11_prints_88 (by decide) (fun c74 => ?_) (fun c74 => ?_)
            · skip
              refine x_aload_n hx hb hl 0 rfl dX11_prints_94 rfl ?_
              refine x_aload_n hx hb hl 0 rfl dX11_prints_95 rfl ?_
              refine x_get (j := 0) (v := .ref (h0 + 269)) hx hb hown hT hE hW cls_X11 (Or.inl (by decide)) (so_268 h0 g _) (by decide) rfl wq1185 dX11_prints_96 ?_
              refine x_iconst hx hb dX11_prints_99 ?_
              refine x_iload hx hb hl 4 rfl dX11_prints_100 ?_
              refine x_iadd hx hb dX11_prints_102 ?_
              refine x_iald hx hb hE hW (Or.inl (by decide)) (sa_269 h0 g _) (by omega) (by decide) dX11_prints_103 ?_
              refine x_rd hW (fun x75 ex75 rx75 => ?_)
              have bx75 : 0 ≤ x75 ∧ x75 ≤ 99 := by rw [ex75]; exact (IMn.n1 q75_4).2.2.1 _ (by omega) (by omega)
              refine x_iconst hx hb dX11_prints_104 ?_
              refine x_iconst hx hb dX11_prints_105 ?_
              refine x_gov (x_runV (As := [.int (xJ x75), .int (xJ 3), .int (xJ 1)]) hx hb hml hown hT hE hW hl.1 (Or.inl (by decide)) (so_268 h0 g _) rfl cf_X11_laysCosts wq1637 wq151 wq1635 (c_X11_laysCosts l D g T h0 s_75 hW.2.1 x75 rx75 3 (by decide) 1 (by decide) q75_4 q75_5 q75_6) ⟨rfl, rfl, ⟨by decide, by decide⟩, ⟨by decide, by decide⟩⟩ rfl rfl (Nat.le_of_ble_eq_true rfl) dX11_prints_106) hW (fun s77 H locs hp78 hW => ?_)
              obtain ⟨fs77, hp78⟩ := hp78
              have hF79 := hF_75.call fs77 (fun k h => by omega)
              have q80 : s77 268 58 = s0 268 58 := (congrFun (fs77 _ (by omega)) _).trans q75_0
              have q81 : s77 268 17 = s0 268 17 := (congrFun (fs77 _ (by omega)) _).trans q75_1
              have q82 : s77 268 48 = s0 268 48 := (congrFun (fs77 _ (by omega)) _).trans q75_2
              have q83 : s77 268 8 = 0 := (congrFun (fs77 _ (by omega)) _).trans q75_3
              have ghp78 := hp78.2
              refine x_aload_n hx hb hl 0 rfl dX11_prints_109 rfl ?_
              refine x_get (j := 45) (v := .ref (h0 + 296)) hx hb hown hT hE hW cls_X11 (Or.inl (by decide)) (so_268 h0 g _) (by decide) rfl wq1230 dX11_prints_110 ?_
              refine x_aload_n hx hb hl 0 rfl dX11_prints_113 rfl ?_
              refine x_get (j := 7) (v := .ref (h0 + 276)) hx hb hown hT hE hW cls_X11 (Or.inl (by decide)) (so_268 h0 g _) (by decide) rfl wq1192 dX11_prints_114 ?_
              refine x_iconst hx hb dX11_prints_117 ?_
              refine x_bald hx hb hE hW (Or.inl (by decide)) (sa_276 h0 g _) ⟨by decide, by decide⟩ (by decide) dX11_prints_118 ?_
              refine x_rd hW (fun x84 ex84 rx84 => ?_)
              have tx84 : 0 ≤ x84 ∧ x84 ≤ 99 := by rw [ex84, hF79 276 (by first | decide | omega), ← hq9]; exact (ha.resolve_left (by omega)).2 _ (by omega) (by omega)
              refine x_iald hx hb hE hW (Or.inl (by decide)) (sa_296 h0 g _) (by omega) (by decide) dX11_prints_119 ?_
              refine x_rd hW (fun x85 ex85 rx85 => ?_)
              refine lv_ldcw (v := xJ 1000000000) hx hb hown (hT _ wq1622) dX11_prints_120 ?_
              refine x_icmp_ge (tgt := 135) hx hb rx85 (by decide) dX11_prints_123 (by decide) (fun c86 => ?_) (fun c86 => ?_)
              · skip
                refine x_iinc (lv' := [(5, .int (xJ (i5_75 + 1))), (0, .ref (h0 + 268)), (2, .int (xJ x)), (3, .int (xJ x58)), (4, .int (xJ i4_75))]) hx hb hl 4 rfl dX11_prints_135 (by decide) rfl (fun ls hl => ?_)
                refine lv_goto (tgt := 75) hx hb dX11_prints_138 (by decide) ?_
                exact ih75 i4_75 (i5_75 + 1) s77 H locs ls ri4_75 (by omega) hF79 q80 q81 q82 q83 hp78.1.1 hp78.1.2.1 hp78.1.2.2.1 (by omega) (by omega) (by have hm := hm_75 (); omega) hW (lv_sub hl [1, 2, 3, 4, 0] rfl)
              refine x_iload hx hb hl 3 rfl dX11_prints_126 ?_
              refine x_iconst hx hb dX11_prints_128 ?_
              refine x_iload hx hb hl 4 rfl dX11_prints_129 ?_
              refine lv_ishl hx hb dX11_prints_131 ?_
              refine x_any (fun x87 rx87 => ?_)
              refine lv_ior hx hb dX11_prints_132 ?_
              refine x_any (fun x88 rx88 => ?_)
              refine lv_istore (lv' := [(4, .int (xJ x88)), (0, .ref (h0 + 268)), (2, .int (xJ x)), (3, .int (xJ x58)), (5, .int (xJ i5_75))]) hx hb dX11_prints_133 hl (by decide) rfl (fun ls hl => ?_)
              refine x_iinc (lv' := [(5, .int (xJ (i5_75 + 1))), (4, .int (xJ x88)), (0, .ref (h0 + 268)), (2, .int (xJ x)), (3, .int (xJ x58))]) hx hb hl 4 rfl dX11_prints_135 (by decide) rfl (fun ls hl => ?_)
              refine lv_goto (tgt := 75) hx hb dX11_prints_138 (by decide) ?_
              exact ih75 x88 (i5_75 + 1) s77 H locs ls rx88 (by omega) hF79 q80 q81 q82 q83 hp78.1.1 hp78.1.2.1 hp78.1.2.2.1 (by omega) (by omega) (by have hm := hm_75 (); omega) hW (lv_sub hl [2, 3, 4, 1, 0] rfl)
            refine lv_goto (tgt := 135) hx hb dX11_prints_91 (by decide) ?_
            refine x_iinc (lv' := [(5, .int (xJ (i5_75 + 1))), (0, .ref (h0 + 268)), (2, .int (xJ x)), (3, .int (xJ x58)), (4, .int (xJ i4_75))]) hx hb hl 4 rfl dX11_prints_135 (by decide) rfl (fun ls hl => ?_)
            refine lv_goto (tgt := 75) hx hb dX11_prints_138 (by decide) ?_
            exact ih75 i4_75 (i5_75 + 1) s_75 H locs ls ri4_75 (by omega) hF_75 q75_0 q75_1 q75_2 q75_3 q75_4 q75_5 q75_6 (by omega) (by omega) (by have hm := hm_75 (); omega) hW (lv_sub hl [1, 2, 3, 4, 0] rfl)
        exact L75 ((10 + 1 - 0 : Int).toNat + 1) 0 0 s59 H locs ls (by decide) (by decide) hF61 q62 q63 q64 q65 hp60.1.1 hp60.1.2.1 hp60.1.2.2.1 (by omega) (by omega) (Nat.lt_succ_self _) hW (lv_sub hl [3, 5, 2, 1, 0] rfl)
      refine x_bipush hx hb dX11_prints_60 (by decide) ?_
      rw [eQ]
      exact x_iret hx hb hr hlk hW (by decide) ⟨hF19, ⟨q12, q13, q14, q15, q16, q17, trivial⟩, by omega⟩ dX11_prints_62
    refine x_bipush hx hb dX11_prints_42 (by decide) ?_
    rw [eQ]
    exact x_iret hx hb hr hlk hW (by decide) ⟨hF19, ⟨q12, q13, q14, q15, q16, q17, trivial⟩, by omega⟩ dX11_prints_44
  refine x_iconst hx hb dX11_prints_27 ?_
  rw [eQ]
  exact x_iret hx hb hr hlk hW (by decide) ⟨hF, ⟨p0, p1, p2, k268_58, k268_17, k268_48, trivial⟩, by omega⟩ dX11_prints_28

set_option maxHeartbeats 4000000 in
set_option maxRecDepth 100000 in
theorem c_X11_atOnceF (l : Launch) (D : va_G) (g : xG) (T : Nat × Nat × Nat) (h0 : Nat) (s0 : xS) (hσ : xRR s0) (n : Int) (rn : xR n) (K9 : Int → Int) (n9 : Int → Int) (w9 : Int → Int → Int) (q9 : zLaw) (l9 : Int → Int) (hok : zLok q9) (hlr : zLR s0 q9) (hK : ∀ t : Int, 0 ≤ t → t < 100 → s0 272 t = K9 t ∧ 0 ≤ K9 t ∧ K9 t ≤ 3) (hlm : ∀ i : Int, 0 ≤ i → i < 4 → s0 273 i = l9 i) (hw : ∀ j : Int, 0 ≤ j → j < 2 → s0 274 j = n9 j ∧ ∀ i : Int, 0 ≤ i → i < n9 j → s0 275 (60 * j + i) = w9 j i) (hY : zYq (zYr s0)) (hB : 0 ≤ s0 269 36 ∧ s0 269 36 < 1024) (hJt : zJt K9 (zY4 (zYr s0))) (p0 : IMn s0) (p1 : IMk s0) (p2 : IMo s0) : Met l yX11_atOnce (xws yX11_atOnce cX11_atOnce 4 (some .int)) { frames := 7, cells := 0, slots := 0, locals := 162 } (xP [.ref (h0 + 268), .int (xJ n)] D g T h0 s0) (xQi D g h0 (fun r τ => xFr (fun k => k = 293 ∨ k = 294 ∨ k = 295 ∨ k = 296 ∨ k = 300 ∨ k = 301) s0 τ ∧ (((IMn τ) ∧ (IMk τ) ∧ (IMo τ) ∧ True) ∧ (((0 ≤ n ∧ n ≤ 2) ∧ (n = 1 → r = zsu (fun t => if zLy K9 q9 l9 ((zYN (s0 269) 0 0 0) 44) (zYN (s0 269) 0 0 0) 1 (zni q9 ((zYN (s0 269) 0 0 0) 44)) t ≠ 0 then 1 else 0) 100) ∧ (n = 2 → r = zsu (fun t => if 1 < zLy K9 q9 l9 ((zYN (s0 269) 0 0 0) 44) (zYN (s0 269) 0 0 0) 1 (zni q9 ((zYN (s0 269) 0 0 0) 44)) t then 1 else 0) 100)) ∨ (¬ (0 ≤ n ∧ n ≤ 2) ∧ r = -1))))) 0 0 (xA h0) := by
  refine x_met hσ (by decide) (Nat.le_of_ble_eq_true rfl) ?_
  intro p e s m args below meth c hx hb hr hml hown hT hlk hnm hE hW ls hl
  have hl : lv_has ls 4 [(0, .ref (h0 + 268)), (1, .int (xJ n))] := hl
  obtain ⟨Q, eQ⟩ : ∃ Q, Q = MQ below (xQi D g h0 (fun r τ => xFr (fun k => k = 293 ∨ k = 294 ∨ k = 295 ∨ k = 296 ∨ k = 300 ∨ k = 301) s0 τ ∧ (((IMn τ) ∧ (IMk τ) ∧ (IMo τ) ∧ True) ∧ (((0 ≤ n ∧ n ≤ 2) ∧ (n = 1 → r = zsu (fun t => if zLy K9 q9 l9 ((zYN (s0 269) 0 0 0) 44) (zYN (s0 269) 0 0 0) 1 (zni q9 ((zYN (s0 269) 0 0 0) 44)) t ≠ 0 then 1 else 0) 100) ∧ (n = 2 → r = zsu (fun t => if 1 < zLy K9 q9 l9 ((zYN (s0 269) 0 0 0) 44) (zYN (s0 269) 0 0 0) 1 (zni q9 ((zYN (s0 269) 0 0 0) 44)) t then 1 else 0) 100)) ∨ (¬ (0 ≤ n ∧ n ≤ 2) ∧ r = -1))))) args s 0 0 (xA h0) := ⟨_, rfl⟩
  rw [← eQ]
  generalize hHe : ([] : List Loc) = locs at hW ⊢
  obtain ⟨H, eH⟩ : ∃ H, H = s.heap := ⟨_, rfl⟩
  rw [← eH] at hW ⊢
  have hF : xFr (fun k => k = 293 ∨ k = 294 ∨ k = 295 ∨ k = 296 ∨ k = 300 ∨ k = 301) s0 s0 := xFr.rf
  have k268_8 : s0 268 8 = s0 268 8 := rfl
  have k268_58 : s0 268 58 = s0 268 58 := rfl
  have k268_17 : s0 268 17 = s0 268 17 := rfl
  have k268_48 : s0 268 48 = s0 268 48 := rfl
  have hm7 := (IMn.n1 p0).2.2.2.1
  have hgj : ∀ j : Int, 0 ≤ j → j < 2 → xsh (s0 269 34) j % 2 = 1 → K9 (s0 269 j) ≠ 1 := zJg_G hJt (fun j j1 j2 => ((IMn.n1 p0).1 j j1 j2).1)
  have hnj : zrj (s0 269) 0 ≠ zrj (s0 269) 1 ∨ zrj (s0 269) 0 = -1 := zJg_N hJt
  refine x_iload_n hx hb hl 1 rfl dX11_atOnce_0 rfl ?_
  refine x_iconst hx hb dX11_atOnce_1 ?_
  refine x_iconst hx hb dX11_atOnce_2 ?_
  refine x_goi (x_runS (As := [.int (xJ n), .int (xJ 0), .int (xJ 2)]) hx hb hml hown hT hE hW hl.1 cf_X11_in wq1383 wq1382 (c_X11_in l D g T h0 s0 hW.2.1 n rn 0 (by decide) 2 (by decide)) ⟨rfl, rfl, ⟨by decide, by decide⟩, ⟨by decide, by decide⟩⟩ rfl rfl (Nat.le_of_ble_eq_true rfl) dX11_atOnce_3) hW (fun x1 s2 H locs rx1 hp3 hW => ?_)
  obtain ⟨es2, hp3⟩ := hp3
  subst es2
  have ghp3 := hp3
  refine x_if_ne (tgt := 11) hx hb rx1 dX11_atOnce_6 (by decide) (fun c4 => ?_) (fun c4 => ?_)
  · skip
    refine x_aload_n hx hb hl 0 rfl dX11_atOnce_11 rfl ?_
    refine x_aload_n hx hb hl 0 rfl dX11_atOnce_12 rfl ?_
    refine x_get (j := 0) (v := .ref (h0 + 269)) hx hb hown hT hE hW cls_X11 (Or.inl (by decide)) (so_268 h0 g _) (by decide) rfl wq1185 dX11_atOnce_13 ?_
    refine x_bipush hx hb dX11_atOnce_16 (by decide) ?_
    refine x_iald hx hb hE hW (Or.inl (by decide)) (sa_269 h0 g _) ⟨by decide, by decide⟩ (by decide) dX11_atOnce_18 ?_
    refine x_rd hW (fun x5 ex5 rx5 => ?_)
    have bx5 : 0 ≤ x5 ∧ x5 ≤ 9999 := by rw [ex5]; exact (IMn.n1 p0).2.2.2.1
    have V18 : x5 = (zYN (s0 269) 0 0 0) 44 := ex5
    refine x_iconst hx hb dX11_atOnce_19 ?_
    refine x_gov (x_runV (As := [.int (xJ x5), .int (xJ 0)]) hx hb hml hown hT hE hW hl.1 (Or.inl (by decide)) (so_268 h0 g _) rfl cf_X11_laysShades wq1588 wq139 wq1586 (c_X11_laysShadesF l D g T h0 s0 hW.2.1 x5 rx5 0 (by decide) q9 K9 l9 (hok) (by first | exact hlr | exact hlr.f (fun k hk => hF k (by omega)) (by omega)) (by first | exact hK | exact fun t t1 t2 => by rw [hF 272 (by omega)]; exact hK t t1 t2) (by first | exact hlm | exact fun i i1 i2 => by rw [hF 273 (by omega)]; exact hlm i i1 i2) (hgj) (hnj) (by omega) p0 p1 p2) ⟨rfl, rfl, ⟨by decide, by decide⟩, ⟨by decide, by decide⟩⟩ rfl rfl (Nat.le_of_ble_eq_true rfl) dX11_atOnce_20) hW (fun s7 H locs hp8 hW => ?_)
    obtain ⟨fs7, hp8⟩ := hp8
    have hF9 := hF.call fs7 (fun k h => by omega)
    have q10 : s7 268 8 = s0 268 8 := (congrFun (fs7 _ (by omega)) _).trans k268_8
    have q11 : s7 268 58 = s0 268 58 := (congrFun (fs7 _ (by omega)) _).trans k268_58
    have q12 : s7 268 17 = s0 268 17 := (congrFun (fs7 _ (by omega)) _).trans k268_17
    have q13 : s7 268 48 = s0 268 48 := (congrFun (fs7 _ (by omega)) _).trans k268_48
    have ghp8 := hp8.2
    have H20 := ghp8
    have L20 : ∀ t : Int, 0 ≤ t → t < 100 → s7 295 t = zLy K9 q9 l9 ((zYN (s0 269) 0 0 0) 44) (zYN (s0 269) 0 0 0) 1 (zni q9 ((zYN (s0 269) 0 0 0) 44)) t := fun t t1 t2 => by
      rw [H20 t t1 t2, if_pos rfl, ← V18]
      exact zLy_J (J := (zYN (s0 269) 0 0 0)) rfl rfl
    refine x_iload_n hx hb hl 1 rfl dX11_atOnce_23 rfl ?_
    refine x_if_ne (tgt := 32) hx hb rn dX11_atOnce_24 (by decide) (fun c14 => ?_) (fun c14 => ?_)
    · skip
      refine x_iconst hx hb dX11_atOnce_32 ?_
      refine lv_istore_n (lv' := [(2, .int (xJ 0)), (0, .ref (h0 + 268)), (1, .int (xJ n))]) hx hb dX11_atOnce_33 rfl hl (by decide) rfl (fun ls hl => ?_)
      refine x_iconst hx hb dX11_atOnce_34 ?_
      refine lv_istore_n (lv' := [(3, .int (xJ 0)), (2, .int (xJ 0)), (0, .ref (h0 + 268)), (1, .int (xJ n))]) hx hb dX11_atOnce_35 rfl hl (by decide) rfl (fun ls hl => ?_)
      have L36 : ∀ (fu : Nat) (i2_36 : Int) (i3_36 : Int) (ls : Array Slot), (xR i2_36) → (xR i3_36) → (0 ≤ i3_36 ∧ i3_36 ≤ 100) → (i2_36 = zsu (fun t => if n ≤ zLy K9 q9 l9 ((zYN (s0 269) 0 0 0) 44) (zYN (s0 269) 0 0 0) 1 (zni q9 ((zYN (s0 269) 0 0 0) 44)) t then 1 else 0) (i3_36).toNat) → (0 ≤ i2_36 ∧ i2_36 ≤ i3_36) → (100 - i3_36).toNat < fu → lv_has ls 4 [(0, .ref (h0 + 268)), (1, .int (xJ n)), (2, .int (xJ i2_36)), (3, .int (xJ i3_36))] → W p l e { frames := 7, cells := 0, slots := 0, locals := 162 } s m args below meth c H locs 0 0 Q (F0 m 36 ls []) := by
        intro fu
        induction fu with
        | zero => intro i2_36 i3_36 ls ri2_36 ri3_36 v36_0 v36_1 v36_2 hm; exact absurd hm (Nat.not_lt_zero _)
        | succ fu ih36 =>
          intro i2_36 i3_36 ls ri2_36 ri3_36 v36_0 v36_1 v36_2 hm  hl
          have hm_36 := fun (_ : Unit) => hm
          clear hm
          refine x_iload_n hx hb hl 3 rfl dX11_atOnce_36 rfl ?_
          refine x_bipush hx hb dX11_atOnce_37 (by decide) ?_
          refine x_icmp_ge (tgt := 66) hx hb ri3_36 (by decide) dX11_atOnce_39 (by decide) (fun c15 => ?_) (fun c15 => ?_)
          · skip
            refine x_iload_n hx hb hl 2 rfl dX11_atOnce_66 rfl ?_
            rw [eQ]
            exact x_iret hx hb hr hlk hW ri2_36 ⟨hF9, ⟨hp8.1.1, hp8.1.2.1, hp8.1.2.2.1, trivial⟩, by
                have e : i2_36 = zsu (fun t => if n ≤ zLy K9 q9 l9 ((zYN (s0 269) 0 0 0) 44) (zYN (s0 269) 0 0 0) 1 (zni q9 ((zYN (s0 269) 0 0 0) 44)) t then 1 else 0) 100 := by rw [v36_1, show (i3_36).toNat = 100 from by omega]
                refine Or.inl ⟨by omega, fun z => ?_, fun z => ?_⟩
                · rw [e]
                  refine zsu_c (fun t t1 t2 => ?_)
                  have y := zLy_r K9 q9 l9 ((zYN (s0 269) 0 0 0) 44) (zYN (s0 269) 0 0 0) 1 (zni q9 ((zYN (s0 269) 0 0 0) 44)) t
                  show (if n ≤ zLy K9 q9 l9 ((zYN (s0 269) 0 0 0) 44) (zYN (s0 269) 0 0 0) 1 (zni q9 ((zYN (s0 269) 0 0 0) 44)) t then (1 : Int) else 0) = if zLy K9 q9 l9 ((zYN (s0 269) 0 0 0) 44) (zYN (s0 269) 0 0 0) 1 (zni q9 ((zYN (s0 269) 0 0 0) 44)) t ≠ 0 then 1 else 0
                  by_cases c : n ≤ zLy K9 q9 l9 ((zYN (s0 269) 0 0 0) 44) (zYN (s0 269) 0 0 0) 1 (zni q9 ((zYN (s0 269) 0 0 0) 44)) t
                  · rw [if_pos c, if_pos (by omega)]
                  · rw [if_neg c, if_neg (by omega)]
                · rw [e]
                  refine zsu_c (fun t t1 t2 => ?_)
                  show (if n ≤ zLy K9 q9 l9 ((zYN (s0 269) 0 0 0) 44) (zYN (s0 269) 0 0 0) 1 (zni q9 ((zYN (s0 269) 0 0 0) 44)) t then (1 : Int) else 0) = if 1 < zLy K9 q9 l9 ((zYN (s0 269) 0 0 0) 44) (zYN (s0 269) 0 0 0) 1 (zni q9 ((zYN (s0 269) 0 0 0) 44)) t then 1 else 0
                  by_cases c : n ≤ zLy K9 q9 l9 ((zYN (s0 269) 0 0 0) 44) (zYN (s0 269) 0 0 0) 1 (zni q9 ((zYN (s0 269) 0 0 0) 44)) t
                  · rw [if_pos c, if_pos (by omega)]
                  · rw [if_neg c, if_neg (by omega)]⟩ dX11_atOnce_67
          refine x_iload_n hx hb hl 2 rfl dX11_atOnce_42 rfl ?_
          refine x_aload_n hx hb hl 0 rfl dX11_atOnce_43 rfl ?_
          refine x_get (j := 40) (v := .ref (h0 + 295)) hx hb hown hT hE hW cls_X11 (Or.inl (by decide)) (so_268 h0 g _) (by decide) rfl wq1225 dX11_atOnce_44 ?_
          refine x_iload_n hx hb hl 3 rfl dX11_atOnce_47 rfl ?_
          refine x_iald hx hb hE hW (Or.inl (by decide)) (sa_295 h0 g _) (by omega) (by decide) dX11_atOnce_48 ?_
          refine x_rd hW (fun x16 ex16 rx16 => ?_)
          have V48 : x16 = zLy K9 q9 l9 ((zYN (s0 269) 0 0 0) 44) (zYN (s0 269) 0 0 0) 1 (zni q9 ((zYN (s0 269) 0 0 0) 44)) i3_36 := ex16.trans (L20 _ (by omega) (by omega))
          refine x_iload_n hx hb hl 1 rfl dX11_atOnce_49 rfl ?_
          have J58 : ∀ (t0_58 : Int) (ls : Array Slot), (xR t0_58) → (t0_58 = (if n ≤ zLy K9 q9 l9 ((zYN (s0 269) 0 0 0) 44) (zYN (s0 269) 0 0 0) 1 (zni q9 ((zYN (s0 269) 0 0 0) 44)) i3_36 then 1 else 0)) → (0 ≤ t0_58 ∧ t0_58 ≤ 1) → lv_has ls 4 [(0, .ref (h0 + 268)), (1, .int (xJ n)), (3, .int (xJ i3_36))] → W p l e { frames := 7, cells := 0, slots := 0, locals := 162 } s m args below meth c H locs 0 0 Q (F0 m 58 ls [.int (xJ t0_58), .int (xJ i2_36)]) := by
            intro t0_58 ls rt0_58 v58_0 v58_1  hl
            refine x_iadd hx hb dX11_atOnce_58 ?_
            refine x_nm (fun x17 ex17 => ?_)
            refine lv_istore_n (lv' := [(2, .int (xJ x17)), (0, .ref (h0 + 268)), (1, .int (xJ n)), (3, .int (xJ i3_36))]) hx hb dX11_atOnce_59 rfl hl (by decide) rfl (fun ls hl => ?_)
            refine x_iinc (lv' := [(3, .int (xJ (i3_36 + 1))), (2, .int (xJ x17)), (0, .ref (h0 + 268)), (1, .int (xJ n))]) hx hb hl 3 rfl dX11_atOnce_60 (by decide) rfl (fun ls hl => ?_)
            refine lv_goto (tgt := 36) hx hb dX11_atOnce_63 (by decide) ?_
            exact ih36 x17 (i3_36 + 1) ls (by omega) (by omega) (by omega) (by
                rw [show (i3_36 + 1).toNat = i3_36.toNat + 1 from by omega]
                show _ = zsu (fun t => if n ≤ zLy K9 q9 l9 ((zYN (s0 269) 0 0 0) 44) (zYN (s0 269) 0 0 0) 1 (zni q9 ((zYN (s0 269) 0 0 0) 44)) t then 1 else 0) i3_36.toNat + (if n ≤ zLy K9 q9 l9 ((zYN (s0 269) 0 0 0) 44) (zYN (s0 269) 0 0 0) 1 (zni q9 ((zYN (s0 269) 0 0 0) 44)) ((i3_36.toNat : Nat) : Int) then 1 else 0)
                rw [show ((i3_36.toNat : Nat) : Int) = i3_36 from by omega, ← v36_1, ← v58_0]
                omega) (by omega) (by have hm := hm_36 (); omega)  (lv_sub hl [2, 3, 1, 0] rfl)
          refine x_icmp_lt (tgt := 57) hx hb rx16 rn dX11_atOnce_50 (by decide) (fun c18 => ?_) (fun c18 => ?_)
          · skip
            refine x_iconst hx hb dX11_atOnce_57 ?_
            exact J58 0 ls (by decide) (by first | (rw [if_pos (by rw [← V48]; omega)]) | (rw [if_neg (by rw [← V48]; omega)])) (by omega)  (lv_sub hl [0, 1, 3] rfl)
          refine x_iconst hx hb dX11_atOnce_53 ?_
          refine lv_goto (tgt := 58) hx hb dX11_atOnce_54 (by decide) ?_
          exact J58 1 ls (by decide) (by first | (rw [if_pos (by rw [← V48]; omega)]) | (rw [if_neg (by rw [← V48]; omega)])) (by omega)  (lv_sub hl [0, 1, 3] rfl)
      exact L36 ((100 - 0 : Int).toNat + 1) 0 0 ls (by decide) (by decide) (by omega) (rfl) (by omega) (Nat.lt_succ_self _)  (lv_sub hl [2, 3, 1, 0] rfl)
    refine x_aload_n hx hb hl 0 rfl dX11_atOnce_27 rfl ?_
    refine x_goi (x_runV (As := []) hx hb hml hown hT hE hW hl.1 (Or.inl (by decide)) (so_268 h0 g _) rfl cf_X11_mostAtOnce wq1670 wq153 wq1668 (c_X11_mostAtOnce l D g T h0 s7 hW.2.1 hp8.1.1 hp8.1.2.1 hp8.1.2.2.1) ⟨rfl, rfl, ⟨by decide, by decide⟩, ⟨by decide, by decide⟩⟩ rfl rfl (Nat.le_of_ble_eq_true rfl) dX11_atOnce_28) hW (fun x19 s20 H locs rx19 hp21 hW => ?_)
    obtain ⟨fs20, hp21⟩ := hp21
    have hF22 := hF9.call fs20 (fun k h => by omega)
    have q23 : s20 268 8 = s0 268 8 := (congrFun (fs20 _ (by omega)) _).trans q10
    have q24 : s20 268 58 = s0 268 58 := (congrFun (fs20 _ (by omega)) _).trans q11
    have q25 : s20 268 17 = s0 268 17 := (congrFun (fs20 _ (by omega)) _).trans q12
    have q26 : s20 268 48 = s0 268 48 := (congrFun (fs20 _ (by omega)) _).trans q13
    have ghp21 := hp21.2
    rw [eQ]
    exact x_iret hx hb hr hlk hW rx19 ⟨hF22, ⟨hp21.1.1, hp21.1.2.1, hp21.1.2.2.1, trivial⟩, Or.inl ⟨by omega, fun z => absurd z (by omega), fun z => absurd z (by omega)⟩⟩ dX11_atOnce_31
  refine x_iconst hx hb dX11_atOnce_9 ?_
  rw [eQ]
  exact x_iret hx hb hr hlk hW (by decide) ⟨hF, ⟨p0, p1, p2, trivial⟩, Or.inr ⟨by omega, by omega⟩⟩ dX11_atOnce_10


