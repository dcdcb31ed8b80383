theorem zYc_cp {σ τ : xS} {d d2 : Nat} (hJ : ∀ q : Int, 0 ≤ q → q < 2 → τ (d + 1) q = σ (d2 + 1) q ∧ τ (d + 2) q = σ (d2 + 2) q ∧ τ (d + 5) q = σ (d2 + 5) q) (hF : ∀ q : Int, 0 ≤ q → q < 10 → τ (d + 6) q = σ (d2 + 6) q ∧ τ (d + 7) q = σ (d2 + 7) q ∧ τ (d + 8) q = σ (d2 + 8) q ∧ τ (d + 9) q = σ (d2 + 9) q) (hM : ∀ c : Int, 7 ≤ c → c < 12 → τ d c = σ d2 c) : zYc τ d = zYc σ d2 := funext fun i => by
  by_cases h0 : 0 ≤ i ∧ i < 2
  · rw [zYc_J h0, zYc_J h0]; exact (hJ i h0.1 h0.2).1
  by_cases h1 : 2 ≤ i ∧ i < 4
  · have a := zYc_S (σ := τ) (d := d) (f := i - 2) (by omega)
    have b := zYc_S (σ := σ) (d := d2) (f := i - 2) (by omega)
    rw [show 2 + (i - 2) = i from by omega] at a b
    rw [a, b]; exact (hJ _ (by omega) (by omega)).2.2
  by_cases h2 : 4 ≤ i ∧ i < 14
  · have a := zYc_F (σ := τ) (d := d) (f := i - 4) (by omega)
    have b := zYc_F (σ := σ) (d := d2) (f := i - 4) (by omega)
    rw [show 4 + (i - 4) = i from by omega] at a b
    rw [a, b]; exact (hF _ (by omega) (by omega)).1
  by_cases h3 : 14 ≤ i ∧ i < 24
  · have a := zYc_O (σ := τ) (d := d) (f := i - 14) (by omega)
    have b := zYc_O (σ := σ) (d := d2) (f := i - 14) (by omega)
    rw [show 14 + (i - 14) = i from by omega] at a b
    rw [a, b]; exact (hF _ (by omega) (by omega)).2.1
  by_cases h4 : 24 ≤ i ∧ i < 34
  · have a := zYc_A (σ := τ) (d := d) (f := i - 24) (by omega)
    have b := zYc_A (σ := σ) (d := d2) (f := i - 24) (by omega)
    rw [show 24 + (i - 24) = i from by omega] at a b
    rw [a, b]; exact (hF _ (by omega) (by omega)).2.2.1
  by_cases h5 : 34 ≤ i ∧ i < 44
  · have a := zYc_D (σ := τ) (d := d) (f := i - 34) (by omega)
    have b := zYc_D (σ := σ) (d := d2) (f := i - 34) (by omega)
    rw [show 34 + (i - 34) = i from by omega] at a b
    rw [a, b]; exact (hF _ (by omega) (by omega)).2.2.2
  by_cases h6 : 44 ≤ i ∧ i < 49
  · have a := zYc_M (σ := τ) (d := d) (c := i - 37) (by omega)
    have b := zYc_M (σ := σ) (d := d2) (c := i - 37) (by omega)
    rw [show 37 + (i - 37) = i from by omega] at a b
    rw [a, b]; exact hM _ (by omega) (by omega)
  · unfold zYc
    by_cases h7 : i < 0
    · rw [if_pos h7, if_pos h7]
    · rw [if_neg h7, if_neg (by omega), if_neg (by omega), if_neg (by omega), if_neg (by omega), if_neg (by omega), if_neg (by omega), if_neg (by omega), if_neg h7, if_neg (by omega), if_neg (by omega), if_neg (by omega), if_neg (by omega), if_neg (by omega), if_neg (by omega), if_neg (by omega)]
theorem zYc_uS {σ : xS} {d : Nat} {f v : Int} (h : 0 ≤ f ∧ f < 2) : zYc (xU σ (d + 5) f v) d = xud (zYc σ d) (2 + f) v := by
  funext i
  unfold zYc xud
  rw [xU_k _ _ _ (show d + 1 ≠ d + 5 from by omega), xU_k _ _ _ (show d + 6 ≠ d + 5 from by omega), xU_k _ _ _ (show d + 7 ≠ d + 5 from by omega), xU_k _ _ _ (show d + 8 ≠ d + 5 from by omega), xU_k _ _ _ (show d + 9 ≠ d + 5 from by omega), xU_k _ _ _ (show d ≠ d + 5 from by omega), xU_i]
  by_cases e : i = 2 + f
  · rw [if_pos e, if_neg (by omega), if_neg (by omega), if_pos (by omega), if_pos (by omega)]
  · rw [if_neg e]
    by_cases c : i - 2 = f
    · exact absurd c (by omega)
    · rw [if_neg c]
theorem zYc_uJ {σ : xS} {d : Nat} {f v : Int} (h : 0 ≤ f ∧ f < 2) : zYc (xU σ (d + 1) f v) d = xud (zYc σ d) f v := by
  funext i
  unfold zYc xud
  rw [xU_k _ _ _ (show d + 5 ≠ d + 1 from by omega), xU_k _ _ _ (show d + 6 ≠ d + 1 from by omega), xU_k _ _ _ (show d + 7 ≠ d + 1 from by omega), xU_k _ _ _ (show d + 8 ≠ d + 1 from by omega), xU_k _ _ _ (show d + 9 ≠ d + 1 from by omega), xU_k _ _ _ (show d ≠ d + 1 from by omega), xU_i]
  by_cases e : i = f
  · rw [if_pos e, if_neg (by omega), if_pos (by omega), if_pos e]
  · rw [if_neg e, if_neg e]
theorem zYq_x {Y : Int → Int} {i v : Int} (h : zYq Y) (hi : i < 4 ∨ 44 ≤ i) : zYq (xud Y i v) := fun f f1 f2 => by
  rw [xud_o _ _ (show 4 + f ≠ i from by omega), xud_o _ _ (show 14 + f ≠ i from by omega), xud_o _ _ (show 24 + f ≠ i from by omega), xud_o _ _ (show 34 + f ≠ i from by omega)]
  exact h f f1 f2
theorem zY4_x {Y : Int → Int} {i v : Int} (hi : 4 ≤ i) : zY4 (xud Y i v) = zY4 Y := by
  unfold zY4
  rw [xud_o _ _ (show (0 : Int) ≠ i from by omega), xud_o _ _ (show (1 : Int) ≠ i from by omega), xud_o _ _ (show (2 : Int) ≠ i from by omega), xud_o _ _ (show (3 : Int) ≠ i from by omega)]
theorem zok_x {Y : Int → Int} {j : Int} (h : zok (zY4 Y)) (hj : 0 ≤ j ∧ j < 2) : zok (zY4 (xud Y j (-1))) := by
  obtain ⟨h1, h2, h3, h4⟩ := h
  rcases (by omega : j = 0 ∨ j = 1) with rfl | rfl
  · exact ⟨⟨by show (-1 : Int) ≤ xud Y 0 (-1) 0; rw [xud_s]; decide, by show xud Y 0 (-1) 0 ≤ 99; rw [xud_s]; decide⟩, h2, h3, h4⟩
  · exact ⟨h1, ⟨by show (-1 : Int) ≤ xud Y 1 (-1) 1; rw [xud_s]; decide, by show xud Y 1 (-1) 1 ≤ 99; rw [xud_s]; decide⟩, h3, h4⟩
theorem zSm_x {Y : Int → Int} {i v : Int} (hi : i < 14 ∨ 24 ≤ i) : zSm (xud Y i v) = zSm Y := zSm_o (fun g g1 g2 => xud_o _ _ (by omega))
theorem zY0_q {Y : Int → Int} (h : zYq Y) : zYq (zY0 Y) := zYq_x (zYq_x (zYq_x h (by omega)) (by omega)) (by omega)
theorem zY0_4 {Y : Int → Int} : zY4 (zY0 Y) = zY4 Y := by
  unfold zY0
  rw [zY4_x (by decide), zY4_x (by decide), zY4_x (by decide)]
theorem zY0_o {Y : Int → Int} {i : Int} (h : i < 46) : zY0 Y i = Y i := by
  unfold zY0
  rw [xud_o _ _ (by omega), xud_o _ _ (by omega), xud_o _ _ (by omega)]
theorem zY0_sm {Y : Int → Int} : zSm (zY0 Y) = zSm Y := zSm_o (fun g g1 g2 => zY0_o (by omega))
theorem zWc.cp {σ τ : xS} {d d2 : Nat} {n : Int → Int} {w : Int → Int → Int} (h : zWc σ d n w) (hc : ∀ q : Int, 0 ≤ q → q < 2 → τ (d2 + 2) q = σ (d + 2) q) (eR : ∀ k : Nat, (k = 139 ∨ k = 140 ∨ k = 149 ∨ k = 150 ∨ (219 ≤ k ∧ k < 224) ∨ 310 ≤ k) → τ k = σ k) : zWc τ d2 n w := fun j j1 j2 => by
  obtain ⟨g1, g2, g3⟩ := h j j1 j2
  have l8 : xlen τ = xlen σ := funext fun r => by unfold xlen; rw [eR 999998 (by omega)]
  have er : τ (σ (d + 2) j).toNat = σ (σ (d + 2) j).toNat := eR _ (by unfold zRo at g1; omega)
  rw [hc j j1 j2, l8, er]
  exact ⟨g1.f (eR 999996 (by omega)), g2, g3⟩
set_option maxHeartbeats 4000000 in
set_option maxRecDepth 100000 in
theorem c_X2_copyFromF (l : Launch) (D : va_G) (g : xG) (T : Nat × Nat × Nat) (h0 : Nat) (s0 : xS) (hσ : xRR s0) (d : Nat) (hd : xDay d) (d2 : Nat) (hd2 : xDay d2) (hdd : d ≠ d2) (p0 : IC s0) : Met l yX2_copyFrom (xws yX2_copyFrom cX2_copyFrom 3 none) { frames := 0, cells := 0, slots := 0, locals := 0 } (xP [.ref (h0 + d), .ref (h0 + d2)] D g T h0 s0) (xQv D g h0 (fun τ => xFr (fun k => k = d ∨ k = d + 1 ∨ k = d + 2 ∨ k = d + 5 ∨ k = d + 6 ∨ k = d + 7 ∨ k = d + 8 ∨ k = d + 9) s0 τ ∧ (((IC τ) ∧ True) ∧ (zYc τ d = zYc s0 d2 ∧ ∀ q : Int, 0 ≤ q → q < 2 → τ (d + 2) q = s0 (d2 + 2) q)))) 0 0 (xA h0) := by
  refine x_met hσ (by decide) (Nat.le_of_ble_eq_true rfl) ?_
  intro p e s m args below meth c hx hb hr hml hown hT hlk hnm hE hW ls hl
  have hl : lv_has ls 3 [(0, .ref (h0 + d)), (1, .ref (h0 + d2))] := hl
  obtain ⟨Q, eQ⟩ : ∃ Q, Q = MQ below (xQv D g h0 (fun τ => xFr (fun k => k = d ∨ k = d + 1 ∨ k = d + 2 ∨ k = d + 5 ∨ k = d + 6 ∨ k = d + 7 ∨ k = d + 8 ∨ k = d + 9) s0 τ ∧ (((IC τ) ∧ True) ∧ (zYc τ d = zYc s0 d2 ∧ ∀ q : Int, 0 ≤ q → q < 2 → τ (d + 2) q = s0 (d2 + 2) q)))) args s 0 0 (xA h0) := ⟨_, rfl⟩
  rw [← eQ]
  generalize hHe : ([] : List Loc) = locs at hW ⊢
  obtain ⟨H, eH⟩ : ∃ H, H = s.heap := ⟨_, rfl⟩
  rw [← eH] at hW ⊢
  have hF : xFr (fun k => k = d ∨ k = d + 1 ∨ k = d + 2 ∨ k = d + 5 ∨ k = d + 6 ∨ k = d + 7 ∨ k = d + 8 ∨ k = d + 9) s0 s0 := xFr.rf
  have hbd : (136 ≤ d ∧ d < 209) ∧ (d ≤ 146 ∨ 158 ≤ d) := by unfold xDay at hd; omega
  have hbd2 : (136 ≤ d2 ∧ d2 < 209) ∧ (d2 ≤ 146 ∨ 158 ≤ d2) := by unfold xDay at hd2; omega
  have k1_1 : s0 1 1 = s0 1 1 := rfl
  have dd : d2 + 9 < d ∨ d + 9 < d2 := by unfold xDay at hd hd2; omega
  refine x_iconst hx hb dX2_copyFrom_0 ?_
  refine lv_istore_n (lv' := [(2, .int (xJ 0)), (0, .ref (h0 + d)), (1, .ref (h0 + d2))]) hx hb dX2_copyFrom_1 rfl hl (by decide) rfl (fun ls hl => ?_)
  have L2 : ∀ (fu : Nat) (i2_2 : Int) (s_2 : xS) (H : Heap) (locs : List Loc) (ls : Array Slot), (xR i2_2) → (xFr (fun k => k = d ∨ k = d + 1 ∨ k = d + 2 ∨ k = d + 5 ∨ k = d + 6 ∨ k = d + 7 ∨ k = d + 8 ∨ k = d + 9) s0 s_2) → (IC s_2) → (s_2 1 1 = s0 1 1) → (0 ≤ i2_2) → (i2_2 ≤ 2) → (∀ q : Int, 0 ≤ q → q < i2_2 → s_2 (d + 1) q = s0 (d2 + 1) q ∧ s_2 (d + 2) q = s0 (d2 + 2) q ∧ s_2 (d + 5) q = s0 (d2 + 5) q) → (2 + 1 - i2_2).toNat < fu → xW D g h0 s H locs s_2 → lv_has ls 3 [(0, .ref (h0 + d)), (1, .ref (h0 + d2)), (2, .int (xJ i2_2))] → W p l e { frames := 0, cells := 0, slots := 0, locals := 0 } s m args below meth c H locs 0 0 Q (F0 m 2 ls []) := by
    intro fu
    induction fu with
    | zero => intro i2_2 s_2 H locs ls ri2_2 hF_2 q2_0 q2_1 v2_0 v2_1 v2_2 hm; exact absurd hm (Nat.not_lt_zero _)
    | succ fu ih2 =>
      intro i2_2 s_2 H locs ls ri2_2 hF_2 q2_0 q2_1 v2_0 v2_1 v2_2 hm hW hl
      have hm_2 := fun (_ : Unit) => hm
      clear hm
      refine x_iload_n hx hb hl 2 rfl dX2_copyFrom_2 rfl ?_
      refine x_iconst hx hb dX2_copyFrom_3 ?_
      refine x_icmp_ge (tgt := 49) hx hb ri2_2 (by decide) dX2_copyFrom_4 (by decide) (fun c1 => ?_) (fun c1 => ?_)
      · skip
        refine x_iconst hx hb dX2_copyFrom_49 ?_
        refine lv_istore_n (lv' := [(2, .int (xJ 0)), (0, .ref (h0 + d)), (1, .ref (h0 + d2))]) hx hb dX2_copyFrom_50 rfl hl (by decide) rfl (fun ls hl => ?_)
        have L51 : ∀ (fu : Nat) (i2_51 : Int) (s_51 : xS) (H : Heap) (locs : List Loc) (ls : Array Slot), (xR i2_51) → (xFr (fun k => k = d ∨ k = d + 1 ∨ k = d + 2 ∨ k = d + 5 ∨ k = d + 6 ∨ k = d + 7 ∨ k = d + 8 ∨ k = d + 9) s0 s_51) → (IC s_51) → (s_51 1 1 = s0 1 1) → (0 ≤ i2_51) → (i2_51 ≤ 10) → (∀ q : Int, 0 ≤ q → q < 2 → s_51 (d + 1) q = s0 (d2 + 1) q ∧ s_51 (d + 2) q = s0 (d2 + 2) q ∧ s_51 (d + 5) q = s0 (d2 + 5) q) → (∀ q : Int, 0 ≤ q → q < i2_51 → s_51 (d + 6) q = s0 (d2 + 6) q ∧ s_51 (d + 7) q = s0 (d2 + 7) q ∧ s_51 (d + 8) q = s0 (d2 + 8) q ∧ s_51 (d + 9) q = s0 (d2 + 9) q) → (10 + 1 - i2_51).toNat < fu → xW D g h0 s H locs s_51 → lv_has ls 3 [(0, .ref (h0 + d)), (1, .ref (h0 + d2)), (2, .int (xJ i2_51))] → W p l e { frames := 0, cells := 0, slots := 0, locals := 0 } s m args below meth c H locs 0 0 Q (F0 m 51 ls []) := by
          intro fu
          induction fu with
          | zero => intro i2_51 s_51 H locs ls ri2_51 hF_51 q51_0 q51_1 v51_0 v51_1 v51_2 v51_3 hm; exact absurd hm (Nat.not_lt_zero _)
          | succ fu ih51 =>
            intro i2_51 s_51 H locs ls ri2_51 hF_51 q51_0 q51_1 v51_0 v51_1 v51_2 v51_3 hm hW hl
            have hm_51 := fun (_ : Unit) => hm
            clear hm
            refine x_iload_n hx hb hl 2 rfl dX2_copyFrom_51 rfl ?_
            refine x_bipush hx hb dX2_copyFrom_52 (by decide) ?_
            refine x_icmp_ge (tgt := 111) hx hb ri2_51 (by decide) dX2_copyFrom_54 (by decide) (fun c2 => ?_) (fun c2 => ?_)
            · skip
              refine x_aload_n hx hb hl 0 rfl dX2_copyFrom_111 rfl ?_
              refine x_aload_n hx hb hl 1 rfl dX2_copyFrom_112 rfl ?_
              refine x_get (j := 7) (v := .int (xJ (s_51 d2 7))) hx hb hown hT hE hW cls_X2 (Or.inl (by omega)) (so_day0 h0 g hd2 _) (by decide) rfl wq401 dX2_copyFrom_113 ?_
              refine x_rd hW (fun x3 ex3 rx3 => ?_)
              have bx3 : 0 ≤ x3 ∧ x3 ≤ 9999 := by rw [ex3]; exact IC.m q51_0 hd2
              have V113 : x3 = s0 d2 7 := by rw [ex3, hF_51 d2 (by omega)]
              refine x_put (j := 7) hx hb hown hT hE hW cls_X2 (by omega) (fun σ => so_day0 h0 g hd σ) (by decide) (st_X2_7 h0 s_51 d x3) (ln_X2_7 h0 _ _) wq401 rfl rfl rfl rx3 dX2_copyFrom_116 (fun H locs s4 es4 hW => ?_)
              have q5 : IC s4 := by rw [es4]; exact IC_d hd q51_0 (by omega)
              have q6 : s4 1 1 = s0 1 1 := (show s4 1 1 = s_51 1 1 from by rw [es4, xU_k _ _ _ (by first | decide | omega)]).trans q51_1
              have q7 : s4 d 7 = x3 := by rw [es4, xU_s]
              have hF8 := hF_51.put es4 (by omega)
              have E116 := es4
              refine x_aload_n hx hb hl 0 rfl dX2_copyFrom_119 rfl ?_
              refine x_aload_n hx hb hl 1 rfl dX2_copyFrom_120 rfl ?_
              refine x_get (j := 8) (v := .int (xJ (s4 d2 8))) hx hb hown hT hE hW cls_X2 (Or.inl (by omega)) (so_day0 h0 g hd2 _) (by decide) rfl wq404 dX2_copyFrom_121 ?_
              refine x_rd hW (fun x9 ex9 rx9 => ?_)
              have bx9 : 0 ≤ x9 ∧ x9 ≤ 65535 := by rw [ex9]; exact IC.x q5 hd2
              have V121 : x9 = s0 d2 8 := by rw [ex9, hF8 d2 (by omega)]
              refine x_put (j := 8) hx hb hown hT hE hW cls_X2 (by omega) (fun σ => so_day0 h0 g hd σ) (by decide) (st_X2_8 h0 s4 d x9) (ln_X2_8 h0 _ _) wq404 rfl rfl rfl rx9 dX2_copyFrom_124 (fun H locs s10 es10 hW => ?_)
              have q11 : IC s10 := by rw [es10]; exact IC_d hd q5 (by omega)
              have q12 : s10 1 1 = s0 1 1 := (show s10 1 1 = s4 1 1 from by rw [es10, xU_k _ _ _ (by first | decide | omega)]).trans q6
              have q13 : s10 d 7 = x3 := (show s10 d 7 = s4 d 7 from by rw [es10, xU_j _ _ (by decide)]).trans q7
              have hF14 := hF8.put es10 (by omega)
              have E124 := es10
              refine x_aload_n hx hb hl 0 rfl dX2_copyFrom_127 rfl ?_
              refine x_aload_n hx hb hl 1 rfl dX2_copyFrom_128 rfl ?_
              refine x_get (j := 9) (v := .int (xJ (s10 d2 9))) hx hb hown hT hE hW cls_X2 (Or.inl (by omega)) (so_day0 h0 g hd2 _) (by decide) rfl wq406 dX2_copyFrom_129 ?_
              refine x_rd hW (fun x15 ex15 rx15 => ?_)
              have V129 : x15 = s0 d2 9 := by rw [ex15, hF14 d2 (by omega)]
              refine x_put (j := 9) hx hb hown hT hE hW cls_X2 (by omega) (fun σ => so_day0 h0 g hd σ) (by decide) (st_X2_9 h0 s10 d x15) (ln_X2_9 h0 _ _) wq406 rfl rfl rfl rx15 dX2_copyFrom_132 (fun H locs s16 es16 hW => ?_)
              have q17 : IC s16 := by rw [es16]; exact IC_d hd q11 (by omega)
              have q18 : s16 1 1 = s0 1 1 := (show s16 1 1 = s10 1 1 from by rw [es16, xU_k _ _ _ (by first | decide | omega)]).trans q12
              have q19 : s16 d 7 = x3 := (show s16 d 7 = s10 d 7 from by rw [es16, xU_j _ _ (by decide)]).trans q13
              have hF20 := hF14.put es16 (by omega)
              have E132 := es16
              refine x_aload_n hx hb hl 0 rfl dX2_copyFrom_135 rfl ?_
              refine x_aload_n hx hb hl 1 rfl dX2_copyFrom_136 rfl ?_
              refine x_get (j := 10) (v := .int (xJ (s16 d2 10))) hx hb hown hT hE hW cls_X2 (Or.inl (by omega)) (so_day0 h0 g hd2 _) (by decide) rfl wq409 dX2_copyFrom_137 ?_
              refine x_rd hW (fun x21 ex21 rx21 => ?_)
              have V137 : x21 = s0 d2 10 := by rw [ex21, hF20 d2 (by omega)]
              refine x_put (j := 10) hx hb hown hT hE hW cls_X2 (by omega) (fun σ => so_day0 h0 g hd σ) (by decide) (st_X2_10 h0 s16 d x21) (ln_X2_10 h0 _ _) wq409 rfl rfl rfl rx21 dX2_copyFrom_140 (fun H locs s22 es22 hW => ?_)
              have q23 : IC s22 := by rw [es22]; exact IC_d hd q17 (by omega)
              have q24 : s22 1 1 = s0 1 1 := (show s22 1 1 = s16 1 1 from by rw [es22, xU_k _ _ _ (by first | decide | omega)]).trans q18
              have q25 : s22 d 7 = x3 := (show s22 d 7 = s16 d 7 from by rw [es22, xU_j _ _ (by decide)]).trans q19
              have hF26 := hF20.put es22 (by omega)
              have E140 := es22
              refine x_aload_n hx hb hl 0 rfl dX2_copyFrom_143 rfl ?_
              refine x_aload_n hx hb hl 1 rfl dX2_copyFrom_144 rfl ?_
              refine x_get (j := 11) (v := .int (xJ (s22 d2 11))) hx hb hown hT hE hW cls_X2 (Or.inl (by omega)) (so_day0 h0 g hd2 _) (by decide) rfl wq412 dX2_copyFrom_145 ?_
              refine x_rd hW (fun x27 ex27 rx27 => ?_)
              have V145 : x27 = s0 d2 11 := by rw [ex27, hF26 d2 (by omega)]
              refine x_put (j := 11) hx hb hown hT hE hW cls_X2 (by omega) (fun σ => so_day0 h0 g hd σ) (by decide) (st_X2_11 h0 s22 d x27) (ln_X2_11 h0 _ _) wq412 rfl rfl rfl rx27 dX2_copyFrom_148 (fun H locs s28 es28 hW => ?_)
              have q29 : IC s28 := by rw [es28]; exact IC_d hd q23 (by omega)
              have q30 : s28 1 1 = s0 1 1 := (show s28 1 1 = s22 1 1 from by rw [es28, xU_k _ _ _ (by first | decide | omega)]).trans q24
              have q31 : s28 d 7 = x3 := (show s28 d 7 = s22 d 7 from by rw [es28, xU_j _ _ (by decide)]).trans q25
              have hF32 := hF26.put es28 (by omega)
              have E148 := es28
              rw [eQ]
              exact x_vret hx hb hr hlk hW ⟨hF32, ⟨q29, trivial⟩, by
                  have A : ∀ q : Int, 0 ≤ q → q < 2 → s28 (d + 1) q = s0 (d2 + 1) q ∧ s28 (d + 2) q = s0 (d2 + 2) q ∧ s28 (d + 5) q = s0 (d2 + 5) q := fun q q1 q2 => by
                    rw [E148, xU_k _ _ _ (by first | decide | omega), xU_k _ _ _ (by first | decide | omega), xU_k _ _ _ (by first | decide | omega), E140, xU_k _ _ _ (by first | decide | omega), xU_k _ _ _ (by first | decide | omega), xU_k _ _ _ (by first | decide | omega), E132, xU_k _ _ _ (by first | decide | omega), xU_k _ _ _ (by first | decide | omega), xU_k _ _ _ (by first | decide | omega), E124, xU_k _ _ _ (by first | decide | omega), xU_k _ _ _ (by first | decide | omega), xU_k _ _ _ (by first | decide | omega), E116, xU_k _ _ _ (by first | decide | omega), xU_k _ _ _ (by first | decide | omega), xU_k _ _ _ (by first | decide | omega)]
                    exact v51_2 q q1 q2
                  refine ⟨zYc_cp A (fun q q1 q2 => by
                    rw [E148, xU_k _ _ _ (by first | decide | omega), xU_k _ _ _ (by first | decide | omega), xU_k _ _ _ (by first | decide | omega), xU_k _ _ _ (by first | decide | omega), E140, xU_k _ _ _ (by first | decide | omega), xU_k _ _ _ (by first | decide | omega), xU_k _ _ _ (by first | decide | omega), xU_k _ _ _ (by first | decide | omega), E132, xU_k _ _ _ (by first | decide | omega), xU_k _ _ _ (by first | decide | omega), xU_k _ _ _ (by first | decide | omega), xU_k _ _ _ (by first | decide | omega), E124, xU_k _ _ _ (by first | decide | omega), xU_k _ _ _ (by first | decide | omega), xU_k _ _ _ (by first | decide | omega), xU_k _ _ _ (by first | decide | omega), E116, xU_k _ _ _ (by first | decide | omega), xU_k _ _ _ (by first | decide | omega), xU_k _ _ _ (by first | decide | omega), xU_k _ _ _ (by first | decide | omega)]
                    exact v51_3 q q1 (by omega)) (fun c c1 c2 => ?_), fun q q1 q2 => (A q q1 q2).2.1⟩
                  rcases (by omega : c = 7 ∨ c = 8 ∨ c = 9 ∨ c = 10 ∨ c = 11) with rfl | rfl | rfl | rfl | rfl
                  · exact by rw [E148, xU_j _ _ (by decide), E140, xU_j _ _ (by decide), E132, xU_j _ _ (by decide), E124, xU_j _ _ (by decide), E116, xU_s, V113]
                  · exact by rw [E148, xU_j _ _ (by decide), E140, xU_j _ _ (by decide), E132, xU_j _ _ (by decide), E124, xU_s, V121]
                  · exact by rw [E148, xU_j _ _ (by decide), E140, xU_j _ _ (by decide), E132, xU_s, V129]
                  · exact by rw [E148, xU_j _ _ (by decide), E140, xU_s, V137]
                  · exact by rw [E148, xU_s, V145]⟩ dX2_copyFrom_151
            refine x_aload_n hx hb hl 0 rfl dX2_copyFrom_57 rfl ?_
            refine x_get (j := 3) (v := .ref (h0 + (d + 6))) hx hb hown hT hE hW cls_X2 (Or.inl (by omega)) (so_day0 h0 g hd _) (by decide) rfl wq388 dX2_copyFrom_58 ?_
            refine x_iload_n hx hb hl 2 rfl dX2_copyFrom_61 rfl ?_
            refine x_aload_n hx hb hl 1 rfl dX2_copyFrom_62 rfl ?_
            refine x_get (j := 3) (v := .ref (h0 + (d2 + 6))) hx hb hown hT hE hW cls_X2 (Or.inl (by omega)) (so_day0 h0 g hd2 _) (by decide) rfl wq388 dX2_copyFrom_63 ?_
            refine x_iload_n hx hb hl 2 rfl dX2_copyFrom_66 rfl ?_
            refine x_iald hx hb hE hW (Or.inl (by omega)) (sa_day6 h0 g hd2 _) (by omega) (by decide) dX2_copyFrom_67 ?_
            refine x_rd hW (fun x33 ex33 rx33 => ?_)
            have V67 : x33 = s0 (d2 + 6) i2_51 := by rw [ex33, hF_51 (d2 + 6) (by omega)]
            refine x_iast hx hb hE hW (by omega) (fun σ => sa_day6 h0 g hd σ) (by omega) (by decide) rx33 dX2_copyFrom_68 (fun H locs s34 es34 hW => ?_)
            have q35 : IC s34 := by rw [es34]; exact IC_o (nsC_d hd (by decide)) q51_0
            have q36 : s34 1 1 = s0 1 1 := (show s34 1 1 = s_51 1 1 from by rw [es34, xU_k _ _ _ (by first | decide | omega)]).trans q51_1
            have hF37 := hF_51.put es34 (by omega)
            have E68 := es34
            refine x_aload_n hx hb hl 0 rfl dX2_copyFrom_69 rfl ?_
            refine x_get (j := 4) (v := .ref (h0 + (d + 7))) hx hb hown hT hE hW cls_X2 (Or.inl (by omega)) (so_day0 h0 g hd _) (by decide) rfl wq392 dX2_copyFrom_70 ?_
            refine x_iload_n hx hb hl 2 rfl dX2_copyFrom_73 rfl ?_
            refine x_aload_n hx hb hl 1 rfl dX2_copyFrom_74 rfl ?_
            refine x_get (j := 4) (v := .ref (h0 + (d2 + 7))) hx hb hown hT hE hW cls_X2 (Or.inl (by omega)) (so_day0 h0 g hd2 _) (by decide) rfl wq392 dX2_copyFrom_75 ?_
            refine x_iload_n hx hb hl 2 rfl dX2_copyFrom_78 rfl ?_
            refine x_iald hx hb hE hW (Or.inl (by omega)) (sa_day7 h0 g hd2 _) (by omega) (by decide) dX2_copyFrom_79 ?_
            refine x_rd hW (fun x38 ex38 rx38 => ?_)
            have V79 : x38 = s0 (d2 + 7) i2_51 := by rw [ex38, hF37 (d2 + 7) (by omega)]
            refine x_iast hx hb hE hW (by omega) (fun σ => sa_day7 h0 g hd σ) (by omega) (by decide) rx38 dX2_copyFrom_80 (fun H locs s39 es39 hW => ?_)
            have q40 : IC s39 := by rw [es39]; exact IC_o (nsC_d hd (by decide)) q35
            have q41 : s39 1 1 = s0 1 1 := (show s39 1 1 = s34 1 1 from by rw [es39, xU_k _ _ _ (by first | decide | omega)]).trans q36
            have hF42 := hF37.put es39 (by omega)
            have E80 := es39
            refine x_aload_n hx hb hl 0 rfl dX2_copyFrom_81 rfl ?_
            refine x_get (j := 5) (v := .ref (h0 + (d + 8))) hx hb hown hT hE hW cls_X2 (Or.inl (by omega)) (so_day0 h0 g hd _) (by decide) rfl wq395 dX2_copyFrom_82 ?_
            refine x_iload_n hx hb hl 2 rfl dX2_copyFrom_85 rfl ?_
            refine x_aload_n hx hb hl 1 rfl dX2_copyFrom_86 rfl ?_
            refine x_get (j := 5) (v := .ref (h0 + (d2 + 8))) hx hb hown hT hE hW cls_X2 (Or.inl (by omega)) (so_day0 h0 g hd2 _) (by decide) rfl wq395 dX2_copyFrom_87 ?_
            refine x_iload_n hx hb hl 2 rfl dX2_copyFrom_90 rfl ?_
            refine x_iald hx hb hE hW (Or.inl (by omega)) (sa_day8 h0 g hd2 _) (by omega) (by decide) dX2_copyFrom_91 ?_
            refine x_rd hW (fun x43 ex43 rx43 => ?_)
            have V91 : x43 = s0 (d2 + 8) i2_51 := by rw [ex43, hF42 (d2 + 8) (by omega)]
            refine x_iast hx hb hE hW (by omega) (fun σ => sa_day8 h0 g hd σ) (by omega) (by decide) rx43 dX2_copyFrom_92 (fun H locs s44 es44 hW => ?_)
            have q45 : IC s44 := by rw [es44]; exact IC_o (nsC_d hd (by decide)) q40
            have q46 : s44 1 1 = s0 1 1 := (show s44 1 1 = s39 1 1 from by rw [es44, xU_k _ _ _ (by first | decide | omega)]).trans q41
            have hF47 := hF42.put es44 (by omega)
            have E92 := es44
            refine x_aload_n hx hb hl 0 rfl dX2_copyFrom_93 rfl ?_
            refine x_get (j := 6) (v := .ref (h0 + (d + 9))) hx hb hown hT hE hW cls_X2 (Or.inl (by omega)) (so_day0 h0 g hd _) (by decide) rfl wq398 dX2_copyFrom_94 ?_
            refine x_iload_n hx hb hl 2 rfl dX2_copyFrom_97 rfl ?_
            refine x_aload_n hx hb hl 1 rfl dX2_copyFrom_98 rfl ?_
            refine x_get (j := 6) (v := .ref (h0 + (d2 + 9))) hx hb hown hT hE hW cls_X2 (Or.inl (by omega)) (so_day0 h0 g hd2 _) (by decide) rfl wq398 dX2_copyFrom_99 ?_
            refine x_iload_n hx hb hl 2 rfl dX2_copyFrom_102 rfl ?_
            refine x_zald hx hb hE hW (Or.inl (by omega)) (sa_day9 h0 g hd2 _) (by omega) (by decide) dX2_copyFrom_103 ?_
            refine x_rd hW (fun x48 ex48 rx48 => ?_)
            have bx48 : x48 = 0 ∨ x48 = 1 := by rw [ex48]; exact IC.b q45 hd2 _ (by omega) (by omega)
            have V103 : x48 = s0 (d2 + 9) i2_51 := by rw [ex48, hF47 (d2 + 9) (by omega)]
            refine x_zast hx hb hE hW (by omega) (fun σ => sa_day9 h0 g hd σ) (by omega) (by decide) (by omega) dX2_copyFrom_104 (fun H locs s49 es49 hW => ?_)
            have q50 : IC s49 := by rw [es49]; exact IC_z hd q45 (by omega)
            have q51 : s49 1 1 = s0 1 1 := (show s49 1 1 = s44 1 1 from by rw [es49, xU_k _ _ _ (by first | decide | omega)]).trans q46
            have hF52 := hF47.put es49 (by omega)
            have E104 := es49
            refine x_iinc (lv' := [(2, .int (xJ (i2_51 + 1))), (0, .ref (h0 + d)), (1, .ref (h0 + d2))]) hx hb hl 2 rfl dX2_copyFrom_105 (by decide) rfl (fun ls hl => ?_)
            refine lv_goto (tgt := 51) hx hb dX2_copyFrom_108 (by decide) ?_
            exact ih51 (i2_51 + 1) s49 H locs ls (by omega) hF52 q50 q51 (by omega) (by omega) (by
                rw [E104, xU_k _ _ _ (by first | decide | omega), xU_k _ _ _ (by first | decide | omega), xU_k _ _ _ (by first | decide | omega), E92, xU_k _ _ _ (by first | decide | omega), xU_k _ _ _ (by first | decide | omega), xU_k _ _ _ (by first | decide | omega), E80, xU_k _ _ _ (by first | decide | omega), xU_k _ _ _ (by first | decide | omega), xU_k _ _ _ (by first | decide | omega), E68, xU_k _ _ _ (by first | decide | omega), xU_k _ _ _ (by first | decide | omega), xU_k _ _ _ (by first | decide | omega)]
                exact v51_2) (fun q q1 q2 => by
                rw [E104, xU_k _ _ _ (by first | decide | omega), xU_k _ _ _ (by first | decide | omega), xU_k _ _ _ (by first | decide | omega), xU_xud, E92, xU_k _ _ _ (by first | decide | omega), xU_k _ _ _ (by first | decide | omega), xU_xud, xU_k _ _ _ (by first | decide | omega), E80, xU_k _ _ _ (by first | decide | omega), xU_xud, xU_k _ _ _ (by first | decide | omega), xU_k _ _ _ (by first | decide | omega), E68, xU_xud, xU_k _ _ _ (by first | decide | omega), xU_k _ _ _ (by first | decide | omega), xU_k _ _ _ (by first | decide | omega)]
                by_cases h : q = i2_51
                · subst h; rw [xud_s, xud_s, xud_s, xud_s]; exact ⟨V67, V79, V91, V103⟩
                · rw [xud_o _ _ h, xud_o _ _ h, xud_o _ _ h, xud_o _ _ h]; exact v51_3 q q1 (by omega)) (by have hm := hm_51 (); omega) hW (lv_sub hl [1, 2, 0] rfl)
        exact L51 ((10 + 1 - 0 : Int).toNat + 1) 0 s_2 H locs ls (by decide) hF_2 q2_0 q2_1 (by omega) (by omega) (fun q q1 q2 => v2_2 q q1 (by omega)) (fun q q1 q2 => absurd q2 (by omega)) (Nat.lt_succ_self _) hW (lv_sub hl [1, 2, 0] rfl)
      refine x_aload_n hx hb hl 0 rfl dX2_copyFrom_7 rfl ?_
      refine x_get (j := 0) (v := .ref (h0 + (d + 1))) hx hb hown hT hE hW cls_X2 (Or.inl (by omega)) (so_day0 h0 g hd _) (by decide) rfl wq383 dX2_copyFrom_8 ?_
      refine x_iload_n hx hb hl 2 rfl dX2_copyFrom_11 rfl ?_
      refine x_aload_n hx hb hl 1 rfl dX2_copyFrom_12 rfl ?_
      refine x_get (j := 0) (v := .ref (h0 + (d2 + 1))) hx hb hown hT hE hW cls_X2 (Or.inl (by omega)) (so_day0 h0 g hd2 _) (by decide) rfl wq383 dX2_copyFrom_13 ?_
      refine x_iload_n hx hb hl 2 rfl dX2_copyFrom_16 rfl ?_
      refine x_iald hx hb hE hW (Or.inl (by omega)) (sa_day1 h0 g hd2 _) (by omega) (by decide) dX2_copyFrom_17 ?_
      refine x_rd hW (fun x53 ex53 rx53 => ?_)
      have V17 : x53 = s0 (d2 + 1) i2_2 := by rw [ex53, hF_2 (d2 + 1) (by omega)]
      refine x_iast hx hb hE hW (by omega) (fun σ => sa_day1 h0 g hd σ) (by omega) (by decide) rx53 dX2_copyFrom_18 (fun H locs s54 es54 hW => ?_)
      have q55 : IC s54 := by rw [es54]; exact IC_o (nsC_d hd (by decide)) q2_0
      have q56 : s54 1 1 = s0 1 1 := (show s54 1 1 = s_2 1 1 from by rw [es54, xU_k _ _ _ (by first | decide | omega)]).trans q2_1
      have hF57 := hF_2.put es54 (by omega)
      have E18 := es54
      refine x_aload_n hx hb hl 0 rfl dX2_copyFrom_19 rfl ?_
      refine x_get (j := 1) (v := .ref (h0 + (d + 2))) hx hb hown hT hE hW cls_X2 (Or.inl (by omega)) (so_day0 h0 g hd _) (by decide) rfl wq386 dX2_copyFrom_20 ?_
      refine x_iload_n hx hb hl 2 rfl dX2_copyFrom_23 rfl ?_
      refine x_aload_n hx hb hl 1 rfl dX2_copyFrom_24 rfl ?_
      refine x_get (j := 1) (v := .ref (h0 + (d2 + 2))) hx hb hown hT hE hW cls_X2 (Or.inl (by omega)) (so_day0 h0 g hd2 _) (by decide) rfl wq386 dX2_copyFrom_25 ?_
      refine x_iload_n hx hb hl 2 rfl dX2_copyFrom_28 rfl ?_
      refine x_aaldR (t0 := 3) (n := 2) (r := (s54 (d2 + 2) i2_2).toNat) hx hb hE hW (by omega) rfl rfl (sg_day2 h0 g hd2 _) (by omega) (by decide) (by rw [xrow_day hd2, Int.toNat_of_nonneg (by omega)]) dX2_copyFrom_29 ?_
      obtain ⟨v58, ev58, rv58⟩ : ∃ v : Int, v = s54 (d2 + 2) i2_2 ∧ xR v := ⟨_, rfl, hW.2.1 _ _⟩
      have zv58 : (xlen s54 v58.toNat : Int) = xlen s54 (s54 (d2 + 2) i2_2).toNat := by rw [ev58]
      have yv58 := xlen_le hW.2.1 v58.toNat
      rw [← ev58]
      have V29 : v58 = s0 (d2 + 2) i2_2 := by rw [ev58, hF57 (d2 + 2) (by omega)]
      refine x_aastR (v := v58) hx hb hE hW (by omega) (fun σ => sg_day2 h0 g hd σ) (xrow_day hd) (by omega) (by decide) (by rw [ev58]; exact IC.w q55 hd2 _ (by omega) (by omega)) rv58 dX2_copyFrom_30 (fun H locs s59 es59 hW => ?_)
      have q60 : IC s59 := by rw [es59]; exact IC_w hd q55 (by rw [ev58]; exact IC.w q55 hd2 _ (by omega) (by omega))
      have q61 : s59 1 1 = s0 1 1 := (show s59 1 1 = s54 1 1 from by rw [es59, xU_k _ _ _ (by first | decide | omega)]).trans q56
      have hF62 := hF57.put es59 (by omega)
      have E30 := es59
      refine x_aload_n hx hb hl 0 rfl dX2_copyFrom_31 rfl ?_
      refine x_get (j := 2) (v := .ref (h0 + (d + 5))) hx hb hown hT hE hW cls_X2 (Or.inl (by omega)) (so_day0 h0 g hd _) (by decide) rfl wq387 dX2_copyFrom_32 ?_
      refine x_iload_n hx hb hl 2 rfl dX2_copyFrom_35 rfl ?_
      refine x_aload_n hx hb hl 1 rfl dX2_copyFrom_36 rfl ?_
      refine x_get (j := 2) (v := .ref (h0 + (d2 + 5))) hx hb hown hT hE hW cls_X2 (Or.inl (by omega)) (so_day0 h0 g hd2 _) (by decide) rfl wq387 dX2_copyFrom_37 ?_
      refine x_iload_n hx hb hl 2 rfl dX2_copyFrom_40 rfl ?_
      refine x_iald hx hb hE hW (Or.inl (by omega)) (sa_day5 h0 g hd2 _) (by omega) (by decide) dX2_copyFrom_41 ?_
      refine x_rd hW (fun x63 ex63 rx63 => ?_)
      have bx63 : 0 ≤ x63 := by rw [ex63]; exact IC.p q60 hd2 _ (by omega) (by omega)
      have V41 : x63 = s0 (d2 + 5) i2_2 := by rw [ex63, hF62 (d2 + 5) (by omega)]
      refine x_iast hx hb hE hW (by omega) (fun σ => sa_day5 h0 g hd σ) (by omega) (by decide) rx63 dX2_copyFrom_42 (fun H locs s64 es64 hW => ?_)
      have q65 : IC s64 := by rw [es64]; exact IC_p hd q60 (by omega)
      have q66 : s64 1 1 = s0 1 1 := (show s64 1 1 = s59 1 1 from by rw [es64, xU_k _ _ _ (by first | decide | omega)]).trans q61
      have hF67 := hF62.put es64 (by omega)
      have E42 := es64
      refine x_iinc (lv' := [(2, .int (xJ (i2_2 + 1))), (0, .ref (h0 + d)), (1, .ref (h0 + d2))]) hx hb hl 2 rfl dX2_copyFrom_43 (by decide) rfl (fun ls hl => ?_)
      refine lv_goto (tgt := 2) hx hb dX2_copyFrom_46 (by decide) ?_
      exact ih2 (i2_2 + 1) s64 H locs ls (by omega) hF67 q65 q66 (by omega) (by omega) (fun q q1 q2 => by
          rw [E42, xU_k _ _ _ (by first | decide | omega), xU_k _ _ _ (by first | decide | omega), xU_xud, E30, xU_k _ _ _ (by first | decide | omega), xU_xud, xU_k _ _ _ (by first | decide | omega), E18, xU_xud, xU_k _ _ _ (by first | decide | omega), xU_k _ _ _ (by first | decide | omega)]
          by_cases h : q = i2_2
          · subst h; rw [xud_s, xud_s, xud_s]; exact ⟨V17, V29, V41⟩
          · rw [xud_o _ _ h, xud_o _ _ h, xud_o _ _ h]; exact v2_2 q q1 (by omega)) (by have hm := hm_2 (); omega) hW (lv_sub hl [1, 2, 0] rfl)
  exact L2 ((2 + 1 - 0 : Int).toNat + 1) 0 s0 H locs ls (by decide) hF p0 k1_1 (by omega) (by omega) (fun q q1 q2 => absurd q2 (by omega)) (Nat.lt_succ_self _) hW (lv_sub hl [1, 2, 0] rfl)
set_option maxHeartbeats 4000000 in
set_option maxRecDepth 100000 in
theorem c_X2_clearCountsF (l : Launch) (D : va_G) (g : xG) (T : Nat × Nat × Nat) (h0 : Nat) (s0 : xS) (hσ : xRR s0) (d : Nat) (hd : xDay d) (p0 : IC s0) : Met l yX2_clearCounts (xws yX2_clearCounts cX2_clearCounts 1 none) { frames := 0, cells := 0, slots := 0, locals := 0 } (xP [.ref (h0 + d)] D g T h0 s0) (xQv D g h0 (fun τ => xFr (fun k => k = d) s0 τ ∧ (((IC τ) ∧ (τ d 7 = s0 d 7) ∧ True) ∧ (zYc τ d = xud (xud (xud (zYc s0 d) 46 0) 47 0) 48 0)))) 0 0 (xA h0) := by
  refine x_met hσ (by decide) (Nat.le_of_ble_eq_true rfl) ?_
  intro p e s m args below meth c hx hb hr hml hown hT hlk hnm hE hW ls hl
  have hl : lv_has ls 1 [(0, .ref (h0 + d))] := hl
  obtain ⟨Q, eQ⟩ : ∃ Q, Q = MQ below (xQv D g h0 (fun τ => xFr (fun k => k = d) s0 τ ∧ (((IC τ) ∧ (τ d 7 = s0 d 7) ∧ True) ∧ (zYc τ d = xud (xud (xud (zYc s0 d) 46 0) 47 0) 48 0)))) args s 0 0 (xA h0) := ⟨_, rfl⟩
  rw [← eQ]
  generalize hHe : ([] : List Loc) = locs at hW ⊢
  obtain ⟨H, eH⟩ : ∃ H, H = s.heap := ⟨_, rfl⟩
  rw [← eH] at hW ⊢
  have hF : xFr (fun k => k = d) s0 s0 := xFr.rf
  have hbd : (136 ≤ d ∧ d < 209) ∧ (d ≤ 146 ∨ 158 ≤ d) := by unfold xDay at hd; omega
  have k1_1 : s0 1 1 = s0 1 1 := rfl
  have kd_7 : s0 d 7 = s0 d 7 := rfl
  have kd_7 : s0 d 7 = s0 d 7 := rfl
  refine x_aload_n hx hb hl 0 rfl dX2_clearCounts_0 rfl ?_
  refine x_iconst hx hb dX2_clearCounts_1 ?_
  refine x_put (j := 9) hx hb hown hT hE hW cls_X2 (by omega) (fun σ => so_day0 h0 g hd σ) (by decide) (st_X2_9 h0 s0 d 0) (ln_X2_9 h0 _ _) wq406 rfl rfl rfl (by decide) dX2_clearCounts_2 (fun H locs s1 es1 hW => ?_)
  have q2 : IC s1 := by rw [es1]; exact IC_d hd p0 (by omega)
  have q3 : s1 1 1 = s0 1 1 := (show s1 1 1 = s0 1 1 from by rw [es1, xU_k _ _ _ (by first | decide | omega)]).trans k1_1
  have q4 : s1 d 7 = s0 d 7 := (show s1 d 7 = s0 d 7 from by rw [es1, xU_j _ _ (by decide)]).trans kd_7
  have hF5 := hF.put es1 (by omega)
  have E2 := es1
  refine x_aload_n hx hb hl 0 rfl dX2_clearCounts_5 rfl ?_
  refine x_iconst hx hb dX2_clearCounts_6 ?_
  refine x_put (j := 10) hx hb hown hT hE hW cls_X2 (by omega) (fun σ => so_day0 h0 g hd σ) (by decide) (st_X2_10 h0 s1 d 0) (ln_X2_10 h0 _ _) wq409 rfl rfl rfl (by decide) dX2_clearCounts_7 (fun H locs s6 es6 hW => ?_)
  have q7 : IC s6 := by rw [es6]; exact IC_d hd q2 (by omega)
  have q8 : s6 1 1 = s0 1 1 := (show s6 1 1 = s1 1 1 from by rw [es6, xU_k _ _ _ (by first | decide | omega)]).trans q3
  have q9 : s6 d 7 = s0 d 7 := (show s6 d 7 = s1 d 7 from by rw [es6, xU_j _ _ (by decide)]).trans q4
  have hF10 := hF5.put es6 (by omega)
  have E7 := es6
  refine x_aload_n hx hb hl 0 rfl dX2_clearCounts_10 rfl ?_
  refine x_iconst hx hb dX2_clearCounts_11 ?_
  refine x_put (j := 11) hx hb hown hT hE hW cls_X2 (by omega) (fun σ => so_day0 h0 g hd σ) (by decide) (st_X2_11 h0 s6 d 0) (ln_X2_11 h0 _ _) wq412 rfl rfl rfl (by decide) dX2_clearCounts_12 (fun H locs s11 es11 hW => ?_)
  have q12 : IC s11 := by rw [es11]; exact IC_d hd q7 (by omega)
  have q13 : s11 1 1 = s0 1 1 := (show s11 1 1 = s6 1 1 from by rw [es11, xU_k _ _ _ (by first | decide | omega)]).trans q8
  have q14 : s11 d 7 = s0 d 7 := (show s11 d 7 = s6 d 7 from by rw [es11, xU_j _ _ (by decide)]).trans q9
  have hF15 := hF10.put es11 (by omega)
  have E12 := es11
  rw [eQ]
  exact x_vret hx hb hr hlk hW ⟨hF15, ⟨q12, q14, trivial⟩, by rw [E12, zYc_u48, E7, zYc_u47, E2, zYc_u46]⟩ dX2_clearCounts_15
set_option maxHeartbeats 4000000 in
set_option maxRecDepth 100000 in
theorem c_X3_copyOfNowF (l : Launch) (D : va_G) (g : xG) (T : Nat × Nat × Nat) (h0 : Nat) (s0 : xS) (hσ : xRR s0) (p0 : IC s0) : Met l yX3_copyOfNow (xws yX3_copyOfNow cX3_copyOfNow 2 (some (.object "ShadowCourt$Day"))) { frames := 1, cells := 0, slots := 0, locals := 22 } (xP [.ref (h0 + 156)] D g T h0 s0) (xQr D g h0 (fun r τ => 158 = r ∧ xFr (fun k => k = 158 ∨ k = 159 ∨ k = 160 ∨ k = 163 ∨ k = 164 ∨ k = 165 ∨ k = 166 ∨ k = 167) s0 τ ∧ (((IC τ) ∧ True) ∧ (zYc τ 158 = zY0 (zYc s0 136) ∧ ∀ q : Int, 0 ≤ q → q < 2 → τ 160 q = s0 138 q)))) 0 0 (xA h0) := by
  refine x_met hσ (by decide) (Nat.le_of_ble_eq_true rfl) ?_
  intro p e s m args below meth c hx hb hr hml hown hT hlk hnm hE hW ls hl
  have hl : lv_has ls 2 [(0, .ref (h0 + 156))] := hl
  obtain ⟨Q, eQ⟩ : ∃ Q, Q = MQ below (xQr D g h0 (fun r τ => 158 = r ∧ xFr (fun k => k = 158 ∨ k = 159 ∨ k = 160 ∨ k = 163 ∨ k = 164 ∨ k = 165 ∨ k = 166 ∨ k = 167) s0 τ ∧ (((IC τ) ∧ True) ∧ (zYc τ 158 = zY0 (zYc s0 136) ∧ ∀ q : Int, 0 ≤ q → q < 2 → τ 160 q = s0 138 q)))) args s 0 0 (xA h0) := ⟨_, rfl⟩
  rw [← eQ]
  generalize hHe : ([] : List Loc) = locs at hW ⊢
  obtain ⟨H, eH⟩ : ∃ H, H = s.heap := ⟨_, rfl⟩
  rw [← eH] at hW ⊢
  have hF : xFr (fun k => k = 158 ∨ k = 159 ∨ k = 160 ∨ k = 163 ∨ k = 164 ∨ k = 165 ∨ k = 166 ∨ k = 167) s0 s0 := xFr.rf
  have k1_1 : s0 1 1 = s0 1 1 := rfl
  refine x_aload_n hx hb hl 0 rfl dX3_copyOfNow_0 rfl ?_
  refine x_get (j := 2) (v := .ref (h0 + 157)) hx hb hown hT hE hW cls_X3 (Or.inl (by decide)) (so_156 h0 g _) (by decide) rfl wq452 dX3_copyOfNow_1 ?_
  refine x_iconst hx hb dX3_copyOfNow_4 ?_
  refine x_aaldR (t0 := 4) (n := 6) (r := 158) hx hb hE hW (by decide) rfl rfl (sg_157 h0 g _) ⟨by decide, by decide⟩ (by decide) rfl dX3_copyOfNow_5 ?_
  refine lv_astore_n (lv' := [(1, .ref (h0 + 158)), (0, .ref (h0 + 156))]) hx hb dX3_copyOfNow_6 rfl hl (by decide) rfl (fun ls hl => ?_)
  refine x_aload_n hx hb hl 0 rfl dX3_copyOfNow_7 rfl ?_
  refine x_aload_n hx hb hl 1 rfl dX3_copyOfNow_8 rfl ?_
  refine x_get (j := 1) (v := .ref (h0 + 136)) hx hb hown hT hE hW cls_X3 (Or.inl (by decide)) (so_156 h0 g _) (by decide) rfl wq451 dX3_copyOfNow_9 ?_
  refine x_gov (x_runVN (As := [.ref (h0 + 136)]) hx hb hml hown hT hE hW hl.1 (Or.inl (by decide)) (so_158 h0 g _) rfl cf_X2_copyFrom wq918 wq64 wn916 (c_X2_copyFromF l D g T h0 s0 hW.2.1 158 xd_158 136 xd_136 (by omega) p0) ⟨rfl, rfl, ⟨by decide, by decide⟩, ⟨by decide, by decide⟩⟩ rfl rfl (Nat.le_of_ble_eq_true rfl) dX3_copyOfNow_12) hW (fun s2 H locs hp3 hW => ?_)
  obtain ⟨fs2, hp3⟩ := hp3
  have hF4 := hF.call fs2 (fun k h => by omega)
  have q5 : s2 1 1 = s0 1 1 := (congrFun (fs2 _ (by omega)) _).trans k1_1
  have ghp3 := hp3.2
  have H12 := ghp3
  refine x_aload_n hx hb hl 0 rfl dX3_copyOfNow_15 rfl ?_
  refine x_gov (x_runVN (As := []) hx hb hml hown hT hE hW hl.1 (Or.inl (by decide)) (so_158 h0 g _) rfl cf_X2_clearCounts wq922 wq65 wn920 (c_X2_clearCountsF l D g T h0 s2 hW.2.1 158 xd_158 hp3.1.1) ⟨rfl, rfl, ⟨by decide, by decide⟩, ⟨by decide, by decide⟩⟩ rfl rfl (Nat.le_of_ble_eq_true rfl) dX3_copyOfNow_16) hW (fun s7 H locs hp8 hW => ?_)
  obtain ⟨fs7, hp8⟩ := hp8
  have hF9 := hF4.call fs7 (fun k h => by omega)
  have q10 : s7 1 1 = s0 1 1 := (congrFun (fs7 _ (by omega)) _).trans q5
  have ghp8 := hp8.2
  have H16 := ghp8
  have W16 : s7 160 = s2 160 := fs7 160 (by first | decide | omega)
  refine x_aload_n hx hb hl 0 rfl dX3_copyOfNow_19 rfl ?_
  rw [eQ]
  exact x_aret hx hb hr (Or.inl ⟨_, rfl⟩) hlk hW ⟨rfl, ⟨hF9, ⟨hp8.1.1, trivial⟩, ⟨by rw [H16, H12.1]; rfl, fun q q1 q2 => by rw [W16]; exact H12.2 q q1 q2⟩⟩⟩ dX3_copyOfNow_20
set_option maxHeartbeats 4000000 in
set_option maxRecDepth 100000 in
theorem c_X2_setFelonF (l : Launch) (D : va_G) (g : xG) (T : Nat × Nat × Nat) (h0 : Nat) (s0 : xS) (hσ : xRR s0) (d : Nat) (hd : xDay d) (f : Int) (rf : xR f) (x : Int) (rx : xR x) (w : Int) (rw : xR w) (hf : 0 ≤ f ∧ f < 10) (p0 : IC s0) : Met l yX2_setFelon (xws yX2_setFelon cX2_setFelon 4 none) { frames := 0, cells := 0, slots := 0, locals := 0 } (xP [.ref (h0 + d), .int (xJ f), .int (xJ x), .int (xJ w)] D g T h0 s0) (xQv D g h0 (fun τ => xFr (fun k => k = d + 6 ∨ k = d + 7 ∨ k = d + 8 ∨ k = d + 9) s0 τ ∧ (((IC τ) ∧ True) ∧ (zYc τ d = xud (xud (xud (xud (zYc s0 d) (4 + f) x) (14 + f) w) (24 + f) 0) (34 + f) 0)))) 0 0 (xA h0) := by
  refine x_met hσ (by decide) (Nat.le_of_ble_eq_true rfl) ?_
  intro p e s m args below meth c hx hb hr hml hown hT hlk hnm hE hW ls hl
  have hl : lv_has ls 4 [(0, .ref (h0 + d)), (1, .int (xJ f)), (2, .int (xJ x)), (3, .int (xJ w))] := hl
  obtain ⟨Q, eQ⟩ : ∃ Q, Q = MQ below (xQv D g h0 (fun τ => xFr (fun k => k = d + 6 ∨ k = d + 7 ∨ k = d + 8 ∨ k = d + 9) s0 τ ∧ (((IC τ) ∧ True) ∧ (zYc τ d = xud (xud (xud (xud (zYc s0 d) (4 + f) x) (14 + f) w) (24 + f) 0) (34 + f) 0)))) args s 0 0 (xA h0) := ⟨_, rfl⟩
  rw [← eQ]
  generalize hHe : ([] : List Loc) = locs at hW ⊢
  obtain ⟨H, eH⟩ : ∃ H, H = s.heap := ⟨_, rfl⟩
  rw [← eH] at hW ⊢
  have hF : xFr (fun k => k = d + 6 ∨ k = d + 7 ∨ k = d + 8 ∨ k = d + 9) s0 s0 := xFr.rf
  have hbd : (136 ≤ d ∧ d < 209) ∧ (d ≤ 146 ∨ 158 ≤ d) := by unfold xDay at hd; omega
  have k1_1 : s0 1 1 = s0 1 1 := rfl
  have kd_7 : s0 d 7 = s0 d 7 := rfl
  have kd_7 : s0 d 7 = s0 d 7 := rfl
  refine x_iload_n hx hb hl 1 rfl dX2_setFelon_0 rfl ?_
  refine x_if_lt (tgt := 38) hx hb rf dX2_setFelon_1 (by decide) (fun c1 => ?_) (fun c1 => ?_)
  · skip
    rw [eQ]
    exact x_vret hx hb hr hlk hW ⟨hF, ⟨p0, trivial⟩, by
        first
          | (rw [E37, zYc_uD hf, E30, zYc_uA hf, E23, zYc_uO hf, E16, zYc_uF hf])
          | (exfalso; omega)⟩ dX2_setFelon_38
  refine x_iload_n hx hb hl 1 rfl dX2_setFelon_4 rfl ?_
  refine x_bipush hx hb dX2_setFelon_5 (by decide) ?_
  refine x_icmp_ge (tgt := 38) hx hb rf (by decide) dX2_setFelon_7 (by decide) (fun c2 => ?_) (fun c2 => ?_)
  · skip
    rw [eQ]
    exact x_vret hx hb hr hlk hW ⟨hF, ⟨p0, trivial⟩, by
        first
          | (rw [E37, zYc_uD hf, E30, zYc_uA hf, E23, zYc_uO hf, E16, zYc_uF hf])
          | (exfalso; omega)⟩ dX2_setFelon_38
  refine x_aload_n hx hb hl 0 rfl dX2_setFelon_10 rfl ?_
  refine x_get (j := 3) (v := .ref (h0 + (d + 6))) hx hb hown hT hE hW cls_X2 (Or.inl (by omega)) (so_day0 h0 g hd _) (by decide) rfl wq388 dX2_setFelon_11 ?_
  refine x_iload_n hx hb hl 1 rfl dX2_setFelon_14 rfl ?_
  refine x_iload_n hx hb hl 2 rfl dX2_setFelon_15 rfl ?_
  refine x_iast hx hb hE hW (by omega) (fun σ => sa_day6 h0 g hd σ) (by omega) (by decide) rx dX2_setFelon_16 (fun H locs s3 es3 hW => ?_)
  have q4 : IC s3 := by rw [es3]; exact IC_o (nsC_d hd (by decide)) p0
  have q5 : s3 1 1 = s0 1 1 := (show s3 1 1 = s0 1 1 from by rw [es3, xU_k _ _ _ (by first | decide | omega)]).trans k1_1
  have q6 : s3 d 7 = s0 d 7 := (show s3 d 7 = s0 d 7 from by rw [es3, xU_k _ _ _ (by first | decide | omega)]).trans kd_7
  have hF7 := hF.put es3 (by omega)
  have E16 := es3
  refine x_aload_n hx hb hl 0 rfl dX2_setFelon_17 rfl ?_
  refine x_get (j := 4) (v := .ref (h0 + (d + 7))) hx hb hown hT hE hW cls_X2 (Or.inl (by omega)) (so_day0 h0 g hd _) (by decide) rfl wq392 dX2_setFelon_18 ?_
  refine x_iload_n hx hb hl 1 rfl dX2_setFelon_21 rfl ?_
  refine x_iload_n hx hb hl 3 rfl dX2_setFelon_22 rfl ?_
  refine x_iast hx hb hE hW (by omega) (fun σ => sa_day7 h0 g hd σ) (by omega) (by decide) rw dX2_setFelon_23 (fun H locs s8 es8 hW => ?_)
  have q9 : IC s8 := by rw [es8]; exact IC_o (nsC_d hd (by decide)) q4
  have q10 : s8 1 1 = s0 1 1 := (show s8 1 1 = s3 1 1 from by rw [es8, xU_k _ _ _ (by first | decide | omega)]).trans q5
  have q11 : s8 d 7 = s0 d 7 := (show s8 d 7 = s3 d 7 from by rw [es8, xU_k _ _ _ (by first | decide | omega)]).trans q6
  have hF12 := hF7.put es8 (by omega)
  have E23 := es8
  refine x_aload_n hx hb hl 0 rfl dX2_setFelon_24 rfl ?_
  refine x_get (j := 5) (v := .ref (h0 + (d + 8))) hx hb hown hT hE hW cls_X2 (Or.inl (by omega)) (so_day0 h0 g hd _) (by decide) rfl wq395 dX2_setFelon_25 ?_
  refine x_iload_n hx hb hl 1 rfl dX2_setFelon_28 rfl ?_
  refine x_iconst hx hb dX2_setFelon_29 ?_
  refine x_iast hx hb hE hW (by omega) (fun σ => sa_day8 h0 g hd σ) (by omega) (by decide) (by decide) dX2_setFelon_30 (fun H locs s13 es13 hW => ?_)
  have q14 : IC s13 := by rw [es13]; exact IC_o (nsC_d hd (by decide)) q9
  have q15 : s13 1 1 = s0 1 1 := (show s13 1 1 = s8 1 1 from by rw [es13, xU_k _ _ _ (by first | decide | omega)]).trans q10
  have q16 : s13 d 7 = s0 d 7 := (show s13 d 7 = s8 d 7 from by rw [es13, xU_k _ _ _ (by first | decide | omega)]).trans q11
  have hF17 := hF12.put es13 (by omega)
  have E30 := es13
  refine x_aload_n hx hb hl 0 rfl dX2_setFelon_31 rfl ?_
  refine x_get (j := 6) (v := .ref (h0 + (d + 9))) hx hb hown hT hE hW cls_X2 (Or.inl (by omega)) (so_day0 h0 g hd _) (by decide) rfl wq398 dX2_setFelon_32 ?_
  refine x_iload_n hx hb hl 1 rfl dX2_setFelon_35 rfl ?_
  refine x_iconst hx hb dX2_setFelon_36 ?_
  refine x_zast hx hb hE hW (by omega) (fun σ => sa_day9 h0 g hd σ) (by omega) (by decide) (by omega) dX2_setFelon_37 (fun H locs s18 es18 hW => ?_)
  have q19 : IC s18 := by rw [es18]; exact IC_z hd q14 (by omega)
  have q20 : s18 1 1 = s0 1 1 := (show s18 1 1 = s13 1 1 from by rw [es18, xU_k _ _ _ (by first | decide | omega)]).trans q15
  have q21 : s18 d 7 = s0 d 7 := (show s18 d 7 = s13 d 7 from by rw [es18, xU_k _ _ _ (by first | decide | omega)]).trans q16
  have hF22 := hF17.put es18 (by omega)
  have E37 := es18
  rw [eQ]
  exact x_vret hx hb hr hlk hW ⟨hF22, ⟨q19, trivial⟩, by
    first
      | (rw [E37, zYc_uD hf, E30, zYc_uA hf, E23, zYc_uO hf, E16, zYc_uF hf])
      | (exfalso; omega)⟩ dX2_setFelon_38
set_option maxHeartbeats 4000000 in
set_option maxRecDepth 100000 in
theorem c_X2_setWalkF (l : Launch) (D : va_G) (g : xG) (T : Nat × Nat × Nat) (h0 : Nat) (s0 : xS) (hσ : xRR s0) (d : Nat) (hd : xDay d) (j : Int) (rj : xR j) (v : Int) (rv : xR v) (hv : xAr s0 v.toNat) (hj : 0 ≤ j ∧ j < 2) (p0 : IC s0) : Met l yX2_setWalk (xws yX2_setWalk cX2_setWalk 3 none) { frames := 0, cells := 0, slots := 0, locals := 0 } (xP [.ref (h0 + d), .int (xJ j), .ref (h0 + v.toNat)] D g T h0 s0) (xQv D g h0 (fun τ => xFr (fun k => k = d + 2 ∨ k = d + 5) s0 τ ∧ (((IC τ) ∧ True) ∧ (τ (d + 2) = xud (s0 (d + 2)) j v ∧ zYc τ d = xud (zYc s0 d) (2 + j) 0)))) 0 0 (xA h0) := by
  refine x_met hσ (by decide) (Nat.le_of_ble_eq_true rfl) ?_
  intro p e s m args below meth c hx hb hr hml hown hT hlk hnm hE hW ls hl
  have hl : lv_has ls 3 [(0, .ref (h0 + d)), (1, .int (xJ j)), (2, .ref (h0 + v.toNat))] := hl
  obtain ⟨Q, eQ⟩ : ∃ Q, Q = MQ below (xQv D g h0 (fun τ => xFr (fun k => k = d + 2 ∨ k = d + 5) s0 τ ∧ (((IC τ) ∧ True) ∧ (τ (d + 2) = xud (s0 (d + 2)) j v ∧ zYc τ d = xud (zYc s0 d) (2 + j) 0)))) args s 0 0 (xA h0) := ⟨_, rfl⟩
  rw [← eQ]
  generalize hHe : ([] : List Loc) = locs at hW ⊢
  obtain ⟨H, eH⟩ : ∃ H, H = s.heap := ⟨_, rfl⟩
  rw [← eH] at hW ⊢
  have hF : xFr (fun k => k = d + 2 ∨ k = d + 5) s0 s0 := xFr.rf
  have hbd : (136 ≤ d ∧ d < 209) ∧ (d ≤ 146 ∨ 158 ≤ d) := by unfold xDay at hd; omega
  have k1_1 : s0 1 1 = s0 1 1 := rfl
  have kd_7 : s0 d 7 = s0 d 7 := rfl
  have kd_7 : s0 d 7 = s0 d 7 := rfl
  refine x_iload_n hx hb hl 1 rfl dX2_setWalk_0 rfl ?_
  refine x_if_lt (tgt := 27) hx hb rj dX2_setWalk_1 (by decide) (fun c1 => ?_) (fun c1 => ?_)
  · skip
    rw [eQ]
    exact x_vret hx hb hr hlk hW ⟨hF, ⟨p0, trivial⟩, by first | exact ⟨by rw [E26, xU_k _ _ _ (by first | decide | omega), E19, xU_xud], by rw [E26, zYc_uS hj, E19, zYc_o (by omega)]⟩ | (exfalso; omega)⟩ dX2_setWalk_27
  refine x_iload_n hx hb hl 1 rfl dX2_setWalk_4 rfl ?_
  refine x_iconst hx hb dX2_setWalk_5 ?_
  refine x_icmp_ge (tgt := 27) hx hb rj (by decide) dX2_setWalk_6 (by decide) (fun c2 => ?_) (fun c2 => ?_)
  · skip
    rw [eQ]
    exact x_vret hx hb hr hlk hW ⟨hF, ⟨p0, trivial⟩, by first | exact ⟨by rw [E26, xU_k _ _ _ (by first | decide | omega), E19, xU_xud], by rw [E26, zYc_uS hj, E19, zYc_o (by omega)]⟩ | (exfalso; omega)⟩ dX2_setWalk_27
  refine x_aload_n hx hb hl 2 rfl dX2_setWalk_9 rfl ?_
  refine lv_ifnull hx hb dX2_setWalk_10 ?_
  refine x_aload_n hx hb hl 0 rfl dX2_setWalk_13 rfl ?_
  refine x_get (j := 1) (v := .ref (h0 + (d + 2))) hx hb hown hT hE hW cls_X2 (Or.inl (by omega)) (so_day0 h0 g hd _) (by decide) rfl wq386 dX2_setWalk_14 ?_
  refine x_iload_n hx hb hl 1 rfl dX2_setWalk_17 rfl ?_
  refine x_aload_n hx hb hl 2 rfl dX2_setWalk_18 rfl ?_
  refine x_aastR (v := v) hx hb hE hW (by omega) (fun σ => sg_day2 h0 g hd σ) (xrow_day hd) (by omega) (by decide) (hv) rv dX2_setWalk_19 (fun H locs s3 es3 hW => ?_)
  have q4 : IC s3 := by rw [es3]; exact IC_w hd p0 (hv)
  have q5 : s3 1 1 = s0 1 1 := (show s3 1 1 = s0 1 1 from by rw [es3, xU_k _ _ _ (by first | decide | omega)]).trans k1_1
  have q6 : s3 d 7 = s0 d 7 := (show s3 d 7 = s0 d 7 from by rw [es3, xU_k _ _ _ (by first | decide | omega)]).trans kd_7
  have hF7 := hF.put es3 (by omega)
  have E19 := es3
  refine x_aload_n hx hb hl 0 rfl dX2_setWalk_20 rfl ?_
  refine x_get (j := 2) (v := .ref (h0 + (d + 5))) hx hb hown hT hE hW cls_X2 (Or.inl (by omega)) (so_day0 h0 g hd _) (by decide) rfl wq387 dX2_setWalk_21 ?_
  refine x_iload_n hx hb hl 1 rfl dX2_setWalk_24 rfl ?_
  refine x_iconst hx hb dX2_setWalk_25 ?_
  refine x_iast hx hb hE hW (by omega) (fun σ => sa_day5 h0 g hd σ) (by omega) (by decide) (by decide) dX2_setWalk_26 (fun H locs s8 es8 hW => ?_)
  have q9 : IC s8 := by rw [es8]; exact IC_p hd q4 (by omega)
  have q10 : s8 1 1 = s0 1 1 := (show s8 1 1 = s3 1 1 from by rw [es8, xU_k _ _ _ (by first | decide | omega)]).trans q5
  have q11 : s8 d 7 = s0 d 7 := (show s8 d 7 = s3 d 7 from by rw [es8, xU_k _ _ _ (by first | decide | omega)]).trans q6
  have hF12 := hF7.put es8 (by omega)
  have E26 := es8
  rw [eQ]
  exact x_vret hx hb hr hlk hW ⟨hF12, ⟨q9, trivial⟩, by first | exact ⟨by rw [E26, xU_k _ _ _ (by first | decide | omega), E19, xU_xud], by rw [E26, zYc_uS hj, E19, zYc_o (by omega)]⟩ | (exfalso; omega)⟩ dX2_setWalk_27
set_option maxHeartbeats 4000000 in
set_option maxRecDepth 100000 in
theorem c_X2_howManyDrownedF (l : Launch) (D : va_G) (g : xG) (T : Nat × Nat × Nat) (h0 : Nat) (s0 : xS) (hσ : xRR s0) (d : Nat) (hd : xDay d) (p0 : IC s0) : Met l yX2_howManyDrowned (xws yX2_howManyDrowned cX2_howManyDrowned 3 (some .int)) { frames := 1, cells := 0, slots := 0, locals := 21 } (xP [.ref (h0 + d)] D g T h0 s0) (xQi D g h0 (fun r τ => s0 = τ ∧ (r = zsu (fun f => if zYc s0 d (4 + f) ≠ -1 ∧ zYc s0 d (34 + f) ≠ 0 then 1 else 0) 10))) 0 0 (xA h0) := by
  refine x_met hσ (by decide) (Nat.le_of_ble_eq_true rfl) ?_
  intro p e s m args below meth c hx hb hr hml hown hT hlk hnm hE hW ls hl
  have hl : lv_has ls 3 [(0, .ref (h0 + d))] := hl
  obtain ⟨Q, eQ⟩ : ∃ Q, Q = MQ below (xQi D g h0 (fun r τ => s0 = τ ∧ (r = zsu (fun f => if zYc s0 d (4 + f) ≠ -1 ∧ zYc s0 d (34 + f) ≠ 0 then 1 else 0) 10))) args s 0 0 (xA h0) := ⟨_, rfl⟩
  rw [← eQ]
  generalize hHe : ([] : List Loc) = locs at hW ⊢
  obtain ⟨H, eH⟩ : ∃ H, H = s.heap := ⟨_, rfl⟩
  rw [← eH] at hW ⊢
  have hbd : (136 ≤ d ∧ d < 209) ∧ (d ≤ 146 ∨ 158 ≤ d) := by unfold xDay at hd; omega
  have k1_1 : s0 1 1 = s0 1 1 := rfl
  refine x_iconst hx hb dX2_howManyDrowned_0 ?_
  refine lv_istore_n (lv' := [(1, .int (xJ 0)), (0, .ref (h0 + d))]) hx hb dX2_howManyDrowned_1 rfl hl (by decide) rfl (fun ls hl => ?_)
  refine x_iconst hx hb dX2_howManyDrowned_2 ?_
  refine lv_istore_n (lv' := [(2, .int (xJ 0)), (1, .int (xJ 0)), (0, .ref (h0 + d))]) hx hb dX2_howManyDrowned_3 rfl hl (by decide) rfl (fun ls hl => ?_)
  have L4 : ∀ (fu : Nat) (i1_4 : Int) (i2_4 : Int) (H : Heap) (locs : List Loc) (ls : Array Slot), (xR i1_4) → (xR i2_4) → (0 ≤ i2_4) → (i2_4 ≤ 10) → (i1_4 = zsu (fun f => if zYc s0 d (4 + f) ≠ -1 ∧ zYc s0 d (34 + f) ≠ 0 then 1 else 0) (i2_4).toNat) → (0 ≤ i1_4 ∧ i1_4 ≤ i2_4) → (10 + 1 - i2_4).toNat < fu → xW D g h0 s H locs s0 → lv_has ls 3 [(0, .ref (h0 + d)), (1, .int (xJ i1_4)), (2, .int (xJ i2_4))] → W p l e { frames := 1, cells := 0, slots := 0, locals := 21 } s m args below meth c H locs 0 0 Q (F0 m 4 ls []) := by
    intro fu
    induction fu with
    | zero => intro i1_4 i2_4 H locs ls ri1_4 ri2_4 v4_0 v4_1 v4_2 v4_3 hm; exact absurd hm (Nat.not_lt_zero _)
    | succ fu ih4 =>
      intro i1_4 i2_4 H locs ls ri1_4 ri2_4 v4_0 v4_1 v4_2 v4_3 hm hW hl
      have hm_4 := fun (_ : Unit) => hm
      clear hm
      refine x_iload_n hx hb hl 2 rfl dX2_howManyDrowned_4 rfl ?_
      refine x_bipush hx hb dX2_howManyDrowned_5 (by decide) ?_
      refine x_icmp_ge (tgt := 41) hx hb ri2_4 (by decide) dX2_howManyDrowned_7 (by decide) (fun c1 => ?_) (fun c1 => ?_)
      · skip
        refine x_iload_n hx hb hl 1 rfl dX2_howManyDrowned_41 rfl ?_
        rw [eQ]
        exact x_iret hx hb hr hlk hW ri1_4 ⟨rfl, by
            have e : i2_4 = 10 := by omega
            rw [e] at v4_2
            exact v4_2⟩ dX2_howManyDrowned_42
      refine x_iload_n hx hb hl 1 rfl dX2_howManyDrowned_10 rfl ?_
      refine x_aload_n hx hb hl 0 rfl dX2_howManyDrowned_11 rfl ?_
      refine x_iload_n hx hb hl 2 rfl dX2_howManyDrowned_12 rfl ?_
      refine x_goi (x_runV (As := [.int (xJ i2_4)]) hx hb hml hown hT hE hW hl.1 (Or.inl (by omega)) (so_day0 h0 g hd _) rfl cf_X2_hasFelon wq862 wq53 wq860 (c_X2_hasFelonF l D g T h0 s0 hW.2.1 d hd i2_4 ri2_4 p0) ⟨rfl, rfl, ⟨by decide, by decide⟩, ⟨by decide, by decide⟩⟩ rfl rfl (Nat.le_of_ble_eq_true rfl) dX2_howManyDrowned_13) hW (fun x2 s3 H locs rx2 hp4 hW => ?_)
      obtain ⟨es3, hp4⟩ := hp4
      subst es3
      have ghp4 := hp4
      have H13 := ghp4
      refine x_if_eq (tgt := 32) hx hb rx2 dX2_howManyDrowned_16 (by decide) (fun c5 => ?_) (fun c5 => ?_)
      · skip
        refine x_iconst hx hb dX2_howManyDrowned_32 ?_
        refine x_iadd hx hb dX2_howManyDrowned_33 ?_
        refine x_nm (fun x6 ex6 => ?_)
        refine lv_istore_n (lv' := [(1, .int (xJ x6)), (0, .ref (h0 + d)), (2, .int (xJ i2_4))]) hx hb dX2_howManyDrowned_34 rfl hl (by decide) rfl (fun ls hl => ?_)
        refine x_iinc (lv' := [(2, .int (xJ (i2_4 + 1))), (1, .int (xJ x6)), (0, .ref (h0 + d))]) hx hb hl 2 rfl dX2_howManyDrowned_35 (by decide) rfl (fun ls hl => ?_)
        refine lv_goto (tgt := 4) hx hb dX2_howManyDrowned_38 (by decide) ?_
        exact ih4 x6 (i2_4 + 1) H locs ls (by omega) (by omega) (by omega) (by omega) (by
            rw [show (i2_4 + 1).toNat = i2_4.toNat + 1 from by omega]
            show _ = zsu (fun f => if zYc s0 d (4 + f) ≠ -1 ∧ zYc s0 d (34 + f) ≠ 0 then 1 else 0) i2_4.toNat + (if zYc s0 d (4 + ((i2_4.toNat : Nat) : Int)) ≠ -1 ∧ zYc s0 d (34 + ((i2_4.toNat : Nat) : Int)) ≠ 0 then 1 else 0)
            rw [show ((i2_4.toNat : Nat) : Int) = i2_4 from by omega, zYc_F (by omega), zYc_D (by omega)]
            first
              | (rw [if_pos (by omega)]; omega)
              | (rw [if_neg (by omega)]; omega)) (by omega) (by have hm := hm_4 (); omega) hW (lv_sub hl [2, 1, 0] rfl)
      refine x_aload_n hx hb hl 0 rfl dX2_howManyDrowned_19 rfl ?_
      refine x_get (j := 6) (v := .ref (h0 + (d + 9))) hx hb hown hT hE hW cls_X2 (Or.inl (by omega)) (so_day0 h0 g hd _) (by decide) rfl wq398 dX2_howManyDrowned_20 ?_
      refine x_iload_n hx hb hl 2 rfl dX2_howManyDrowned_23 rfl ?_
      refine x_zald hx hb hE hW (Or.inl (by omega)) (sa_day9 h0 g hd _) (by omega) (by decide) dX2_howManyDrowned_24 ?_
      refine x_rd hW (fun x7 ex7 rx7 => ?_)
      have bx7 : x7 = 0 ∨ x7 = 1 := by rw [ex7]; exact IC.b p0 hd _ (by omega) (by omega)
      have V24 : x7 = s0 (d + 9) i2_4 := ex7
      refine x_if_eq (tgt := 32) hx hb rx7 dX2_howManyDrowned_25 (by decide) (fun c8 => ?_) (fun c8 => ?_)
      · skip
        refine x_iconst hx hb dX2_howManyDrowned_32 ?_
        refine x_iadd hx hb dX2_howManyDrowned_33 ?_
        refine x_nm (fun x9 ex9 => ?_)
        refine lv_istore_n (lv' := [(1, .int (xJ x9)), (0, .ref (h0 + d)), (2, .int (xJ i2_4))]) hx hb dX2_howManyDrowned_34 rfl hl (by decide) rfl (fun ls hl => ?_)
        refine x_iinc (lv' := [(2, .int (xJ (i2_4 + 1))), (1, .int (xJ x9)), (0, .ref (h0 + d))]) hx hb hl 2 rfl dX2_howManyDrowned_35 (by decide) rfl (fun ls hl => ?_)
        refine lv_goto (tgt := 4) hx hb dX2_howManyDrowned_38 (by decide) ?_
        exact ih4 x9 (i2_4 + 1) H locs ls (by omega) (by omega) (by omega) (by omega) (by
            rw [show (i2_4 + 1).toNat = i2_4.toNat + 1 from by omega]
            show _ = zsu (fun f => if zYc s0 d (4 + f) ≠ -1 ∧ zYc s0 d (34 + f) ≠ 0 then 1 else 0) i2_4.toNat + (if zYc s0 d (4 + ((i2_4.toNat : Nat) : Int)) ≠ -1 ∧ zYc s0 d (34 + ((i2_4.toNat : Nat) : Int)) ≠ 0 then 1 else 0)
            rw [show ((i2_4.toNat : Nat) : Int) = i2_4 from by omega, zYc_F (by omega), zYc_D (by omega)]
            first
              | (rw [if_pos (by omega)]; omega)
              | (rw [if_neg (by omega)]; omega)) (by omega) (by have hm := hm_4 (); omega) hW (lv_sub hl [2, 1, 0] rfl)
      refine x_iconst hx hb dX2_howManyDrowned_28 ?_
      refine lv_goto (tgt := 33) hx hb dX2_howManyDrowned_29 (by decide) ?_
      refine x_iadd hx hb dX2_howManyDrowned_33 ?_
      refine x_nm (fun x10 ex10 => ?_)
      refine lv_istore_n (lv' := [(1, .int (xJ x10)), (0, .ref (h0 + d)), (2, .int (xJ i2_4))]) hx hb dX2_howManyDrowned_34 rfl hl (by decide) rfl (fun ls hl => ?_)
      refine x_iinc (lv' := [(2, .int (xJ (i2_4 + 1))), (1, .int (xJ x10)), (0, .ref (h0 + d))]) hx hb hl 2 rfl dX2_howManyDrowned_35 (by decide) rfl (fun ls hl => ?_)
      refine lv_goto (tgt := 4) hx hb dX2_howManyDrowned_38 (by decide) ?_
      exact ih4 x10 (i2_4 + 1) H locs ls (by omega) (by omega) (by omega) (by omega) (by
            rw [show (i2_4 + 1).toNat = i2_4.toNat + 1 from by omega]
            show _ = zsu (fun f => if zYc s0 d (4 + f) ≠ -1 ∧ zYc s0 d (34 + f) ≠ 0 then 1 else 0) i2_4.toNat + (if zYc s0 d (4 + ((i2_4.toNat : Nat) : Int)) ≠ -1 ∧ zYc s0 d (34 + ((i2_4.toNat : Nat) : Int)) ≠ 0 then 1 else 0)
            rw [show ((i2_4.toNat : Nat) : Int) = i2_4 from by omega, zYc_F (by omega), zYc_D (by omega)]
            first
              | (rw [if_pos (by omega)]; omega)
              | (rw [if_neg (by omega)]; omega)) (by omega) (by have hm := hm_4 (); omega) hW (lv_sub hl [2, 1, 0] rfl)
  exact L4 ((10 + 1 - 0 : Int).toNat + 1) 0 0 H locs ls (by decide) (by decide) (by omega) (by omega) (rfl) (by omega) (Nat.lt_succ_self _) hW (lv_sub hl [2, 1, 0] rfl)
set_option maxHeartbeats 4000000 in
set_option maxRecDepth 100000 in
theorem c_X2_howManyOweNothingF (l : Launch) (D : va_G) (g : xG) (T : Nat × Nat × Nat) (h0 : Nat) (s0 : xS) (hσ : xRR s0) (d : Nat) (hd : xDay d) (p0 : IC s0) : Met l yX2_howManyOweNothing (xws yX2_howManyOweNothing cX2_howManyOweNothing 3 (some .int)) { frames := 1, cells := 0, slots := 0, locals := 21 } (xP [.ref (h0 + d)] D g T h0 s0) (xQi D g h0 (fun r τ => s0 = τ ∧ (r = zsu (fun f => if zYc s0 d (4 + f) ≠ -1 ∧ zYc s0 d (14 + f) = 0 then 1 else 0) 10))) 0 0 (xA h0) := by
  refine x_met hσ (by decide) (Nat.le_of_ble_eq_true rfl) ?_
  intro p e s m args below meth c hx hb hr hml hown hT hlk hnm hE hW ls hl
  have hl : lv_has ls 3 [(0, .ref (h0 + d))] := hl
  obtain ⟨Q, eQ⟩ : ∃ Q, Q = MQ below (xQi D g h0 (fun r τ => s0 = τ ∧ (r = zsu (fun f => if zYc s0 d (4 + f) ≠ -1 ∧ zYc s0 d (14 + f) = 0 then 1 else 0) 10))) args s 0 0 (xA h0) := ⟨_, rfl⟩
  rw [← eQ]
  generalize hHe : ([] : List Loc) = locs at hW ⊢
  obtain ⟨H, eH⟩ : ∃ H, H = s.heap := ⟨_, rfl⟩
  rw [← eH] at hW ⊢
  have hbd : (136 ≤ d ∧ d < 209) ∧ (d ≤ 146 ∨ 158 ≤ d) := by unfold xDay at hd; omega
  have k1_1 : s0 1 1 = s0 1 1 := rfl
  refine x_iconst hx hb dX2_howManyOweNothing_0 ?_
  refine lv_istore_n (lv' := [(1, .int (xJ 0)), (0, .ref (h0 + d))]) hx hb dX2_howManyOweNothing_1 rfl hl (by decide) rfl (fun ls hl => ?_)
  refine x_iconst hx hb dX2_howManyOweNothing_2 ?_
  refine lv_istore_n (lv' := [(2, .int (xJ 0)), (1, .int (xJ 0)), (0, .ref (h0 + d))]) hx hb dX2_howManyOweNothing_3 rfl hl (by decide) rfl (fun ls hl => ?_)
  have L4 : ∀ (fu : Nat) (i1_4 : Int) (i2_4 : Int) (H : Heap) (locs : List Loc) (ls : Array Slot), (xR i1_4) → (xR i2_4) → (0 ≤ i2_4) → (i2_4 ≤ 10) → (i1_4 = zsu (fun f => if zYc s0 d (4 + f) ≠ -1 ∧ zYc s0 d (14 + f) = 0 then 1 else 0) (i2_4).toNat) → (0 ≤ i1_4 ∧ i1_4 ≤ i2_4) → (10 + 1 - i2_4).toNat < fu → xW D g h0 s H locs s0 → lv_has ls 3 [(0, .ref (h0 + d)), (1, .int (xJ i1_4)), (2, .int (xJ i2_4))] → W p l e { frames := 1, cells := 0, slots := 0, locals := 21 } s m args below meth c H locs 0 0 Q (F0 m 4 ls []) := by
    intro fu
    induction fu with
    | zero => intro i1_4 i2_4 H locs ls ri1_4 ri2_4 v4_0 v4_1 v4_2 v4_3 hm; exact absurd hm (Nat.not_lt_zero _)
    | succ fu ih4 =>
      intro i1_4 i2_4 H locs ls ri1_4 ri2_4 v4_0 v4_1 v4_2 v4_3 hm hW hl
      have hm_4 := fun (_ : Unit) => hm
      clear hm
      refine x_iload_n hx hb hl 2 rfl dX2_howManyOweNothing_4 rfl ?_
      refine x_bipush hx hb dX2_howManyOweNothing_5 (by decide) ?_
      refine x_icmp_ge (tgt := 41) hx hb ri2_4 (by decide) dX2_howManyOweNothing_7 (by decide) (fun c1 => ?_) (fun c1 => ?_)
      · skip
        refine x_iload_n hx hb hl 1 rfl dX2_howManyOweNothing_41 rfl ?_
        rw [eQ]
        exact x_iret hx hb hr hlk hW ri1_4 ⟨rfl, by
            have e : i2_4 = 10 := by omega
            rw [e] at v4_2
            exact v4_2⟩ dX2_howManyOweNothing_42
      refine x_iload_n hx hb hl 1 rfl dX2_howManyOweNothing_10 rfl ?_
      refine x_aload_n hx hb hl 0 rfl dX2_howManyOweNothing_11 rfl ?_
      refine x_iload_n hx hb hl 2 rfl dX2_howManyOweNothing_12 rfl ?_
      refine x_goi (x_runV (As := [.int (xJ i2_4)]) hx hb hml hown hT hE hW hl.1 (Or.inl (by omega)) (so_day0 h0 g hd _) rfl cf_X2_hasFelon wq862 wq53 wq860 (c_X2_hasFelonF l D g T h0 s0 hW.2.1 d hd i2_4 ri2_4 p0) ⟨rfl, rfl, ⟨by decide, by decide⟩, ⟨by decide, by decide⟩⟩ rfl rfl (Nat.le_of_ble_eq_true rfl) dX2_howManyOweNothing_13) hW (fun x2 s3 H locs rx2 hp4 hW => ?_)
      obtain ⟨es3, hp4⟩ := hp4
      subst es3
      have ghp4 := hp4
      have H13 := ghp4
      refine x_if_eq (tgt := 32) hx hb rx2 dX2_howManyOweNothing_16 (by decide) (fun c5 => ?_) (fun c5 => ?_)
      · skip
        refine x_iconst hx hb dX2_howManyOweNothing_32 ?_
        refine x_iadd hx hb dX2_howManyOweNothing_33 ?_
        refine x_nm (fun x6 ex6 => ?_)
        refine lv_istore_n (lv' := [(1, .int (xJ x6)), (0, .ref (h0 + d)), (2, .int (xJ i2_4))]) hx hb dX2_howManyOweNothing_34 rfl hl (by decide) rfl (fun ls hl => ?_)
        refine x_iinc (lv' := [(2, .int (xJ (i2_4 + 1))), (1, .int (xJ x6)), (0, .ref (h0 + d))]) hx hb hl 2 rfl dX2_howManyOweNothing_35 (by decide) rfl (fun ls hl => ?_)
        refine lv_goto (tgt := 4) hx hb dX2_howManyOweNothing_38 (by decide) ?_
        exact ih4 x6 (i2_4 + 1) H locs ls (by omega) (by omega) (by omega) (by omega) (by
            rw [show (i2_4 + 1).toNat = i2_4.toNat + 1 from by omega]
            show _ = zsu (fun f => if zYc s0 d (4 + f) ≠ -1 ∧ zYc s0 d (14 + f) = 0 then 1 else 0) i2_4.toNat + (if zYc s0 d (4 + ((i2_4.toNat : Nat) : Int)) ≠ -1 ∧ zYc s0 d (14 + ((i2_4.toNat : Nat) : Int)) = 0 then 1 else 0)
            rw [show ((i2_4.toNat : Nat) : Int) = i2_4 from by omega, zYc_F (by omega), zYc_O (by omega)]
            first
              | (rw [if_pos (by omega)]; omega)
              | (rw [if_neg (by omega)]; omega)) (by omega) (by have hm := hm_4 (); omega) hW (lv_sub hl [2, 1, 0] rfl)
      refine x_aload_n hx hb hl 0 rfl dX2_howManyOweNothing_19 rfl ?_
      refine x_get (j := 4) (v := .ref (h0 + (d + 7))) hx hb hown hT hE hW cls_X2 (Or.inl (by omega)) (so_day0 h0 g hd _) (by decide) rfl wq392 dX2_howManyOweNothing_20 ?_
      refine x_iload_n hx hb hl 2 rfl dX2_howManyOweNothing_23 rfl ?_
      refine x_iald hx hb hE hW (Or.inl (by omega)) (sa_day7 h0 g hd _) (by omega) (by decide) dX2_howManyOweNothing_24 ?_
      refine x_rd hW (fun x7 ex7 rx7 => ?_)
      have V24 : x7 = s0 (d + 7) i2_4 := ex7
      refine x_if_ne (tgt := 32) hx hb rx7 dX2_howManyOweNothing_25 (by decide) (fun c8 => ?_) (fun c8 => ?_)
      · skip
        refine x_iconst hx hb dX2_howManyOweNothing_32 ?_
        refine x_iadd hx hb dX2_howManyOweNothing_33 ?_
        refine x_nm (fun x9 ex9 => ?_)
        refine lv_istore_n (lv' := [(1, .int (xJ x9)), (0, .ref (h0 + d)), (2, .int (xJ i2_4))]) hx hb dX2_howManyOweNothing_34 rfl hl (by decide) rfl (fun ls hl => ?_)
        refine x_iinc (lv' := [(2, .int (xJ (i2_4 + 1))), (1, .int (xJ x9)), (0, .ref (h0 + d))]) hx hb hl 2 rfl dX2_howManyOweNothing_35 (by decide) rfl (fun ls hl => ?_)
        refine lv_goto (tgt := 4) hx hb dX2_howManyOweNothing_38 (by decide) ?_
        exact ih4 x9 (i2_4 + 1) H locs ls (by omega) (by omega) (by omega) (by omega) (by
            rw [show (i2_4 + 1).toNat = i2_4.toNat + 1 from by omega]
            show _ = zsu (fun f => if zYc s0 d (4 + f) ≠ -1 ∧ zYc s0 d (14 + f) = 0 then 1 else 0) i2_4.toNat + (if zYc s0 d (4 + ((i2_4.toNat : Nat) : Int)) ≠ -1 ∧ zYc s0 d (14 + ((i2_4.toNat : Nat) : Int)) = 0 then 1 else 0)
            rw [show ((i2_4.toNat : Nat) : Int) = i2_4 from by omega, zYc_F (by omega), zYc_O (by omega)]
            first
              | (rw [if_pos (by omega)]; omega)
              | (rw [if_neg (by omega)]; omega)) (by omega) (by have hm := hm_4 (); omega) hW (lv_sub hl [2, 1, 0] rfl)
      refine x_iconst hx hb dX2_howManyOweNothing_28 ?_
      refine lv_goto (tgt := 33) hx hb dX2_howManyOweNothing_29 (by decide) ?_
      refine x_iadd hx hb dX2_howManyOweNothing_33 ?_
      refine x_nm (fun x10 ex10 => ?_)
      refine lv_istore_n (lv' := [(1, .int (xJ x10)), (0, .ref (h0 + d)), (2, .int (xJ i2_4))]) hx hb dX2_howManyOweNothing_34 rfl hl (by decide) rfl (fun ls hl => ?_)
      refine x_iinc (lv' := [(2, .int (xJ (i2_4 + 1))), (1, .int (xJ x10)), (0, .ref (h0 + d))]) hx hb hl 2 rfl dX2_howManyOweNothing_35 (by decide) rfl (fun ls hl => ?_)
      refine lv_goto (tgt := 4) hx hb dX2_howManyOweNothing_38 (by decide) ?_
      exact ih4 x10 (i2_4 + 1) H locs ls (by omega) (by omega) (by omega) (by omega) (by
            rw [show (i2_4 + 1).toNat = i2_4.toNat + 1 from by omega]
            show _ = zsu (fun f => if zYc s0 d (4 + f) ≠ -1 ∧ zYc s0 d (14 + f) = 0 then 1 else 0) i2_4.toNat + (if zYc s0 d (4 + ((i2_4.toNat : Nat) : Int)) ≠ -1 ∧ zYc s0 d (14 + ((i2_4.toNat : Nat) : Int)) = 0 then 1 else 0)
            rw [show ((i2_4.toNat : Nat) : Int) = i2_4 from by omega, zYc_F (by omega), zYc_O (by omega)]
            first
              | (rw [if_pos (by omega)]; omega)
              | (rw [if_neg (by omega)]; omega)) (by omega) (by have hm := hm_4 (); omega) hW (lv_sub hl [2, 1, 0] rfl)
  exact L4 ((10 + 1 - 0 : Int).toNat + 1) 0 0 H locs ls (by decide) (by decide) (by omega) (by omega) (rfl) (by omega) (Nat.lt_succ_self _) hW (lv_sub hl [2, 1, 0] rfl)

set_option maxHeartbeats 4000000 in
set_option maxRecDepth 100000 in
theorem c_X10_minutesF (l : Launch) (D : va_G) (g : xG) (T : Nat × Nat × Nat) (h0 : Nat) (s0 : xS) (hσ : xRR s0) (n : Int) (rn : xR n) (K9 : Int → Int) (n9 : Int → Int) (w9 : Int → Int → Int) (q9 : zLaw) (l9 : Int → Int) (hok : zLok q9) (hlc : zLD s0 q9) (hK : ∀ t : Int, 0 ≤ t → t < 100 → s0 4 t = K9 t) (hlm : ∀ i : Int, 0 ≤ i → i < 4 → s0 129 i = l9 i ∧ (l9 i = -1 ∨ (0 ≤ l9 i ∧ l9 i < 100))) (hw : zWc s0 136 n9 w9) (hY : zYq (zYc s0 136)) (hok4 : zok (zY4 (zYc s0 136))) (p0 : IC s0) (p1 : IS s0) (p2 : IQ s0) : Met l yX10_minutes (xws yX10_minutes cX10_minutes 2 (some .int)) { frames := 6, cells := 0, slots := 0, locals := 155 } (xP [.ref (h0 + 0), .int (xJ n)] D g T h0 s0) (xQi D g h0 (fun r τ => xFr (fun k => (7 ≤ k ∧ k < 107) ∨ k = 107 ∨ k = 115 ∨ k = 116 ∨ k = 130 ∨ k = 131 ∨ k = 132 ∨ k = 133 ∨ k = 134 ∨ k = 135 ∨ k = 136 ∨ k = 137 ∨ k = 141 ∨ k = 142 ∨ k = 143 ∨ k = 144 ∨ k = 145) s0 τ ∧ (((IC τ) ∧ (IS τ) ∧ (IQ τ) ∧ True) ∧ ((1 ≤ n ∧ n ≤ 120 ∧ zYc τ 136 = zmn K9 q9 l9 n9 w9 (-1) n.toNat (zYc s0 136) ∧ zYq (zYc τ 136) ∧ zok (zY4 (zYc τ 136)) ∧ r = zSm (zYc s0 136) - zSm (zYc τ 136)) ∨ (¬ (1 ≤ n ∧ n ≤ 120) ∧ zYc τ 136 = (zYc s0 136) ∧ r = -1))))) 0 0 (xA h0) := by
  refine x_met hσ (by decide) (Nat.le_of_ble_eq_true rfl) ?_
  intro p e s m args below meth c hx hb hr hml hown hT hlk hnm hE hW ls hl
  have hl : lv_has ls 2 [(0, .ref (h0 + 0)), (1, .int (xJ n))] := hl
  obtain ⟨Q, eQ⟩ : ∃ Q, Q = MQ below (xQi D g h0 (fun r τ => xFr (fun k => (7 ≤ k ∧ k < 107) ∨ k = 107 ∨ k = 115 ∨ k = 116 ∨ k = 130 ∨ k = 131 ∨ k = 132 ∨ k = 133 ∨ k = 134 ∨ k = 135 ∨ k = 136 ∨ k = 137 ∨ k = 141 ∨ k = 142 ∨ k = 143 ∨ k = 144 ∨ k = 145) s0 τ ∧ (((IC τ) ∧ (IS τ) ∧ (IQ τ) ∧ True) ∧ ((1 ≤ n ∧ n ≤ 120 ∧ zYc τ 136 = zmn K9 q9 l9 n9 w9 (-1) n.toNat (zYc s0 136) ∧ zYq (zYc τ 136) ∧ zok (zY4 (zYc τ 136)) ∧ r = zSm (zYc s0 136) - zSm (zYc τ 136)) ∨ (¬ (1 ≤ n ∧ n ≤ 120) ∧ zYc τ 136 = (zYc s0 136) ∧ r = -1))))) args s 0 0 (xA h0) := ⟨_, rfl⟩
  rw [← eQ]
  generalize hHe : ([] : List Loc) = locs at hW ⊢
  obtain ⟨H, eH⟩ : ∃ H, H = s.heap := ⟨_, rfl⟩
  rw [← eH] at hW ⊢
  have hF : xFr (fun k => (7 ≤ k ∧ k < 107) ∨ k = 107 ∨ k = 115 ∨ k = 116 ∨ k = 130 ∨ k = 131 ∨ k = 132 ∨ k = 133 ∨ k = 134 ∨ k = 135 ∨ k = 136 ∨ k = 137 ∨ k = 141 ∨ k = 142 ∨ k = 143 ∨ k = 144 ∨ k = 145) s0 s0 := xFr.rf
  have k1_1 : s0 1 1 = s0 1 1 := rfl
  refine x_iload_n hx hb hl 1 rfl dX10_minutes_0 rfl ?_
  refine x_iconst hx hb dX10_minutes_1 ?_
  refine x_bipush hx hb dX10_minutes_2 (by decide) ?_
  refine x_goi (x_runS (As := [.int (xJ n), .int (xJ 1), .int (xJ 120)]) hx hb hml hown hT hE hW hl.1 cf_X10_isIn wq562 wq561 (c_X10_isIn l D g T h0 s0 hW.2.1 n rn 1 (by decide) 120 (by decide)) ⟨rfl, rfl, ⟨by decide, by decide⟩, ⟨by decide, by decide⟩⟩ rfl rfl (Nat.le_of_ble_eq_true rfl) dX10_minutes_4) hW (fun x1 s2 H locs rx1 hp3 hW => ?_)
  obtain ⟨es2, hp3⟩ := hp3
  subst es2
  have ghp3 := hp3
  refine x_if_eq (tgt := 26) hx hb rx1 dX10_minutes_7 (by decide) (fun c4 => ?_) (fun c4 => ?_)
  · skip
    refine x_iconst hx hb dX10_minutes_26 ?_
    rw [eQ]
    exact x_iret hx hb hr hlk hW (by decide) ⟨hF, ⟨p0, p1, p2, trivial⟩, by first | exact Or.inl ⟨by omega, by omega, H20⟩ | exact Or.inr ⟨by omega, rfl, by omega⟩⟩ dX10_minutes_27
  refine x_aload_n hx hb hl 0 rfl dX10_minutes_10 rfl ?_
  refine x_get (j := 5) (v := .ref (h0 + 128)) hx hb hown hT hE hW cls_X10 (Or.inl (by decide)) (so_0 h0 g _) (by decide) rfl wq517 dX10_minutes_11 ?_
  refine x_aload_n hx hb hl 0 rfl dX10_minutes_14 rfl ?_
  refine x_get (j := 8) (v := .ref (h0 + 136)) hx hb hown hT hE hW cls_X10 (Or.inl (by decide)) (so_0 h0 g _) (by decide) rfl wq520 dX10_minutes_15 ?_
  refine x_iload_n hx hb hl 1 rfl dX10_minutes_18 rfl ?_
  refine x_iconst hx hb dX10_minutes_19 ?_
  refine x_goi (x_runVN (As := [.ref (h0 + 136), .int (xJ n), .int (xJ (-1))]) hx hb hml hown hT hE hW hl.1 (Or.inl (by decide)) (so_128 h0 g _) rfl cf_X0_goOn wq761 wq34 wn759 (c_X0_goOnF l D g T h0 s0 hW.2.1 136 xd_136 n rn (-1) (by decide) K9 n9 w9 q9 l9 (hok) (by first | exact hlc | exact hlc.f (fun k hk => hF k (by omega))) (by first | exact hK | exact fun t t1 t2 => by rw [hF 4 (by omega)]; exact hK t t1 t2) (by first | exact hlm | exact fun i i1 i2 => by rw [hF 129 (by omega)]; exact hlm i i1 i2) (by first | exact hw | exact hw.f (hF _ (by omega)) (fun k hk => hF k (by first | omega | (unfold xDay at hd; omega)))) (hY) (hok4) (by omega) p0 p1 p2) ⟨rfl, rfl, ⟨by decide, by decide⟩, ⟨by decide, by decide⟩⟩ rfl rfl (Nat.le_of_ble_eq_true rfl) dX10_minutes_20) hW (fun x5 s6 H locs rx5 hp7 hW => ?_)
  obtain ⟨fs6, hp7⟩ := hp7
  have hF8 := hF.call fs6 (fun k h => by omega)
  have q10 : s6 1 1 = s0 1 1 := (congrFun (fs6 _ (by omega)) _).trans k1_1
  have ghp7 := hp7.2
  have H20 := ghp7
  refine lv_goto (tgt := 27) hx hb dX10_minutes_23 (by decide) ?_
  rw [eQ]
  exact x_iret hx hb hr hlk hW rx5 ⟨hF8, ⟨hp7.1.1, hp7.1.2.1, hp7.1.2.2.1, trivial⟩, by first | exact Or.inl ⟨by omega, by omega, H20⟩ | exact Or.inr ⟨by omega, rfl, by omega⟩⟩ dX10_minutes_27
set_option maxHeartbeats 4000000 in
set_option maxRecDepth 100000 in
theorem c_X10_felonF (l : Launch) (D : va_G) (g : xG) (T : Nat × Nat × Nat) (h0 : Nat) (s0 : xS) (hσ : xRR s0) (f : Int) (rf : xR f) (x : Int) (rx : xR x) (y : Int) (ry : xR y) (w : Int) (rw : xR w) (p0 : IC s0) : Met l yX10_felon (xws yX10_felon cX10_felon 6 (some .boolean)) { frames := 3, cells := 0, slots := 0, locals := 66 } (xP [.ref (h0 + 0), .int (xJ f), .int (xJ x), .int (xJ y), .int (xJ w)] D g T h0 s0) (xQi D g h0 (fun r τ => xFr (fun k => k = 142 ∨ k = 143 ∨ k = 144 ∨ k = 145) s0 τ ∧ (((IC τ) ∧ True) ∧ ((r = 1 ∧ (0 ≤ f ∧ f ≤ 9 ∧ (0 ≤ x ∧ x < 10 ∧ 0 ≤ y ∧ y < 10 ∧ s0 4 (10 * y + x) ≠ 1 ∧ s0 4 (10 * y + x) ≠ 3) ∧ 0 ≤ w ∧ w ≤ 999) ∧ zYc τ 136 = xud (xud (xud (xud (zYc s0 136) (4 + f) (10 * y + x)) (14 + f) w) (24 + f) 0) (34 + f) 0) ∨ (r = 0 ∧ ¬ (0 ≤ f ∧ f ≤ 9 ∧ (0 ≤ x ∧ x < 10 ∧ 0 ≤ y ∧ y < 10 ∧ s0 4 (10 * y + x) ≠ 1 ∧ s0 4 (10 * y + x) ≠ 3) ∧ 0 ≤ w ∧ w ≤ 999) ∧ zYc τ 136 = (zYc s0 136)))))) 0 0 (xA h0) := by
  refine x_met hσ (by decide) (Nat.le_of_ble_eq_true rfl) ?_
  intro p e s m args below meth c hx hb hr hml hown hT hlk hnm hE hW ls hl
  have hl : lv_has ls 6 [(0, .ref (h0 + 0)), (1, .int (xJ f)), (2, .int (xJ x)), (3, .int (xJ y)), (4, .int (xJ w))] := hl
  obtain ⟨Q, eQ⟩ : ∃ Q, Q = MQ below (xQi D g h0 (fun r τ => xFr (fun k => k = 142 ∨ k = 143 ∨ k = 144 ∨ k = 145) s0 τ ∧ (((IC τ) ∧ True) ∧ ((r = 1 ∧ (0 ≤ f ∧ f ≤ 9 ∧ (0 ≤ x ∧ x < 10 ∧ 0 ≤ y ∧ y < 10 ∧ s0 4 (10 * y + x) ≠ 1 ∧ s0 4 (10 * y + x) ≠ 3) ∧ 0 ≤ w ∧ w ≤ 999) ∧ zYc τ 136 = xud (xud (xud (xud (zYc s0 136) (4 + f) (10 * y + x)) (14 + f) w) (24 + f) 0) (34 + f) 0) ∨ (r = 0 ∧ ¬ (0 ≤ f ∧ f ≤ 9 ∧ (0 ≤ x ∧ x < 10 ∧ 0 ≤ y ∧ y < 10 ∧ s0 4 (10 * y + x) ≠ 1 ∧ s0 4 (10 * y + x) ≠ 3) ∧ 0 ≤ w ∧ w ≤ 999) ∧ zYc τ 136 = (zYc s0 136)))))) args s 0 0 (xA h0) := ⟨_, rfl⟩
  rw [← eQ]
  generalize hHe : ([] : List Loc) = locs at hW ⊢
  obtain ⟨H, eH⟩ : ∃ H, H = s.heap := ⟨_, rfl⟩
  rw [← eH] at hW ⊢
  have hF : xFr (fun k => k = 142 ∨ k = 143 ∨ k = 144 ∨ k = 145) s0 s0 := xFr.rf
  have k1_1 : s0 1 1 = s0 1 1 := rfl
  refine x_aload_n hx hb hl 0 rfl dX10_felon_0 rfl ?_
  refine x_get (j := 1) (v := .ref (h0 + 3)) hx hb hown hT hE hW cls_X10 (Or.inl (by decide)) (so_0 h0 g _) (by decide) rfl wq513 dX10_felon_1 ?_
  refine x_iload_n hx hb hl 2 rfl dX10_felon_4 rfl ?_
  refine x_iload_n hx hb hl 3 rfl dX10_felon_5 rfl ?_
  refine x_goi (x_runVN (As := [.int (xJ x), .int (xJ y)]) hx hb hml hown hT hE hW hl.1 (Or.inl (by decide)) (so_3 h0 g _) rfl cf_X6_openSpot wq705 wq27 wn703 (c_X6_openSpotM l D g T h0 s0 hW.2.1 x rx y ry p0) ⟨rfl, rfl, ⟨by decide, by decide⟩, ⟨by decide, by decide⟩⟩ rfl rfl (Nat.le_of_ble_eq_true rfl) dX10_felon_6) hW (fun x1 s2 H locs rx1 hp3 hW => ?_)
  obtain ⟨es2, hp3⟩ := hp3
  subst es2
  have ghp3 := hp3
  refine lv_istore (lv' := [(5, .int (xJ x1)), (0, .ref (h0 + 0)), (1, .int (xJ f)), (2, .int (xJ x)), (3, .int (xJ y)), (4, .int (xJ w))]) hx hb dX10_felon_9 hl (by decide) rfl (fun ls hl => ?_)
  refine x_iload_n hx hb hl 2 rfl dX10_felon_11 rfl ?_
  refine x_iconst hx hb dX10_felon_12 ?_
  refine x_bipush hx hb dX10_felon_13 (by decide) ?_
  refine x_goi (x_runS (As := [.int (xJ f), .int (xJ 0), .int (xJ 9)]) hx hb hml hown hT hE hW hl.1 cf_X10_isIn wq562 wq561 (c_X10_isIn l D g T h0 s0 hW.2.1 f rf 0 (by decide) 9 (by decide)) ⟨rfl, rfl, ⟨by decide, by decide⟩, ⟨by decide, by decide⟩⟩ rfl rfl (Nat.le_of_ble_eq_true rfl) dX10_felon_15) hW (fun x4 s5 H locs rx4 hp6 hW => ?_)
  obtain ⟨es5, hp6⟩ := hp6
  subst es5
  have ghp6 := hp6
  refine x_if_eq (tgt := 39) hx hb rx4 dX10_felon_18 (by decide) (fun c7 => ?_) (fun c7 => ?_)
  · skip
    refine x_iconst hx hb dX10_felon_39 ?_
    rw [eQ]
    exact x_zret hx hb hr hlk hW (by omega) ⟨hF, ⟨p0, trivial⟩, Or.inr ⟨rfl, by omega, rfl⟩⟩ dX10_felon_40
  refine x_iload hx hb hl 0 rfl dX10_felon_21 ?_
  refine x_iconst hx hb dX10_felon_23 ?_
  refine x_icmp_eq (tgt := 39) hx hb rx1 (by decide) dX10_felon_24 (by decide) (fun c8 => ?_) (fun c8 => ?_)
  · skip
    refine x_iconst hx hb dX10_felon_39 ?_
    rw [eQ]
    exact x_zret hx hb hr hlk hW (by omega) ⟨hF, ⟨p0, trivial⟩, Or.inr ⟨rfl, by omega, rfl⟩⟩ dX10_felon_40
  refine x_iload hx hb hl 5 rfl dX10_felon_27 ?_
  refine x_iconst hx hb dX10_felon_29 ?_
  refine x_sipush hx hb dX10_felon_30 (by decide) ?_
  refine x_goi (x_runS (As := [.int (xJ w), .int (xJ 0), .int (xJ 999)]) hx hb hml hown hT hE hW hl.1 cf_X10_isIn wq562 wq561 (c_X10_isIn l D g T h0 s0 hW.2.1 w rw 0 (by decide) 999 (by decide)) ⟨rfl, rfl, ⟨by decide, by decide⟩, ⟨by decide, by decide⟩⟩ rfl rfl (Nat.le_of_ble_eq_true rfl) dX10_felon_33) hW (fun x9 s10 H locs rx9 hp11 hW => ?_)
  obtain ⟨es10, hp11⟩ := hp11
  subst es10
  have ghp11 := hp11
  refine x_if_ne (tgt := 41) hx hb rx9 dX10_felon_36 (by decide) (fun c12 => ?_) (fun c12 => ?_)
  · skip
    refine x_aload_n hx hb hl 1 rfl dX10_felon_41 rfl ?_
    refine x_get (j := 8) (v := .ref (h0 + 136)) hx hb hown hT hE hW cls_X10 (Or.inl (by decide)) (so_0 h0 g _) (by decide) rfl wq520 dX10_felon_42 ?_
    refine x_iload_n hx hb hl 2 rfl dX10_felon_45 rfl ?_
    refine x_iload hx hb hl 0 rfl dX10_felon_46 ?_
    refine x_iload hx hb hl 5 rfl dX10_felon_48 ?_
    refine x_gov (x_runVN (As := [.int (xJ f), .int (xJ x1), .int (xJ w)]) hx hb hml hown hT hE hW hl.1 (Or.inl (by decide)) (so_136 h0 g _) rfl cf_X2_setFelon wq623 wq11 wn621 (c_X2_setFelonF l D g T h0 s0 hW.2.1 136 xd_136 f rf x1 rx1 w rw (by omega) p0) ⟨rfl, rfl, ⟨by decide, by decide⟩, ⟨by decide, by decide⟩⟩ rfl rfl (Nat.le_of_ble_eq_true rfl) dX10_felon_50) hW (fun s14 H locs hp15 hW => ?_)
    obtain ⟨fs14, hp15⟩ := hp15
    have hF16 := hF.call fs14 (fun k h => by omega)
    have q17 : s14 1 1 = s0 1 1 := (congrFun (fs14 _ (by omega)) _).trans k1_1
    have ghp15 := hp15.2
    have H50 := ghp15
    refine x_iconst hx hb dX10_felon_53 ?_
    rw [eQ]
    exact x_zret hx hb hr hlk hW (by omega) ⟨hF16, ⟨hp15.1.1, trivial⟩, Or.inl ⟨rfl, by omega, by rw [show 10 * y + x = x1 from by omega]; exact H50⟩⟩ dX10_felon_54
  refine x_iconst hx hb dX10_felon_39 ?_
  rw [eQ]
  exact x_zret hx hb hr hlk hW (by omega) ⟨hF, ⟨p0, trivial⟩, Or.inr ⟨rfl, by omega, rfl⟩⟩ dX10_felon_40
set_option maxHeartbeats 4000000 in
set_option maxRecDepth 100000 in
theorem c_X10_lampF (l : Launch) (D : va_G) (g : xG) (T : Nat × Nat × Nat) (h0 : Nat) (s0 : xS) (hσ : xRR s0) (i : Int) (ri : xR i) (x : Int) (rx : xR x) (y : Int) (ry : xR y) (p0 : IC s0) : Met l yX10_lamp (xws yX10_lamp cX10_lamp 5 (some .boolean)) { frames := 3, cells := 0, slots := 0, locals := 66 } (xP [.ref (h0 + 0), .int (xJ i), .int (xJ x), .int (xJ y)] D g T h0 s0) (xQi D g h0 (fun r τ => xFr (fun k => k = 129) s0 τ ∧ (((IC τ) ∧ True) ∧ ((r = 1 ∧ (0 ≤ i ∧ i ≤ 3 ∧ (x = -1 ∨ (0 ≤ x ∧ x < 10 ∧ 0 ≤ y ∧ y < 10 ∧ s0 4 (10 * y + x) ≠ 1 ∧ s0 4 (10 * y + x) ≠ 3))) ∧ τ 129 = xud (s0 129) i (if x = -1 then -1 else 10 * y + x)) ∨ (r = 0 ∧ ¬ (0 ≤ i ∧ i ≤ 3 ∧ (x = -1 ∨ (0 ≤ x ∧ x < 10 ∧ 0 ≤ y ∧ y < 10 ∧ s0 4 (10 * y + x) ≠ 1 ∧ s0 4 (10 * y + x) ≠ 3))) ∧ τ 129 = s0 129))))) 0 0 (xA h0) := by
  refine x_met hσ (by decide) (Nat.le_of_ble_eq_true rfl) ?_
  intro p e s m args below meth c hx hb hr hml hown hT hlk hnm hE hW ls hl
  have hl : lv_has ls 5 [(0, .ref (h0 + 0)), (1, .int (xJ i)), (2, .int (xJ x)), (3, .int (xJ y))] := hl
  obtain ⟨Q, eQ⟩ : ∃ Q, Q = MQ below (xQi D g h0 (fun r τ => xFr (fun k => k = 129) s0 τ ∧ (((IC τ) ∧ True) ∧ ((r = 1 ∧ (0 ≤ i ∧ i ≤ 3 ∧ (x = -1 ∨ (0 ≤ x ∧ x < 10 ∧ 0 ≤ y ∧ y < 10 ∧ s0 4 (10 * y + x) ≠ 1 ∧ s0 4 (10 * y + x) ≠ 3))) ∧ τ 129 = xud (s0 129) i (if x = -1 then -1 else 10 * y + x)) ∨ (r = 0 ∧ ¬ (0 ≤ i ∧ i ≤ 3 ∧ (x = -1 ∨ (0 ≤ x ∧ x < 10 ∧ 0 ≤ y ∧ y < 10 ∧ s0 4 (10 * y + x) ≠ 1 ∧ s0 4 (10 * y + x) ≠ 3))) ∧ τ 129 = s0 129))))) args s 0 0 (xA h0) := ⟨_, rfl⟩
  rw [← eQ]
  generalize hHe : ([] : List Loc) = locs at hW ⊢
  obtain ⟨H, eH⟩ : ∃ H, H = s.heap := ⟨_, rfl⟩
  rw [← eH] at hW ⊢
  have hF : xFr (fun k => k = 129) s0 s0 := xFr.rf
  have k1_1 : s0 1 1 = s0 1 1 := rfl
  refine x_iload_n hx hb hl 1 rfl dX10_lamp_0 rfl ?_
  refine x_iconst hx hb dX10_lamp_1 ?_
  refine x_iconst hx hb dX10_lamp_2 ?_
  refine x_goi (x_runS (As := [.int (xJ i), .int (xJ 0), .int (xJ 3)]) hx hb hml hown hT hE hW hl.1 cf_X10_isIn wq562 wq561 (c_X10_isIn l D g T h0 s0 hW.2.1 i ri 0 (by decide) 3 (by decide)) ⟨rfl, rfl, ⟨by decide, by decide⟩, ⟨by decide, by decide⟩⟩ rfl rfl (Nat.le_of_ble_eq_true rfl) dX10_lamp_3) hW (fun x1 s2 H locs rx1 hp3 hW => ?_)
  obtain ⟨es2, hp3⟩ := hp3
  subst es2
  have ghp3 := hp3
  refine x_if_ne (tgt := 11) hx hb rx1 dX10_lamp_6 (by decide) (fun c4 => ?_) (fun c4 => ?_)
  · skip
    refine x_aload_n hx hb hl 0 rfl dX10_lamp_11 rfl ?_
    refine x_get (j := 1) (v := .ref (h0 + 3)) hx hb hown hT hE hW cls_X10 (Or.inl (by decide)) (so_0 h0 g _) (by decide) rfl wq513 dX10_lamp_12 ?_
    refine x_iload_n hx hb hl 2 rfl dX10_lamp_15 rfl ?_
    refine x_iload_n hx hb hl 3 rfl dX10_lamp_16 rfl ?_
    refine x_goi (x_runVN (As := [.int (xJ x), .int (xJ y)]) hx hb hml hown hT hE hW hl.1 (Or.inl (by decide)) (so_3 h0 g _) rfl cf_X6_openSpot wq705 wq27 wn703 (c_X6_openSpotM l D g T h0 s0 hW.2.1 x rx y ry p0) ⟨rfl, rfl, ⟨by decide, by decide⟩, ⟨by decide, by decide⟩⟩ rfl rfl (Nat.le_of_ble_eq_true rfl) dX10_lamp_17) hW (fun x5 s6 H locs rx5 hp7 hW => ?_)
    obtain ⟨es6, hp7⟩ := hp7
    subst es6
    have ghp7 := hp7
    refine lv_istore (lv' := [(4, .int (xJ x5)), (0, .ref (h0 + 0)), (1, .int (xJ i)), (2, .int (xJ x)), (3, .int (xJ y))]) hx hb dX10_lamp_20 hl (by decide) rfl (fun ls hl => ?_)
    refine x_iload_n hx hb hl 3 rfl dX10_lamp_22 rfl ?_
    refine x_iconst hx hb dX10_lamp_23 ?_
    refine x_icmp_eq (tgt := 35) hx hb rx (by decide) dX10_lamp_24 (by decide) (fun c8 => ?_) (fun c8 => ?_)
    · skip
      refine x_aload_n hx hb hl 1 rfl dX10_lamp_35 rfl ?_
      refine x_get (j := 5) (v := .ref (h0 + 128)) hx hb hown hT hE hW cls_X10 (Or.inl (by decide)) (so_0 h0 g _) (by decide) rfl wq517 dX10_lamp_36 ?_
      refine x_getN (j := 2) (v := .ref (h0 + 129)) hx hb hown hT hE hW cls_X0 (Or.inl (by decide)) (so_128 h0 g _) (by decide) rfl wn356 dX10_lamp_39 ?_
      refine x_iload_n hx hb hl 2 rfl dX10_lamp_42 rfl ?_
      refine x_iload hx hb hl 0 rfl dX10_lamp_43 ?_
      refine x_iast hx hb hE hW (by decide) (fun σ => sa_129 h0 g σ) (by omega) (by decide) rx5 dX10_lamp_45 (fun H locs s9 es9 hW => ?_)
      have q10 : IC s9 := by rw [es9]; exact IC_o (by decide) p0
      have q11 : s9 1 1 = s0 1 1 := (show s9 1 1 = s0 1 1 from by rw [es9, xU_k _ _ _ (by first | decide | omega)]).trans k1_1
      have hF12 := hF.put es9 (by omega)
      have E45 := es9
      refine x_iconst hx hb dX10_lamp_46 ?_
      rw [eQ]
      exact x_zret hx hb hr hlk hW (by omega) ⟨hF12, ⟨q10, trivial⟩, Or.inl ⟨rfl, by omega, by rw [E45, xU_xud]; congr 1; split <;> omega⟩⟩ dX10_lamp_47
    refine x_iload hx hb hl 0 rfl dX10_lamp_27 ?_
    refine x_iconst hx hb dX10_lamp_29 ?_
    refine x_icmp_ne (tgt := 35) hx hb rx5 (by decide) dX10_lamp_30 (by decide) (fun c13 => ?_) (fun c13 => ?_)
    · skip
      refine x_aload_n hx hb hl 1 rfl dX10_lamp_35 rfl ?_
      refine x_get (j := 5) (v := .ref (h0 + 128)) hx hb hown hT hE hW cls_X10 (Or.inl (by decide)) (so_0 h0 g _) (by decide) rfl wq517 dX10_lamp_36 ?_
      refine x_getN (j := 2) (v := .ref (h0 + 129)) hx hb hown hT hE hW cls_X0 (Or.inl (by decide)) (so_128 h0 g _) (by decide) rfl wn356 dX10_lamp_39 ?_
      refine x_iload_n hx hb hl 2 rfl dX10_lamp_42 rfl ?_
      refine x_iload hx hb hl 0 rfl dX10_lamp_43 ?_
      refine x_iast hx hb hE hW (by decide) (fun σ => sa_129 h0 g σ) (by omega) (by decide) rx5 dX10_lamp_45 (fun H locs s14 es14 hW => ?_)
      have q15 : IC s14 := by rw [es14]; exact IC_o (by decide) p0
      have q16 : s14 1 1 = s0 1 1 := (show s14 1 1 = s0 1 1 from by rw [es14, xU_k _ _ _ (by first | decide | omega)]).trans k1_1
      have hF17 := hF.put es14 (by omega)
      have E45 := es14
      refine x_iconst hx hb dX10_lamp_46 ?_
      rw [eQ]
      exact x_zret hx hb hr hlk hW (by omega) ⟨hF17, ⟨q15, trivial⟩, Or.inl ⟨rfl, by omega, by rw [E45, xU_xud]; congr 1; split <;> omega⟩⟩ dX10_lamp_47
    refine x_iconst hx hb dX10_lamp_33 ?_
    rw [eQ]
    exact x_zret hx hb hr hlk hW (by omega) ⟨hF, ⟨p0, trivial⟩, Or.inr ⟨rfl, by omega, rfl⟩⟩ dX10_lamp_34
  refine x_iconst hx hb dX10_lamp_9 ?_
  rw [eQ]
  exact x_zret hx hb hr hlk hW (by omega) ⟨hF, ⟨p0, trivial⟩, Or.inr ⟨rfl, by omega, rfl⟩⟩ dX10_lamp_10
set_option maxHeartbeats 4000000 in
set_option maxRecDepth 100000 in
theorem c_X10_seedF (l : Launch) (D : va_G) (g : xG) (T : Nat × Nat × Nat) (h0 : Nat) (s0 : xS) (hσ : xRR s0) (x : Int) (rx : xR x) (p0 : IC s0) : Met l yX10_seed (xws yX10_seed cX10_seed 2 (some .boolean)) { frames := 1, cells := 0, slots := 0, locals := 22 } (xP [.ref (h0 + 0), .int (xJ x)] D g T h0 s0) (xQi D g h0 (fun r τ => xFr (fun k => k = 136) s0 τ ∧ (((IC τ) ∧ True) ∧ ((r = 1 ∧ (0 ≤ x ∧ x ≤ 65535) ∧ zYc τ 136 = xud (zYc s0 136) 45 x) ∨ (r = 0 ∧ ¬ (0 ≤ x ∧ x ≤ 65535) ∧ zYc τ 136 = (zYc s0 136)))))) 0 0 (xA h0) := by
  refine x_met hσ (by decide) (Nat.le_of_ble_eq_true rfl) ?_
  intro p e s m args below meth c hx hb hr hml hown hT hlk hnm hE hW ls hl
  have hl : lv_has ls 2 [(0, .ref (h0 + 0)), (1, .int (xJ x))] := hl
  obtain ⟨Q, eQ⟩ : ∃ Q, Q = MQ below (xQi D g h0 (fun r τ => xFr (fun k => k = 136) s0 τ ∧ (((IC τ) ∧ True) ∧ ((r = 1 ∧ (0 ≤ x ∧ x ≤ 65535) ∧ zYc τ 136 = xud (zYc s0 136) 45 x) ∨ (r = 0 ∧ ¬ (0 ≤ x ∧ x ≤ 65535) ∧ zYc τ 136 = (zYc s0 136)))))) args s 0 0 (xA h0) := ⟨_, rfl⟩
  rw [← eQ]
  generalize hHe : ([] : List Loc) = locs at hW ⊢
  obtain ⟨H, eH⟩ : ∃ H, H = s.heap := ⟨_, rfl⟩
  rw [← eH] at hW ⊢
  have hF : xFr (fun k => k = 136) s0 s0 := xFr.rf
  have k1_1 : s0 1 1 = s0 1 1 := rfl
  refine x_iload_n hx hb hl 1 rfl dX10_seed_0 rfl ?_
  refine x_iconst hx hb dX10_seed_1 ?_
  refine lv_ldcw (v := xJ 65535) hx hb hown (hT _ wq1153) dX10_seed_2 ?_
  refine x_goi (x_runS (As := [.int (xJ x), .int (xJ 0), .int (xJ 65535)]) hx hb hml hown hT hE hW hl.1 cf_X10_isIn wq562 wq561 (c_X10_isIn l D g T h0 s0 hW.2.1 x rx 0 (by decide) 65535 (by decide)) ⟨rfl, rfl, ⟨by decide, by decide⟩, ⟨by decide, by decide⟩⟩ rfl rfl (Nat.le_of_ble_eq_true rfl) dX10_seed_5) hW (fun x1 s2 H locs rx1 hp3 hW => ?_)
  obtain ⟨es2, hp3⟩ := hp3
  subst es2
  have ghp3 := hp3
  refine x_if_ne (tgt := 13) hx hb rx1 dX10_seed_8 (by decide) (fun c4 => ?_) (fun c4 => ?_)
  · skip
    refine x_aload_n hx hb hl 0 rfl dX10_seed_13 rfl ?_
    refine x_get (j := 8) (v := .ref (h0 + 136)) hx hb hown hT hE hW cls_X10 (Or.inl (by decide)) (so_0 h0 g _) (by decide) rfl wq520 dX10_seed_14 ?_
    refine x_iload_n hx hb hl 1 rfl dX10_seed_17 rfl ?_
    refine x_putN (j := 8) hx hb hown hT hE hW cls_X2 (by decide) (fun σ => so_136 h0 g σ) (by decide) (st_X2_8 h0 s0 136 x) (ln_X2_8 h0 _ _) wn405 rfl rfl rfl rx dX10_seed_18 (fun H locs s5 es5 hW => ?_)
    have q6 : IC s5 := by rw [es5]; exact IC_d xd_136 p0 (by omega)
    have q7 : s5 1 1 = s0 1 1 := (show s5 1 1 = s0 1 1 from by rw [es5, xU_k _ _ _ (by first | decide | omega)]).trans k1_1
    have hF8 := hF.put es5 (by omega)
    have E18 := es5
    refine x_iconst hx hb dX10_seed_21 ?_
    rw [eQ]
    exact x_zret hx hb hr hlk hW (by omega) ⟨hF8, ⟨q6, trivial⟩, Or.inl ⟨rfl, by omega, by rw [E18, zYc_u45]⟩⟩ dX10_seed_22
  refine x_iconst hx hb dX10_seed_11 ?_
  rw [eQ]
  exact x_zret hx hb hr hlk hW (by omega) ⟨hF, ⟨p0, trivial⟩, Or.inr ⟨rfl, by omega, rfl⟩⟩ dX10_seed_12
set_option maxHeartbeats 4000000 in
set_option maxRecDepth 100000 in
theorem c_X10_judgeF (l : Launch) (D : va_G) (g : xG) (T : Nat × Nat × Nat) (h0 : Nat) (s0 : xS) (hσ : xRR s0) (j : Int) (rj : xR j) (x : Int) (rx : xR x) (y : Int) (ry : xR y) (p0 : IC s0) : Met l yX10_judge (xws yX10_judge cX10_judge 5 (some .boolean)) { frames := 3, cells := 0, slots := 0, locals := 66 } (xP [.ref (h0 + 0), .int (xJ j), .int (xJ x), .int (xJ y)] D g T h0 s0) (xQi D g h0 (fun r τ => xFr (fun k => k = 137) s0 τ ∧ (((IC τ) ∧ True) ∧ ((r = 1 ∧ (0 ≤ j ∧ j < 2 ∧ (0 ≤ x ∧ x < 10 ∧ 0 ≤ y ∧ y < 10 ∧ s0 4 (10 * y + x) ≠ 1 ∧ s0 4 (10 * y + x) ≠ 3) ∧ s0 137 (1 - j) ≠ 10 * y + x) ∧ zYc τ 136 = xud (zYc s0 136) j (10 * y + x)) ∨ (r = 0 ∧ ¬ (0 ≤ j ∧ j < 2 ∧ (0 ≤ x ∧ x < 10 ∧ 0 ≤ y ∧ y < 10 ∧ s0 4 (10 * y + x) ≠ 1 ∧ s0 4 (10 * y + x) ≠ 3) ∧ s0 137 (1 - j) ≠ 10 * y + x) ∧ zYc τ 136 = (zYc s0 136)))))) 0 0 (xA h0) := by
  refine x_met hσ (by decide) (Nat.le_of_ble_eq_true rfl) ?_
  intro p e s m args below meth c hx hb hr hml hown hT hlk hnm hE hW ls hl
  have hl : lv_has ls 5 [(0, .ref (h0 + 0)), (1, .int (xJ j)), (2, .int (xJ x)), (3, .int (xJ y))] := hl
  obtain ⟨Q, eQ⟩ : ∃ Q, Q = MQ below (xQi D g h0 (fun r τ => xFr (fun k => k = 137) s0 τ ∧ (((IC τ) ∧ True) ∧ ((r = 1 ∧ (0 ≤ j ∧ j < 2 ∧ (0 ≤ x ∧ x < 10 ∧ 0 ≤ y ∧ y < 10 ∧ s0 4 (10 * y + x) ≠ 1 ∧ s0 4 (10 * y + x) ≠ 3) ∧ s0 137 (1 - j) ≠ 10 * y + x) ∧ zYc τ 136 = xud (zYc s0 136) j (10 * y + x)) ∨ (r = 0 ∧ ¬ (0 ≤ j ∧ j < 2 ∧ (0 ≤ x ∧ x < 10 ∧ 0 ≤ y ∧ y < 10 ∧ s0 4 (10 * y + x) ≠ 1 ∧ s0 4 (10 * y + x) ≠ 3) ∧ s0 137 (1 - j) ≠ 10 * y + x) ∧ zYc τ 136 = (zYc s0 136)))))) args s 0 0 (xA h0) := ⟨_, rfl⟩
  rw [← eQ]
  generalize hHe : ([] : List Loc) = locs at hW ⊢
  obtain ⟨H, eH⟩ : ∃ H, H = s.heap := ⟨_, rfl⟩
  rw [← eH] at hW ⊢
  have hF : xFr (fun k => k = 137) s0 s0 := xFr.rf
  have k1_1 : s0 1 1 = s0 1 1 := rfl
  refine x_aload_n hx hb hl 0 rfl dX10_judge_0 rfl ?_
  refine x_get (j := 1) (v := .ref (h0 + 3)) hx hb hown hT hE hW cls_X10 (Or.inl (by decide)) (so_0 h0 g _) (by decide) rfl wq513 dX10_judge_1 ?_
  refine x_iload_n hx hb hl 2 rfl dX10_judge_4 rfl ?_
  refine x_iload_n hx hb hl 3 rfl dX10_judge_5 rfl ?_
  refine x_goi (x_runVN (As := [.int (xJ x), .int (xJ y)]) hx hb hml hown hT hE hW hl.1 (Or.inl (by decide)) (so_3 h0 g _) rfl cf_X6_openSpot wq705 wq27 wn703 (c_X6_openSpotM l D g T h0 s0 hW.2.1 x rx y ry p0) ⟨rfl, rfl, ⟨by decide, by decide⟩, ⟨by decide, by decide⟩⟩ rfl rfl (Nat.le_of_ble_eq_true rfl) dX10_judge_6) hW (fun x1 s2 H locs rx1 hp3 hW => ?_)
  obtain ⟨es2, hp3⟩ := hp3
  subst es2
  have ghp3 := hp3
  refine lv_istore (lv' := [(4, .int (xJ x1)), (0, .ref (h0 + 0)), (1, .int (xJ j)), (2, .int (xJ x)), (3, .int (xJ y))]) hx hb dX10_judge_9 hl (by decide) rfl (fun ls hl => ?_)
  refine x_iload_n hx hb hl 2 rfl dX10_judge_11 rfl ?_
  refine x_iconst hx hb dX10_judge_12 ?_
  refine x_iconst hx hb dX10_judge_13 ?_
  refine x_goi (x_runS (As := [.int (xJ j), .int (xJ 0), .int (xJ 1)]) hx hb hml hown hT hE hW hl.1 cf_X10_isIn wq562 wq561 (c_X10_isIn l D g T h0 s0 hW.2.1 j rj 0 (by decide) 1 (by decide)) ⟨rfl, rfl, ⟨by decide, by decide⟩, ⟨by decide, by decide⟩⟩ rfl rfl (Nat.le_of_ble_eq_true rfl) dX10_judge_14) hW (fun x4 s5 H locs rx4 hp6 hW => ?_)
  obtain ⟨es5, hp6⟩ := hp6
  subst es5
  have ghp6 := hp6
  refine x_if_eq (tgt := 42) hx hb rx4 dX10_judge_17 (by decide) (fun c7 => ?_) (fun c7 => ?_)
  · skip
    refine x_iconst hx hb dX10_judge_42 ?_
    rw [eQ]
    exact x_zret hx hb hr hlk hW (by omega) ⟨hF, ⟨p0, trivial⟩, Or.inr ⟨rfl, by omega, rfl⟩⟩ dX10_judge_43
  refine x_iload hx hb hl 0 rfl dX10_judge_20 ?_
  refine x_iconst hx hb dX10_judge_22 ?_
  refine x_icmp_eq (tgt := 42) hx hb rx1 (by decide) dX10_judge_23 (by decide) (fun c8 => ?_) (fun c8 => ?_)
  · skip
    refine x_iconst hx hb dX10_judge_42 ?_
    rw [eQ]
    exact x_zret hx hb hr hlk hW (by omega) ⟨hF, ⟨p0, trivial⟩, Or.inr ⟨rfl, by omega, rfl⟩⟩ dX10_judge_43
  refine x_aload_n hx hb hl 1 rfl dX10_judge_26 rfl ?_
  refine x_get (j := 8) (v := .ref (h0 + 136)) hx hb hown hT hE hW cls_X10 (Or.inl (by decide)) (so_0 h0 g _) (by decide) rfl wq520 dX10_judge_27 ?_
  refine x_getN (j := 0) (v := .ref (h0 + 137)) hx hb hown hT hE hW cls_X2 (Or.inl (by decide)) (so_136 h0 g _) (by decide) rfl wn385 dX10_judge_30 ?_
  refine x_iconst hx hb dX10_judge_33 ?_
  refine x_iload_n hx hb hl 2 rfl dX10_judge_34 rfl ?_
  refine x_isub hx hb dX10_judge_35 ?_
  refine x_iald hx hb hE hW (Or.inl (by decide)) (sa_137 h0 g _) (by omega) (by decide) dX10_judge_36 ?_
  refine x_rd hW (fun x9 ex9 rx9 => ?_)
  have V36 : x9 = s0 137 (1 - j) := ex9
  refine x_iload hx hb hl 0 rfl dX10_judge_37 ?_
  refine x_icmp_ne (tgt := 44) hx hb rx9 rx1 dX10_judge_39 (by decide) (fun c10 => ?_) (fun c10 => ?_)
  · skip
    refine x_aload_n hx hb hl 1 rfl dX10_judge_44 rfl ?_
    refine x_get (j := 8) (v := .ref (h0 + 136)) hx hb hown hT hE hW cls_X10 (Or.inl (by decide)) (so_0 h0 g _) (by decide) rfl wq520 dX10_judge_45 ?_
    refine x_getN (j := 0) (v := .ref (h0 + 137)) hx hb hown hT hE hW cls_X2 (Or.inl (by decide)) (so_136 h0 g _) (by decide) rfl wn385 dX10_judge_48 ?_
    refine x_iload_n hx hb hl 2 rfl dX10_judge_51 rfl ?_
    refine x_iload hx hb hl 0 rfl dX10_judge_52 ?_
    refine x_iast hx hb hE hW (by decide) (fun σ => sa_137 h0 g σ) (by omega) (by decide) rx1 dX10_judge_54 (fun H locs s11 es11 hW => ?_)
    have q12 : IC s11 := by rw [es11]; exact IC_o (by decide) p0
    have q13 : s11 1 1 = s0 1 1 := (show s11 1 1 = s0 1 1 from by rw [es11, xU_k _ _ _ (by first | decide | omega)]).trans k1_1
    have hF14 := hF.put es11 (by omega)
    have E54 := es11
    refine x_iconst hx hb dX10_judge_55 ?_
    rw [eQ]
    exact x_zret hx hb hr hlk hW (by omega) ⟨hF14, ⟨q12, trivial⟩, Or.inl ⟨rfl, by omega, by rw [E54, zYc_uJ (by omega)]; congr 1; omega⟩⟩ dX10_judge_56
  refine x_iconst hx hb dX10_judge_42 ?_
  rw [eQ]
  exact x_zret hx hb hr hlk hW (by omega) ⟨hF, ⟨p0, trivial⟩, Or.inr ⟨rfl, by omega, rfl⟩⟩ dX10_judge_43
set_option maxHeartbeats 4000000 in
set_option maxRecDepth 100000 in
theorem c_X10_keepF (l : Launch) (D : va_G) (g : xG) (T : Nat × Nat × Nat) (h0 : Nat) (s0 : xS) (hσ : xRR s0) (p0 : IC s0) : Met l yX10_keep (xws yX10_keep cX10_keep 1 (some .int)) { frames := 1, cells := 0, slots := 0, locals := 22 } (xP [.ref (h0 + 0)] D g T h0 s0) (xQi D g h0 (fun r τ => xFr (fun k => k = 0 ∨ k = 146 ∨ k = 147 ∨ k = 148 ∨ k = 151 ∨ k = 152 ∨ k = 153 ∨ k = 154 ∨ k = 155) s0 τ ∧ (((IC τ) ∧ True) ∧ (τ 0 11 = 1 ∧ r = s0 136 7 ∧ zYc τ 146 = (zYc s0 136) ∧ ∀ q : Int, 0 ≤ q → q < 2 → τ 148 q = s0 138 q)))) 0 0 (xA h0) := by
  refine x_met hσ (by decide) (Nat.le_of_ble_eq_true rfl) ?_
  intro p e s m args below meth c hx hb hr hml hown hT hlk hnm hE hW ls hl
  have hl : lv_has ls 1 [(0, .ref (h0 + 0))] := hl
  obtain ⟨Q, eQ⟩ : ∃ Q, Q = MQ below (xQi D g h0 (fun r τ => xFr (fun k => k = 0 ∨ k = 146 ∨ k = 147 ∨ k = 148 ∨ k = 151 ∨ k = 152 ∨ k = 153 ∨ k = 154 ∨ k = 155) s0 τ ∧ (((IC τ) ∧ True) ∧ (τ 0 11 = 1 ∧ r = s0 136 7 ∧ zYc τ 146 = (zYc s0 136) ∧ ∀ q : Int, 0 ≤ q → q < 2 → τ 148 q = s0 138 q)))) args s 0 0 (xA h0) := ⟨_, rfl⟩
  rw [← eQ]
  generalize hHe : ([] : List Loc) = locs at hW ⊢
  obtain ⟨H, eH⟩ : ∃ H, H = s.heap := ⟨_, rfl⟩
  rw [← eH] at hW ⊢
  have hF : xFr (fun k => k = 0 ∨ k = 146 ∨ k = 147 ∨ k = 148 ∨ k = 151 ∨ k = 152 ∨ k = 153 ∨ k = 154 ∨ k = 155) s0 s0 := xFr.rf
  have k1_1 : s0 1 1 = s0 1 1 := rfl
  have k0_11 : s0 0 11 = s0 0 11 := rfl
  have k136_7 : s0 136 7 = s0 136 7 := rfl
  refine x_aload_n hx hb hl 0 rfl dX10_keep_0 rfl ?_
  refine x_get (j := 9) (v := .ref (h0 + 146)) hx hb hown hT hE hW cls_X10 (Or.inl (by decide)) (so_0 h0 g _) (by decide) rfl wq521 dX10_keep_1 ?_
  refine x_aload_n hx hb hl 0 rfl dX10_keep_4 rfl ?_
  refine x_get (j := 8) (v := .ref (h0 + 136)) hx hb hown hT hE hW cls_X10 (Or.inl (by decide)) (so_0 h0 g _) (by decide) rfl wq520 dX10_keep_5 ?_
  refine x_gov (x_runVN (As := [.ref (h0 + 136)]) hx hb hml hown hT hE hW hl.1 (Or.inl (by decide)) (so_146 h0 g _) rfl cf_X2_copyFrom wq918 wq64 wn1158 (c_X2_copyFromF l D g T h0 s0 hW.2.1 146 xd_146 136 xd_136 (by decide) p0) ⟨rfl, rfl, ⟨by decide, by decide⟩, ⟨by decide, by decide⟩⟩ rfl rfl (Nat.le_of_ble_eq_true rfl) dX10_keep_8) hW (fun s2 H locs hp3 hW => ?_)
  obtain ⟨fs2, hp3⟩ := hp3
  have hF4 := hF.call fs2 (fun k h => by omega)
  have q5 : s2 1 1 = s0 1 1 := (congrFun (fs2 _ (by omega)) _).trans k1_1
  have q6 : s2 0 11 = s0 0 11 := (congrFun (fs2 _ (by omega)) _).trans k0_11
  have q7 : s2 136 7 = s0 136 7 := (congrFun (fs2 _ (by omega)) _).trans k136_7
  have ghp3 := hp3.2
  have H8 := ghp3
  refine x_aload_n hx hb hl 0 rfl dX10_keep_11 rfl ?_
  refine x_iconst hx hb dX10_keep_12 ?_
  refine x_put (j := 11) hx hb hown hT hE hW cls_X10 (by decide) (fun σ => so_0 h0 g σ) (by decide) (st_X10_11 h0 s2 0 1) (ln_X10_11 h0 _ _) wq523 rfl rfl rfl (by decide) dX10_keep_13 (fun H locs s8 es8 hW => ?_)
  have q9 : s8 1 1 = s0 1 1 := (show s8 1 1 = s2 1 1 from by rw [es8, xU_k _ _ _ (by first | decide | omega)]).trans q5
  have q10 : s8 0 11 = 1 := by rw [es8, xU_s]
  have q11 : s8 136 7 = s0 136 7 := (show s8 136 7 = s2 136 7 from by rw [es8, xU_k _ _ _ (by first | decide | omega)]).trans q7
  have q12 : IC s8 := by rw [es8]; exact IC_o (by decide) hp3.1.1
  have hF13 := hF4.put es8 (by omega)
  have E13 := es8
  refine x_aload_n hx hb hl 0 rfl dX10_keep_16 rfl ?_
  refine x_get (j := 8) (v := .ref (h0 + 136)) hx hb hown hT hE hW cls_X10 (Or.inl (by decide)) (so_0 h0 g _) (by decide) rfl wq520 dX10_keep_17 ?_
  refine x_getN (j := 7) (v := .int (xJ (s8 136 7))) hx hb hown hT hE hW cls_X2 (Or.inl (by decide)) (so_136 h0 g _) (by decide) rfl wn403 dX10_keep_20 ?_
  refine x_rd hW (fun x14 ex14 rx14 => ?_)
  have bx14 : 0 ≤ x14 ∧ x14 ≤ 9999 := by rw [ex14]; exact IC.m q12 xd_136
  have fx14 : x14 = s0 136 7 := ex14.trans q11
  rw [eQ]
  exact x_iret hx hb hr hlk hW rx14 ⟨hF13, ⟨q12, trivial⟩, ⟨by omega, by omega, by rw [E13, zYc_o (by omega)]; exact H8.1, fun q q1 q2 => by rw [E13, xU_k _ _ _ (by first | decide | omega)]; exact H8.2 q q1 q2⟩⟩ dX10_keep_23
set_option maxHeartbeats 4000000 in
set_option maxRecDepth 100000 in
theorem c_X10_undoF (l : Launch) (D : va_G) (g : xG) (T : Nat × Nat × Nat) (h0 : Nat) (s0 : xS) (hσ : xRR s0) (hk : s0 0 11 = 0 ∨ s0 0 11 = 1) (p0 : IC s0) : Met l yX10_undo (xws yX10_undo cX10_undo 1 (some .boolean)) { frames := 1, cells := 0, slots := 0, locals := 22 } (xP [.ref (h0 + 0)] D g T h0 s0) (xQi D g h0 (fun r τ => xFr (fun k => k = 136 ∨ k = 137 ∨ k = 138 ∨ k = 141 ∨ k = 142 ∨ k = 143 ∨ k = 144 ∨ k = 145) s0 τ ∧ (((IC τ) ∧ True) ∧ (r = s0 0 11 ∧ ((s0 0 11 = 0 ∧ zYc τ 136 = (zYc s0 136) ∧ τ 138 = s0 138) ∨ (s0 0 11 ≠ 0 ∧ zYc τ 136 = zYc s0 146 ∧ ∀ q : Int, 0 ≤ q → q < 2 → τ 138 q = s0 148 q)))))) 0 0 (xA h0) := by
  refine x_met hσ (by decide) (Nat.le_of_ble_eq_true rfl) ?_
  intro p e s m args below meth c hx hb hr hml hown hT hlk hnm hE hW ls hl
  have hl : lv_has ls 1 [(0, .ref (h0 + 0))] := hl
  obtain ⟨Q, eQ⟩ : ∃ Q, Q = MQ below (xQi D g h0 (fun r τ => xFr (fun k => k = 136 ∨ k = 137 ∨ k = 138 ∨ k = 141 ∨ k = 142 ∨ k = 143 ∨ k = 144 ∨ k = 145) s0 τ ∧ (((IC τ) ∧ True) ∧ (r = s0 0 11 ∧ ((s0 0 11 = 0 ∧ zYc τ 136 = (zYc s0 136) ∧ τ 138 = s0 138) ∨ (s0 0 11 ≠ 0 ∧ zYc τ 136 = zYc s0 146 ∧ ∀ q : Int, 0 ≤ q → q < 2 → τ 138 q = s0 148 q)))))) args s 0 0 (xA h0) := ⟨_, rfl⟩
  rw [← eQ]
  generalize hHe : ([] : List Loc) = locs at hW ⊢
  obtain ⟨H, eH⟩ : ∃ H, H = s.heap := ⟨_, rfl⟩
  rw [← eH] at hW ⊢
  have hF : xFr (fun k => k = 136 ∨ k = 137 ∨ k = 138 ∨ k = 141 ∨ k = 142 ∨ k = 143 ∨ k = 144 ∨ k = 145) s0 s0 := xFr.rf
  have k1_1 : s0 1 1 = s0 1 1 := rfl
  have k0_11 : s0 0 11 = s0 0 11 := rfl
  refine x_aload_n hx hb hl 0 rfl dX10_undo_0 rfl ?_
  refine x_get (j := 11) (v := .int (xJ (s0 0 11))) hx hb hown hT hE hW cls_X10 (Or.inl (by decide)) (so_0 h0 g _) (by decide) rfl wq523 dX10_undo_1 ?_
  refine x_rd hW (fun x1 ex1 rx1 => ?_)
  have fx1 : x1 = s0 0 11 := ex1.trans k0_11
  refine x_if_eq (tgt := 18) hx hb rx1 dX10_undo_4 (by decide) (fun c2 => ?_) (fun c2 => ?_)
  · skip
    refine x_aload_n hx hb hl 0 rfl dX10_undo_18 rfl ?_
    refine x_get (j := 11) (v := .int (xJ (s0 0 11))) hx hb hown hT hE hW cls_X10 (Or.inl (by decide)) (so_0 h0 g _) (by decide) rfl wq523 dX10_undo_19 ?_
    refine x_rd hW (fun x3 ex3 rx3 => ?_)
    have fx3 : x3 = s0 0 11 := ex3.trans k0_11
    rw [eQ]
    exact x_zret hx hb hr hlk hW (by omega) ⟨hF, ⟨p0, trivial⟩, by first | exact ⟨by omega, Or.inr ⟨by omega, H15⟩⟩ | exact ⟨by omega, Or.inl ⟨by omega, rfl, rfl⟩⟩⟩ dX10_undo_22
  refine x_aload_n hx hb hl 0 rfl dX10_undo_7 rfl ?_
  refine x_get (j := 8) (v := .ref (h0 + 136)) hx hb hown hT hE hW cls_X10 (Or.inl (by decide)) (so_0 h0 g _) (by decide) rfl wq520 dX10_undo_8 ?_
  refine x_aload_n hx hb hl 0 rfl dX10_undo_11 rfl ?_
  refine x_get (j := 9) (v := .ref (h0 + 146)) hx hb hown hT hE hW cls_X10 (Or.inl (by decide)) (so_0 h0 g _) (by decide) rfl wq521 dX10_undo_12 ?_
  refine x_gov (x_runVN (As := [.ref (h0 + 146)]) hx hb hml hown hT hE hW hl.1 (Or.inl (by decide)) (so_136 h0 g _) rfl cf_X2_copyFrom wq918 wq64 wn1158 (c_X2_copyFromF l D g T h0 s0 hW.2.1 136 xd_136 146 xd_146 (by decide) p0) ⟨rfl, rfl, ⟨by decide, by decide⟩, ⟨by decide, by decide⟩⟩ rfl rfl (Nat.le_of_ble_eq_true rfl) dX10_undo_15) hW (fun s5 H locs hp6 hW => ?_)
  obtain ⟨fs5, hp6⟩ := hp6
  have hF7 := hF.call fs5 (fun k h => by omega)
  have q8 : s5 1 1 = s0 1 1 := (congrFun (fs5 _ (by omega)) _).trans k1_1
  have q9 : s5 0 11 = s0 0 11 := (congrFun (fs5 _ (by omega)) _).trans k0_11
  have ghp6 := hp6.2
  have H15 := ghp6
  refine x_aload_n hx hb hl 0 rfl dX10_undo_18 rfl ?_
  refine x_get (j := 11) (v := .int (xJ (s5 0 11))) hx hb hown hT hE hW cls_X10 (Or.inl (by decide)) (so_0 h0 g _) (by decide) rfl wq523 dX10_undo_19 ?_
  refine x_rd hW (fun x10 ex10 rx10 => ?_)
  have fx10 : x10 = s0 0 11 := ex10.trans q9
  rw [eQ]
  exact x_zret hx hb hr hlk hW (by omega) ⟨hF7, ⟨hp6.1.1, trivial⟩, by first | exact ⟨by omega, Or.inr ⟨by omega, H15⟩⟩ | exact ⟨by omega, Or.inl ⟨by omega, rfl, rfl⟩⟩⟩ dX10_undo_22

set_option maxHeartbeats 4000000 in
set_option maxRecDepth 100000 in
theorem c_X10_servedByF (l : Launch) (D : va_G) (g : xG) (T : Nat × Nat × Nat) (h0 : Nat) (s0 : xS) (hσ : xRR s0) (n : Int) (rn : xR n) (w : Int) (rw : xR w) (K9 : Int → Int) (n9 : Int → Int) (w9 : Int → Int → Int) (q9 : zLaw) (l9 : Int → Int) (hok : zLok q9) (hlc : zLD s0 q9) (hK : ∀ t : Int, 0 ≤ t → t < 100 → s0 4 t = K9 t) (hlm : ∀ i : Int, 0 ≤ i → i < 4 → s0 129 i = l9 i ∧ (l9 i = -1 ∨ (0 ≤ l9 i ∧ l9 i < 100))) (hw : zWc s0 136 n9 w9) (hY : zYq (zYc s0 136)) (hok4 : zok (zY4 (zYc s0 136))) (p0 : IC s0) (p1 : IS s0) (p2 : IQ s0) : Met l yX10_servedBy (xws yX10_servedBy cX10_servedBy 4 (some .int)) { frames := 6, cells := 0, slots := 0, locals := 155 } (xP [.ref (h0 + 0), .int (xJ n), .int (xJ w)] D g T h0 s0) (xQi D g h0 (fun r τ => xFr (fun k => (7 ≤ k ∧ k < 107) ∨ k = 107 ∨ k = 115 ∨ k = 116 ∨ k = 130 ∨ k = 131 ∨ k = 132 ∨ k = 133 ∨ k = 134 ∨ k = 135 ∨ k = 158 ∨ k = 159 ∨ k = 160 ∨ k = 163 ∨ k = 164 ∨ k = 165 ∨ k = 166 ∨ k = 167) s0 τ ∧ (((IC τ) ∧ (IS τ) ∧ (IQ τ) ∧ True) ∧ (((1 ≤ n ∧ n ≤ 60 ∧ 0 ≤ w ∧ w ≤ 2 ∧ (w ≠ 1 → zYc s0 136 0 ≠ -1) ∧ (w ≠ 0 → zYc s0 136 1 ≠ -1)) ∧ r = zSm (if w < 2 then xud (zY0 (zYc s0 136)) (1 - w) (-1) else zY0 (zYc s0 136)) - zSm (zmn K9 q9 l9 n9 w9 (-1) n.toNat (if w < 2 then xud (zY0 (zYc s0 136)) (1 - w) (-1) else zY0 (zYc s0 136)))) ∨ (¬ (1 ≤ n ∧ n ≤ 60 ∧ 0 ≤ w ∧ w ≤ 2 ∧ (w ≠ 1 → zYc s0 136 0 ≠ -1) ∧ (w ≠ 0 → zYc s0 136 1 ≠ -1)) ∧ r = -1))))) 0 0 (xA h0) := by
  refine x_met hσ (by decide) (Nat.le_of_ble_eq_true rfl) ?_
  intro p e s m args below meth c hx hb hr hml hown hT hlk hnm hE hW ls hl
  have hl : lv_has ls 4 [(0, .ref (h0 + 0)), (1, .int (xJ n)), (2, .int (xJ w))] := hl
  obtain ⟨Q, eQ⟩ : ∃ Q, Q = MQ below (xQi D g h0 (fun r τ => xFr (fun k => (7 ≤ k ∧ k < 107) ∨ k = 107 ∨ k = 115 ∨ k = 116 ∨ k = 130 ∨ k = 131 ∨ k = 132 ∨ k = 133 ∨ k = 134 ∨ k = 135 ∨ k = 158 ∨ k = 159 ∨ k = 160 ∨ k = 163 ∨ k = 164 ∨ k = 165 ∨ k = 166 ∨ k = 167) s0 τ ∧ (((IC τ) ∧ (IS τ) ∧ (IQ τ) ∧ True) ∧ (((1 ≤ n ∧ n ≤ 60 ∧ 0 ≤ w ∧ w ≤ 2 ∧ (w ≠ 1 → zYc s0 136 0 ≠ -1) ∧ (w ≠ 0 → zYc s0 136 1 ≠ -1)) ∧ r = zSm (if w < 2 then xud (zY0 (zYc s0 136)) (1 - w) (-1) else zY0 (zYc s0 136)) - zSm (zmn K9 q9 l9 n9 w9 (-1) n.toNat (if w < 2 then xud (zY0 (zYc s0 136)) (1 - w) (-1) else zY0 (zYc s0 136)))) ∨ (¬ (1 ≤ n ∧ n ≤ 60 ∧ 0 ≤ w ∧ w ≤ 2 ∧ (w ≠ 1 → zYc s0 136 0 ≠ -1) ∧ (w ≠ 0 → zYc s0 136 1 ≠ -1)) ∧ r = -1))))) args s 0 0 (xA h0) := ⟨_, rfl⟩
  rw [← eQ]
  generalize hHe : ([] : List Loc) = locs at hW ⊢
  obtain ⟨H, eH⟩ : ∃ H, H = s.heap := ⟨_, rfl⟩
  rw [← eH] at hW ⊢
  have hF : xFr (fun k => (7 ≤ k ∧ k < 107) ∨ k = 107 ∨ k = 115 ∨ k = 116 ∨ k = 130 ∨ k = 131 ∨ k = 132 ∨ k = 133 ∨ k = 134 ∨ k = 135 ∨ k = 158 ∨ k = 159 ∨ k = 160 ∨ k = 163 ∨ k = 164 ∨ k = 165 ∨ k = 166 ∨ k = 167) s0 s0 := xFr.rf
  have k1_1 : s0 1 1 = s0 1 1 := rfl
  refine x_iload_n hx hb hl 1 rfl dX10_servedBy_0 rfl ?_
  refine x_iconst hx hb dX10_servedBy_1 ?_
  refine x_bipush hx hb dX10_servedBy_2 (by decide) ?_
  refine x_goi (x_runS (As := [.int (xJ n), .int (xJ 1), .int (xJ 60)]) hx hb hml hown hT hE hW hl.1 cf_X10_isIn wq562 wq561 (c_X10_isIn l D g T h0 s0 hW.2.1 n rn 1 (by decide) 60 (by decide)) ⟨rfl, rfl, ⟨by decide, by decide⟩, ⟨by decide, by decide⟩⟩ rfl rfl (Nat.le_of_ble_eq_true rfl) dX10_servedBy_4) hW (fun x1 s2 H locs rx1 hp3 hW => ?_)
  obtain ⟨es2, hp3⟩ := hp3
  subst es2
  have ghp3 := hp3
  refine x_if_eq (tgt := 19) hx hb rx1 dX10_servedBy_7 (by decide) (fun c4 => ?_) (fun c4 => ?_)
  · skip
    refine x_iconst hx hb dX10_servedBy_19 ?_
    rw [eQ]
    exact x_iret hx hb hr hlk hW (by decide) ⟨hF, ⟨p0, p1, p2, trivial⟩, Or.inr ⟨by omega, by omega⟩⟩ dX10_servedBy_20
  refine x_iload_n hx hb hl 2 rfl dX10_servedBy_10 rfl ?_
  refine x_iconst hx hb dX10_servedBy_11 ?_
  refine x_iconst hx hb dX10_servedBy_12 ?_
  refine x_goi (x_runS (As := [.int (xJ w), .int (xJ 0), .int (xJ 2)]) hx hb hml hown hT hE hW hl.1 cf_X10_isIn wq562 wq561 (c_X10_isIn l D g T h0 s0 hW.2.1 w rw 0 (by decide) 2 (by decide)) ⟨rfl, rfl, ⟨by decide, by decide⟩, ⟨by decide, by decide⟩⟩ rfl rfl (Nat.le_of_ble_eq_true rfl) dX10_servedBy_13) hW (fun x5 s6 H locs rx5 hp7 hW => ?_)
  obtain ⟨es6, hp7⟩ := hp7
  subst es6
  have ghp7 := hp7
  refine x_if_ne (tgt := 21) hx hb rx5 dX10_servedBy_16 (by decide) (fun c8 => ?_) (fun c8 => ?_)
  · skip
    refine x_iload_n hx hb hl 2 rfl dX10_servedBy_21 rfl ?_
    refine x_iconst hx hb dX10_servedBy_22 ?_
    have J37 : ∀ (H : Heap) (locs : List Loc) (ls : Array Slot), ((w ≠ 1 → zYc s0 136 0 ≠ -1)) → xW D g h0 s H locs s0 → lv_has ls 4 [(0, .ref (h0 + 0)), (1, .int (xJ n)), (2, .int (xJ w))] → W p l e { frames := 6, cells := 0, slots := 0, locals := 155 } s m args below meth c H locs 0 0 Q (F0 m 37 ls []) := by
      intro H locs ls v37_0 hW hl
      refine x_iload_n hx hb hl 2 rfl dX10_servedBy_37 rfl ?_
      have J54 : ∀ (H : Heap) (locs : List Loc) (ls : Array Slot), ((w ≠ 1 → zYc s0 136 0 ≠ -1)) → ((w ≠ 0 → zYc s0 136 1 ≠ -1)) → xW D g h0 s H locs s0 → lv_has ls 4 [(0, .ref (h0 + 0)), (1, .int (xJ n)), (2, .int (xJ w))] → W p l e { frames := 6, cells := 0, slots := 0, locals := 155 } s m args below meth c H locs 0 0 Q (F0 m 54 ls []) := by
        intro H locs ls v54_0 v54_1 hW hl
        refine x_aload_n hx hb hl 0 rfl dX10_servedBy_54 rfl ?_
        refine x_get (j := 6) (v := .ref (h0 + 156)) hx hb hown hT hE hW cls_X10 (Or.inl (by decide)) (so_0 h0 g _) (by decide) rfl wq518 dX10_servedBy_55 ?_
        refine x_gor (x_runVN (As := []) hx hb hml hown hT hE hW hl.1 (Or.inl (by decide)) (so_156 h0 g _) rfl cf_X3_copyOfNow wq914 wq63 wn912 (c_X3_copyOfNowF l D g T h0 s0 hW.2.1 p0) ⟨rfl, rfl, ⟨by decide, by decide⟩, ⟨by decide, by decide⟩⟩ rfl rfl (Nat.le_of_ble_eq_true rfl) dX10_servedBy_58) hW (fun x9 s10 H locs hp11 hW => ?_)
        obtain ⟨ex9, hp11⟩ := hp11
        subst ex9
        obtain ⟨fs10, hp11⟩ := hp11
        have hF12 := hF.call fs10 (fun k h => by omega)
        have q13 : IS s10 := IS_f (fun k hk => fs10 k (by unfold suIS at hk; omega)) p1
        have q14 : IQ s10 := IQ_f (fun k hk => fs10 k (by unfold suIQ at hk; omega)) p2
        have q15 : s10 1 1 = s0 1 1 := (congrFun (fs10 _ (by omega)) _).trans k1_1
        have ghp11 := hp11.2
        have H58 := ghp11
        have Y58 : zYc s10 158 = zY0 (zYc s0 136) := by rw [H58.1] <;> exact congrArg zY0 (((zYc_f (fun o ho => fs10 (136 + o) (by omega))).symm).trans (zYc_f (fun o ho => hF12 (136 + o) (by omega))))
        have W58 : zWc s10 158 n9 w9 := hw.cp (fun q q1 q2 => (H58.2 q q1 q2).trans (by rw [← fs10 138 (by first | decide | omega), hF12 138 (by first | decide | omega)])) (fun k hk => hF12 k (by omega))
        refine lv_astore_n (lv' := [(3, .ref (h0 + 158)), (0, .ref (h0 + 0)), (1, .int (xJ n)), (2, .int (xJ w))]) hx hb dX10_servedBy_61 rfl hl (by decide) rfl (fun ls hl => ?_)
        refine x_iload_n hx hb hl 3 rfl dX10_servedBy_62 rfl ?_
        refine x_iconst hx hb dX10_servedBy_63 ?_
        have J76 : ∀ (s_76 : xS) (H : Heap) (locs : List Loc) (ls : Array Slot), (xFr (fun k => (7 ≤ k ∧ k < 107) ∨ k = 107 ∨ k = 115 ∨ k = 116 ∨ k = 130 ∨ k = 131 ∨ k = 132 ∨ k = 133 ∨ k = 134 ∨ k = 135 ∨ k = 158 ∨ k = 159 ∨ k = 160 ∨ k = 163 ∨ k = 164 ∨ k = 165 ∨ k = 166 ∨ k = 167) s0 s_76) → (IS s_76) → (IQ s_76) → (s_76 1 1 = s0 1 1) → (IC s_76) → (zYc s_76 158 = (if w < 2 then xud (zY0 (zYc s0 136)) (1 - w) (-1) else zY0 (zYc s0 136))) → (zWc s_76 158 n9 w9) → ((w ≠ 1 → zYc s0 136 0 ≠ -1)) → ((w ≠ 0 → zYc s0 136 1 ≠ -1)) → xW D g h0 s H locs s_76 → lv_has ls 4 [(0, .ref (h0 + 0)), (1, .int (xJ n)), (3, .ref (h0 + 158))] → W p l e { frames := 6, cells := 0, slots := 0, locals := 155 } s m args below meth c H locs 0 0 Q (F0 m 76 ls []) := by
          intro s_76 H locs ls hF_76 q76_0 q76_1 q76_2 q76_3 v76_0 v76_1 v76_2 v76_3 hW hl
          refine x_aload_n hx hb hl 0 rfl dX10_servedBy_76 rfl ?_
          have W76 := v76_1
          have Q76 : zYq (if w < 2 then xud (zY0 (zYc s0 136)) (1 - w) (-1) else zY0 (zYc s0 136)) := by
            split
            · exact zYq_x (zY0_q hY) (by omega)
            · exact zY0_q hY
          have K76 : zok (zY4 (if w < 2 then xud (zY0 (zYc s0 136)) (1 - w) (-1) else zY0 (zYc s0 136))) := by
            split
            · exact zok_x (by rw [zY0_4]; exact hok4) (by omega)
            · rw [zY0_4]; exact hok4
          refine x_get (j := 5) (v := .ref (h0 + 128)) hx hb hown hT hE hW cls_X10 (Or.inl (by decide)) (so_0 h0 g _) (by decide) rfl wq517 dX10_servedBy_77 ?_
          refine x_aload_n hx hb hl 2 rfl dX10_servedBy_80 rfl ?_
          refine x_iload_n hx hb hl 1 rfl dX10_servedBy_81 rfl ?_
          refine x_iconst hx hb dX10_servedBy_82 ?_
          refine x_goi (x_runVN (As := [.ref (h0 + 158), .int (xJ n), .int (xJ (-1))]) hx hb hml hown hT hE hW hl.1 (Or.inl (by decide)) (so_128 h0 g _) rfl cf_X0_goOn wq761 wq34 wn759 (c_X0_goOnF l D g T h0 s_76 hW.2.1 158 xd_158 n rn (-1) (by decide) K9 n9 w9 q9 l9 (hok) (by first | exact hlc | exact hlc.f (fun k hk => hF_76 k (by omega))) (by first | exact hK | exact fun t t1 t2 => by rw [hF_76 4 (by first | decide | omega)]; exact hK t t1 t2) (by first | exact hlm | exact fun i i1 i2 => by rw [hF_76 129 (by first | decide | omega)]; exact hlm i i1 i2) (W76) (by rw [v76_0]; exact Q76) (by rw [v76_0]; exact K76) (by omega) q76_3 q76_0 q76_1) ⟨rfl, rfl, ⟨by decide, by decide⟩, ⟨by decide, by decide⟩⟩ rfl rfl (Nat.le_of_ble_eq_true rfl) dX10_servedBy_83) hW (fun x16 s17 H locs rx16 hp18 hW => ?_)
          obtain ⟨fs17, hp18⟩ := hp18
          have hF19 := hF_76.call fs17 (fun k h => by omega)
          have q20 : s17 1 1 = s0 1 1 := (congrFun (fs17 _ (by omega)) _).trans q76_2
          have ghp18 := hp18.2
          have H83 := ghp18
          rw [v76_0] at H83
          rw [eQ]
          exact x_iret hx hb hr hlk hW rx16 ⟨hF19, ⟨hp18.1.1, hp18.1.2.1, hp18.1.2.2.1, trivial⟩, Or.inl ⟨⟨by omega, by omega, by omega, by omega, v76_2, v76_3⟩, by rw [H83.2.2.2, H83.1]⟩⟩ dX10_servedBy_86
        refine x_icmp_ge (tgt := 76) hx hb rw (by decide) dX10_servedBy_64 (by decide) (fun c21 => ?_) (fun c21 => ?_)
        · skip
          exact J76 s10 H locs ls hF12 q13 q14 q15 hp11.1.1 (by first | (rw [E75, zYc_uJ (by omega), Y58, if_pos (by omega)]) | (rw [Y58, if_neg (by omega)])) (by first | exact W58.f (by rw [E75, xU_k _ _ _ (by first | decide | omega)]) (fun k hk => by rw [E75, xU_k _ _ _ (by first | decide | omega)]) | exact W58) (v54_0) (v54_1) hW (lv_sub hl [1, 2, 0] rfl)
        refine x_aload_n hx hb hl 0 rfl dX10_servedBy_67 rfl ?_
        refine x_getN (j := 0) (v := .ref (h0 + 159)) hx hb hown hT hE hW cls_X2 (Or.inl (by decide)) (so_158 h0 g _) (by decide) rfl wn385 dX10_servedBy_68 ?_
        refine x_iconst hx hb dX10_servedBy_71 ?_
        refine x_iload_n hx hb hl 3 rfl dX10_servedBy_72 rfl ?_
        refine x_isub hx hb dX10_servedBy_73 ?_
        refine x_iconst hx hb dX10_servedBy_74 ?_
        refine x_iast hx hb hE hW (by decide) (fun σ => sa_159 h0 g σ) (by omega) (by decide) (by decide) dX10_servedBy_75 (fun H locs s22 es22 hW => ?_)
        have q23 : IS s22 := by rw [es22]; exact IS_o (by unfold suIS; first | decide | omega) q13
        have q24 : IQ s22 := by rw [es22]; exact IQ_o (by unfold suIQ; first | decide | omega) q14
        have q25 : s22 1 1 = s0 1 1 := (show s22 1 1 = s10 1 1 from by rw [es22, xU_k _ _ _ (by first | decide | omega)]).trans q15
        have q26 : IC s22 := by rw [es22]; exact IC_o (by decide) hp11.1.1
        have hF27 := hF12.put es22 (by omega)
        have E75 := es22
        exact J76 s22 H locs ls hF27 q23 q24 q25 q26 (by first | (rw [E75, zYc_uJ (by omega), Y58, if_pos (by omega)]) | (rw [Y58, if_neg (by omega)])) (by first | exact W58.f (by rw [E75, xU_k _ _ _ (by first | decide | omega)]) (fun k hk => by rw [E75, xU_k _ _ _ (by first | decide | omega)]) | exact W58) (v54_0) (v54_1) hW (lv_sub hl [1, 2, 0] rfl)
      refine x_if_eq (tgt := 54) hx hb rw dX10_servedBy_38 (by decide) (fun c28 => ?_) (fun c28 => ?_)
      · skip
        exact J54 H locs ls (by first | exact v37_0 | (intro z; omega)) (fun z => by omega) hW (lv_sub hl [0, 1, 2] rfl)
      refine x_aload_n hx hb hl 0 rfl dX10_servedBy_41 rfl ?_
      refine x_get (j := 8) (v := .ref (h0 + 136)) hx hb hown hT hE hW cls_X10 (Or.inl (by decide)) (so_0 h0 g _) (by decide) rfl wq520 dX10_servedBy_42 ?_
      refine x_iconst hx hb dX10_servedBy_45 ?_
      refine x_goi (x_runVN (As := [.int (xJ 1)]) hx hb hml hown hT hE hW hl.1 (Or.inl (by decide)) (so_136 h0 g _) rfl cf_X2_hasJudge wq773 wq37 wn911 (c_X2_hasJudgeJ l D g T h0 s0 hW.2.1 136 xd_136 1 (by decide) p0) ⟨rfl, rfl, ⟨by decide, by decide⟩, ⟨by decide, by decide⟩⟩ rfl rfl (Nat.le_of_ble_eq_true rfl) dX10_servedBy_46) hW (fun x29 s30 H locs rx29 hp31 hW => ?_)
      obtain ⟨es30, hp31⟩ := hp31
      subst es30
      have ghp31 := hp31
      have H46 := ghp31
      simp only [Nat.reduceAdd] at H46
      have J46 : zYc s0 136 1 = s0 137 1 := zYc_J (by omega)
      refine x_if_ne (tgt := 54) hx hb rx29 dX10_servedBy_49 (by decide) (fun c32 => ?_) (fun c32 => ?_)
      · skip
        exact J54 H locs ls (by first | exact v37_0 | (intro z; omega)) (fun z => by omega) hW (lv_sub hl [0, 1, 2] rfl)
      refine x_iconst hx hb dX10_servedBy_52 ?_
      rw [eQ]
      exact x_iret hx hb hr hlk hW (by decide) ⟨hF, ⟨p0, p1, p2, trivial⟩, Or.inr ⟨fun z => by
          have z1 := z.2.2.2.2.1
          have z2 := z.2.2.2.2.2
          have a : zYc s0 136 0 = s0 137 0 := zYc_J (by omega)
          have b : zYc s0 136 1 = s0 137 1 := zYc_J (by omega)
          omega, by omega⟩⟩ dX10_servedBy_53
    refine x_icmp_eq (tgt := 37) hx hb rw (by decide) dX10_servedBy_23 (by decide) (fun c33 => ?_) (fun c33 => ?_)
    · skip
      exact J37 H locs ls (fun z => by omega) hW (lv_sub hl [0, 1, 2] rfl)
    refine x_aload_n hx hb hl 0 rfl dX10_servedBy_26 rfl ?_
    refine x_get (j := 8) (v := .ref (h0 + 136)) hx hb hown hT hE hW cls_X10 (Or.inl (by decide)) (so_0 h0 g _) (by decide) rfl wq520 dX10_servedBy_27 ?_
    refine x_iconst hx hb dX10_servedBy_30 ?_
    refine x_goi (x_runVN (As := [.int (xJ 0)]) hx hb hml hown hT hE hW hl.1 (Or.inl (by decide)) (so_136 h0 g _) rfl cf_X2_hasJudge wq773 wq37 wn911 (c_X2_hasJudgeJ l D g T h0 s0 hW.2.1 136 xd_136 0 (by decide) p0) ⟨rfl, rfl, ⟨by decide, by decide⟩, ⟨by decide, by decide⟩⟩ rfl rfl (Nat.le_of_ble_eq_true rfl) dX10_servedBy_31) hW (fun x34 s35 H locs rx34 hp36 hW => ?_)
    obtain ⟨es35, hp36⟩ := hp36
    subst es35
    have ghp36 := hp36
    have H31 := ghp36
    simp only [Nat.reduceAdd] at H31
    have J31 : zYc s0 136 0 = s0 137 0 := zYc_J (by omega)
    refine x_if_eq (tgt := 52) hx hb rx34 dX10_servedBy_34 (by decide) (fun c37 => ?_) (fun c37 => ?_)
    · skip
      refine x_iconst hx hb dX10_servedBy_52 ?_
      rw [eQ]
      exact x_iret hx hb hr hlk hW (by decide) ⟨hF, ⟨p0, p1, p2, trivial⟩, Or.inr ⟨fun z => by
          have z1 := z.2.2.2.2.1
          have z2 := z.2.2.2.2.2
          have a : zYc s0 136 0 = s0 137 0 := zYc_J (by omega)
          have b : zYc s0 136 1 = s0 137 1 := zYc_J (by omega)
          omega, by omega⟩⟩ dX10_servedBy_53
    exact J37 H locs ls (fun z => by omega) hW (lv_sub hl [0, 1, 2] rfl)
  refine x_iconst hx hb dX10_servedBy_19 ?_
  rw [eQ]
  exact x_iret hx hb hr hlk hW (by decide) ⟨hF, ⟨p0, p1, p2, trivial⟩, Or.inr ⟨by omega, by omega⟩⟩ dX10_servedBy_20

noncomputable def zsV (K : Int → Int) (q : zLaw) (l n : Int → Int) (w : Int → Int → Int) (Y : Int → Int) (k : Nat) (ah : Int) : Int := zSm Y - zSm (zmn K q l n w ah k (zY0 Y))
noncomputable def zba (S Y : Int → Int) : Nat → Int × Int
  | 0 => (S (-1), -2)
  | k + 1 => @ite _ (zOw Y (k : Int) ∧ (zba S Y k).1 < S (k : Int)) (Classical.propDecidable _) (S (k : Int), (k : Int)) (zba S Y k)
theorem zba_y {S Y : Int → Int} {k : Nat} {i : Int} (hi : i = (k : Int)) (h : zOw Y i) (h2 : (zba S Y k).1 < S i) : zba S Y (k + 1) = (S i, i) := by
  subst hi
  exact if_pos ⟨h, h2⟩
theorem zba_n {S Y : Int → Int} {k : Nat} {i : Int} (hi : i = (k : Int)) (h : ¬ zOw Y i ∨ S i ≤ (zba S Y k).1) : zba S Y (k + 1) = zba S Y k := by
  subst hi
  exact if_neg (fun c => h.elim (fun z => z c.1) (fun z => absurd c.2 (by omega)))
/-- what is told of the day behind the minutes tried -/
def ztr (sv : Int) (Z : Int → Int) (w : Int) : Int := if w = 0 then sv else if w = 1 then Z 46 else if w = 2 then zsu (fun f => if Z (4 + f) ≠ -1 ∧ Z (34 + f) ≠ 0 then 1 else 0) 10 else if w = 3 then Z 47 else if w = 4 then Z 48 else if w = 5 then zsu (fun f => if Z (4 + f) ≠ -1 ∧ Z (14 + f) = 0 then 1 else 0) 10 else if w < 20 then Z (w - 6) else if w < 30 then Z (w - 6) else Z (w - 30)
set_option maxHeartbeats 4000000 in
set_option maxRecDepth 100000 in
theorem c_X3_bestAheadF (l : Launch) (D : va_G) (g : xG) (T : Nat × Nat × Nat) (h0 : Nat) (s0 : xS) (hσ : xRR s0) (n : Int) (rn : xR n) (K9 : Int → Int) (n9 : Int → Int) (w9 : Int → Int → Int) (q9 : zLaw) (l9 : Int → Int) (hok : zLok q9) (hlc : zLD s0 q9) (hK : ∀ t : Int, 0 ≤ t → t < 100 → s0 4 t = K9 t) (hlm : ∀ i : Int, 0 ≤ i → i < 4 → s0 129 i = l9 i ∧ (l9 i = -1 ∨ (0 ≤ l9 i ∧ l9 i < 100))) (hw : zWc s0 136 n9 w9) (hY : zYq (zYc s0 136)) (hok4 : zok (zY4 (zYc s0 136))) (hn : 0 ≤ n) (p0 : IC s0) (p1 : IS s0) (p2 : IQ s0) : Met l yX3_bestAhead (xws yX3_bestAhead cX3_bestAhead 5 (some .int)) { frames := 6, cells := 0, slots := 0, locals := 155 } (xP [.ref (h0 + 156), .int (xJ n)] D g T h0 s0) (xQi D g h0 (fun r τ => xFr (fun k => (7 ≤ k ∧ k < 107) ∨ k = 107 ∨ k = 115 ∨ k = 116 ∨ k = 130 ∨ k = 131 ∨ k = 132 ∨ k = 133 ∨ k = 134 ∨ k = 135 ∨ k = 156 ∨ k = 158 ∨ k = 159 ∨ k = 160 ∨ k = 163 ∨ k = 164 ∨ k = 165 ∨ k = 166 ∨ k = 167) s0 τ ∧ (((IC τ) ∧ (IS τ) ∧ (IQ τ) ∧ True) ∧ ((r, τ 156 6) = zba (zsV K9 q9 l9 n9 w9 (zYc s0 136) n.toNat) (zYc s0 136) 10)))) 0 0 (xA h0) := by
  refine x_met hσ (by decide) (Nat.le_of_ble_eq_true rfl) ?_
  intro p e s m args below meth c hx hb hr hml hown hT hlk hnm hE hW ls hl
  have hl : lv_has ls 5 [(0, .ref (h0 + 156)), (1, .int (xJ n))] := hl
  obtain ⟨Q, eQ⟩ : ∃ Q, Q = MQ below (xQi D g h0 (fun r τ => xFr (fun k => (7 ≤ k ∧ k < 107) ∨ k = 107 ∨ k = 115 ∨ k = 116 ∨ k = 130 ∨ k = 131 ∨ k = 132 ∨ k = 133 ∨ k = 134 ∨ k = 135 ∨ k = 156 ∨ k = 158 ∨ k = 159 ∨ k = 160 ∨ k = 163 ∨ k = 164 ∨ k = 165 ∨ k = 166 ∨ k = 167) s0 τ ∧ (((IC τ) ∧ (IS τ) ∧ (IQ τ) ∧ True) ∧ ((r, τ 156 6) = zba (zsV K9 q9 l9 n9 w9 (zYc s0 136) n.toNat) (zYc s0 136) 10)))) args s 0 0 (xA h0) := ⟨_, rfl⟩
  rw [← eQ]
  generalize hHe : ([] : List Loc) = locs at hW ⊢
  obtain ⟨H, eH⟩ : ∃ H, H = s.heap := ⟨_, rfl⟩
  rw [← eH] at hW ⊢
  have hF : xFr (fun k => (7 ≤ k ∧ k < 107) ∨ k = 107 ∨ k = 115 ∨ k = 116 ∨ k = 130 ∨ k = 131 ∨ k = 132 ∨ k = 133 ∨ k = 134 ∨ k = 135 ∨ k = 156 ∨ k = 158 ∨ k = 159 ∨ k = 160 ∨ k = 163 ∨ k = 164 ∨ k = 165 ∨ k = 166 ∨ k = 167) s0 s0 := xFr.rf
  have k1_1 : s0 1 1 = s0 1 1 := rfl
  refine x_aload_n hx hb hl 0 rfl dX3_bestAhead_0 rfl ?_
  refine x_get (j := 0) (v := .ref (h0 + 128)) hx hb hown hT hE hW cls_X3 (Or.inl (by decide)) (so_156 h0 g _) (by decide) rfl wq450 dX3_bestAhead_1 ?_
  refine x_aload_n hx hb hl 0 rfl dX3_bestAhead_4 rfl ?_
  refine x_gor (x_runV (As := []) hx hb hml hown hT hE hW hl.1 (Or.inl (by decide)) (so_156 h0 g _) rfl cf_X3_copyOfNow wq914 wq63 wq992 (c_X3_copyOfNowF l D g T h0 s0 hW.2.1 p0) ⟨rfl, rfl, ⟨by decide, by decide⟩, ⟨by decide, by decide⟩⟩ rfl rfl (Nat.le_of_ble_eq_true rfl) dX3_bestAhead_5) hW (fun x1 s2 H locs hp3 hW => ?_)
  obtain ⟨ex1, hp3⟩ := hp3
  subst ex1
  obtain ⟨fs2, hp3⟩ := hp3
  have hF4 := hF.call fs2 (fun k h => by omega)
  have q5 : IS s2 := IS_f (fun k hk => fs2 k (by unfold suIS at hk; omega)) p1
  have q6 : IQ s2 := IQ_f (fun k hk => fs2 k (by unfold suIQ at hk; omega)) p2
  have q7 : s2 1 1 = s0 1 1 := (congrFun (fs2 _ (by omega)) _).trans k1_1
  have ghp3 := hp3.2
  have H5 := ghp3
  have Y5 : zYc s2 158 = zY0 (zYc s0 136) := by rw [H5.1] <;> exact congrArg zY0 (((zYc_f (fun o ho => fs2 (136 + o) (by omega))).symm).trans (zYc_f (fun o ho => hF4 (136 + o) (by omega))))
  have W5 : zWc s2 158 n9 w9 := hw.cp (fun q q1 q2 => (H5.2 q q1 q2).trans (by rw [← fs2 138 (by first | decide | omega), hF4 138 (by first | decide | omega)])) (fun k hk => hF4 k (by omega))
  refine x_iload_n hx hb hl 1 rfl dX3_bestAhead_8 rfl ?_
  refine x_iconst hx hb dX3_bestAhead_9 ?_
  refine x_goi (x_runVN (As := [.ref (h0 + 158), .int (xJ n), .int (xJ (-1))]) hx hb hml hown hT hE hW hl.1 (Or.inl (by decide)) (so_128 h0 g _) rfl cf_X0_goOn wq761 wq34 wn1028 (c_X0_goOnF l D g T h0 s2 hW.2.1 158 xd_158 n rn (-1) (by decide) K9 n9 w9 q9 l9 (hok) (by first | exact hlc | exact hlc.f (fun k hk => hF4 k (by omega))) (by first | exact hK | exact fun t t1 t2 => by rw [hF4 4 (by first | decide | omega)]; exact hK t t1 t2) (by first | exact hlm | exact fun i i1 i2 => by rw [hF4 129 (by first | decide | omega)]; exact hlm i i1 i2) (W5) (by rw [Y5]; exact zY0_q hY) (by rw [Y5]; rw [zY0_4]; exact hok4) (by omega) hp3.1.1 q5 q6) ⟨rfl, rfl, ⟨by decide, by decide⟩, ⟨by decide, by decide⟩⟩ rfl rfl (Nat.le_of_ble_eq_true rfl) dX3_bestAhead_10) hW (fun x8 s9 H locs rx8 hp10 hW => ?_)
  obtain ⟨fs9, hp10⟩ := hp10
  have hF11 := hF4.call fs9 (fun k h => by omega)
  have q12 : s9 1 1 = s0 1 1 := (congrFun (fs9 _ (by omega)) _).trans q7
  have ghp10 := hp10.2
  have H10 := ghp10
  have R10 : x8 = (zsV K9 q9 l9 n9 w9 (zYc s0 136) n.toNat) (-1) := by unfold zsV; rw [H10.2.2.2, H10.1, Y5, zY0_sm]
  refine lv_istore_n (lv' := [(2, .int (xJ x8)), (0, .ref (h0 + 156)), (1, .int (xJ n))]) hx hb dX3_bestAhead_13 rfl hl (by decide) rfl (fun ls hl => ?_)
  refine x_aload_n hx hb hl 1 rfl dX3_bestAhead_14 rfl ?_
  refine x_bipush hx hb dX3_bestAhead_15 (by decide) ?_
  refine x_put (j := 6) hx hb hown hT hE hW cls_X3 (by decide) (fun σ => so_156 h0 g σ) (by decide) (st_X3_6 h0 s9 156 (-2)) (ln_X3_6 h0 _ _) wq457 rfl rfl rfl (by decide) dX3_bestAhead_17 (fun H locs s13 es13 hW => ?_)
  have q14 : s13 1 1 = s0 1 1 := (show s13 1 1 = s9 1 1 from by rw [es13, xU_k _ _ _ (by first | decide | omega)]).trans q12
  have q15 : IC s13 := by rw [es13]; exact IC_o (by decide) hp10.1.1
  have q16 : IS s13 := by rw [es13]; exact IS_o (by unfold suIS; first | decide | omega) hp10.1.2.1
  have q17 : IQ s13 := by rw [es13]; exact IQ_o (by unfold suIQ; first | decide | omega) hp10.1.2.2.1
  have hF18 := hF11.put es13 (by omega)
  have E17 := es13
  refine x_iconst hx hb dX3_bestAhead_20 ?_
  refine lv_istore_n (lv' := [(3, .int (xJ 0)), (2, .int (xJ x8)), (0, .ref (h0 + 156)), (1, .int (xJ n))]) hx hb dX3_bestAhead_21 rfl hl (by decide) rfl (fun ls hl => ?_)
  have L22 : ∀ (fu : Nat) (i2_22 : Int) (i3_22 : Int) (s_22 : xS) (H : Heap) (locs : List Loc) (ls : Array Slot), (xR i2_22) → (xR i3_22) → (xFr (fun k => (7 ≤ k ∧ k < 107) ∨ k = 107 ∨ k = 115 ∨ k = 116 ∨ k = 130 ∨ k = 131 ∨ k = 132 ∨ k = 133 ∨ k = 134 ∨ k = 135 ∨ k = 156 ∨ k = 158 ∨ k = 159 ∨ k = 160 ∨ k = 163 ∨ k = 164 ∨ k = 165 ∨ k = 166 ∨ k = 167) s0 s_22) → (s_22 1 1 = s0 1 1) → (IC s_22) → (IS s_22) → (IQ s_22) → (0 ≤ i3_22 ∧ i3_22 ≤ 10) → ((i2_22, s_22 156 6) = zba (zsV K9 q9 l9 n9 w9 (zYc s0 136) n.toNat) (zYc s0 136) (i3_22).toNat) → (10 - i3_22).toNat < fu → xW D g h0 s H locs s_22 → lv_has ls 5 [(0, .ref (h0 + 156)), (1, .int (xJ n)), (2, .int (xJ i2_22)), (3, .int (xJ i3_22))] → W p l e { frames := 6, cells := 0, slots := 0, locals := 155 } s m args below meth c H locs 0 0 Q (F0 m 22 ls []) := by
    intro fu
    induction fu with
    | zero => intro i2_22 i3_22 s_22 H locs ls ri2_22 ri3_22 hF_22 q22_0 q22_1 q22_2 q22_3 v22_0 v22_1 hm; exact absurd hm (Nat.not_lt_zero _)
    | succ fu ih22 =>
      intro i2_22 i3_22 s_22 H locs ls ri2_22 ri3_22 hF_22 q22_0 q22_1 q22_2 q22_3 v22_0 v22_1 hm hW hl
      have hm_22 := fun (_ : Unit) => hm
      clear hm
      refine x_iload_n hx hb hl 3 rfl dX3_bestAhead_22 rfl ?_
      refine x_bipush hx hb dX3_bestAhead_23 (by decide) ?_
      refine x_icmp_ge (tgt := 77) hx hb ri3_22 (by decide) dX3_bestAhead_25 (by decide) (fun c19 => ?_) (fun c19 => ?_)
      · skip
        refine x_iload_n hx hb hl 2 rfl dX3_bestAhead_77 rfl ?_
        rw [eQ]
        exact x_iret hx hb hr hlk hW ri2_22 ⟨hF_22, ⟨q22_1, q22_2, q22_3, trivial⟩, by rw [v22_1, show (i3_22).toNat = 10 from by omega]⟩ dX3_bestAhead_78
      refine x_aload_n hx hb hl 0 rfl dX3_bestAhead_28 rfl ?_
      refine x_get (j := 1) (v := .ref (h0 + 136)) hx hb hown hT hE hW cls_X3 (Or.inl (by decide)) (so_156 h0 g _) (by decide) rfl wq451 dX3_bestAhead_29 ?_
      refine x_iload_n hx hb hl 3 rfl dX3_bestAhead_32 rfl ?_
      refine x_goi (x_runVN (As := [.int (xJ i3_22)]) hx hb hml hown hT hE hW hl.1 (Or.inl (by decide)) (so_136 h0 g _) rfl cf_X2_mustServe wq858 wq52 wn1041 (c_X2_mustServeF l D g T h0 s_22 hW.2.1 136 xd_136 i3_22 ri3_22 (by omega) q22_1) ⟨rfl, rfl, ⟨by decide, by decide⟩, ⟨by decide, by decide⟩⟩ rfl rfl (Nat.le_of_ble_eq_true rfl) dX3_bestAhead_33) hW (fun x20 s21 H locs rx20 hp22 hW => ?_)
      obtain ⟨es21, hp22⟩ := hp22
      subst es21
      have ghp22 := hp22
      have H33 := ghp22
      rw [show zYc s_22 136 = zYc s0 136 from zYc_f (fun o ho => hF_22 (136 + o) (by omega))] at H33
      have W33 : x20 = 1 → zOw (zYc s0 136) i3_22 := fun h => (H33.resolve_right (fun q => by omega)).2
      have W33n : x20 = 0 → ¬ zOw (zYc s0 136) i3_22 := fun h => (H33.resolve_left (fun q => by omega)).2
      refine x_if_ne (tgt := 42) hx hb rx20 dX3_bestAhead_36 (by decide) (fun c23 => ?_) (fun c23 => ?_)
      · skip
        refine x_aload_n hx hb hl 0 rfl dX3_bestAhead_42 rfl ?_
        refine x_get (j := 0) (v := .ref (h0 + 128)) hx hb hown hT hE hW cls_X3 (Or.inl (by decide)) (so_156 h0 g _) (by decide) rfl wq450 dX3_bestAhead_43 ?_
        have W33 := W33 (by omega)
        refine x_aload_n hx hb hl 0 rfl dX3_bestAhead_46 rfl ?_
        refine x_gor (x_runV (As := []) hx hb hml hown hT hE hW hl.1 (Or.inl (by decide)) (so_156 h0 g _) rfl cf_X3_copyOfNow wq914 wq63 wq992 (c_X3_copyOfNowF l D g T h0 s_22 hW.2.1 q22_1) ⟨rfl, rfl, ⟨by decide, by decide⟩, ⟨by decide, by decide⟩⟩ rfl rfl (Nat.le_of_ble_eq_true rfl) dX3_bestAhead_47) hW (fun x24 s25 H locs hp26 hW => ?_)
        obtain ⟨ex24, hp26⟩ := hp26
        subst ex24
        obtain ⟨fs25, hp26⟩ := hp26
        have hF27 := hF_22.call fs25 (fun k h => by omega)
        have q28 : s25 1 1 = s0 1 1 := (congrFun (fs25 _ (by omega)) _).trans q22_0
        have q29 : IS s25 := IS_f (fun k hk => fs25 k (by unfold suIS at hk; omega)) q22_2
        have q30 : IQ s25 := IQ_f (fun k hk => fs25 k (by unfold suIQ at hk; omega)) q22_3
        have ghp26 := hp26.2
        have H47 := ghp26
        have Y47 : zYc s25 158 = zY0 (zYc s0 136) := by rw [H47.1] <;> exact congrArg zY0 (((zYc_f (fun o ho => fs25 (136 + o) (by omega))).symm).trans (zYc_f (fun o ho => hF27 (136 + o) (by omega))))
        have W47 : zWc s25 158 n9 w9 := hw.cp (fun q q1 q2 => (H47.2 q q1 q2).trans (by rw [← fs25 138 (by first | decide | omega), hF27 138 (by first | decide | omega)])) (fun k hk => hF27 k (by omega))
        refine x_iload_n hx hb hl 1 rfl dX3_bestAhead_50 rfl ?_
        refine x_iload_n hx hb hl 3 rfl dX3_bestAhead_51 rfl ?_
        refine x_goi (x_runVN (As := [.ref (h0 + 158), .int (xJ n), .int (xJ i3_22)]) hx hb hml hown hT hE hW hl.1 (Or.inl (by decide)) (so_128 h0 g _) rfl cf_X0_goOn wq761 wq34 wn1028 (c_X0_goOnF l D g T h0 s25 hW.2.1 158 xd_158 n rn i3_22 ri3_22 K9 n9 w9 q9 l9 (hok) (by first | exact hlc | exact hlc.f (fun k hk => hF27 k (by omega))) (by first | exact hK | exact fun t t1 t2 => by rw [hF27 4 (by first | decide | omega)]; exact hK t t1 t2) (by first | exact hlm | exact fun i i1 i2 => by rw [hF27 129 (by first | decide | omega)]; exact hlm i i1 i2) (W47) (by rw [Y47]; exact zY0_q hY) (by rw [Y47]; rw [zY0_4]; exact hok4) (by omega) hp26.1.1 q29 q30) ⟨rfl, rfl, ⟨by decide, by decide⟩, ⟨by decide, by decide⟩⟩ rfl rfl (Nat.le_of_ble_eq_true rfl) dX3_bestAhead_52) hW (fun x31 s32 H locs rx31 hp33 hW => ?_)
        obtain ⟨fs32, hp33⟩ := hp33
        have hF34 := hF27.call fs32 (fun k h => by omega)
        have q35 : s32 1 1 = s0 1 1 := (congrFun (fs32 _ (by omega)) _).trans q28
        have ghp33 := hp33.2
        have H52 := ghp33
        have R52 : x31 = (zsV K9 q9 l9 n9 w9 (zYc s0 136) n.toNat) i3_22 := by unfold zsV; rw [H52.2.2.2, H52.1, Y47, zY0_sm]
        have B52 : s32 156 = s_22 156 := by rw [fs32 156 (by first | decide | omega), fs25 156 (by first | decide | omega)]
        refine lv_istore (lv' := [(4, .int (xJ x31)), (0, .ref (h0 + 156)), (1, .int (xJ n)), (2, .int (xJ i2_22)), (3, .int (xJ i3_22))]) hx hb dX3_bestAhead_55 hl (by decide) rfl (fun ls hl => ?_)
        refine x_iload hx hb hl 0 rfl dX3_bestAhead_57 ?_
        refine x_iload_n hx hb hl 3 rfl dX3_bestAhead_59 rfl ?_
        refine x_icmp_le (tgt := 71) hx hb rx31 ri2_22 dX3_bestAhead_60 (by decide) (fun c36 => ?_) (fun c36 => ?_)
        · skip
          refine x_iinc (lv' := [(3, .int (xJ (i3_22 + 1))), (4, .int (xJ x31)), (0, .ref (h0 + 156)), (1, .int (xJ n)), (2, .int (xJ i2_22))]) hx hb hl 4 rfl dX3_bestAhead_71 (by decide) rfl (fun ls hl => ?_)
          refine lv_goto (tgt := 22) hx hb dX3_bestAhead_74 (by decide) ?_
          exact ih22 i2_22 (i3_22 + 1) s32 H locs ls ri2_22 (by omega) hF34 q35 hp33.1.1 hp33.1.2.1 hp33.1.2.2.1 (by omega) (by
            rw [show (i3_22 + 1).toNat = i3_22.toNat + 1 from by omega]
            have e1 := congrArg Prod.fst v22_1
            have e1 : i2_22 = (zba (zsV K9 q9 l9 n9 w9 (zYc s0 136) n.toNat) (zYc s0 136) i3_22.toNat).1 := e1
            first
              | (rw [zba_y (i := i3_22) (by omega) W33 (by rw [← e1, ← R52]; omega), R52, E68, xU_s])
              | (rw [zba_n (i := i3_22) (by omega) (Or.inr (by rw [← e1, ← R52]; omega)), ← v22_1, B52])
              | (rw [zba_n (i := i3_22) (by omega) (Or.inl W33n)]; exact v22_1)) (by have hm := hm_22 (); omega) hW (lv_sub hl [2, 3, 4, 0] rfl)
        refine x_iload hx hb hl 0 rfl dX3_bestAhead_63 ?_
        refine lv_istore_n (lv' := [(2, .int (xJ x31)), (4, .int (xJ x31)), (0, .ref (h0 + 156)), (1, .int (xJ n)), (3, .int (xJ i3_22))]) hx hb dX3_bestAhead_65 rfl hl (by decide) rfl (fun ls hl => ?_)
        refine x_aload_n hx hb hl 2 rfl dX3_bestAhead_66 rfl ?_
        refine x_iload_n hx hb hl 4 rfl dX3_bestAhead_67 rfl ?_
        refine x_put (j := 6) hx hb hown hT hE hW cls_X3 (by decide) (fun σ => so_156 h0 g σ) (by decide) (st_X3_6 h0 s32 156 i3_22) (ln_X3_6 h0 _ _) wq457 rfl rfl rfl ri3_22 dX3_bestAhead_68 (fun H locs s37 es37 hW => ?_)
        have q38 : s37 1 1 = s0 1 1 := (show s37 1 1 = s32 1 1 from by rw [es37, xU_k _ _ _ (by first | decide | omega)]).trans q35
        have q39 : IC s37 := by rw [es37]; exact IC_o (by decide) hp33.1.1
        have q40 : IS s37 := by rw [es37]; exact IS_o (by unfold suIS; first | decide | omega) hp33.1.2.1
        have q41 : IQ s37 := by rw [es37]; exact IQ_o (by unfold suIQ; first | decide | omega) hp33.1.2.2.1
        have hF42 := hF34.put es37 (by omega)
        have E68 := es37
        refine x_iinc (lv' := [(3, .int (xJ (i3_22 + 1))), (2, .int (xJ x31)), (4, .int (xJ x31)), (0, .ref (h0 + 156)), (1, .int (xJ n))]) hx hb hl 4 rfl dX3_bestAhead_71 (by decide) rfl (fun ls hl => ?_)
        refine lv_goto (tgt := 22) hx hb dX3_bestAhead_74 (by decide) ?_
        exact ih22 x31 (i3_22 + 1) s37 H locs ls rx31 (by omega) hF42 q38 q39 q40 q41 (by omega) (by
            rw [show (i3_22 + 1).toNat = i3_22.toNat + 1 from by omega]
            have e1 := congrArg Prod.fst v22_1
            have e1 : i2_22 = (zba (zsV K9 q9 l9 n9 w9 (zYc s0 136) n.toNat) (zYc s0 136) i3_22.toNat).1 := e1
            first
              | (rw [zba_y (i := i3_22) (by omega) W33 (by rw [← e1, ← R52]; omega), R52, E68, xU_s])
              | (rw [zba_n (i := i3_22) (by omega) (Or.inr (by rw [← e1, ← R52]; omega)), ← v22_1, B52])
              | (rw [zba_n (i := i3_22) (by omega) (Or.inl W33n)]; exact v22_1)) (by have hm := hm_22 (); omega) hW (lv_sub hl [3, 4, 1, 0] rfl)
      refine lv_goto (tgt := 71) hx hb dX3_bestAhead_39 (by decide) ?_
      have W33n := W33n (by omega)
      refine x_iinc (lv' := [(3, .int (xJ (i3_22 + 1))), (0, .ref (h0 + 156)), (1, .int (xJ n)), (2, .int (xJ i2_22))]) hx hb hl 3 rfl dX3_bestAhead_71 (by decide) rfl (fun ls hl => ?_)
      refine lv_goto (tgt := 22) hx hb dX3_bestAhead_74 (by decide) ?_
      exact ih22 i2_22 (i3_22 + 1) s_22 H locs ls ri2_22 (by omega) hF_22 q22_0 q22_1 q22_2 q22_3 (by omega) (by
            rw [show (i3_22 + 1).toNat = i3_22.toNat + 1 from by omega]
            have e1 := congrArg Prod.fst v22_1
            have e1 : i2_22 = (zba (zsV K9 q9 l9 n9 w9 (zYc s0 136) n.toNat) (zYc s0 136) i3_22.toNat).1 := e1
            first
              | (rw [zba_y (i := i3_22) (by omega) W33 (by rw [← e1, ← R52]; omega), R52, E68, xU_s])
              | (rw [zba_n (i := i3_22) (by omega) (Or.inr (by rw [← e1, ← R52]; omega)), ← v22_1, B52])
              | (rw [zba_n (i := i3_22) (by omega) (Or.inl W33n)]; exact v22_1)) (by have hm := hm_22 (); omega) hW (lv_sub hl [1, 2, 3, 0] rfl)
  exact L22 ((10 - 0 : Int).toNat + 1) x8 0 s13 H locs ls rx8 (by decide) hF18 q14 q15 q16 q17 (by omega) (by rw [R10, E17, xU_s]; rfl) (Nat.lt_succ_self _) hW (lv_sub hl [2, 3, 1, 0] rfl)
set_option maxHeartbeats 4000000 in
set_option maxRecDepth 100000 in
theorem c_X10_firstF (l : Launch) (D : va_G) (g : xG) (T : Nat × Nat × Nat) (h0 : Nat) (s0 : xS) (hσ : xRR s0) (n : Int) (rn : xR n) (w : Int) (rw : xR w) (K9 : Int → Int) (n9 : Int → Int) (w9 : Int → Int → Int) (q9 : zLaw) (l9 : Int → Int) (hok : zLok q9) (hlc : zLD s0 q9) (hK : ∀ t : Int, 0 ≤ t → t < 100 → s0 4 t = K9 t) (hlm : ∀ i : Int, 0 ≤ i → i < 4 → s0 129 i = l9 i ∧ (l9 i = -1 ∨ (0 ≤ l9 i ∧ l9 i < 100))) (hw : zWc s0 136 n9 w9) (hY : zYq (zYc s0 136)) (hok4 : zok (zY4 (zYc s0 136))) (p0 : IC s0) (p1 : IS s0) (p2 : IQ s0) : Met l yX10_first (xws yX10_first cX10_first 4 (some .int)) { frames := 7, cells := 0, slots := 0, locals := 179 } (xP [.ref (h0 + 0), .int (xJ n), .int (xJ w)] D g T h0 s0) (xQi D g h0 (fun r τ => xFr (fun k => (7 ≤ k ∧ k < 107) ∨ k = 107 ∨ k = 115 ∨ k = 116 ∨ k = 130 ∨ k = 131 ∨ k = 132 ∨ k = 133 ∨ k = 134 ∨ k = 135 ∨ k = 156 ∨ k = 158 ∨ k = 159 ∨ k = 160 ∨ k = 163 ∨ k = 164 ∨ k = 165 ∨ k = 166 ∨ k = 167) s0 τ ∧ (((IC τ) ∧ (IS τ) ∧ (IQ τ) ∧ True) ∧ (((1 ≤ n ∧ n ≤ 60) ∧ (0 ≤ w ∧ w ≤ 1) ∧ (w = 0 → r = (zba (zsV K9 q9 l9 n9 w9 (zYc s0 136) n.toNat) (zYc s0 136) 10).2) ∧ (w = 1 → r = (zba (zsV K9 q9 l9 n9 w9 (zYc s0 136) n.toNat) (zYc s0 136) 10).1)) ∨ (¬ ((1 ≤ n ∧ n ≤ 60) ∧ (0 ≤ w ∧ w ≤ 1)) ∧ r = -1))))) 0 0 (xA h0) := by
  refine x_met hσ (by decide) (Nat.le_of_ble_eq_true rfl) ?_
  intro p e s m args below meth c hx hb hr hml hown hT hlk hnm hE hW ls hl
  have hl : lv_has ls 4 [(0, .ref (h0 + 0)), (1, .int (xJ n)), (2, .int (xJ w))] := hl
  obtain ⟨Q, eQ⟩ : ∃ Q, Q = MQ below (xQi D g h0 (fun r τ => xFr (fun k => (7 ≤ k ∧ k < 107) ∨ k = 107 ∨ k = 115 ∨ k = 116 ∨ k = 130 ∨ k = 131 ∨ k = 132 ∨ k = 133 ∨ k = 134 ∨ k = 135 ∨ k = 156 ∨ k = 158 ∨ k = 159 ∨ k = 160 ∨ k = 163 ∨ k = 164 ∨ k = 165 ∨ k = 166 ∨ k = 167) s0 τ ∧ (((IC τ) ∧ (IS τ) ∧ (IQ τ) ∧ True) ∧ (((1 ≤ n ∧ n ≤ 60) ∧ (0 ≤ w ∧ w ≤ 1) ∧ (w = 0 → r = (zba (zsV K9 q9 l9 n9 w9 (zYc s0 136) n.toNat) (zYc s0 136) 10).2) ∧ (w = 1 → r = (zba (zsV K9 q9 l9 n9 w9 (zYc s0 136) n.toNat) (zYc s0 136) 10).1)) ∨ (¬ ((1 ≤ n ∧ n ≤ 60) ∧ (0 ≤ w ∧ w ≤ 1)) ∧ r = -1))))) args s 0 0 (xA h0) := ⟨_, rfl⟩
  rw [← eQ]
  generalize hHe : ([] : List Loc) = locs at hW ⊢
  obtain ⟨H, eH⟩ : ∃ H, H = s.heap := ⟨_, rfl⟩
  rw [← eH] at hW ⊢
  have hF : xFr (fun k => (7 ≤ k ∧ k < 107) ∨ k = 107 ∨ k = 115 ∨ k = 116 ∨ k = 130 ∨ k = 131 ∨ k = 132 ∨ k = 133 ∨ k = 134 ∨ k = 135 ∨ k = 156 ∨ k = 158 ∨ k = 159 ∨ k = 160 ∨ k = 163 ∨ k = 164 ∨ k = 165 ∨ k = 166 ∨ k = 167) s0 s0 := xFr.rf
  have k1_1 : s0 1 1 = s0 1 1 := rfl
  refine x_iload_n hx hb hl 1 rfl dX10_first_0 rfl ?_
  refine x_iconst hx hb dX10_first_1 ?_
  refine x_bipush hx hb dX10_first_2 (by decide) ?_
  refine x_goi (x_runS (As := [.int (xJ n), .int (xJ 1), .int (xJ 60)]) hx hb hml hown hT hE hW hl.1 cf_X10_isIn wq562 wq561 (c_X10_isIn l D g T h0 s0 hW.2.1 n rn 1 (by decide) 60 (by decide)) ⟨rfl, rfl, ⟨by decide, by decide⟩, ⟨by decide, by decide⟩⟩ rfl rfl (Nat.le_of_ble_eq_true rfl) dX10_first_4) hW (fun x1 s2 H locs rx1 hp3 hW => ?_)
  obtain ⟨es2, hp3⟩ := hp3
  subst es2
  have ghp3 := hp3
  refine x_if_eq (tgt := 19) hx hb rx1 dX10_first_7 (by decide) (fun c4 => ?_) (fun c4 => ?_)
  · skip
    refine x_iconst hx hb dX10_first_19 ?_
    rw [eQ]
    exact x_iret hx hb hr hlk hW (by decide) ⟨hF, ⟨p0, p1, p2, trivial⟩, Or.inr ⟨by omega, by omega⟩⟩ dX10_first_20
  refine x_iload_n hx hb hl 2 rfl dX10_first_10 rfl ?_
  refine x_iconst hx hb dX10_first_11 ?_
  refine x_iconst hx hb dX10_first_12 ?_
  refine x_goi (x_runS (As := [.int (xJ w), .int (xJ 0), .int (xJ 1)]) hx hb hml hown hT hE hW hl.1 cf_X10_isIn wq562 wq561 (c_X10_isIn l D g T h0 s0 hW.2.1 w rw 0 (by decide) 1 (by decide)) ⟨rfl, rfl, ⟨by decide, by decide⟩, ⟨by decide, by decide⟩⟩ rfl rfl (Nat.le_of_ble_eq_true rfl) dX10_first_13) hW (fun x5 s6 H locs rx5 hp7 hW => ?_)
  obtain ⟨es6, hp7⟩ := hp7
  subst es6
  have ghp7 := hp7
  refine x_if_ne (tgt := 21) hx hb rx5 dX10_first_16 (by decide) (fun c8 => ?_) (fun c8 => ?_)
  · skip
    refine x_aload_n hx hb hl 0 rfl dX10_first_21 rfl ?_
    refine x_get (j := 6) (v := .ref (h0 + 156)) hx hb hown hT hE hW cls_X10 (Or.inl (by decide)) (so_0 h0 g _) (by decide) rfl wq518 dX10_first_22 ?_
    refine x_iload_n hx hb hl 1 rfl dX10_first_25 rfl ?_
    refine x_goi (x_runVN (As := [.int (xJ n)]) hx hb hml hown hT hE hW hl.1 (Or.inl (by decide)) (so_156 h0 g _) rfl cf_X3_bestAhead wq1039 wq83 wn1037 (c_X3_bestAheadF l D g T h0 s0 hW.2.1 n rn K9 n9 w9 q9 l9 (hok) (by first | exact hlc | exact hlc.f (fun k hk => hF k (by omega))) (by first | exact hK | exact fun t t1 t2 => by rw [hF 4 (by omega)]; exact hK t t1 t2) (by first | exact hlm | exact fun i i1 i2 => by rw [hF 129 (by omega)]; exact hlm i i1 i2) (by first | exact hw | exact hw.f (hF _ (by omega)) (fun k hk => hF k (by first | omega | (unfold xDay at hd; omega)))) (hY) (hok4) (by omega) p0 p1 p2) ⟨rfl, rfl, ⟨by decide, by decide⟩, ⟨by decide, by decide⟩⟩ rfl rfl (Nat.le_of_ble_eq_true rfl) dX10_first_26) hW (fun x9 s10 H locs rx9 hp11 hW => ?_)
    obtain ⟨fs10, hp11⟩ := hp11
    have hF12 := hF.call fs10 (fun k h => by omega)
    have q13 : s10 1 1 = s0 1 1 := (congrFun (fs10 _ (by omega)) _).trans k1_1
    have ghp11 := hp11.2
    have H26 := ghp11
    have a26 := congrArg Prod.fst H26
    have b26 := congrArg Prod.snd H26
    have a26 : x9 = (zba (zsV K9 q9 l9 n9 w9 (zYc s0 136) n.toNat) (zYc s0 136) 10).1 := a26
    have b26 : s10 156 6 = (zba (zsV K9 q9 l9 n9 w9 (zYc s0 136) n.toNat) (zYc s0 136) 10).2 := b26
    refine lv_istore_n (lv' := [(3, .int (xJ x9)), (0, .ref (h0 + 0)), (1, .int (xJ n)), (2, .int (xJ w))]) hx hb dX10_first_29 rfl hl (by decide) rfl (fun ls hl => ?_)
    refine x_iload_n hx hb hl 3 rfl dX10_first_30 rfl ?_
    refine x_if_ne (tgt := 44) hx hb rw dX10_first_31 (by decide) (fun c14 => ?_) (fun c14 => ?_)
    · skip
      refine x_iload_n hx hb hl 0 rfl dX10_first_44 rfl ?_
      rw [eQ]
      exact x_iret hx hb hr hlk hW rx9 ⟨hF12, ⟨hp11.1.1, hp11.1.2.1, hp11.1.2.2.1, trivial⟩, by
          first
            | exact Or.inl ⟨by omega, by omega, fun z => by omega, fun z => absurd z (by omega)⟩
            | exact Or.inl ⟨by omega, by omega, fun z => absurd z (by omega), fun z => by omega⟩⟩ dX10_first_45
    refine x_aload_n hx hb hl 1 rfl dX10_first_34 rfl ?_
    refine x_get (j := 6) (v := .ref (h0 + 156)) hx hb hown hT hE hW cls_X10 (Or.inl (by decide)) (so_0 h0 g _) (by decide) rfl wq518 dX10_first_35 ?_
    refine x_getN (j := 6) (v := .int (xJ (s10 156 6))) hx hb hown hT hE hW cls_X3 (Or.inl (by decide)) (so_156 h0 g _) (by decide) rfl wn458 dX10_first_38 ?_
    refine x_rd hW (fun x15 ex15 rx15 => ?_)
    refine lv_goto (tgt := 45) hx hb dX10_first_41 (by decide) ?_
    rw [eQ]
    exact x_iret hx hb hr hlk hW rx15 ⟨hF12, ⟨hp11.1.1, hp11.1.2.1, hp11.1.2.2.1, trivial⟩, by
        first
          | exact Or.inl ⟨by omega, by omega, fun z => by omega, fun z => absurd z (by omega)⟩
          | exact Or.inl ⟨by omega, by omega, fun z => absurd z (by omega), fun z => by omega⟩⟩ dX10_first_45
  refine x_iconst hx hb dX10_first_19 ?_
  rw [eQ]
  exact x_iret hx hb hr hlk hW (by decide) ⟨hF, ⟨p0, p1, p2, trivial⟩, Or.inr ⟨by omega, by omega⟩⟩ dX10_first_20
set_option maxHeartbeats 4000000 in
set_option maxRecDepth 100000 in
theorem c_X10_canBeTriedF (l : Launch) (D : va_G) (g : xG) (T : Nat × Nat × Nat) (h0 : Nat) (s0 : xS) (hσ : xRR s0) (w : Int) (rw : xR w) (p0 : IC s0) : Met l yX10_canBeTried (xws yX10_canBeTried cX10_canBeTried 2 (some .boolean)) { frames := 1, cells := 0, slots := 0, locals := 22 } (xP [.ref (h0 + 0), .int (xJ w)] D g T h0 s0) (xQi D g h0 (fun r τ => s0 = τ ∧ ((r = 1 ∧ ((0 ≤ w ∧ w ≤ 5) ∨ (10 ≤ w ∧ w ≤ 29 ∧ zYc s0 136 (4 + w % 10) ≠ -1) ∨ (30 ≤ w ∧ w ≤ 31 ∧ zYc s0 136 (w - 30) ≠ -1))) ∨ (r = 0 ∧ ¬ ((0 ≤ w ∧ w ≤ 5) ∨ (10 ≤ w ∧ w ≤ 29 ∧ zYc s0 136 (4 + w % 10) ≠ -1) ∨ (30 ≤ w ∧ w ≤ 31 ∧ zYc s0 136 (w - 30) ≠ -1)))))) 0 0 (xA h0) := by
  refine x_met hσ (by decide) (Nat.le_of_ble_eq_true rfl) ?_
  intro p e s m args below meth c hx hb hr hml hown hT hlk hnm hE hW ls hl
  have hl : lv_has ls 2 [(0, .ref (h0 + 0)), (1, .int (xJ w))] := hl
  obtain ⟨Q, eQ⟩ : ∃ Q, Q = MQ below (xQi D g h0 (fun r τ => s0 = τ ∧ ((r = 1 ∧ ((0 ≤ w ∧ w ≤ 5) ∨ (10 ≤ w ∧ w ≤ 29 ∧ zYc s0 136 (4 + w % 10) ≠ -1) ∨ (30 ≤ w ∧ w ≤ 31 ∧ zYc s0 136 (w - 30) ≠ -1))) ∨ (r = 0 ∧ ¬ ((0 ≤ w ∧ w ≤ 5) ∨ (10 ≤ w ∧ w ≤ 29 ∧ zYc s0 136 (4 + w % 10) ≠ -1) ∨ (30 ≤ w ∧ w ≤ 31 ∧ zYc s0 136 (w - 30) ≠ -1)))))) args s 0 0 (xA h0) := ⟨_, rfl⟩
  rw [← eQ]
  generalize hHe : ([] : List Loc) = locs at hW ⊢
  obtain ⟨H, eH⟩ : ∃ H, H = s.heap := ⟨_, rfl⟩
  rw [← eH] at hW ⊢
  have k1_1 : s0 1 1 = s0 1 1 := rfl
  refine x_iload_n hx hb hl 1 rfl dX10_canBeTried_0 rfl ?_
  refine x_bipush hx hb dX10_canBeTried_1 (by decide) ?_
  refine x_bipush hx hb dX10_canBeTried_3 (by decide) ?_
  refine x_goi (x_runS (As := [.int (xJ w), .int (xJ 10), .int (xJ 29)]) hx hb hml hown hT hE hW hl.1 cf_X10_isIn wq562 wq561 (c_X10_isIn l D g T h0 s0 hW.2.1 w rw 10 (by decide) 29 (by decide)) ⟨rfl, rfl, ⟨by decide, by decide⟩, ⟨by decide, by decide⟩⟩ rfl rfl (Nat.le_of_ble_eq_true rfl) dX10_canBeTried_5) hW (fun x1 s2 H locs rx1 hp3 hW => ?_)
  obtain ⟨es2, hp3⟩ := hp3
  subst es2
  have ghp3 := hp3
  refine x_if_eq (tgt := 23) hx hb rx1 dX10_canBeTried_8 (by decide) (fun c4 => ?_) (fun c4 => ?_)
  · skip
    refine x_iload_n hx hb hl 1 rfl dX10_canBeTried_23 rfl ?_
    refine x_iconst hx hb dX10_canBeTried_24 ?_
    refine x_iconst hx hb dX10_canBeTried_25 ?_
    refine x_goi (x_runS (As := [.int (xJ w), .int (xJ 0), .int (xJ 5)]) hx hb hml hown hT hE hW hl.1 cf_X10_isIn wq562 wq561 (c_X10_isIn l D g T h0 s0 hW.2.1 w rw 0 (by decide) 5 (by decide)) ⟨rfl, rfl, ⟨by decide, by decide⟩, ⟨by decide, by decide⟩⟩ rfl rfl (Nat.le_of_ble_eq_true rfl) dX10_canBeTried_26) hW (fun x5 s6 H locs rx5 hp7 hW => ?_)
    obtain ⟨es6, hp7⟩ := hp7
    subst es6
    have ghp7 := hp7
    refine x_if_ne (tgt := 57) hx hb rx5 dX10_canBeTried_29 (by decide) (fun c8 => ?_) (fun c8 => ?_)
    · skip
      refine x_iconst hx hb dX10_canBeTried_57 ?_
      refine lv_goto (tgt := 62) hx hb dX10_canBeTried_58 (by decide) ?_
      rw [eQ]
      exact x_zret hx hb hr hlk hW (by omega) ⟨rfl, by
          first
            | omega
            | (have e : zYc s0 136 (w - 30) = s0 137 (w - 30) := zYc_J (by omega); omega)⟩ dX10_canBeTried_62
    refine x_iload_n hx hb hl 1 rfl dX10_canBeTried_32 rfl ?_
    refine x_bipush hx hb dX10_canBeTried_33 (by decide) ?_
    refine x_bipush hx hb dX10_canBeTried_35 (by decide) ?_
    refine x_goi (x_runS (As := [.int (xJ w), .int (xJ 30), .int (xJ 31)]) hx hb hml hown hT hE hW hl.1 cf_X10_isIn wq562 wq561 (c_X10_isIn l D g T h0 s0 hW.2.1 w rw 30 (by decide) 31 (by decide)) ⟨rfl, rfl, ⟨by decide, by decide⟩, ⟨by decide, by decide⟩⟩ rfl rfl (Nat.le_of_ble_eq_true rfl) dX10_canBeTried_37) hW (fun x9 s10 H locs rx9 hp11 hW => ?_)
    obtain ⟨es10, hp11⟩ := hp11
    subst es10
    have ghp11 := hp11
    refine x_if_eq (tgt := 61) hx hb rx9 dX10_canBeTried_40 (by decide) (fun c12 => ?_) (fun c12 => ?_)
    · skip
      refine x_iconst hx hb dX10_canBeTried_61 ?_
      rw [eQ]
      exact x_zret hx hb hr hlk hW (by omega) ⟨rfl, by
          first
            | omega
            | (have e : zYc s0 136 (w - 30) = s0 137 (w - 30) := zYc_J (by omega); omega)⟩ dX10_canBeTried_62
    refine x_aload_n hx hb hl 0 rfl dX10_canBeTried_43 rfl ?_
    refine x_get (j := 8) (v := .ref (h0 + 136)) hx hb hown hT hE hW cls_X10 (Or.inl (by decide)) (so_0 h0 g _) (by decide) rfl wq520 dX10_canBeTried_44 ?_
    refine x_iload_n hx hb hl 1 rfl dX10_canBeTried_47 rfl ?_
    refine x_bipush hx hb dX10_canBeTried_48 (by decide) ?_
    refine x_isub hx hb dX10_canBeTried_50 ?_
    refine x_goi (x_runVN (As := [.int (xJ (w - 30))]) hx hb hml hown hT hE hW hl.1 (Or.inl (by decide)) (so_136 h0 g _) rfl cf_X2_hasJudge wq773 wq37 wn911 (c_X2_hasJudgeJ l D g T h0 s0 hW.2.1 136 xd_136 (w - 30) (by omega) p0) ⟨rfl, rfl, ⟨by decide, by decide⟩, ⟨by decide, by decide⟩⟩ rfl rfl (Nat.le_of_ble_eq_true rfl) dX10_canBeTried_51) hW (fun x13 s14 H locs rx13 hp15 hW => ?_)
    obtain ⟨es14, hp15⟩ := hp15
    subst es14
    have ghp15 := hp15
    have H51 := ghp15
    simp only [Nat.reduceAdd] at H51
    refine x_if_eq (tgt := 61) hx hb rx13 dX10_canBeTried_54 (by decide) (fun c16 => ?_) (fun c16 => ?_)
    · skip
      refine x_iconst hx hb dX10_canBeTried_61 ?_
      rw [eQ]
      exact x_zret hx hb hr hlk hW (by omega) ⟨rfl, by
          first
            | omega
            | (have e : zYc s0 136 (w - 30) = s0 137 (w - 30) := zYc_J (by omega); omega)⟩ dX10_canBeTried_62
    refine x_iconst hx hb dX10_canBeTried_57 ?_
    refine lv_goto (tgt := 62) hx hb dX10_canBeTried_58 (by decide) ?_
    rw [eQ]
    exact x_zret hx hb hr hlk hW (by omega) ⟨rfl, by
        first
          | omega
          | (have e : zYc s0 136 (w - 30) = s0 137 (w - 30) := zYc_J (by omega); omega)⟩ dX10_canBeTried_62
  refine x_aload_n hx hb hl 0 rfl dX10_canBeTried_11 rfl ?_
  refine x_get (j := 8) (v := .ref (h0 + 136)) hx hb hown hT hE hW cls_X10 (Or.inl (by decide)) (so_0 h0 g _) (by decide) rfl wq520 dX10_canBeTried_12 ?_
  refine x_iload_n hx hb hl 1 rfl dX10_canBeTried_15 rfl ?_
  refine x_bipush hx hb dX10_canBeTried_16 (by decide) ?_
  refine x_irem hx hb rw (by decide) (by omega) (by decide) dX10_canBeTried_18 ?_
  refine x_goi (x_runVN (As := [.int (xJ (w % 10))]) hx hb hml hown hT hE hW hl.1 (Or.inl (by decide)) (so_136 h0 g _) rfl cf_X2_hasFelon wq862 wq53 wn910 (c_X2_hasFelonF l D g T h0 s0 hW.2.1 136 xd_136 (w % 10) (by omega) p0) ⟨rfl, rfl, ⟨by decide, by decide⟩, ⟨by decide, by decide⟩⟩ rfl rfl (Nat.le_of_ble_eq_true rfl) dX10_canBeTried_19) hW (fun x17 s18 H locs rx17 hp19 hW => ?_)
  obtain ⟨es18, hp19⟩ := hp19
  subst es18
  have ghp19 := hp19
  have H19 := ghp19
  simp only [Nat.reduceAdd] at H19
  rw [eQ]
  exact x_zret hx hb hr hlk hW (by omega) ⟨rfl, by
    have e : zYc s0 136 (4 + w % 10) = s0 142 (w % 10) := zYc_F (by omega)
    omega⟩ dX10_canBeTried_22
set_option maxHeartbeats 4000000 in
set_option maxRecDepth 100000 in
theorem c_X10_triedF (l : Launch) (D : va_G) (g : xG) (T : Nat × Nat × Nat) (h0 : Nat) (s0 : xS) (hσ : xRR s0) (n : Int) (rn : xR n) (w : Int) (rw : xR w) (K9 : Int → Int) (n9 : Int → Int) (w9 : Int → Int → Int) (q9 : zLaw) (l9 : Int → Int) (hok : zLok q9) (hlc : zLD s0 q9) (hK : ∀ t : Int, 0 ≤ t → t < 100 → s0 4 t = K9 t) (hlm : ∀ i : Int, 0 ≤ i → i < 4 → s0 129 i = l9 i ∧ (l9 i = -1 ∨ (0 ≤ l9 i ∧ l9 i < 100))) (hw : zWc s0 136 n9 w9) (hY : zYq (zYc s0 136)) (hok4 : zok (zY4 (zYc s0 136))) (p0 : IC s0) (p1 : IS s0) (p2 : IQ s0) : Met l yX10_tried (xws yX10_tried cX10_tried 5 (some .int)) { frames := 6, cells := 0, slots := 0, locals := 155 } (xP [.ref (h0 + 0), .int (xJ n), .int (xJ w)] D g T h0 s0) (xQi D g h0 (fun r τ => xFr (fun k => (7 ≤ k ∧ k < 107) ∨ k = 107 ∨ k = 115 ∨ k = 116 ∨ k = 130 ∨ k = 131 ∨ k = 132 ∨ k = 133 ∨ k = 134 ∨ k = 135 ∨ k = 158 ∨ k = 159 ∨ k = 160 ∨ k = 163 ∨ k = 164 ∨ k = 165 ∨ k = 166 ∨ k = 167) s0 τ ∧ (((IC τ) ∧ (IS τ) ∧ (IQ τ) ∧ True) ∧ ((((1 ≤ n ∧ n ≤ 120) ∧ ((0 ≤ w ∧ w ≤ 5) ∨ (10 ≤ w ∧ w ≤ 29 ∧ zYc s0 136 (4 + w % 10) ≠ -1) ∨ (30 ≤ w ∧ w ≤ 31 ∧ zYc s0 136 (w - 30) ≠ -1))) ∧ r = ztr ((zsV K9 q9 l9 n9 w9 (zYc s0 136) n.toNat) (-1)) (zmn K9 q9 l9 n9 w9 (-1) n.toNat (zY0 (zYc s0 136))) w) ∨ (¬ ((1 ≤ n ∧ n ≤ 120) ∧ ((0 ≤ w ∧ w ≤ 5) ∨ (10 ≤ w ∧ w ≤ 29 ∧ zYc s0 136 (4 + w % 10) ≠ -1) ∨ (30 ≤ w ∧ w ≤ 31 ∧ zYc s0 136 (w - 30) ≠ -1))) ∧ r = -1))))) 0 0 (xA h0) := by
  refine x_met hσ (by decide) (Nat.le_of_ble_eq_true rfl) ?_
  intro p e s m args below meth c hx hb hr hml hown hT hlk hnm hE hW ls hl
  have hl : lv_has ls 5 [(0, .ref (h0 + 0)), (1, .int (xJ n)), (2, .int (xJ w))] := hl
  obtain ⟨Q, eQ⟩ : ∃ Q, Q = MQ below (xQi D g h0 (fun r τ => xFr (fun k => (7 ≤ k ∧ k < 107) ∨ k = 107 ∨ k = 115 ∨ k = 116 ∨ k = 130 ∨ k = 131 ∨ k = 132 ∨ k = 133 ∨ k = 134 ∨ k = 135 ∨ k = 158 ∨ k = 159 ∨ k = 160 ∨ k = 163 ∨ k = 164 ∨ k = 165 ∨ k = 166 ∨ k = 167) s0 τ ∧ (((IC τ) ∧ (IS τ) ∧ (IQ τ) ∧ True) ∧ ((((1 ≤ n ∧ n ≤ 120) ∧ ((0 ≤ w ∧ w ≤ 5) ∨ (10 ≤ w ∧ w ≤ 29 ∧ zYc s0 136 (4 + w % 10) ≠ -1) ∨ (30 ≤ w ∧ w ≤ 31 ∧ zYc s0 136 (w - 30) ≠ -1))) ∧ r = ztr ((zsV K9 q9 l9 n9 w9 (zYc s0 136) n.toNat) (-1)) (zmn K9 q9 l9 n9 w9 (-1) n.toNat (zY0 (zYc s0 136))) w) ∨ (¬ ((1 ≤ n ∧ n ≤ 120) ∧ ((0 ≤ w ∧ w ≤ 5) ∨ (10 ≤ w ∧ w ≤ 29 ∧ zYc s0 136 (4 + w % 10) ≠ -1) ∨ (30 ≤ w ∧ w ≤ 31 ∧ zYc s0 136 (w - 30) ≠ -1))) ∧ r = -1))))) args s 0 0 (xA h0) := ⟨_, rfl⟩
  rw [← eQ]
  generalize hHe : ([] : List Loc) = locs at hW ⊢
  obtain ⟨H, eH⟩ : ∃ H, H = s.heap := ⟨_, rfl⟩
  rw [← eH] at hW ⊢
  have hF : xFr (fun k => (7 ≤ k ∧ k < 107) ∨ k = 107 ∨ k = 115 ∨ k = 116 ∨ k = 130 ∨ k = 131 ∨ k = 132 ∨ k = 133 ∨ k = 134 ∨ k = 135 ∨ k = 158 ∨ k = 159 ∨ k = 160 ∨ k = 163 ∨ k = 164 ∨ k = 165 ∨ k = 166 ∨ k = 167) s0 s0 := xFr.rf
  have k1_1 : s0 1 1 = s0 1 1 := rfl
  refine x_iload_n hx hb hl 1 rfl dX10_tried_0 rfl ?_
  refine x_iconst hx hb dX10_tried_1 ?_
  refine x_bipush hx hb dX10_tried_2 (by decide) ?_
  refine x_goi (x_runS (As := [.int (xJ n), .int (xJ 1), .int (xJ 120)]) hx hb hml hown hT hE hW hl.1 cf_X10_isIn wq562 wq561 (c_X10_isIn l D g T h0 s0 hW.2.1 n rn 1 (by decide) 120 (by decide)) ⟨rfl, rfl, ⟨by decide, by decide⟩, ⟨by decide, by decide⟩⟩ rfl rfl (Nat.le_of_ble_eq_true rfl) dX10_tried_4) hW (fun x1 s2 H locs rx1 hp3 hW => ?_)
  obtain ⟨es2, hp3⟩ := hp3
  subst es2
  have ghp3 := hp3
  refine x_if_eq (tgt := 18) hx hb rx1 dX10_tried_7 (by decide) (fun c4 => ?_) (fun c4 => ?_)
  · skip
    refine x_iconst hx hb dX10_tried_18 ?_
    rw [eQ]
    exact x_iret hx hb hr hlk hW (by decide) ⟨hF, ⟨p0, p1, p2, trivial⟩, Or.inr ⟨fun z => by first | exact absurd z.1 (by omega) | exact absurd z.2 (N12 (by omega)), by omega⟩⟩ dX10_tried_19
  refine x_aload_n hx hb hl 0 rfl dX10_tried_10 rfl ?_
  refine x_iload_n hx hb hl 2 rfl dX10_tried_11 rfl ?_
  refine x_goi (x_runV (As := [.int (xJ w)]) hx hb hml hown hT hE hW hl.1 (Or.inl (by decide)) (so_0 h0 g _) rfl cf_X10_canBeTried wq908 wq62 wq906 (c_X10_canBeTriedF l D g T h0 s0 hW.2.1 w rw p0) ⟨rfl, rfl, ⟨by decide, by decide⟩, ⟨by decide, by decide⟩⟩ rfl rfl (Nat.le_of_ble_eq_true rfl) dX10_tried_12) hW (fun x5 s6 H locs rx5 hp7 hW => ?_)
  obtain ⟨es6, hp7⟩ := hp7
  subst es6
  have ghp7 := hp7
  have H12 := ghp7
  have C12 := fun (_ : Unit) => H12
  have T12 : x5 = 1 → ((0 ≤ w ∧ w ≤ 5) ∨ (10 ≤ w ∧ w ≤ 29 ∧ zYc s0 136 (4 + w % 10) ≠ -1) ∨ (30 ≤ w ∧ w ≤ 31 ∧ zYc s0 136 (w - 30) ≠ -1)) := fun h => (C12 ()).elim (fun q => q.2) (fun q => absurd q.1 (by omega))
  have N12 : x5 = 0 → ¬ ((0 ≤ w ∧ w ≤ 5) ∨ (10 ≤ w ∧ w ≤ 29 ∧ zYc s0 136 (4 + w % 10) ≠ -1) ∨ (30 ≤ w ∧ w ≤ 31 ∧ zYc s0 136 (w - 30) ≠ -1)) := fun h => (C12 ()).elim (fun q => absurd q.1 (by omega)) (fun q => q.2)
  clear H12
  clear ghp7
  refine x_if_ne (tgt := 20) hx hb rx5 dX10_tried_15 (by decide) (fun c8 => ?_) (fun c8 => ?_)
  · skip
    refine x_aload_n hx hb hl 0 rfl dX10_tried_20 rfl ?_
    refine x_get (j := 6) (v := .ref (h0 + 156)) hx hb hown hT hE hW cls_X10 (Or.inl (by decide)) (so_0 h0 g _) (by decide) rfl wq518 dX10_tried_21 ?_
    refine x_gor (x_runVN (As := []) hx hb hml hown hT hE hW hl.1 (Or.inl (by decide)) (so_156 h0 g _) rfl cf_X3_copyOfNow wq914 wq63 wn912 (c_X3_copyOfNowF l D g T h0 s0 hW.2.1 p0) ⟨rfl, rfl, ⟨by decide, by decide⟩, ⟨by decide, by decide⟩⟩ rfl rfl (Nat.le_of_ble_eq_true rfl) dX10_tried_24) hW (fun x9 s10 H locs hp11 hW => ?_)
    obtain ⟨ex9, hp11⟩ := hp11
    subst ex9
    obtain ⟨fs10, hp11⟩ := hp11
    have hF12 := hF.call fs10 (fun k h => by omega)
    have q13 : IS s10 := IS_f (fun k hk => fs10 k (by unfold suIS at hk; omega)) p1
    have q14 : IQ s10 := IQ_f (fun k hk => fs10 k (by unfold suIQ at hk; omega)) p2
    have q15 : s10 1 1 = s0 1 1 := (congrFun (fs10 _ (by omega)) _).trans k1_1
    have ghp11 := hp11.2
    have H24 := ghp11
    have Y24 : zYc s10 158 = zY0 (zYc s0 136) := by rw [H24.1] <;> exact congrArg zY0 (((zYc_f (fun o ho => fs10 (136 + o) (by omega))).symm).trans (zYc_f (fun o ho => hF12 (136 + o) (by omega))))
    have W24 : zWc s10 158 n9 w9 := hw.cp (fun q q1 q2 => (H24.2 q q1 q2).trans (by rw [← fs10 138 (by first | decide | omega), hF12 138 (by first | decide | omega)])) (fun k hk => hF12 k (by omega))
    refine lv_astore_n (lv' := [(3, .ref (h0 + 158)), (0, .ref (h0 + 0)), (1, .int (xJ n)), (2, .int (xJ w))]) hx hb dX10_tried_27 rfl hl (by decide) rfl (fun ls hl => ?_)
    refine x_aload_n hx hb hl 1 rfl dX10_tried_28 rfl ?_
    refine x_get (j := 5) (v := .ref (h0 + 128)) hx hb hown hT hE hW cls_X10 (Or.inl (by decide)) (so_0 h0 g _) (by decide) rfl wq517 dX10_tried_29 ?_
    refine x_aload_n hx hb hl 0 rfl dX10_tried_32 rfl ?_
    refine x_iload_n hx hb hl 2 rfl dX10_tried_33 rfl ?_
    refine x_iconst hx hb dX10_tried_34 ?_
    refine x_goi (x_runVN (As := [.ref (h0 + 158), .int (xJ n), .int (xJ (-1))]) hx hb hml hown hT hE hW hl.1 (Or.inl (by decide)) (so_128 h0 g _) rfl cf_X0_goOn wq761 wq34 wn759 (c_X0_goOnF l D g T h0 s10 hW.2.1 158 xd_158 n rn (-1) (by decide) K9 n9 w9 q9 l9 (hok) (by first | exact hlc | exact hlc.f (fun k hk => hF12 k (by omega))) (by first | exact hK | exact fun t t1 t2 => by rw [hF12 4 (by first | decide | omega)]; exact hK t t1 t2) (by first | exact hlm | exact fun i i1 i2 => by rw [hF12 129 (by first | decide | omega)]; exact hlm i i1 i2) (W24) (by rw [Y24]; exact zY0_q hY) (by rw [Y24]; rw [zY0_4]; exact hok4) (by omega) hp11.1.1 q13 q14) ⟨rfl, rfl, ⟨by decide, by decide⟩, ⟨by decide, by decide⟩⟩ rfl rfl (Nat.le_of_ble_eq_true rfl) dX10_tried_35) hW (fun x16 s17 H locs rx16 hp18 hW => ?_)
    obtain ⟨fs17, hp18⟩ := hp18
    have hF19 := hF12.call fs17 (fun k h => by omega)
    have q20 : s17 1 1 = s0 1 1 := (congrFun (fs17 _ (by omega)) _).trans q15
    have ghp18 := hp18.2
    have H35 := ghp18
    have D35 : zYc s17 158 = (zmn K9 q9 l9 n9 w9 (-1) n.toNat (zY0 (zYc s0 136))) := by rw [H35.1, Y24]
    have R35 : x16 = (zsV K9 q9 l9 n9 w9 (zYc s0 136) n.toNat) (-1) := by unfold zsV; rw [H35.2.2.2, H35.1, Y24, zY0_sm]
    refine lv_istore (lv' := [(4, .int (xJ x16)), (3, .ref (h0 + 158)), (0, .ref (h0 + 0)), (1, .int (xJ n)), (2, .int (xJ w))]) hx hb dX10_tried_38 hl (by decide) rfl (fun ls hl => ?_)
    refine x_iload_n hx hb hl 4 rfl dX10_tried_40 rfl ?_
    rcases (show (w < 0 ∨ 5 < w) ∨ w = 0 ∨ w = 1 ∨ w = 2 ∨ w = 3 ∨ w = 4 ∨ w = 5 from by omega) with c21 | c21 | c21 | c21 | c21 | c21 | c21
    · refine x_tabOut (tgt := 108) hx hb rw dX10_tried_41 c21 (by decide) ?_
      refine x_iload_n hx hb hl 4 rfl dX10_tried_108 rfl ?_
      refine x_bipush hx hb dX10_tried_109 (by decide) ?_
      refine x_bipush hx hb dX10_tried_111 (by decide) ?_
      refine x_goi (x_runS (As := [.int (xJ w), .int (xJ 10), .int (xJ 19)]) hx hb hml hown hT hE hW hl.1 cf_X10_isIn wq562 wq561 (c_X10_isIn l D g T h0 s17 hW.2.1 w rw 10 (by decide) 19 (by decide)) ⟨rfl, rfl, ⟨by decide, by decide⟩, ⟨by decide, by decide⟩⟩ rfl rfl (Nat.le_of_ble_eq_true rfl) dX10_tried_113) hW (fun x22 s23 H locs rx22 hp24 hW => ?_)
      obtain ⟨es23, hp24⟩ := hp24
      subst es23
      have ghp24 := hp24
      refine x_if_eq (tgt := 129) hx hb rx22 dX10_tried_116 (by decide) (fun c25 => ?_) (fun c25 => ?_)
      · skip
        refine x_iload_n hx hb hl 4 rfl dX10_tried_129 rfl ?_
        refine x_bipush hx hb dX10_tried_130 (by decide) ?_
        refine x_bipush hx hb dX10_tried_132 (by decide) ?_
        refine x_goi (x_runS (As := [.int (xJ w), .int (xJ 20), .int (xJ 29)]) hx hb hml hown hT hE hW hl.1 cf_X10_isIn wq562 wq561 (c_X10_isIn l D g T h0 s17 hW.2.1 w rw 20 (by decide) 29 (by decide)) ⟨rfl, rfl, ⟨by decide, by decide⟩, ⟨by decide, by decide⟩⟩ rfl rfl (Nat.le_of_ble_eq_true rfl) dX10_tried_134) hW (fun x26 s27 H locs rx26 hp28 hW => ?_)
        obtain ⟨es27, hp28⟩ := hp28
        subst es27
        have ghp28 := hp28
        refine x_if_eq (tgt := 150) hx hb rx26 dX10_tried_137 (by decide) (fun c29 => ?_) (fun c29 => ?_)
        · skip
          refine x_iload_n hx hb hl 4 rfl dX10_tried_150 rfl ?_
          refine x_bipush hx hb dX10_tried_151 (by decide) ?_
          refine x_bipush hx hb dX10_tried_153 (by decide) ?_
          refine x_goi (x_runS (As := [.int (xJ w), .int (xJ 30), .int (xJ 31)]) hx hb hml hown hT hE hW hl.1 cf_X10_isIn wq562 wq561 (c_X10_isIn l D g T h0 s17 hW.2.1 w rw 30 (by decide) 31 (by decide)) ⟨rfl, rfl, ⟨by decide, by decide⟩, ⟨by decide, by decide⟩⟩ rfl rfl (Nat.le_of_ble_eq_true rfl) dX10_tried_155) hW (fun x30 s31 H locs rx30 hp32 hW => ?_)
          obtain ⟨es31, hp32⟩ := hp32
          subst es31
          have ghp32 := hp32
          refine x_if_eq (tgt := 173) hx hb rx30 dX10_tried_158 (by decide) (fun c33 => ?_) (fun c33 => ?_)
          · skip
            refine x_iconst hx hb dX10_tried_173 ?_
            rw [eQ]
            exact x_iret hx hb hr hlk hW (by decide) ⟨hF19, ⟨hp18.1.1, hp18.1.2.1, hp18.1.2.2.1, trivial⟩, Or.inl ⟨⟨by omega, T12 (by omega)⟩, by
                unfold ztr
                (repeat' split) <;> omega⟩⟩ dX10_tried_174
          refine x_aload_n hx hb hl 1 rfl dX10_tried_161 rfl ?_
          refine x_getN (j := 0) (v := .ref (h0 + 159)) hx hb hown hT hE hW cls_X2 (Or.inl (by decide)) (so_158 h0 g _) (by decide) rfl wn385 dX10_tried_162 ?_
          refine x_iload_n hx hb hl 4 rfl dX10_tried_165 rfl ?_
          refine x_bipush hx hb dX10_tried_166 (by decide) ?_
          refine x_isub hx hb dX10_tried_168 ?_
          refine x_iald hx hb hE hW (Or.inl (by decide)) (sa_159 h0 g _) (by omega) (by decide) dX10_tried_169 ?_
          refine x_rd hW (fun x34 ex34 rx34 => ?_)
          have V169 : x34 = (zmn K9 q9 l9 n9 w9 (-1) n.toNat (zY0 (zYc s0 136))) (w - 30) := by
            have a := zYc_J (σ := s17) (d := 158) (f := w - 30) (by omega)
            rw [D35] at a
            rw [a]; exact ex34
          refine lv_goto (tgt := 174) hx hb dX10_tried_170 (by decide) ?_
          rw [eQ]
          exact x_iret hx hb hr hlk hW rx34 ⟨hF19, ⟨hp18.1.1, hp18.1.2.1, hp18.1.2.2.1, trivial⟩, Or.inl ⟨⟨by omega, T12 (by omega)⟩, by
              unfold ztr
              (repeat' split) <;> omega⟩⟩ dX10_tried_174
        refine x_aload_n hx hb hl 1 rfl dX10_tried_140 rfl ?_
        refine x_getN (j := 4) (v := .ref (h0 + 165)) hx hb hown hT hE hW cls_X2 (Or.inl (by decide)) (so_158 h0 g _) (by decide) rfl wn394 dX10_tried_141 ?_
        refine x_iload_n hx hb hl 4 rfl dX10_tried_144 rfl ?_
        refine x_bipush hx hb dX10_tried_145 (by decide) ?_
        refine x_isub hx hb dX10_tried_147 ?_
        refine x_iald hx hb hE hW (Or.inl (by decide)) (sa_165 h0 g _) (by omega) (by decide) dX10_tried_148 ?_
        refine x_rd hW (fun x35 ex35 rx35 => ?_)
        have V148 : x35 = (zmn K9 q9 l9 n9 w9 (-1) n.toNat (zY0 (zYc s0 136))) (w - 6) := by
          have a := zYc_O (σ := s17) (d := 158) (f := w - 20) (by omega)
          rw [show 14 + (w - 20) = w - 6 from by omega, D35] at a
          rw [a]; exact ex35
        rw [eQ]
        exact x_iret hx hb hr hlk hW rx35 ⟨hF19, ⟨hp18.1.1, hp18.1.2.1, hp18.1.2.2.1, trivial⟩, Or.inl ⟨⟨by omega, T12 (by omega)⟩, by
            unfold ztr
            (repeat' split) <;> omega⟩⟩ dX10_tried_149
      refine x_aload_n hx hb hl 1 rfl dX10_tried_119 rfl ?_
      refine x_getN (j := 3) (v := .ref (h0 + 164)) hx hb hown hT hE hW cls_X2 (Or.inl (by decide)) (so_158 h0 g _) (by decide) rfl wn391 dX10_tried_120 ?_
      refine x_iload_n hx hb hl 4 rfl dX10_tried_123 rfl ?_
      refine x_bipush hx hb dX10_tried_124 (by decide) ?_
      refine x_isub hx hb dX10_tried_126 ?_
      refine x_iald hx hb hE hW (Or.inl (by decide)) (sa_164 h0 g _) (by omega) (by decide) dX10_tried_127 ?_
      refine x_rd hW (fun x36 ex36 rx36 => ?_)
      have V127 : x36 = (zmn K9 q9 l9 n9 w9 (-1) n.toNat (zY0 (zYc s0 136))) (w - 6) := by
        have a := zYc_F (σ := s17) (d := 158) (f := w - 10) (by omega)
        rw [show 4 + (w - 10) = w - 6 from by omega, D35] at a
        rw [a]; exact ex36
      rw [eQ]
      exact x_iret hx hb hr hlk hW rx36 ⟨hF19, ⟨hp18.1.1, hp18.1.2.1, hp18.1.2.2.1, trivial⟩, Or.inl ⟨⟨by omega, T12 (by omega)⟩, by
          unfold ztr
          (repeat' split) <;> omega⟩⟩ dX10_tried_128
    · refine x_tabIn (v := 0) (tgt := 80) hx hb rw c21 dX10_tried_41 (by decide) rfl (by decide) ?_
      refine x_iload hx hb hl 0 rfl dX10_tried_80 ?_
      rw [eQ]
      exact x_iret hx hb hr hlk hW rx16 ⟨hF19, ⟨hp18.1.1, hp18.1.2.1, hp18.1.2.2.1, trivial⟩, Or.inl ⟨⟨by omega, T12 (by omega)⟩, by
          unfold ztr
          (repeat' split) <;> omega⟩⟩ dX10_tried_82
    · refine x_tabIn (v := 1) (tgt := 83) hx hb rw c21 dX10_tried_41 (by decide) rfl (by decide) ?_
      refine x_aload_n hx hb hl 1 rfl dX10_tried_83 rfl ?_
      refine x_getN (j := 9) (v := .int (xJ (s17 158 9))) hx hb hown hT hE hW cls_X2 (Or.inl (by decide)) (so_158 h0 g _) (by decide) rfl wn407 dX10_tried_84 ?_
      refine x_rd hW (fun x37 ex37 rx37 => ?_)
      have V84 : x37 = (zmn K9 q9 l9 n9 w9 (-1) n.toNat (zY0 (zYc s0 136))) 46 := by rw [ex37, ← D35, zYc_46]
      rw [eQ]
      exact x_iret hx hb hr hlk hW rx37 ⟨hF19, ⟨hp18.1.1, hp18.1.2.1, hp18.1.2.2.1, trivial⟩, Or.inl ⟨⟨by omega, T12 (by omega)⟩, by
          unfold ztr
          (repeat' split) <;> omega⟩⟩ dX10_tried_87
    · refine x_tabIn (v := 2) (tgt := 88) hx hb rw c21 dX10_tried_41 (by decide) rfl (by decide) ?_
      refine x_aload_n hx hb hl 1 rfl dX10_tried_88 rfl ?_
      refine x_goi (x_runVN (As := []) hx hb hml hown hT hE hW hl.1 (Or.inl (by decide)) (so_158 h0 g _) rfl cf_X2_howManyDrowned wq926 wq66 wn924 (c_X2_howManyDrownedF l D g T h0 s17 hW.2.1 158 xd_158 hp18.1.1) ⟨rfl, rfl, ⟨by decide, by decide⟩, ⟨by decide, by decide⟩⟩ rfl rfl (Nat.le_of_ble_eq_true rfl) dX10_tried_89) hW (fun x38 s39 H locs rx38 hp40 hW => ?_)
      obtain ⟨es39, hp40⟩ := hp40
      subst es39
      have ghp40 := hp40
      have H89 := ghp40
      rw [D35] at H89
      rw [eQ]
      exact x_iret hx hb hr hlk hW rx38 ⟨hF19, ⟨hp18.1.1, hp18.1.2.1, hp18.1.2.2.1, trivial⟩, Or.inl ⟨⟨by omega, T12 (by omega)⟩, by
          unfold ztr
          (repeat' split) <;> omega⟩⟩ dX10_tried_92
    · refine x_tabIn (v := 3) (tgt := 93) hx hb rw c21 dX10_tried_41 (by decide) rfl (by decide) ?_
      refine x_aload_n hx hb hl 1 rfl dX10_tried_93 rfl ?_
      refine x_getN (j := 10) (v := .int (xJ (s17 158 10))) hx hb hown hT hE hW cls_X2 (Or.inl (by decide)) (so_158 h0 g _) (by decide) rfl wn411 dX10_tried_94 ?_
      refine x_rd hW (fun x41 ex41 rx41 => ?_)
      have V94 : x41 = (zmn K9 q9 l9 n9 w9 (-1) n.toNat (zY0 (zYc s0 136))) 47 := by rw [ex41, ← D35, zYc_47]
      rw [eQ]
      exact x_iret hx hb hr hlk hW rx41 ⟨hF19, ⟨hp18.1.1, hp18.1.2.1, hp18.1.2.2.1, trivial⟩, Or.inl ⟨⟨by omega, T12 (by omega)⟩, by
          unfold ztr
          (repeat' split) <;> omega⟩⟩ dX10_tried_97
    · refine x_tabIn (v := 4) (tgt := 98) hx hb rw c21 dX10_tried_41 (by decide) rfl (by decide) ?_
      refine x_aload_n hx hb hl 1 rfl dX10_tried_98 rfl ?_
      refine x_getN (j := 11) (v := .int (xJ (s17 158 11))) hx hb hown hT hE hW cls_X2 (Or.inl (by decide)) (so_158 h0 g _) (by decide) rfl wn413 dX10_tried_99 ?_
      refine x_rd hW (fun x42 ex42 rx42 => ?_)
      have V99 : x42 = (zmn K9 q9 l9 n9 w9 (-1) n.toNat (zY0 (zYc s0 136))) 48 := by rw [ex42, ← D35, zYc_48]
      rw [eQ]
      exact x_iret hx hb hr hlk hW rx42 ⟨hF19, ⟨hp18.1.1, hp18.1.2.1, hp18.1.2.2.1, trivial⟩, Or.inl ⟨⟨by omega, T12 (by omega)⟩, by
          unfold ztr
          (repeat' split) <;> omega⟩⟩ dX10_tried_102
    · refine x_tabIn (v := 5) (tgt := 103) hx hb rw c21 dX10_tried_41 (by decide) rfl (by decide) ?_
      refine x_aload_n hx hb hl 1 rfl dX10_tried_103 rfl ?_
      refine x_goi (x_runVN (As := []) hx hb hml hown hT hE hW hl.1 (Or.inl (by decide)) (so_158 h0 g _) rfl cf_X2_howManyOweNothing wq930 wq67 wn928 (c_X2_howManyOweNothingF l D g T h0 s17 hW.2.1 158 xd_158 hp18.1.1) ⟨rfl, rfl, ⟨by decide, by decide⟩, ⟨by decide, by decide⟩⟩ rfl rfl (Nat.le_of_ble_eq_true rfl) dX10_tried_104) hW (fun x43 s44 H locs rx43 hp45 hW => ?_)
      obtain ⟨es44, hp45⟩ := hp45
      subst es44
      have ghp45 := hp45
      have H104 := ghp45
      rw [D35] at H104
      rw [eQ]
      exact x_iret hx hb hr hlk hW rx43 ⟨hF19, ⟨hp18.1.1, hp18.1.2.1, hp18.1.2.2.1, trivial⟩, Or.inl ⟨⟨by omega, T12 (by omega)⟩, by
          unfold ztr
          (repeat' split) <;> omega⟩⟩ dX10_tried_107
  refine x_iconst hx hb dX10_tried_18 ?_
  rw [eQ]
  exact x_iret hx hb hr hlk hW (by decide) ⟨hF, ⟨p0, p1, p2, trivial⟩, Or.inr ⟨fun z => by first | exact absurd z.1 (by omega) | exact absurd z.2 (N12 (by omega)), by omega⟩⟩ dX10_tried_19

/-- what is told of a FELON -/
noncomputable def zfi (K : Int → Int) (q : zLaw) (l Y : Int → Int) (f w : Int) : Int := if w = 0 then Y (4 + f) else if w = 1 then Y (14 + f) else if w = 2 then Y (24 + f) else if w = 3 then Y (34 + f) else if w = 4 then zvF K q Y 118 3 f else if w = 5 then zLy K q l (Y 44) Y 1 (zni q (Y 44)) (Y (4 + f)) else -1
set_option maxHeartbeats 4000000 in
set_option maxRecDepth 100000 in
theorem c_X10_felonIsF (l : Launch) (D : va_G) (g : xG) (T : Nat × Nat × Nat) (h0 : Nat) (s0 : xS) (hσ : xRR s0) (f : Int) (rf : xR f) (w : Int) (rw : xR w) (K9 : Int → Int) (n9 : Int → Int) (w9 : Int → Int → Int) (q9 : zLaw) (l9 : Int → Int) (hok : zLok q9) (hlc : zLD s0 q9) (hK : ∀ t : Int, 0 ≤ t → t < 100 → s0 4 t = K9 t) (hlm : ∀ i : Int, 0 ≤ i → i < 4 → s0 129 i = l9 i ∧ (l9 i = -1 ∨ (0 ≤ l9 i ∧ l9 i < 100))) (hw : zWc s0 136 n9 w9) (hY : zYq (zYc s0 136)) (hok4 : zok (zY4 (zYc s0 136))) (p0 : IC s0) (p1 : IS s0) (p2 : IQ s0) : Met l yX10_felonIs (xws yX10_felonIs cX10_felonIs 3 (some .int)) { frames := 6, cells := 0, slots := 0, locals := 142 } (xP [.ref (h0 + 0), .int (xJ f), .int (xJ w)] D g T h0 s0) (xQi D g h0 (fun r τ => xFr (fun k => k = 115 ∨ k = 116 ∨ k = 130 ∨ k = 131 ∨ k = 132 ∨ k = 133) s0 τ ∧ (((IC τ) ∧ (IS τ) ∧ (IQ τ) ∧ True) ∧ ((0 ≤ f ∧ f < 10 ∧ zYc s0 136 (4 + f) ≠ -1 ∧ r = zfi K9 q9 l9 (zYc s0 136) f w) ∨ (¬ (0 ≤ f ∧ f < 10 ∧ zYc s0 136 (4 + f) ≠ -1) ∧ r = -1))))) 0 0 (xA h0) := by
  refine x_met hσ (by decide) (Nat.le_of_ble_eq_true rfl) ?_
  intro p e s m args below meth c hx hb hr hml hown hT hlk hnm hE hW ls hl
  have hl : lv_has ls 3 [(0, .ref (h0 + 0)), (1, .int (xJ f)), (2, .int (xJ w))] := hl
  obtain ⟨Q, eQ⟩ : ∃ Q, Q = MQ below (xQi D g h0 (fun r τ => xFr (fun k => k = 115 ∨ k = 116 ∨ k = 130 ∨ k = 131 ∨ k = 132 ∨ k = 133) s0 τ ∧ (((IC τ) ∧ (IS τ) ∧ (IQ τ) ∧ True) ∧ ((0 ≤ f ∧ f < 10 ∧ zYc s0 136 (4 + f) ≠ -1 ∧ r = zfi K9 q9 l9 (zYc s0 136) f w) ∨ (¬ (0 ≤ f ∧ f < 10 ∧ zYc s0 136 (4 + f) ≠ -1) ∧ r = -1))))) args s 0 0 (xA h0) := ⟨_, rfl⟩
  rw [← eQ]
  generalize hHe : ([] : List Loc) = locs at hW ⊢
  obtain ⟨H, eH⟩ : ∃ H, H = s.heap := ⟨_, rfl⟩
  rw [← eH] at hW ⊢
  have hF : xFr (fun k => k = 115 ∨ k = 116 ∨ k = 130 ∨ k = 131 ∨ k = 132 ∨ k = 133) s0 s0 := xFr.rf
  have k1_1 : s0 1 1 = s0 1 1 := rfl
  refine x_aload_n hx hb hl 0 rfl dX10_felonIs_0 rfl ?_
  refine x_get (j := 8) (v := .ref (h0 + 136)) hx hb hown hT hE hW cls_X10 (Or.inl (by decide)) (so_0 h0 g _) (by decide) rfl wq520 dX10_felonIs_1 ?_
  refine x_iload_n hx hb hl 1 rfl dX10_felonIs_4 rfl ?_
  refine x_goi (x_runVN (As := [.int (xJ f)]) hx hb hml hown hT hE hW hl.1 (Or.inl (by decide)) (so_136 h0 g _) rfl cf_X2_hasFelon wq862 wq53 wn910 (c_X2_hasFelonF l D g T h0 s0 hW.2.1 136 xd_136 f rf p0) ⟨rfl, rfl, ⟨by decide, by decide⟩, ⟨by decide, by decide⟩⟩ rfl rfl (Nat.le_of_ble_eq_true rfl) dX10_felonIs_5) hW (fun x1 s2 H locs rx1 hp3 hW => ?_)
  obtain ⟨es2, hp3⟩ := hp3
  subst es2
  have ghp3 := hp3
  have H5 := ghp3
  simp only [Nat.reduceAdd] at H5
  refine x_if_ne (tgt := 13) hx hb rx1 dX10_felonIs_8 (by decide) (fun c4 => ?_) (fun c4 => ?_)
  · skip
    refine x_iload_n hx hb hl 2 rfl dX10_felonIs_13 rfl ?_
    have f13 : 0 ≤ f ∧ f < 10 := by omega
    have a4 : zYc s0 136 (4 + f) = s0 142 f := zYc_F f13
    have a14 : zYc s0 136 (14 + f) = s0 143 f := zYc_O f13
    have a24 : zYc s0 136 (24 + f) = s0 144 f := zYc_A f13
    have a34 : zYc s0 136 (34 + f) = s0 145 f := zYc_D f13
    have q13 := hY f f13.1 f13.2
    rcases (show (w < 0 ∨ 5 < w) ∨ w = 0 ∨ w = 1 ∨ w = 2 ∨ w = 3 ∨ w = 4 ∨ w = 5 from by omega) with c5 | c5 | c5 | c5 | c5 | c5 | c5
    · refine x_tabOut (tgt := 134) hx hb rw dX10_felonIs_14 c5 (by decide) ?_
      refine x_iconst hx hb dX10_felonIs_134 ?_
      rw [eQ]
      exact x_iret hx hb hr hlk hW (by decide) ⟨hF, ⟨p0, p1, p2, trivial⟩, Or.inl ⟨by omega, by omega, by omega, by
          unfold zfi
          (repeat' split) <;> omega⟩⟩ dX10_felonIs_135
    · refine x_tabIn (v := 0) (tgt := 52) hx hb rw c5 dX10_felonIs_14 (by decide) rfl (by decide) ?_
      refine x_aload_n hx hb hl 0 rfl dX10_felonIs_52 rfl ?_
      refine x_get (j := 8) (v := .ref (h0 + 136)) hx hb hown hT hE hW cls_X10 (Or.inl (by decide)) (so_0 h0 g _) (by decide) rfl wq520 dX10_felonIs_53 ?_
      refine x_getN (j := 3) (v := .ref (h0 + 142)) hx hb hown hT hE hW cls_X2 (Or.inl (by decide)) (so_136 h0 g _) (by decide) rfl wn391 dX10_felonIs_56 ?_
      refine x_iload_n hx hb hl 1 rfl dX10_felonIs_59 rfl ?_
      refine x_iald hx hb hE hW (Or.inl (by decide)) (sa_142 h0 g _) (by omega) (by decide) dX10_felonIs_60 ?_
      refine x_rd hW (fun x6 ex6 rx6 => ?_)
      have V60 : x6 = zYc s0 136 (4 + f) := by rw [a4]; exact ex6
      rw [eQ]
      exact x_iret hx hb hr hlk hW rx6 ⟨hF, ⟨p0, p1, p2, trivial⟩, Or.inl ⟨by omega, by omega, by omega, by
          unfold zfi
          (repeat' split) <;> omega⟩⟩ dX10_felonIs_61
    · refine x_tabIn (v := 1) (tgt := 62) hx hb rw c5 dX10_felonIs_14 (by decide) rfl (by decide) ?_
      refine x_aload_n hx hb hl 0 rfl dX10_felonIs_62 rfl ?_
      refine x_get (j := 8) (v := .ref (h0 + 136)) hx hb hown hT hE hW cls_X10 (Or.inl (by decide)) (so_0 h0 g _) (by decide) rfl wq520 dX10_felonIs_63 ?_
      refine x_getN (j := 4) (v := .ref (h0 + 143)) hx hb hown hT hE hW cls_X2 (Or.inl (by decide)) (so_136 h0 g _) (by decide) rfl wn394 dX10_felonIs_66 ?_
      refine x_iload_n hx hb hl 1 rfl dX10_felonIs_69 rfl ?_
      refine x_iald hx hb hE hW (Or.inl (by decide)) (sa_143 h0 g _) (by omega) (by decide) dX10_felonIs_70 ?_
      refine x_rd hW (fun x7 ex7 rx7 => ?_)
      have V70 : x7 = zYc s0 136 (14 + f) := by rw [a14]; exact ex7
      rw [eQ]
      exact x_iret hx hb hr hlk hW rx7 ⟨hF, ⟨p0, p1, p2, trivial⟩, Or.inl ⟨by omega, by omega, by omega, by
          unfold zfi
          (repeat' split) <;> omega⟩⟩ dX10_felonIs_71
    · refine x_tabIn (v := 2) (tgt := 72) hx hb rw c5 dX10_felonIs_14 (by decide) rfl (by decide) ?_
      refine x_aload_n hx hb hl 0 rfl dX10_felonIs_72 rfl ?_
      refine x_get (j := 8) (v := .ref (h0 + 136)) hx hb hown hT hE hW cls_X10 (Or.inl (by decide)) (so_0 h0 g _) (by decide) rfl wq520 dX10_felonIs_73 ?_
      refine x_getN (j := 5) (v := .ref (h0 + 144)) hx hb hown hT hE hW cls_X2 (Or.inl (by decide)) (so_136 h0 g _) (by decide) rfl wn397 dX10_felonIs_76 ?_
      refine x_iload_n hx hb hl 1 rfl dX10_felonIs_79 rfl ?_
      refine x_iald hx hb hE hW (Or.inl (by decide)) (sa_144 h0 g _) (by omega) (by decide) dX10_felonIs_80 ?_
      refine x_rd hW (fun x8 ex8 rx8 => ?_)
      have V80 : x8 = zYc s0 136 (24 + f) := by rw [a24]; exact ex8
      rw [eQ]
      exact x_iret hx hb hr hlk hW rx8 ⟨hF, ⟨p0, p1, p2, trivial⟩, Or.inl ⟨by omega, by omega, by omega, by
          unfold zfi
          (repeat' split) <;> omega⟩⟩ dX10_felonIs_81
    · refine x_tabIn (v := 3) (tgt := 82) hx hb rw c5 dX10_felonIs_14 (by decide) rfl (by decide) ?_
      refine x_aload_n hx hb hl 0 rfl dX10_felonIs_82 rfl ?_
      refine x_get (j := 8) (v := .ref (h0 + 136)) hx hb hown hT hE hW cls_X10 (Or.inl (by decide)) (so_0 h0 g _) (by decide) rfl wq520 dX10_felonIs_83 ?_
      refine x_getN (j := 6) (v := .ref (h0 + 145)) hx hb hown hT hE hW cls_X2 (Or.inl (by decide)) (so_136 h0 g _) (by decide) rfl wn399 dX10_felonIs_86 ?_
      refine x_iload_n hx hb hl 1 rfl dX10_felonIs_89 rfl ?_
      refine x_zald hx hb hE hW (Or.inl (by decide)) (sa_145 h0 g _) (by omega) (by decide) dX10_felonIs_90 ?_
      refine x_rd hW (fun x9 ex9 rx9 => ?_)
      have bx9 : x9 = 0 ∨ x9 = 1 := by rw [ex9]; exact IC.b p0 xd_136 _ (by omega) (by omega)
      have V90 : x9 = zYc s0 136 (34 + f) := by rw [a34]; exact ex9
      refine x_if_eq (tgt := 98) hx hb rx9 dX10_felonIs_91 (by decide) (fun c10 => ?_) (fun c10 => ?_)
      · skip
        refine x_iconst hx hb dX10_felonIs_98 ?_
        rw [eQ]
        exact x_iret hx hb hr hlk hW (by decide) ⟨hF, ⟨p0, p1, p2, trivial⟩, Or.inl ⟨by omega, by omega, by omega, by
            unfold zfi
            (repeat' split) <;> omega⟩⟩ dX10_felonIs_99
      refine x_iconst hx hb dX10_felonIs_94 ?_
      refine lv_goto (tgt := 99) hx hb dX10_felonIs_95 (by decide) ?_
      rw [eQ]
      exact x_iret hx hb hr hlk hW (by decide) ⟨hF, ⟨p0, p1, p2, trivial⟩, Or.inl ⟨by omega, by omega, by omega, by
          unfold zfi
          (repeat' split) <;> omega⟩⟩ dX10_felonIs_99
    · refine x_tabIn (v := 4) (tgt := 100) hx hb rw c5 dX10_felonIs_14 (by decide) rfl (by decide) ?_
      refine x_aload_n hx hb hl 0 rfl dX10_felonIs_100 rfl ?_
      refine x_get (j := 5) (v := .ref (h0 + 128)) hx hb hown hT hE hW cls_X10 (Or.inl (by decide)) (so_0 h0 g _) (by decide) rfl wq517 dX10_felonIs_101 ?_
      refine x_aload_n hx hb hl 0 rfl dX10_felonIs_104 rfl ?_
      refine x_get (j := 8) (v := .ref (h0 + 136)) hx hb hown hT hE hW cls_X10 (Or.inl (by decide)) (so_0 h0 g _) (by decide) rfl wq520 dX10_felonIs_105 ?_
      refine x_iload_n hx hb hl 1 rfl dX10_felonIs_108 rfl ?_
      refine x_goi (x_runVN (As := [.ref (h0 + 136), .int (xJ f)]) hx hb hml hown hT hE hW hl.1 (Or.inl (by decide)) (so_128 h0 g _) rfl cf_X0_reachOf wq879 wq57 wn936 (c_X0_reachOfF l D g T h0 s0 hW.2.1 136 xd_136 f rf q9 K9 (hok) (by first | exact hlc | exact hlc.f (fun k hk => hF k (by omega))) (by omega) (by first | exact hK | exact fun t t1 t2 => by rw [hF 4 (by omega)]; exact hK t t1 t2) (fun i i1 i2 => by
          have a := (hY i i1 i2).1
          have b : zYc s0 136 (4 + i) = s0 (136 + 6) i := zYc_F ⟨i1, i2⟩
          omega) (by omega) p0) ⟨rfl, rfl, ⟨by decide, by decide⟩, ⟨by decide, by decide⟩⟩ rfl rfl (Nat.le_of_ble_eq_true rfl) dX10_felonIs_109) hW (fun x11 s12 H locs rx11 hp13 hW => ?_)
      obtain ⟨fs12, hp13⟩ := hp13
      have hF14 := hF.call fs12 (fun k h => by omega)
      have q15 : IS s12 := IS_f (fun k hk => fs12 k (by unfold suIS at hk; omega)) p1
      have q16 : IQ s12 := IQ_f (fun k hk => fs12 k (by unfold suIQ at hk; omega)) p2
      have q17 : s12 1 1 = s0 1 1 := (congrFun (fs12 _ (by omega)) _).trans k1_1
      have ghp13 := hp13.2
      have H109 := ghp13
      rw [eQ]
      exact x_iret hx hb hr hlk hW rx11 ⟨hF14, ⟨hp13.1.1, q15, q16, trivial⟩, Or.inl ⟨by omega, by omega, by omega, by
          unfold zfi
          (repeat' split) <;> omega⟩⟩ dX10_felonIs_112
    · refine x_tabIn (v := 5) (tgt := 113) hx hb rw c5 dX10_felonIs_14 (by decide) rfl (by decide) ?_
      refine x_aload_n hx hb hl 0 rfl dX10_felonIs_113 rfl ?_
      refine x_get (j := 5) (v := .ref (h0 + 128)) hx hb hown hT hE hW cls_X10 (Or.inl (by decide)) (so_0 h0 g _) (by decide) rfl wq517 dX10_felonIs_114 ?_
      refine x_aload_n hx hb hl 0 rfl dX10_felonIs_117 rfl ?_
      refine x_get (j := 8) (v := .ref (h0 + 136)) hx hb hown hT hE hW cls_X10 (Or.inl (by decide)) (so_0 h0 g _) (by decide) rfl wq520 dX10_felonIs_118 ?_
      refine x_aload_n hx hb hl 0 rfl dX10_felonIs_121 rfl ?_
      refine x_get (j := 8) (v := .ref (h0 + 136)) hx hb hown hT hE hW cls_X10 (Or.inl (by decide)) (so_0 h0 g _) (by decide) rfl wq520 dX10_felonIs_122 ?_
      refine x_getN (j := 3) (v := .ref (h0 + 142)) hx hb hown hT hE hW cls_X2 (Or.inl (by decide)) (so_136 h0 g _) (by decide) rfl wn391 dX10_felonIs_125 ?_
      refine x_iload_n hx hb hl 1 rfl dX10_felonIs_128 rfl ?_
      refine x_iald hx hb hE hW (Or.inl (by decide)) (sa_142 h0 g _) (by omega) (by decide) dX10_felonIs_129 ?_
      refine x_rd hW (fun x18 ex18 rx18 => ?_)
      have V129 : x18 = zYc s0 136 (4 + f) := by rw [a4]; exact ex18
      refine x_goi (x_runVN (As := [.ref (h0 + 136), .int (xJ x18)]) hx hb hml hown hT hE hW hl.1 (Or.inl (by decide)) (so_128 h0 g _) rfl cf_X0_shadowsAt wq939 wq68 wn937 (c_X0_shadowsAtF l D g T h0 s0 hW.2.1 136 xd_136 x18 rx18 q9 K9 l9 (hok) (by first | exact hlc | exact hlc.f (fun k hk => hF k (by omega))) (by first | exact hK | exact fun t t1 t2 => by rw [hF 4 (by omega)]; exact hK t t1 t2) (by first | exact hlm | exact fun i i1 i2 => by rw [hF 129 (by omega)]; exact hlm i i1 i2) (fun j j1 j2 => by
          have a := zok_j hok4 j j1 j2
          have b : zYc s0 136 j = s0 (136 + 1) j := zYc_J ⟨j1, j2⟩
          omega) p0 p1) ⟨rfl, rfl, ⟨by decide, by decide⟩, ⟨by decide, by decide⟩⟩ rfl rfl (Nat.le_of_ble_eq_true rfl) dX10_felonIs_130) hW (fun x19 s20 H locs rx19 hp21 hW => ?_)
      obtain ⟨fs20, hp21⟩ := hp21
      have hF22 := hF.call fs20 (fun k h => by omega)
      have q23 : IQ s20 := IQ_f (fun k hk => fs20 k (by unfold suIQ at hk; omega)) p2
      have q24 : s20 1 1 = s0 1 1 := (congrFun (fs20 _ (by omega)) _).trans k1_1
      have ghp21 := hp21.2
      have H130 := ghp21
      have R130 : x19 = zLy K9 q9 l9 (zYc s0 136 44) (zYc s0 136) 1 (zni q9 (zYc s0 136 44)) (zYc s0 136 (4 + f)) := by
        rw [(H130.resolve_right (fun q => by omega)).2.2, zLy_J (J := zYc s0 136) (show s0 137 0 = zYc s0 136 0 from (zYc_J ⟨by decide, by decide⟩).symm) (show s0 137 1 = zYc s0 136 1 from (zYc_J ⟨by decide, by decide⟩).symm), zYc_44, V129]
      rw [eQ]
      exact x_iret hx hb hr hlk hW rx19 ⟨hF22, ⟨hp21.1.1, hp21.1.2.1, q23, trivial⟩, Or.inl ⟨by omega, by omega, by omega, by
          unfold zfi
          (repeat' split) <;> omega⟩⟩ dX10_felonIs_133
  refine x_iconst hx hb dX10_felonIs_11 ?_
  rw [eQ]
  exact x_iret hx hb hr hlk hW (by decide) ⟨hF, ⟨p0, p1, p2, trivial⟩, Or.inr ⟨fun z => by
      have a : zYc s0 136 (4 + f) = s0 142 f := zYc_F ⟨z.1, z.2.1⟩
      omega, by omega⟩⟩ dX10_felonIs_12
set_option maxHeartbeats 4000000 in
set_option maxRecDepth 100000 in
theorem c_X1_canGoF (l : Launch) (D : va_G) (g : xG) (T : Nat × Nat × Nat) (h0 : Nat) (s0 : xS) (hσ : xRR s0) (d : Nat) (hd : xDay d) (f : Int) (rf : xR f) (a : Int) (ra : xR a) (p0 : IC s0) (p1 : IQ s0) : Met l yX1_canGo (xws yX1_canGo cX1_canGo 4 (some .boolean)) { frames := 3, cells := 0, slots := 0, locals := 73 } (xP [.ref (h0 + 261), .ref (h0 + d), .int (xJ f), .int (xJ a)] D g T h0 s0) (xQi D g h0 (fun r τ => xFr (fun k => (7 ≤ k ∧ k < 107) ∨ k = 107) s0 τ ∧ (((IC τ) ∧ (IQ τ) ∧ True) ∧ (r = 0 ∨ (r = 1 ∧ 0 ≤ f ∧ f < 10 ∧ 0 ≤ a ∧ a < 100))))) 0 0 (xA h0) := by
  refine x_met hσ (by decide) (Nat.le_of_ble_eq_true rfl) ?_
  intro p e s m args below meth c hx hb hr hml hown hT hlk hnm hE hW ls hl
  have hl : lv_has ls 4 [(0, .ref (h0 + 261)), (1, .ref (h0 + d)), (2, .int (xJ f)), (3, .int (xJ a))] := hl
  obtain ⟨Q, eQ⟩ : ∃ Q, Q = MQ below (xQi D g h0 (fun r τ => xFr (fun k => (7 ≤ k ∧ k < 107) ∨ k = 107) s0 τ ∧ (((IC τ) ∧ (IQ τ) ∧ True) ∧ (r = 0 ∨ (r = 1 ∧ 0 ≤ f ∧ f < 10 ∧ 0 ≤ a ∧ a < 100))))) args s 0 0 (xA h0) := ⟨_, rfl⟩
  rw [← eQ]
  generalize hHe : ([] : List Loc) = locs at hW ⊢
  obtain ⟨H, eH⟩ : ∃ H, H = s.heap := ⟨_, rfl⟩
  rw [← eH] at hW ⊢
  have hF : xFr (fun k => (7 ≤ k ∧ k < 107) ∨ k = 107) s0 s0 := xFr.rf
  have hbd : (136 ≤ d ∧ d < 209) ∧ (d ≤ 146 ∨ 158 ≤ d) := by unfold xDay at hd; omega
  have k1_1 : s0 1 1 = s0 1 1 := rfl
  refine x_aload_n hx hb hl 1 rfl dX1_canGo_0 rfl ?_
  refine x_iload_n hx hb hl 2 rfl dX1_canGo_1 rfl ?_
  refine x_goi (x_runVN (As := [.int (xJ f)]) hx hb hml hown hT hE hW hl.1 (Or.inl (by omega)) (so_day0 h0 g hd _) rfl cf_X2_hasFelon wq862 wq53 wn969 (c_X2_hasFelonF l D g T h0 s0 hW.2.1 d hd f rf p0) ⟨rfl, rfl, ⟨by decide, by decide⟩, ⟨by decide, by decide⟩⟩ rfl rfl (Nat.le_of_ble_eq_true rfl) dX1_canGo_2) hW (fun x1 s2 H locs rx1 hp3 hW => ?_)
  obtain ⟨es2, hp3⟩ := hp3
  subst es2
  have ghp3 := hp3
  refine x_if_eq (tgt := 45) hx hb rx1 dX1_canGo_5 (by decide) (fun c4 => ?_) (fun c4 => ?_)
  · skip
    refine x_iconst hx hb dX1_canGo_45 ?_
    rw [eQ]
    exact x_zret hx hb hr hlk hW (by omega) ⟨hF, ⟨p0, p1, trivial⟩, by omega⟩ dX1_canGo_46
  refine x_iload_n hx hb hl 3 rfl dX1_canGo_8 rfl ?_
  refine x_goi (x_runSN (As := [.int (xJ a)]) hx hb hml hown hT hE hW hl.1 cf_X6_isSpot wq831 wn970 (c_X6_isSpot l D g T h0 s0 hW.2.1 a ra) ⟨rfl, rfl, ⟨by decide, by decide⟩, ⟨by decide, by decide⟩⟩ rfl rfl (Nat.le_of_ble_eq_true rfl) dX1_canGo_9) hW (fun x5 s6 H locs rx5 hp7 hW => ?_)
  obtain ⟨es6, hp7⟩ := hp7
  subst es6
  have ghp7 := hp7
  refine x_if_eq (tgt := 45) hx hb rx5 dX1_canGo_12 (by decide) (fun c8 => ?_) (fun c8 => ?_)
  · skip
    refine x_iconst hx hb dX1_canGo_45 ?_
    rw [eQ]
    exact x_zret hx hb hr hlk hW (by omega) ⟨hF, ⟨p0, p1, trivial⟩, by omega⟩ dX1_canGo_46
  refine x_aload_n hx hb hl 0 rfl dX1_canGo_15 rfl ?_
  refine x_get (j := 0) (v := .ref (h0 + 128)) hx hb hown hT hE hW cls_X1 (Or.inl (by decide)) (so_261 h0 g _) (by decide) rfl wq493 dX1_canGo_16 ?_
  refine x_getN (j := 0) (v := .ref (h0 + 3)) hx hb hown hT hE hW cls_X0 (Or.inl (by decide)) (so_128 h0 g _) (by decide) rfl wn352 dX1_canGo_19 ?_
  refine x_aload_n hx hb hl 1 rfl dX1_canGo_22 rfl ?_
  refine x_getN (j := 3) (v := .ref (h0 + (d + 6))) hx hb hown hT hE hW cls_X2 (Or.inl (by omega)) (so_day0 h0 g hd _) (by decide) rfl wn389 dX1_canGo_23 ?_
  refine x_iload_n hx hb hl 2 rfl dX1_canGo_26 rfl ?_
  refine x_iald hx hb hE hW (Or.inl (by omega)) (sa_day6 h0 g hd _) (by omega) (by decide) dX1_canGo_27 ?_
  refine x_rd hW (fun x9 ex9 rx9 => ?_)
  refine x_iload_n hx hb hl 3 rfl dX1_canGo_28 rfl ?_
  refine x_goi (x_runVN (As := [.int (xJ x9), .int (xJ a)]) hx hb hml hown hT hE hW hl.1 (Or.inl (by decide)) (so_3 h0 g _) rfl cf_X6_stepsBetween wq888 wq59 wn971 (c_X6_stepsBetweenF l D g T h0 s0 hW.2.1 x9 rx9 a ra p0 p1) ⟨rfl, rfl, ⟨by decide, by decide⟩, ⟨by decide, by decide⟩⟩ rfl rfl (Nat.le_of_ble_eq_true rfl) dX1_canGo_29) hW (fun x10 s11 H locs rx10 hp12 hW => ?_)
  obtain ⟨fs11, hp12⟩ := hp12
  have hF13 := hF.call fs11 (fun k h => by omega)
  have q14 : s11 1 1 = s0 1 1 := (congrFun (fs11 _ (by omega)) _).trans k1_1
  have ghp12 := hp12.2
  refine x_aload_n hx hb hl 0 rfl dX1_canGo_32 rfl ?_
  refine x_get (j := 1) (v := .ref (h0 + 262)) hx hb hown hT hE hW cls_X1 (Or.inl (by decide)) (so_261 h0 g _) (by decide) rfl wq494 dX1_canGo_33 ?_
  refine x_iload_n hx hb hl 2 rfl dX1_canGo_36 rfl ?_
  refine x_iald hx hb hE hW (Or.inl (by decide)) (sa_262 h0 g _) (by omega) (by decide) dX1_canGo_37 ?_
  refine x_rd hW (fun x15 ex15 rx15 => ?_)
  refine x_icmp_gt (tgt := 45) hx hb rx10 rx15 dX1_canGo_38 (by decide) (fun c16 => ?_) (fun c16 => ?_)
  · skip
    refine x_iconst hx hb dX1_canGo_45 ?_
    rw [eQ]
    exact x_zret hx hb hr hlk hW (by omega) ⟨hF13, ⟨hp12.1.1, hp12.1.2.1, trivial⟩, by omega⟩ dX1_canGo_46
  refine x_iconst hx hb dX1_canGo_41 ?_
  refine lv_goto (tgt := 46) hx hb dX1_canGo_42 (by decide) ?_
  rw [eQ]
  exact x_zret hx hb hr hlk hW (by omega) ⟨hF13, ⟨hp12.1.1, hp12.1.2.1, trivial⟩, by omega⟩ dX1_canGo_46
set_option maxHeartbeats 4000000 in
set_option maxRecDepth 100000 in
theorem c_X1_findsPlaceF (l : Launch) (D : va_G) (g : xG) (T : Nat × Nat × Nat) (h0 : Nat) (s0 : xS) (hσ : xRR s0) (d : Nat) (hd : xDay d) (f : Int) (rf : xR f) (p0 : IC s0) (p1 : IQ s0) : Met l yX1_findsPlace (xws yX1_findsPlace cX1_findsPlace 8 (some .boolean)) { frames := 4, cells := 0, slots := 0, locals := 96 } (xP [.ref (h0 + 261), .ref (h0 + d), .int (xJ f)] D g T h0 s0) (xQi D g h0 (fun r τ => xFr (fun k => (7 ≤ k ∧ k < 107) ∨ k = 107 ∨ k = 263 ∨ k = 264 ∨ k = 265 ∨ k = 266) s0 τ ∧ (((IC τ) ∧ (IQ τ) ∧ True) ∧ (r = 0 ∨ r = 1)))) 0 0 (xA h0) := by
  refine x_met hσ (by decide) (Nat.le_of_ble_eq_true rfl) ?_
  intro p e s m args below meth c hx hb hr hml hown hT hlk hnm hE hW ls hl
  have hl : lv_has ls 8 [(0, .ref (h0 + 261)), (1, .ref (h0 + d)), (2, .int (xJ f))] := hl
  obtain ⟨Q, eQ⟩ : ∃ Q, Q = MQ below (xQi D g h0 (fun r τ => xFr (fun k => (7 ≤ k ∧ k < 107) ∨ k = 107 ∨ k = 263 ∨ k = 264 ∨ k = 265 ∨ k = 266) s0 τ ∧ (((IC τ) ∧ (IQ τ) ∧ True) ∧ (r = 0 ∨ r = 1)))) args s 0 0 (xA h0) := ⟨_, rfl⟩
  rw [← eQ]
  generalize hHe : ([] : List Loc) = locs at hW ⊢
  obtain ⟨H, eH⟩ : ∃ H, H = s.heap := ⟨_, rfl⟩
  rw [← eH] at hW ⊢
  have hF : xFr (fun k => (7 ≤ k ∧ k < 107) ∨ k = 107 ∨ k = 263 ∨ k = 264 ∨ k = 265 ∨ k = 266) s0 s0 := xFr.rf
  have hbd : (136 ≤ d ∧ d < 209) ∧ (d ≤ 146 ∨ 158 ≤ d) := by unfold xDay at hd; omega
  have k1_1 : s0 1 1 = s0 1 1 := rfl
  refine x_iconst hx hb dX1_findsPlace_0 ?_
  refine lv_istore_n (lv' := [(3, .int (xJ 0)), (0, .ref (h0 + 261)), (1, .ref (h0 + d)), (2, .int (xJ f))]) hx hb dX1_findsPlace_1 rfl hl (by decide) rfl (fun ls hl => ?_)
  have L2 : ∀ (fu : Nat) (i3_2 : Int) (s_2 : xS) (H : Heap) (locs : List Loc) (ls : Array Slot), (xR i3_2) → (xFr (fun k => (7 ≤ k ∧ k < 107) ∨ k = 107 ∨ k = 263 ∨ k = 264 ∨ k = 265 ∨ k = 266) s0 s_2) → (IC s_2) → (IQ s_2) → (s_2 1 1 = s0 1 1) → (0 ≤ i3_2) → (i3_2 ≤ 100) → (100 + 1 - i3_2).toNat < fu → xW D g h0 s H locs s_2 → lv_has ls 8 [(0, .ref (h0 + 261)), (1, .ref (h0 + d)), (2, .int (xJ f)), (3, .int (xJ i3_2))] → W p l e { frames := 4, cells := 0, slots := 0, locals := 96 } s m args below meth c H locs 0 0 Q (F0 m 2 ls []) := by
    intro fu
    induction fu with
    | zero => intro i3_2 s_2 H locs ls ri3_2 hF_2 q2_0 q2_1 q2_2 v2_0 v2_1 hm; exact absurd hm (Nat.not_lt_zero _)
    | succ fu ih2 =>
      intro i3_2 s_2 H locs ls ri3_2 hF_2 q2_0 q2_1 q2_2 v2_0 v2_1 hm hW hl
      have hm_2 := fun (_ : Unit) => hm
      clear hm
      refine x_iload_n hx hb hl 3 rfl dX1_findsPlace_2 rfl ?_
      refine x_bipush hx hb dX1_findsPlace_3 (by decide) ?_
      refine x_icmp_ge (tgt := 21) hx hb ri3_2 (by decide) dX1_findsPlace_5 (by decide) (fun c1 => ?_) (fun c1 => ?_)
      · skip
        refine x_aload_n hx hb hl 0 rfl dX1_findsPlace_21 rfl ?_
        refine x_get (j := 5) (v := .ref (h0 + 266)) hx hb hown hT hE hW cls_X1 (Or.inl (by decide)) (so_261 h0 g _) (by decide) rfl wq498 dX1_findsPlace_22 ?_
        refine x_iconst hx hb dX1_findsPlace_25 ?_
        refine x_iload_n hx hb hl 2 rfl dX1_findsPlace_26 rfl ?_
        refine x_iast hx hb hE hW (by decide) (fun σ => sa_266 h0 g σ) ⟨by decide, by decide⟩ (by decide) rf dX1_findsPlace_27 (fun H locs s2 es2 hW => ?_)
        have q3 : IC s2 := by rw [es2]; exact IC_o (by decide) q2_0
        have q4 : IQ s2 := by rw [es2]; exact IQ_o (by unfold suIQ; first | decide | omega) q2_1
        have q5 : s2 1 1 = s0 1 1 := (show s2 1 1 = s_2 1 1 from by rw [es2, xU_k _ _ _ (by first | decide | omega)]).trans q2_2
        have hF6 := hF_2.put es2 (by omega)
        refine x_iconst hx hb dX1_findsPlace_28 ?_
        refine lv_istore_n (lv' := [(3, .int (xJ 1)), (0, .ref (h0 + 261)), (1, .ref (h0 + d)), (2, .int (xJ f))]) hx hb dX1_findsPlace_29 rfl hl (by decide) rfl (fun ls hl => ?_)
        refine x_iconst hx hb dX1_findsPlace_30 ?_
        refine lv_istore (lv' := [(4, .int (xJ 0)), (3, .int (xJ 1)), (0, .ref (h0 + 261)), (1, .ref (h0 + d)), (2, .int (xJ f))]) hx hb dX1_findsPlace_31 hl (by decide) rfl (fun ls hl => ?_)
        have L33 : ∀ (fu : Nat) (i3_33 : Int) (i4_33 : Int) (s_33 : xS) (H : Heap) (locs : List Loc) (ls : Array Slot), (xR i3_33) → (xR i4_33) → (xFr (fun k => (7 ≤ k ∧ k < 107) ∨ k = 107 ∨ k = 263 ∨ k = 264 ∨ k = 265 ∨ k = 266) s0 s_33) → (IC s_33) → (IQ s_33) → (s_33 1 1 = s0 1 1) → (0 ≤ i4_33) → (0 ≤ i3_33) → (10 - i4_33).toNat < fu → xW D g h0 s H locs s_33 → lv_has ls 8 [(0, .ref (h0 + 261)), (1, .ref (h0 + d)), (3, .int (xJ i3_33)), (4, .int (xJ i4_33))] → W p l e { frames := 4, cells := 0, slots := 0, locals := 96 } s m args below meth c H locs 0 0 Q (F0 m 33 ls []) := by
          intro fu
          induction fu with
          | zero => intro i3_33 i4_33 s_33 H locs ls ri3_33 ri4_33 hF_33 q33_0 q33_1 q33_2 v33_0 v33_1 hm; exact absurd hm (Nat.not_lt_zero _)
          | succ fu ih33 =>
            intro i3_33 i4_33 s_33 H locs ls ri3_33 ri4_33 hF_33 q33_0 q33_1 q33_2 v33_0 v33_1 hm hW hl
            have hm_33 := fun (_ : Unit) => hm
            clear hm
            refine x_iload hx hb hl 3 rfl dX1_findsPlace_33 ?_
            refine x_iload_n hx hb hl 2 rfl dX1_findsPlace_35 rfl ?_
            refine x_icmp_ge (tgt := 183) hx hb ri4_33 ri3_33 dX1_findsPlace_36 (by decide) (fun c7 => ?_) (fun c7 => ?_)
            · skip
              refine x_iconst hx hb dX1_findsPlace_183 ?_
              rw [eQ]
              exact x_zret hx hb hr hlk hW (by omega) ⟨hF_33, ⟨q33_0, q33_1, trivial⟩, by omega⟩ dX1_findsPlace_184
            refine x_iload hx hb hl 3 rfl dX1_findsPlace_39 ?_
            refine x_bipush hx hb dX1_findsPlace_41 (by decide) ?_
            refine x_icmp_ge (tgt := 183) hx hb ri4_33 (by decide) dX1_findsPlace_43 (by decide) (fun c8 => ?_) (fun c8 => ?_)
            · skip
              refine x_iconst hx hb dX1_findsPlace_183 ?_
              rw [eQ]
              exact x_zret hx hb hr hlk hW (by omega) ⟨hF_33, ⟨q33_0, q33_1, trivial⟩, by omega⟩ dX1_findsPlace_184
            refine x_aload_n hx hb hl 0 rfl dX1_findsPlace_46 rfl ?_
            refine x_get (j := 5) (v := .ref (h0 + 266)) hx hb hown hT hE hW cls_X1 (Or.inl (by decide)) (so_261 h0 g _) (by decide) rfl wq498 dX1_findsPlace_47 ?_
            refine x_iload hx hb hl 3 rfl dX1_findsPlace_50 ?_
            refine x_iald hx hb hE hW (Or.inl (by decide)) (sa_266 h0 g _) (by omega) (by decide) dX1_findsPlace_52 ?_
            refine x_rd hW (fun x9 ex9 rx9 => ?_)
            refine lv_istore (lv' := [(5, .int (xJ x9)), (0, .ref (h0 + 261)), (1, .ref (h0 + d)), (3, .int (xJ i3_33)), (4, .int (xJ i4_33))]) hx hb dX1_findsPlace_53 hl (by decide) rfl (fun ls hl => ?_)
            refine x_iconst hx hb dX1_findsPlace_55 ?_
            refine lv_istore (lv' := [(6, .int (xJ 0)), (5, .int (xJ x9)), (0, .ref (h0 + 261)), (1, .ref (h0 + d)), (3, .int (xJ i3_33)), (4, .int (xJ i4_33))]) hx hb dX1_findsPlace_56 hl (by decide) rfl (fun ls hl => ?_)
            have L58 : ∀ (fu : Nat) (i3_58 : Int) (i6_58 : Int) (s_58 : xS) (H : Heap) (locs : List Loc) (ls : Array Slot), (xR i3_58) → (xR i6_58) → (xFr (fun k => (7 ≤ k ∧ k < 107) ∨ k = 107 ∨ k = 263 ∨ k = 264 ∨ k = 265 ∨ k = 266) s0 s_58) → (IC s_58) → (IQ s_58) → (s_58 1 1 = s0 1 1) → (0 ≤ i6_58) → (0 ≤ i3_58) → (100 - i6_58).toNat < fu → xW D g h0 s H locs s_58 → lv_has ls 8 [(0, .ref (h0 + 261)), (1, .ref (h0 + d)), (3, .int (xJ i3_58)), (4, .int (xJ i4_33)), (5, .int (xJ x9)), (6, .int (xJ i6_58))] → W p l e { frames := 4, cells := 0, slots := 0, locals := 96 } s m args below meth c H locs 0 0 Q (F0 m 58 ls []) := by
              intro fu
              induction fu with
              | zero => intro i3_58 i6_58 s_58 H locs ls ri3_58 ri6_58 hF_58 q58_0 q58_1 q58_2 v58_0 v58_1 hm; exact absurd hm (Nat.not_lt_zero _)
              | succ fu ih58 =>
                intro i3_58 i6_58 s_58 H locs ls ri3_58 ri6_58 hF_58 q58_0 q58_1 q58_2 v58_0 v58_1 hm hW hl
                have hm_58 := fun (_ : Unit) => hm
                clear hm
                refine x_iload hx hb hl 5 rfl dX1_findsPlace_58 ?_
                refine x_aload_n hx hb hl 0 rfl dX1_findsPlace_60 rfl ?_
                refine x_get (j := 0) (v := .ref (h0 + 128)) hx hb hown hT hE hW cls_X1 (Or.inl (by decide)) (so_261 h0 g _) (by decide) rfl wq493 dX1_findsPlace_61 ?_
                refine x_getN (j := 3) (v := .ref (h0 + 130)) hx hb hown hT hE hW cls_X0 (Or.inl (by decide)) (so_128 h0 g _) (by decide) rfl wn358 dX1_findsPlace_64 ?_
                refine x_getN (j := 3) (v := .int (xJ (s_58 130 3))) hx hb hown hT hE hW cls_X7 (Or.inl (by decide)) (so_130 h0 g _) (by decide) rfl wn338 dX1_findsPlace_67 ?_
                refine x_rd hW (fun x10 ex10 rx10 => ?_)
                have bx10 : 0 ≤ x10 ∧ x10 ≤ 100 := by rw [ex10]; exact IC.z q58_0
                refine x_icmp_ge (tgt := 177) hx hb ri6_58 rx10 dX1_findsPlace_70 (by decide) (fun c11 => ?_) (fun c11 => ?_)
                · skip
                  refine x_iinc (lv' := [(4, .int (xJ (i4_33 + 1))), (0, .ref (h0 + 261)), (1, .ref (h0 + d)), (3, .int (xJ i3_58)), (5, .int (xJ x9)), (6, .int (xJ i6_58))]) hx hb hl 3 rfl dX1_findsPlace_177 (by decide) rfl (fun ls hl => ?_)
                  refine lv_goto (tgt := 33) hx hb dX1_findsPlace_180 (by decide) ?_
                  exact ih33 i3_58 (i4_33 + 1) s_58 H locs ls ri3_58 (by omega) hF_58 q58_0 q58_1 q58_2 (by omega) (by omega) (by have hm := hm_33 (); omega) hW (lv_sub hl [1, 2, 3, 0] rfl)
                refine x_iload hx hb hl 5 rfl dX1_findsPlace_73 ?_
                refine x_bipush hx hb dX1_findsPlace_75 (by decide) ?_
                refine x_icmp_ge (tgt := 177) hx hb ri6_58 (by decide) dX1_findsPlace_77 (by decide) (fun c12 => ?_) (fun c12 => ?_)
                · skip
                  refine x_iinc (lv' := [(4, .int (xJ (i4_33 + 1))), (0, .ref (h0 + 261)), (1, .ref (h0 + d)), (3, .int (xJ i3_58)), (5, .int (xJ x9)), (6, .int (xJ i6_58))]) hx hb hl 3 rfl dX1_findsPlace_177 (by decide) rfl (fun ls hl => ?_)
                  refine lv_goto (tgt := 33) hx hb dX1_findsPlace_180 (by decide) ?_
                  exact ih33 i3_58 (i4_33 + 1) s_58 H locs ls ri3_58 (by omega) hF_58 q58_0 q58_1 q58_2 (by omega) (by omega) (by have hm := hm_33 (); omega) hW (lv_sub hl [1, 2, 3, 0] rfl)
                refine x_aload_n hx hb hl 0 rfl dX1_findsPlace_80 rfl ?_
                refine x_get (j := 0) (v := .ref (h0 + 128)) hx hb hown hT hE hW cls_X1 (Or.inl (by decide)) (so_261 h0 g _) (by decide) rfl wq493 dX1_findsPlace_81 ?_
                refine x_getN (j := 3) (v := .ref (h0 + 130)) hx hb hown hT hE hW cls_X0 (Or.inl (by decide)) (so_128 h0 g _) (by decide) rfl wn358 dX1_findsPlace_84 ?_
                refine x_getN (j := 1) (v := .ref (h0 + 132)) hx hb hown hT hE hW cls_X7 (Or.inl (by decide)) (so_130 h0 g _) (by decide) rfl wn332 dX1_findsPlace_87 ?_
                refine x_iload hx hb hl 5 rfl dX1_findsPlace_90 ?_
                refine x_iald hx hb hE hW (Or.inl (by decide)) (sa_132 h0 g _) (by omega) (by decide) dX1_findsPlace_92 ?_
                refine x_rd hW (fun x13 ex13 rx13 => ?_)
                refine lv_istore (lv' := [(7, .int (xJ x13)), (0, .ref (h0 + 261)), (1, .ref (h0 + d)), (3, .int (xJ i3_58)), (4, .int (xJ i4_33)), (5, .int (xJ x9)), (6, .int (xJ i6_58))]) hx hb dX1_findsPlace_93 hl (by decide) rfl (fun ls hl => ?_)
                refine x_aload_n hx hb hl 1 rfl dX1_findsPlace_95 rfl ?_
                refine x_aload_n hx hb hl 2 rfl dX1_findsPlace_96 rfl ?_
                refine x_iload hx hb hl 5 rfl dX1_findsPlace_97 ?_
                refine x_iload hx hb hl 0 rfl dX1_findsPlace_99 ?_
                refine x_goi (x_runV (As := [.ref (h0 + d), .int (xJ x9), .int (xJ x13)]) hx hb hml hown hT hE hW hl.1 (Or.inl (by decide)) (so_261 h0 g _) rfl cf_X1_canGo wq967 wq72 wq965 (c_X1_canGoF l D g T h0 s_58 hW.2.1 d hd x9 rx9 x13 rx13 q58_0 q58_1) ⟨rfl, rfl, ⟨by decide, by decide⟩, ⟨by decide, by decide⟩⟩ rfl rfl (Nat.le_of_ble_eq_true rfl) dX1_findsPlace_101) hW (fun x14 s15 H locs rx14 hp16 hW => ?_)
                obtain ⟨fs15, hp16⟩ := hp16
                have hF17 := hF_58.call fs15 (fun k h => by omega)
                have q18 : s15 1 1 = s0 1 1 := (congrFun (fs15 _ (by omega)) _).trans q58_2
                have ghp16 := hp16.2
                have J171 : ∀ (i3_171 : Int) (s_171 : xS) (H : Heap) (locs : List Loc) (ls : Array Slot), (xR i3_171) → (xFr (fun k => (7 ≤ k ∧ k < 107) ∨ k = 107 ∨ k = 263 ∨ k = 264 ∨ k = 265 ∨ k = 266) s0 s_171) → (s_171 1 1 = s0 1 1) → (IC s_171) → (IQ s_171) → (0 ≤ i3_171) → xW D g h0 s H locs s_171 → lv_has ls 8 [(0, .ref (h0 + 261)), (1, .ref (h0 + d)), (3, .int (xJ i3_171)), (4, .int (xJ i4_33)), (5, .int (xJ x9)), (6, .int (xJ i6_58))] → W p l e { frames := 4, cells := 0, slots := 0, locals := 96 } s m args below meth c H locs 0 0 Q (F0 m 171 ls []) := by
                  intro i3_171 s_171 H locs ls ri3_171 hF_171 q171_0 q171_1 q171_2 v171_0 hW hl
                  refine x_iinc (lv' := [(6, .int (xJ (i6_58 + 1))), (0, .ref (h0 + 261)), (1, .ref (h0 + d)), (3, .int (xJ i3_171)), (4, .int (xJ i4_33)), (5, .int (xJ x9))]) hx hb hl 5 rfl dX1_findsPlace_171 (by decide) rfl (fun ls hl => ?_)
                  refine lv_goto (tgt := 58) hx hb dX1_findsPlace_174 (by decide) ?_
                  exact ih58 i3_171 (i6_58 + 1) s_171 H locs ls ri3_171 (by omega) hF_171 q171_1 q171_2 q171_0 (by omega) (by omega) (by have hm := hm_58 (); omega) hW (lv_sub hl [1, 2, 3, 4, 5, 0] rfl)
                refine x_if_eq (tgt := 171) hx hb rx14 dX1_findsPlace_104 (by decide) (fun c19 => ?_) (fun c19 => ?_)
                · skip
                  exact J171 i3_58 s15 H locs ls ri3_58 hF17 q18 hp16.1.1 hp16.1.2.1 (by omega) hW (lv_sub hl [1, 2, 3, 4, 5, 6] rfl)
                refine x_aload_n hx hb hl 1 rfl dX1_findsPlace_107 rfl ?_
                refine x_get (j := 4) (v := .ref (h0 + 265)) hx hb hown hT hE hW cls_X1 (Or.inl (by decide)) (so_261 h0 g _) (by decide) rfl wq497 dX1_findsPlace_108 ?_
                refine x_iload hx hb hl 0 rfl dX1_findsPlace_111 ?_
                refine x_iald hx hb hE hW (Or.inl (by decide)) (sa_265 h0 g _) (by omega) (by decide) dX1_findsPlace_113 ?_
                refine x_rd hW (fun x20 ex20 rx20 => ?_)
                refine x_iconst hx hb dX1_findsPlace_114 ?_
                refine x_icmp_eq (tgt := 121) hx hb rx20 (by decide) dX1_findsPlace_115 (by decide) (fun c21 => ?_) (fun c21 => ?_)
                · skip
                  refine x_aload_n hx hb hl 1 rfl dX1_findsPlace_121 rfl ?_
                  refine x_get (j := 4) (v := .ref (h0 + 265)) hx hb hown hT hE hW cls_X1 (Or.inl (by decide)) (so_261 h0 g _) (by decide) rfl wq497 dX1_findsPlace_122 ?_
                  refine x_iload hx hb hl 0 rfl dX1_findsPlace_125 ?_
                  refine x_iload hx hb hl 5 rfl dX1_findsPlace_127 ?_
                  refine x_iast hx hb hE hW (by decide) (fun σ => sa_265 h0 g σ) (by omega) (by decide) rx9 dX1_findsPlace_129 (fun H locs s22 es22 hW => ?_)
                  have q23 : s22 1 1 = s0 1 1 := (show s22 1 1 = s15 1 1 from by rw [es22, xU_k _ _ _ (by first | decide | omega)]).trans q18
                  have q24 : IC s22 := by rw [es22]; exact IC_o (by decide) hp16.1.1
                  have q25 : IQ s22 := by rw [es22]; exact IQ_o (by unfold suIQ; first | decide | omega) hp16.1.2.1
                  have hF26 := hF17.put es22 (by omega)
                  refine x_aload_n hx hb hl 1 rfl dX1_findsPlace_130 rfl ?_
                  refine x_get (j := 3) (v := .ref (h0 + 264)) hx hb hown hT hE hW cls_X1 (Or.inl (by decide)) (so_261 h0 g _) (by decide) rfl wq496 dX1_findsPlace_131 ?_
                  refine x_iload hx hb hl 0 rfl dX1_findsPlace_134 ?_
                  refine x_iald hx hb hE hW (Or.inl (by decide)) (sa_264 h0 g _) (by omega) (by decide) dX1_findsPlace_136 ?_
                  refine x_rd hW (fun x27 ex27 rx27 => ?_)
                  refine x_iconst hx hb dX1_findsPlace_137 ?_
                  refine x_icmp_ne (tgt := 149) hx hb rx27 (by decide) dX1_findsPlace_138 (by decide) (fun c28 => ?_) (fun c28 => ?_)
                  · skip
                    refine x_iload_n hx hb hl 3 rfl dX1_findsPlace_149 rfl ?_
                    refine x_bipush hx hb dX1_findsPlace_150 (by decide) ?_
                    refine x_icmp_ge (tgt := 171) hx hb ri3_58 (by decide) dX1_findsPlace_152 (by decide) (fun c29 => ?_) (fun c29 => ?_)
                    · skip
                      exact J171 i3_58 s22 H locs ls ri3_58 hF26 q23 q24 q25 (by omega) hW (lv_sub hl [1, 2, 3, 4, 5, 6] rfl)
                    refine x_aload_n hx hb hl 1 rfl dX1_findsPlace_155 rfl ?_
                    refine x_get (j := 5) (v := .ref (h0 + 266)) hx hb hown hT hE hW cls_X1 (Or.inl (by decide)) (so_261 h0 g _) (by decide) rfl wq498 dX1_findsPlace_156 ?_
                    refine x_iload_n hx hb hl 3 rfl dX1_findsPlace_159 rfl ?_
                    refine x_aload_n hx hb hl 1 rfl dX1_findsPlace_160 rfl ?_
                    refine x_get (j := 3) (v := .ref (h0 + 264)) hx hb hown hT hE hW cls_X1 (Or.inl (by decide)) (so_261 h0 g _) (by decide) rfl wq496 dX1_findsPlace_161 ?_
                    refine x_iload hx hb hl 0 rfl dX1_findsPlace_164 ?_
                    refine x_iald hx hb hE hW (Or.inl (by decide)) (sa_264 h0 g _) (by omega) (by decide) dX1_findsPlace_166 ?_
                    refine x_rd hW (fun x30 ex30 rx30 => ?_)
                    refine x_iast hx hb hE hW (by decide) (fun σ => sa_266 h0 g σ) (by omega) (by decide) rx30 dX1_findsPlace_167 (fun H locs s31 es31 hW => ?_)
                    have q32 : s31 1 1 = s0 1 1 := (show s31 1 1 = s22 1 1 from by rw [es31, xU_k _ _ _ (by first | decide | omega)]).trans q23
                    have q33 : IC s31 := by rw [es31]; exact IC_o (by decide) q24
                    have q34 : IQ s31 := by rw [es31]; exact IQ_o (by unfold suIQ; first | decide | omega) q25
                    have hF35 := hF26.put es31 (by omega)
                    refine x_iinc (lv' := [(3, .int (xJ (i3_58 + 1))), (7, .int (xJ x13)), (0, .ref (h0 + 261)), (1, .ref (h0 + d)), (4, .int (xJ i4_33)), (5, .int (xJ x9)), (6, .int (xJ i6_58))]) hx hb hl 3 rfl dX1_findsPlace_168 (by decide) rfl (fun ls hl => ?_)
                    exact J171 (i3_58 + 1) s31 H locs ls (by omega) hF35 q32 q33 q34 (by omega) hW (lv_sub hl [2, 3, 0, 4, 5, 6] rfl)
                  refine x_aload_n hx hb hl 1 rfl dX1_findsPlace_141 rfl ?_
                  refine x_iload hx hb hl 0 rfl dX1_findsPlace_142 ?_
                  refine x_gov (x_runV (As := [.int (xJ x13)]) hx hb hml hown hT hE hW hl.1 (Or.inl (by decide)) (so_261 h0 g _) rfl cf_X1_handOn wq974 wq73 wq972 (c_X1_handOn l D g T h0 s22 hW.2.1 x13 rx13 q24) ⟨rfl, rfl, ⟨by decide, by decide⟩, ⟨by decide, by decide⟩⟩ rfl rfl (Nat.le_of_ble_eq_true rfl) dX1_findsPlace_144) hW (fun s37 H locs hp38 hW => ?_)
                  obtain ⟨fs37, hp38⟩ := hp38
                  have hF39 := hF26.call fs37 (fun k h => by omega)
                  have q40 : s37 1 1 = s0 1 1 := (congrFun (fs37 _ (by omega)) _).trans q23
                  have q41 : IQ s37 := IQ_f (fun k hk => fs37 k (by unfold suIQ at hk; omega)) q25
                  have ghp38 := hp38.2
                  refine x_iconst hx hb dX1_findsPlace_147 ?_
                  rw [eQ]
                  exact x_zret hx hb hr hlk hW (by omega) ⟨hF39, ⟨hp38.1.1, q41, trivial⟩, by omega⟩ dX1_findsPlace_148
                refine lv_goto (tgt := 171) hx hb dX1_findsPlace_118 (by decide) ?_
                exact J171 i3_58 s15 H locs ls ri3_58 hF17 q18 hp16.1.1 hp16.1.2.1 (by omega) hW (lv_sub hl [1, 2, 3, 4, 5, 6] rfl)
            exact L58 ((100 - 0 : Int).toNat + 1) i3_33 0 s_33 H locs ls ri3_33 (by decide) hF_33 q33_0 q33_1 q33_2 (by omega) (by omega) (Nat.lt_succ_self _) hW (lv_sub hl [2, 3, 4, 5, 1, 0] rfl)
        exact L33 ((10 - 0 : Int).toNat + 1) 1 0 s2 H locs ls (by decide) (by decide) hF6 q3 q4 q5 (by omega) (by omega) (Nat.lt_succ_self _) hW (lv_sub hl [2, 3, 1, 0] rfl)
      refine x_aload_n hx hb hl 0 rfl dX1_findsPlace_8 rfl ?_
      refine x_get (j := 4) (v := .ref (h0 + 265)) hx hb hown hT hE hW cls_X1 (Or.inl (by decide)) (so_261 h0 g _) (by decide) rfl wq497 dX1_findsPlace_9 ?_
      refine x_iload_n hx hb hl 3 rfl dX1_findsPlace_12 rfl ?_
      refine x_iconst hx hb dX1_findsPlace_13 ?_
      refine x_iast hx hb hE hW (by decide) (fun σ => sa_265 h0 g σ) (by omega) (by decide) (by decide) dX1_findsPlace_14 (fun H locs s42 es42 hW => ?_)
      have q43 : IC s42 := by rw [es42]; exact IC_o (by decide) q2_0
      have q44 : IQ s42 := by rw [es42]; exact IQ_o (by unfold suIQ; first | decide | omega) q2_1
      have q45 : s42 1 1 = s0 1 1 := (show s42 1 1 = s_2 1 1 from by rw [es42, xU_k _ _ _ (by first | decide | omega)]).trans q2_2
      have hF46 := hF_2.put es42 (by omega)
      refine x_iinc (lv' := [(3, .int (xJ (i3_2 + 1))), (0, .ref (h0 + 261)), (1, .ref (h0 + d)), (2, .int (xJ f))]) hx hb hl 3 rfl dX1_findsPlace_15 (by decide) rfl (fun ls hl => ?_)
      refine lv_goto (tgt := 2) hx hb dX1_findsPlace_18 (by decide) ?_
      exact ih2 (i3_2 + 1) s42 H locs ls (by omega) hF46 q43 q44 q45 (by omega) (by omega) (by have hm := hm_2 (); omega) hW (lv_sub hl [1, 2, 3, 0] rfl)
  exact L2 ((100 + 1 - 0 : Int).toNat + 1) 0 s0 H locs ls (by decide) hF p0 p1 k1_1 (by omega) (by omega) (Nat.lt_succ_self _) hW (lv_sub hl [1, 2, 3, 0] rfl)
set_option maxHeartbeats 4000000 in
set_option maxRecDepth 100000 in
theorem c_X1_mostF (l : Launch) (D : va_G) (g : xG) (T : Nat × Nat × Nat) (h0 : Nat) (s0 : xS) (hσ : xRR s0) (d : Nat) (hd : xDay d) (p0 : IC s0) (p1 : IQ s0) : Met l yX1_most (xws yX1_most cX1_most 4 (some .int)) { frames := 5, cells := 0, slots := 0, locals := 123 } (xP [.ref (h0 + 261), .ref (h0 + d)] D g T h0 s0) (xQi D g h0 (fun r τ => xFr (fun k => (7 ≤ k ∧ k < 107) ∨ k = 107 ∨ k = 115 ∨ k = 116 ∨ k = 262 ∨ k = 263 ∨ k = 264 ∨ k = 265 ∨ k = 266) s0 τ ∧ (((IC τ) ∧ (IQ τ) ∧ True) ∧ (True)))) 0 0 (xA h0) := by
  refine x_met hσ (by decide) (Nat.le_of_ble_eq_true rfl) ?_
  intro p e s m args below meth c hx hb hr hml hown hT hlk hnm hE hW ls hl
  have hl : lv_has ls 4 [(0, .ref (h0 + 261)), (1, .ref (h0 + d))] := hl
  obtain ⟨Q, eQ⟩ : ∃ Q, Q = MQ below (xQi D g h0 (fun r τ => xFr (fun k => (7 ≤ k ∧ k < 107) ∨ k = 107 ∨ k = 115 ∨ k = 116 ∨ k = 262 ∨ k = 263 ∨ k = 264 ∨ k = 265 ∨ k = 266) s0 τ ∧ (((IC τ) ∧ (IQ τ) ∧ True) ∧ (True)))) args s 0 0 (xA h0) := ⟨_, rfl⟩
  rw [← eQ]
  generalize hHe : ([] : List Loc) = locs at hW ⊢
  obtain ⟨H, eH⟩ : ∃ H, H = s.heap := ⟨_, rfl⟩
  rw [← eH] at hW ⊢
  have hF : xFr (fun k => (7 ≤ k ∧ k < 107) ∨ k = 107 ∨ k = 115 ∨ k = 116 ∨ k = 262 ∨ k = 263 ∨ k = 264 ∨ k = 265 ∨ k = 266) s0 s0 := xFr.rf
  have hbd : (136 ≤ d ∧ d < 209) ∧ (d ≤ 146 ∨ 158 ≤ d) := by unfold xDay at hd; omega
  have k1_1 : s0 1 1 = s0 1 1 := rfl
  refine x_iconst hx hb dX1_most_0 ?_
  refine lv_istore_n (lv' := [(2, .int (xJ 0)), (0, .ref (h0 + 261)), (1, .ref (h0 + d))]) hx hb dX1_most_1 rfl hl (by decide) rfl (fun ls hl => ?_)
  have L2 : ∀ (fu : Nat) (i2_2 : Int) (s_2 : xS) (H : Heap) (locs : List Loc) (ls : Array Slot), (xR i2_2) → (xFr (fun k => (7 ≤ k ∧ k < 107) ∨ k = 107 ∨ k = 115 ∨ k = 116 ∨ k = 262 ∨ k = 263 ∨ k = 264 ∨ k = 265 ∨ k = 266) s0 s_2) → (IC s_2) → (IQ s_2) → (s_2 1 1 = s0 1 1) → (0 ≤ i2_2) → (i2_2 ≤ 100) → (100 + 1 - i2_2).toNat < fu → xW D g h0 s H locs s_2 → lv_has ls 4 [(0, .ref (h0 + 261)), (1, .ref (h0 + d)), (2, .int (xJ i2_2))] → W p l e { frames := 5, cells := 0, slots := 0, locals := 123 } s m args below meth c H locs 0 0 Q (F0 m 2 ls []) := by
    intro fu
    induction fu with
    | zero => intro i2_2 s_2 H locs ls ri2_2 hF_2 q2_0 q2_1 q2_2 v2_0 v2_1 hm; exact absurd hm (Nat.not_lt_zero _)
    | succ fu ih2 =>
      intro i2_2 s_2 H locs ls ri2_2 hF_2 q2_0 q2_1 q2_2 v2_0 v2_1 hm hW hl
      have hm_2 := fun (_ : Unit) => hm
      clear hm
      refine x_iload_n hx hb hl 2 rfl dX1_most_2 rfl ?_
      refine x_bipush hx hb dX1_most_3 (by decide) ?_
      refine x_icmp_ge (tgt := 21) hx hb ri2_2 (by decide) dX1_most_5 (by decide) (fun c1 => ?_) (fun c1 => ?_)
      · skip
        refine x_iconst hx hb dX1_most_21 ?_
        refine lv_istore_n (lv' := [(2, .int (xJ 0)), (0, .ref (h0 + 261)), (1, .ref (h0 + d))]) hx hb dX1_most_22 rfl hl (by decide) rfl (fun ls hl => ?_)
        have L23 : ∀ (fu : Nat) (i2_23 : Int) (s_23 : xS) (H : Heap) (locs : List Loc) (ls : Array Slot), (xR i2_23) → (xFr (fun k => (7 ≤ k ∧ k < 107) ∨ k = 107 ∨ k = 115 ∨ k = 116 ∨ k = 262 ∨ k = 263 ∨ k = 264 ∨ k = 265 ∨ k = 266) s0 s_23) → (IC s_23) → (IQ s_23) → (s_23 1 1 = s0 1 1) → (0 ≤ i2_23) → (i2_23 ≤ 10) → (10 + 1 - i2_23).toNat < fu → xW D g h0 s H locs s_23 → lv_has ls 4 [(0, .ref (h0 + 261)), (1, .ref (h0 + d)), (2, .int (xJ i2_23))] → W p l e { frames := 5, cells := 0, slots := 0, locals := 123 } s m args below meth c H locs 0 0 Q (F0 m 23 ls []) := by
          intro fu
          induction fu with
          | zero => intro i2_23 s_23 H locs ls ri2_23 hF_23 q23_0 q23_1 q23_2 v23_0 v23_1 hm; exact absurd hm (Nat.not_lt_zero _)
          | succ fu ih23 =>
            intro i2_23 s_23 H locs ls ri2_23 hF_23 q23_0 q23_1 q23_2 v23_0 v23_1 hm hW hl
            have hm_23 := fun (_ : Unit) => hm
            clear hm
            refine x_iload_n hx hb hl 2 rfl dX1_most_23 rfl ?_
            refine x_bipush hx hb dX1_most_24 (by decide) ?_
            refine x_icmp_ge (tgt := 69) hx hb ri2_23 (by decide) dX1_most_26 (by decide) (fun c2 => ?_) (fun c2 => ?_)
            · skip
              refine x_iconst hx hb dX1_most_69 ?_
              refine lv_istore_n (lv' := [(2, .int (xJ 0)), (0, .ref (h0 + 261)), (1, .ref (h0 + d))]) hx hb dX1_most_70 rfl hl (by decide) rfl (fun ls hl => ?_)
              refine x_iconst hx hb dX1_most_71 ?_
              refine lv_istore_n (lv' := [(3, .int (xJ 0)), (2, .int (xJ 0)), (0, .ref (h0 + 261)), (1, .ref (h0 + d))]) hx hb dX1_most_72 rfl hl (by decide) rfl (fun ls hl => ?_)
              have L73 : ∀ (fu : Nat) (i2_73 : Int) (i3_73 : Int) (s_73 : xS) (H : Heap) (locs : List Loc) (ls : Array Slot), (xR i2_73) → (xR i3_73) → (xFr (fun k => (7 ≤ k ∧ k < 107) ∨ k = 107 ∨ k = 115 ∨ k = 116 ∨ k = 262 ∨ k = 263 ∨ k = 264 ∨ k = 265 ∨ k = 266) s0 s_73) → (IC s_73) → (IQ s_73) → (s_73 1 1 = s0 1 1) → (0 ≤ i3_73) → (i3_73 ≤ 10) → (0 ≤ i2_73 ∧ i2_73 ≤ i3_73) → (10 + 1 - i3_73).toNat < fu → xW D g h0 s H locs s_73 → lv_has ls 4 [(0, .ref (h0 + 261)), (1, .ref (h0 + d)), (2, .int (xJ i2_73)), (3, .int (xJ i3_73))] → W p l e { frames := 5, cells := 0, slots := 0, locals := 123 } s m args below meth c H locs 0 0 Q (F0 m 73 ls []) := by
                intro fu
                induction fu with
                | zero => intro i2_73 i3_73 s_73 H locs ls ri2_73 ri3_73 hF_73 q73_0 q73_1 q73_2 v73_0 v73_1 v73_2 hm; exact absurd hm (Nat.not_lt_zero _)
                | succ fu ih73 =>
                  intro i2_73 i3_73 s_73 H locs ls ri2_73 ri3_73 hF_73 q73_0 q73_1 q73_2 v73_0 v73_1 v73_2 hm hW hl
                  have hm_73 := fun (_ : Unit) => hm
                  clear hm
                  refine x_iload_n hx hb hl 3 rfl dX1_most_73 rfl ?_
                  refine x_bipush hx hb dX1_most_74 (by decide) ?_
                  refine x_icmp_ge (tgt := 105) hx hb ri3_73 (by decide) dX1_most_76 (by decide) (fun c3 => ?_) (fun c3 => ?_)
                  · skip
                    refine x_iload_n hx hb hl 2 rfl dX1_most_105 rfl ?_
                    rw [eQ]
                    exact x_iret hx hb hr hlk hW ri2_73 ⟨hF_73, ⟨q73_0, q73_1, trivial⟩, trivial⟩ dX1_most_106
                  refine x_aload_n hx hb hl 1 rfl dX1_most_79 rfl ?_
                  refine x_iload_n hx hb hl 3 rfl dX1_most_80 rfl ?_
                  refine x_goi (x_runVN (As := [.int (xJ i3_73)]) hx hb hml hown hT hE hW hl.1 (Or.inl (by omega)) (so_day0 h0 g hd _) rfl cf_X2_mustServe wq858 wq52 wn959 (c_X2_mustServeF l D g T h0 s_73 hW.2.1 d hd i3_73 ri3_73 (by omega) q73_0) ⟨rfl, rfl, ⟨by decide, by decide⟩, ⟨by decide, by decide⟩⟩ rfl rfl (Nat.le_of_ble_eq_true rfl) dX1_most_81) hW (fun x4 s5 H locs rx4 hp6 hW => ?_)
                  obtain ⟨es5, hp6⟩ := hp6
                  subst es5
                  have ghp6 := hp6
                  refine x_if_eq (tgt := 99) hx hb rx4 dX1_most_84 (by decide) (fun c7 => ?_) (fun c7 => ?_)
                  · skip
                    refine x_iinc (lv' := [(3, .int (xJ (i3_73 + 1))), (0, .ref (h0 + 261)), (1, .ref (h0 + d)), (2, .int (xJ i2_73))]) hx hb hl 3 rfl dX1_most_99 (by decide) rfl (fun ls hl => ?_)
                    refine lv_goto (tgt := 73) hx hb dX1_most_102 (by decide) ?_
                    exact ih73 i2_73 (i3_73 + 1) s_73 H locs ls ri2_73 (by omega) hF_73 q73_0 q73_1 q73_2 (by omega) (by omega) (by omega) (by have hm := hm_73 (); omega) hW (lv_sub hl [1, 2, 3, 0] rfl)
                  refine x_aload_n hx hb hl 0 rfl dX1_most_87 rfl ?_
                  refine x_aload_n hx hb hl 1 rfl dX1_most_88 rfl ?_
                  refine x_iload_n hx hb hl 3 rfl dX1_most_89 rfl ?_
                  refine x_goi (x_runV (As := [.ref (h0 + d), .int (xJ i3_73)]) hx hb hml hown hT hE hW hl.1 (Or.inl (by decide)) (so_261 h0 g _) rfl cf_X1_findsPlace wq963 wq71 wq961 (c_X1_findsPlaceF l D g T h0 s_73 hW.2.1 d hd i3_73 ri3_73 q73_0 q73_1) ⟨rfl, rfl, ⟨by decide, by decide⟩, ⟨by decide, by decide⟩⟩ rfl rfl (Nat.le_of_ble_eq_true rfl) dX1_most_90) hW (fun x8 s9 H locs rx8 hp10 hW => ?_)
                  obtain ⟨fs9, hp10⟩ := hp10
                  have hF11 := hF_73.call fs9 (fun k h => by omega)
                  have q12 : s9 1 1 = s0 1 1 := (congrFun (fs9 _ (by omega)) _).trans q73_2
                  have ghp10 := hp10.2
                  refine x_if_eq (tgt := 99) hx hb rx8 dX1_most_93 (by decide) (fun c13 => ?_) (fun c13 => ?_)
                  · skip
                    refine x_iinc (lv' := [(3, .int (xJ (i3_73 + 1))), (0, .ref (h0 + 261)), (1, .ref (h0 + d)), (2, .int (xJ i2_73))]) hx hb hl 3 rfl dX1_most_99 (by decide) rfl (fun ls hl => ?_)
                    refine lv_goto (tgt := 73) hx hb dX1_most_102 (by decide) ?_
                    exact ih73 i2_73 (i3_73 + 1) s9 H locs ls ri2_73 (by omega) hF11 hp10.1.1 hp10.1.2.1 q12 (by omega) (by omega) (by omega) (by have hm := hm_73 (); omega) hW (lv_sub hl [1, 2, 3, 0] rfl)
                  refine x_iinc (lv' := [(2, .int (xJ (i2_73 + 1))), (0, .ref (h0 + 261)), (1, .ref (h0 + d)), (3, .int (xJ i3_73))]) hx hb hl 2 rfl dX1_most_96 (by decide) rfl (fun ls hl => ?_)
                  refine x_iinc (lv' := [(3, .int (xJ (i3_73 + 1))), (2, .int (xJ (i2_73 + 1))), (0, .ref (h0 + 261)), (1, .ref (h0 + d))]) hx hb hl 3 rfl dX1_most_99 (by decide) rfl (fun ls hl => ?_)
                  refine lv_goto (tgt := 73) hx hb dX1_most_102 (by decide) ?_
                  exact ih73 (i2_73 + 1) (i3_73 + 1) s9 H locs ls (by omega) (by omega) hF11 hp10.1.1 hp10.1.2.1 q12 (by omega) (by omega) (by omega) (by have hm := hm_73 (); omega) hW (lv_sub hl [2, 3, 1, 0] rfl)
              exact L73 ((10 + 1 - 0 : Int).toNat + 1) 0 0 s_23 H locs ls (by decide) (by decide) hF_23 q23_0 q23_1 q23_2 (by omega) (by omega) (by omega) (Nat.lt_succ_self _) hW (lv_sub hl [2, 3, 1, 0] rfl)
            refine x_aload_n hx hb hl 0 rfl dX1_most_29 rfl ?_
            refine x_get (j := 2) (v := .ref (h0 + 263)) hx hb hown hT hE hW cls_X1 (Or.inl (by decide)) (so_261 h0 g _) (by decide) rfl wq495 dX1_most_30 ?_
            refine x_iload_n hx hb hl 2 rfl dX1_most_33 rfl ?_
            refine x_iconst hx hb dX1_most_34 ?_
            refine x_iast hx hb hE hW (by decide) (fun σ => sa_263 h0 g σ) (by omega) (by decide) (by decide) dX1_most_35 (fun H locs s14 es14 hW => ?_)
            have q15 : IC s14 := by rw [es14]; exact IC_o (by decide) q23_0
            have q16 : IQ s14 := by rw [es14]; exact IQ_o (by unfold suIQ; first | decide | omega) q23_1
            have q17 : s14 1 1 = s0 1 1 := (show s14 1 1 = s_23 1 1 from by rw [es14, xU_k _ _ _ (by first | decide | omega)]).trans q23_2
            have hF18 := hF_23.put es14 (by omega)
            refine x_aload_n hx hb hl 0 rfl dX1_most_36 rfl ?_
            refine x_get (j := 1) (v := .ref (h0 + 262)) hx hb hown hT hE hW cls_X1 (Or.inl (by decide)) (so_261 h0 g _) (by decide) rfl wq494 dX1_most_37 ?_
            refine x_iload_n hx hb hl 2 rfl dX1_most_40 rfl ?_
            refine x_aload_n hx hb hl 1 rfl dX1_most_41 rfl ?_
            refine x_iload_n hx hb hl 2 rfl dX1_most_42 rfl ?_
            refine x_goi (x_runVN (As := [.int (xJ i2_23)]) hx hb hml hown hT hE hW hl.1 (Or.inl (by omega)) (so_day0 h0 g hd _) rfl cf_X2_mustServe wq858 wq52 wn959 (c_X2_mustServeF l D g T h0 s14 hW.2.1 d hd i2_23 ri2_23 (by omega) q15) ⟨rfl, rfl, ⟨by decide, by decide⟩, ⟨by decide, by decide⟩⟩ rfl rfl (Nat.le_of_ble_eq_true rfl) dX1_most_43) hW (fun x19 s20 H locs rx19 hp21 hW => ?_)
            obtain ⟨es20, hp21⟩ := hp21
            subst es20
            have ghp21 := hp21
            refine x_if_eq (tgt := 61) hx hb rx19 dX1_most_46 (by decide) (fun c22 => ?_) (fun c22 => ?_)
            · skip
              refine x_iconst hx hb dX1_most_61 ?_
              refine x_iast hx hb hE hW (by decide) (fun σ => sa_262 h0 g σ) (by omega) (by decide) (by decide) dX1_most_62 (fun H locs s23 es23 hW => ?_)
              have q24 : IC s23 := by rw [es23]; exact IC_o (by decide) q15
              have q25 : IQ s23 := by rw [es23]; exact IQ_o (by unfold suIQ; first | decide | omega) q16
              have q26 : s23 1 1 = s0 1 1 := (show s23 1 1 = s14 1 1 from by rw [es23, xU_k _ _ _ (by first | decide | omega)]).trans q17
              have hF27 := hF18.put es23 (by omega)
              refine x_iinc (lv' := [(2, .int (xJ (i2_23 + 1))), (0, .ref (h0 + 261)), (1, .ref (h0 + d))]) hx hb hl 2 rfl dX1_most_63 (by decide) rfl (fun ls hl => ?_)
              refine lv_goto (tgt := 23) hx hb dX1_most_66 (by decide) ?_
              exact ih23 (i2_23 + 1) s23 H locs ls (by omega) hF27 q24 q25 q26 (by omega) (by omega) (by have hm := hm_23 (); omega) hW (lv_sub hl [1, 2, 0] rfl)
            refine x_aload_n hx hb hl 0 rfl dX1_most_49 rfl ?_
            refine x_get (j := 0) (v := .ref (h0 + 128)) hx hb hown hT hE hW cls_X1 (Or.inl (by decide)) (so_261 h0 g _) (by decide) rfl wq493 dX1_most_50 ?_
            refine x_aload_n hx hb hl 1 rfl dX1_most_53 rfl ?_
            refine x_iload_n hx hb hl 2 rfl dX1_most_54 rfl ?_
            refine x_goi (x_runVN (As := [.ref (h0 + d), .int (xJ i2_23)]) hx hb hml hown hT hE hW hl.1 (Or.inl (by decide)) (so_128 h0 g _) rfl cf_X0_reachOf wq879 wq57 wn960 (c_X0_reachOf l D g T h0 s14 hW.2.1 d hd i2_23 ri2_23 q15) ⟨rfl, rfl, ⟨by decide, by decide⟩, ⟨by decide, by decide⟩⟩ rfl rfl (Nat.le_of_ble_eq_true rfl) dX1_most_55) hW (fun x28 s29 H locs rx28 hp30 hW => ?_)
            obtain ⟨fs29, hp30⟩ := hp30
            have hF31 := hF18.call fs29 (fun k h => by omega)
            have q32 : IQ s29 := IQ_f (fun k hk => fs29 k (by unfold suIQ at hk; omega)) q16
            have q33 : s29 1 1 = s0 1 1 := (congrFun (fs29 _ (by omega)) _).trans q17
            have ghp30 := hp30.2
            refine lv_goto (tgt := 62) hx hb dX1_most_58 (by decide) ?_
            refine x_iast hx hb hE hW (by decide) (fun σ => sa_262 h0 g σ) (by omega) (by decide) rx28 dX1_most_62 (fun H locs s34 es34 hW => ?_)
            have q35 : IQ s34 := by rw [es34]; exact IQ_o (by unfold suIQ; first | decide | omega) q32
            have q36 : s34 1 1 = s0 1 1 := (show s34 1 1 = s29 1 1 from by rw [es34, xU_k _ _ _ (by first | decide | omega)]).trans q33
            have q37 : IC s34 := by rw [es34]; exact IC_o (by decide) hp30.1.1
            have hF38 := hF31.put es34 (by omega)
            refine x_iinc (lv' := [(2, .int (xJ (i2_23 + 1))), (0, .ref (h0 + 261)), (1, .ref (h0 + d))]) hx hb hl 2 rfl dX1_most_63 (by decide) rfl (fun ls hl => ?_)
            refine lv_goto (tgt := 23) hx hb dX1_most_66 (by decide) ?_
            exact ih23 (i2_23 + 1) s34 H locs ls (by omega) hF38 q37 q35 q36 (by omega) (by omega) (by have hm := hm_23 (); omega) hW (lv_sub hl [1, 2, 0] rfl)
        exact L23 ((10 + 1 - 0 : Int).toNat + 1) 0 s_2 H locs ls (by decide) hF_2 q2_0 q2_1 q2_2 (by omega) (by omega) (Nat.lt_succ_self _) hW (lv_sub hl [1, 2, 0] rfl)
      refine x_aload_n hx hb hl 0 rfl dX1_most_8 rfl ?_
      refine x_get (j := 3) (v := .ref (h0 + 264)) hx hb hown hT hE hW cls_X1 (Or.inl (by decide)) (so_261 h0 g _) (by decide) rfl wq496 dX1_most_9 ?_
      refine x_iload_n hx hb hl 2 rfl dX1_most_12 rfl ?_
      refine x_iconst hx hb dX1_most_13 ?_
      refine x_iast hx hb hE hW (by decide) (fun σ => sa_264 h0 g σ) (by omega) (by decide) (by decide) dX1_most_14 (fun H locs s39 es39 hW => ?_)
      have q40 : IC s39 := by rw [es39]; exact IC_o (by decide) q2_0
      have q41 : IQ s39 := by rw [es39]; exact IQ_o (by unfold suIQ; first | decide | omega) q2_1
      have q42 : s39 1 1 = s0 1 1 := (show s39 1 1 = s_2 1 1 from by rw [es39, xU_k _ _ _ (by first | decide | omega)]).trans q2_2
      have hF43 := hF_2.put es39 (by omega)
      refine x_iinc (lv' := [(2, .int (xJ (i2_2 + 1))), (0, .ref (h0 + 261)), (1, .ref (h0 + d))]) hx hb hl 2 rfl dX1_most_15 (by decide) rfl (fun ls hl => ?_)
      refine lv_goto (tgt := 2) hx hb dX1_most_18 (by decide) ?_
      exact ih2 (i2_2 + 1) s39 H locs ls (by omega) hF43 q40 q41 q42 (by omega) (by omega) (by have hm := hm_2 (); omega) hW (lv_sub hl [1, 2, 0] rfl)
  exact L2 ((100 + 1 - 0 : Int).toNat + 1) 0 s0 H locs ls (by decide) hF p0 p1 k1_1 (by omega) (by omega) (Nat.lt_succ_self _) hW (lv_sub hl [1, 2, 0] rfl)
set_option maxHeartbeats 4000000 in
set_option maxRecDepth 100000 in
theorem c_X10_atOnceF (l : Launch) (D : va_G) (g : xG) (T : Nat × Nat × Nat) (h0 : Nat) (s0 : xS) (hσ : xRR s0) (n : Int) (rn : xR n) (K9 : Int → Int) (n9 : Int → Int) (w9 : Int → Int → Int) (q9 : zLaw) (l9 : Int → Int) (hok : zLok q9) (hlc : zLD s0 q9) (hK : ∀ t : Int, 0 ≤ t → t < 100 → s0 4 t = K9 t) (hlm : ∀ i : Int, 0 ≤ i → i < 4 → s0 129 i = l9 i ∧ (l9 i = -1 ∨ (0 ≤ l9 i ∧ l9 i < 100))) (hw : zWc s0 136 n9 w9) (hY : zYq (zYc s0 136)) (hok4 : zok (zY4 (zYc s0 136))) (p0 : IC s0) (p1 : IS s0) (p2 : IQ s0) : Met l yX10_atOnce (xws yX10_atOnce cX10_atOnce 2 (some .int)) { frames := 6, cells := 0, slots := 0, locals := 146 } (xP [.ref (h0 + 0), .int (xJ n)] D g T h0 s0) (xQi D g h0 (fun r τ => xFr (fun k => (7 ≤ k ∧ k < 107) ∨ k = 107 ∨ k = 115 ∨ k = 116 ∨ k = 130 ∨ k = 131 ∨ k = 132 ∨ k = 133 ∨ k = 262 ∨ k = 263 ∨ k = 264 ∨ k = 265 ∨ k = 266) s0 τ ∧ (((IC τ) ∧ (IS τ) ∧ (IQ τ) ∧ True) ∧ (((0 ≤ n ∧ n ≤ 2) ∧ (n = 1 → r = zsu (fun t => if zLy K9 q9 l9 (zYc s0 136 44) (zYc s0 136) 1 (zni q9 (zYc s0 136 44)) t ≠ 0 then 1 else 0) 100) ∧ (n = 2 → r = zsu (fun t => if 1 < zLy K9 q9 l9 (zYc s0 136 44) (zYc s0 136) 1 (zni q9 (zYc s0 136 44)) t then 1 else 0) 100)) ∨ (¬ (0 ≤ n ∧ n ≤ 2) ∧ r = -1))))) 0 0 (xA h0) := by
  refine x_met hσ (by decide) (Nat.le_of_ble_eq_true rfl) ?_
  intro p e s m args below meth c hx hb hr hml hown hT hlk hnm hE hW ls hl
  have hl : lv_has ls 2 [(0, .ref (h0 + 0)), (1, .int (xJ n))] := hl
  obtain ⟨Q, eQ⟩ : ∃ Q, Q = MQ below (xQi D g h0 (fun r τ => xFr (fun k => (7 ≤ k ∧ k < 107) ∨ k = 107 ∨ k = 115 ∨ k = 116 ∨ k = 130 ∨ k = 131 ∨ k = 132 ∨ k = 133 ∨ k = 262 ∨ k = 263 ∨ k = 264 ∨ k = 265 ∨ k = 266) s0 τ ∧ (((IC τ) ∧ (IS τ) ∧ (IQ τ) ∧ True) ∧ (((0 ≤ n ∧ n ≤ 2) ∧ (n = 1 → r = zsu (fun t => if zLy K9 q9 l9 (zYc s0 136 44) (zYc s0 136) 1 (zni q9 (zYc s0 136 44)) t ≠ 0 then 1 else 0) 100) ∧ (n = 2 → r = zsu (fun t => if 1 < zLy K9 q9 l9 (zYc s0 136 44) (zYc s0 136) 1 (zni q9 (zYc s0 136 44)) t then 1 else 0) 100)) ∨ (¬ (0 ≤ n ∧ n ≤ 2) ∧ r = -1))))) args s 0 0 (xA h0) := ⟨_, rfl⟩
  rw [← eQ]
  generalize hHe : ([] : List Loc) = locs at hW ⊢
  obtain ⟨H, eH⟩ : ∃ H, H = s.heap := ⟨_, rfl⟩
  rw [← eH] at hW ⊢
  have hF : xFr (fun k => (7 ≤ k ∧ k < 107) ∨ k = 107 ∨ k = 115 ∨ k = 116 ∨ k = 130 ∨ k = 131 ∨ k = 132 ∨ k = 133 ∨ k = 262 ∨ k = 263 ∨ k = 264 ∨ k = 265 ∨ k = 266) s0 s0 := xFr.rf
  have k1_1 : s0 1 1 = s0 1 1 := rfl
  refine x_iload_n hx hb hl 1 rfl dX10_atOnce_0 rfl ?_
  refine x_iconst hx hb dX10_atOnce_1 ?_
  refine x_iconst hx hb dX10_atOnce_2 ?_
  refine x_goi (x_runS (As := [.int (xJ n), .int (xJ 0), .int (xJ 2)]) hx hb hml hown hT hE hW hl.1 cf_X10_isIn wq562 wq561 (c_X10_isIn l D g T h0 s0 hW.2.1 n rn 0 (by decide) 2 (by decide)) ⟨rfl, rfl, ⟨by decide, by decide⟩, ⟨by decide, by decide⟩⟩ rfl rfl (Nat.le_of_ble_eq_true rfl) dX10_atOnce_3) hW (fun x1 s2 H locs rx1 hp3 hW => ?_)
  obtain ⟨es2, hp3⟩ := hp3
  subst es2
  have ghp3 := hp3
  refine x_if_ne (tgt := 11) hx hb rx1 dX10_atOnce_6 (by decide) (fun c4 => ?_) (fun c4 => ?_)
  · skip
    refine x_aload_n hx hb hl 0 rfl dX10_atOnce_11 rfl ?_
    refine x_get (j := 5) (v := .ref (h0 + 128)) hx hb hown hT hE hW cls_X10 (Or.inl (by decide)) (so_0 h0 g _) (by decide) rfl wq517 dX10_atOnce_12 ?_
    refine x_aload_n hx hb hl 0 rfl dX10_atOnce_15 rfl ?_
    refine x_get (j := 8) (v := .ref (h0 + 136)) hx hb hown hT hE hW cls_X10 (Or.inl (by decide)) (so_0 h0 g _) (by decide) rfl wq520 dX10_atOnce_16 ?_
    refine x_gov (x_runVN (As := [.ref (h0 + 136)]) hx hb hml hown hT hE hW hl.1 (Or.inl (by decide)) (so_128 h0 g _) rfl cf_X0_castCloudless wq943 wq69 wn954 (c_X0_castCloudlessF l D g T h0 s0 hW.2.1 136 xd_136 q9 K9 l9 (hok) (by first | exact hlc | exact hlc.f (fun k hk => hF k (by omega))) (by first | exact hK | exact fun t t1 t2 => by rw [hF 4 (by omega)]; exact hK t t1 t2) (by first | exact hlm | exact fun i i1 i2 => by rw [hF 129 (by omega)]; exact hlm i i1 i2) (fun j j1 j2 => by
      have a := zok_j hok4 j j1 j2
      have b : zYc s0 136 j = s0 (136 + 1) j := zYc_J ⟨j1, j2⟩
      omega) p0 p1) ⟨rfl, rfl, ⟨by decide, by decide⟩, ⟨by decide, by decide⟩⟩ rfl rfl (Nat.le_of_ble_eq_true rfl) dX10_atOnce_19) hW (fun s6 H locs hp7 hW => ?_)
    obtain ⟨fs6, hp7⟩ := hp7
    have hF8 := hF.call fs6 (fun k h => by omega)
    have q10 : IQ s6 := IQ_f (fun k hk => fs6 k (by unfold suIQ at hk; omega)) p2
    have q11 : s6 1 1 = s0 1 1 := (congrFun (fs6 _ (by omega)) _).trans k1_1
    have ghp7 := hp7.2
    have H19 := ghp7
    have L19 : ∀ t : Int, 0 ≤ t → t < 100 → s6 131 t = zLy K9 q9 l9 (zYc s0 136 44) (zYc s0 136) 1 (zni q9 (zYc s0 136 44)) t := fun t t1 t2 => by
      rw [H19.2.2 t t1 t2, zLy_J (J := zYc s0 136) (show s0 137 0 = zYc s0 136 0 from (zYc_J ⟨by decide, by decide⟩).symm) (show s0 137 1 = zYc s0 136 1 from (zYc_J ⟨by decide, by decide⟩).symm), zYc_44]
    refine x_iload_n hx hb hl 1 rfl dX10_atOnce_22 rfl ?_
    refine x_if_ne (tgt := 38) hx hb rn dX10_atOnce_23 (by decide) (fun c12 => ?_) (fun c12 => ?_)
    · skip
      refine x_iload_n hx hb hl 1 rfl dX10_atOnce_38 rfl ?_
      refine x_iconst hx hb dX10_atOnce_39 ?_
      refine x_icmp_ne (tgt := 56) hx hb rn (by decide) dX10_atOnce_40 (by decide) (fun c13 => ?_) (fun c13 => ?_)
      · skip
        refine x_aload_n hx hb hl 0 rfl dX10_atOnce_56 rfl ?_
        refine x_get (j := 5) (v := .ref (h0 + 128)) hx hb hown hT hE hW cls_X10 (Or.inl (by decide)) (so_0 h0 g _) (by decide) rfl wq517 dX10_atOnce_57 ?_
        refine x_getN (j := 3) (v := .ref (h0 + 130)) hx hb hown hT hE hW cls_X0 (Or.inl (by decide)) (so_128 h0 g _) (by decide) rfl wn360 dX10_atOnce_60 ?_
        refine x_goi (x_runVN (As := []) hx hb hml hown hT hE hW hl.1 (Or.inl (by decide)) (so_130 h0 g _) rfl cf_X7_howManyInMore wq978 wq74 wn976 (c_X7_howManyInMoreF l D g T h0 s6 hW.2.1 (H19.1) hp7.1.1) ⟨rfl, rfl, ⟨by decide, by decide⟩, ⟨by decide, by decide⟩⟩ rfl rfl (Nat.le_of_ble_eq_true rfl) dX10_atOnce_63) hW (fun x14 s15 H locs rx14 hp16 hW => ?_)
        obtain ⟨es15, hp16⟩ := hp16
        subst es15
        have ghp16 := hp16
        have H63 := ghp16
        rw [eQ]
        exact x_iret hx hb hr hlk hW rx14 ⟨hF8, ⟨hp7.1.1, hp7.1.2.1, q10, trivial⟩, by
            first
              | exact Or.inl ⟨by omega, fun z => by
                  have e := H19.1.size
                  rw [zsu_c (g := fun t => if zLy K9 q9 l9 (zYc s0 136 44) (zYc s0 136) 1 (zni q9 (zYc s0 136 44)) t ≠ 0 then 1 else 0) (fun t t1 t2 => by show (if _ ≠ 0 then (1 : Int) else 0) = (if _ ≠ 0 then (1 : Int) else 0); rw [L19 t t1 t2])] at e
                  omega, fun z => absurd z (by omega)⟩
              | exact Or.inl ⟨by omega, fun z => absurd z (by omega), fun z => by
                  rw [H63]
                  exact zsu_c (fun t t1 t2 => by show (if _ then (1 : Int) else 0) = (if _ then (1 : Int) else 0); rw [L19 t t1 t2])⟩⟩ dX10_atOnce_66
      refine x_aload_n hx hb hl 0 rfl dX10_atOnce_43 rfl ?_
      refine x_get (j := 5) (v := .ref (h0 + 128)) hx hb hown hT hE hW cls_X10 (Or.inl (by decide)) (so_0 h0 g _) (by decide) rfl wq517 dX10_atOnce_44 ?_
      refine x_getN (j := 3) (v := .ref (h0 + 130)) hx hb hown hT hE hW cls_X0 (Or.inl (by decide)) (so_128 h0 g _) (by decide) rfl wn360 dX10_atOnce_47 ?_
      refine x_getN (j := 3) (v := .int (xJ (s6 130 3))) hx hb hown hT hE hW cls_X7 (Or.inl (by decide)) (so_130 h0 g _) (by decide) rfl wn341 dX10_atOnce_50 ?_
      refine x_rd hW (fun x17 ex17 rx17 => ?_)
      have bx17 : 0 ≤ x17 ∧ x17 ≤ 100 := by rw [ex17]; exact IC.z hp7.1.1
      refine lv_goto (tgt := 66) hx hb dX10_atOnce_53 (by decide) ?_
      rw [eQ]
      exact x_iret hx hb hr hlk hW rx17 ⟨hF8, ⟨hp7.1.1, hp7.1.2.1, q10, trivial⟩, by
          first
            | exact Or.inl ⟨by omega, fun z => by
                have e := H19.1.size
                rw [zsu_c (g := fun t => if zLy K9 q9 l9 (zYc s0 136 44) (zYc s0 136) 1 (zni q9 (zYc s0 136 44)) t ≠ 0 then 1 else 0) (fun t t1 t2 => by show (if _ ≠ 0 then (1 : Int) else 0) = (if _ ≠ 0 then (1 : Int) else 0); rw [L19 t t1 t2])] at e
                omega, fun z => absurd z (by omega)⟩
            | exact Or.inl ⟨by omega, fun z => absurd z (by omega), fun z => by
                rw [H63]
                exact zsu_c (fun t t1 t2 => by show (if _ then (1 : Int) else 0) = (if _ then (1 : Int) else 0); rw [L19 t t1 t2])⟩⟩ dX10_atOnce_66
    refine x_aload_n hx hb hl 0 rfl dX10_atOnce_26 rfl ?_
    refine x_get (j := 7) (v := .ref (h0 + 261)) hx hb hown hT hE hW cls_X10 (Or.inl (by decide)) (so_0 h0 g _) (by decide) rfl wq519 dX10_atOnce_27 ?_
    refine x_aload_n hx hb hl 0 rfl dX10_atOnce_30 rfl ?_
    refine x_get (j := 8) (v := .ref (h0 + 136)) hx hb hown hT hE hW cls_X10 (Or.inl (by decide)) (so_0 h0 g _) (by decide) rfl wq520 dX10_atOnce_31 ?_
    refine x_goi (x_runVN (As := [.ref (h0 + 136)]) hx hb hml hown hT hE hW hl.1 (Or.inl (by decide)) (so_261 h0 g _) rfl cf_X1_most wq957 wq70 wn955 (c_X1_mostF l D g T h0 s6 hW.2.1 136 xd_136 hp7.1.1 q10) ⟨rfl, rfl, ⟨by decide, by decide⟩, ⟨by decide, by decide⟩⟩ rfl rfl (Nat.le_of_ble_eq_true rfl) dX10_atOnce_34) hW (fun x18 s19 H locs rx18 hp20 hW => ?_)
    obtain ⟨fs19, hp20⟩ := hp20
    have hF21 := hF8.call fs19 (fun k h => by omega)
    have q22 : s19 1 1 = s0 1 1 := (congrFun (fs19 _ (by omega)) _).trans q11
    have q23 : IS s19 := IS_f (fun k hk => fs19 k (by unfold suIS at hk; omega)) hp7.1.2.1
    have ghp20 := hp20.2
    rw [eQ]
    exact x_iret hx hb hr hlk hW rx18 ⟨hF21, ⟨hp20.1.1, q23, hp20.1.2.1, trivial⟩, Or.inl ⟨by omega, fun z => absurd z (by omega), fun z => absurd z (by omega)⟩⟩ dX10_atOnce_37
  refine x_iconst hx hb dX10_atOnce_9 ?_
  rw [eQ]
  exact x_iret hx hb hr hlk hW (by decide) ⟨hF, ⟨p0, p1, p2, trivial⟩, Or.inr ⟨by omega, by omega⟩⟩ dX10_atOnce_10


