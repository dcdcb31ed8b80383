set_option maxHeartbeats 4000000 in
set_option maxRecDepth 100000 in
theorem c_X2_copyFrom (l : Launch) (D : va_G) (g : xG) (T : Nat × Nat × Nat) (h0 : Nat) (s0 : xS) (hσ : xRR s0) (d : Nat) (hd : xDay d) (d2 : Nat) (hd2 : xDay d2) (hdd : d + 10 ≤ d2 ∨ d2 + 10 ≤ d) (p0 : s0 (d + 1) = fun _ => (-1)) (p1 : s0 (d + 6) = fun _ => (-1)) (p2 : s0 (d + 7) = fun _ => 0) (p3 : 0 ≤ s0 d 7 ∧ s0 d 7 ≤ 9999) (p4 : 0 ≤ s0 d 8 ∧ s0 d 8 ≤ 65535) (p5 : s0 (d + 9) = fun _ => 0) (p6 : s0 (d2 + 1) = fun _ => (-1)) (p7 : s0 (d2 + 6) = fun _ => (-1)) (p8 : s0 (d2 + 7) = fun _ => 0) (p9 : 0 ≤ s0 d2 7 ∧ s0 d2 7 ≤ 9999) (p10 : 0 ≤ s0 d2 8 ∧ s0 d2 8 ≤ 65535) (p11 : s0 (d2 + 9) = fun _ => 0) (p12 : ∀ j : Int, 0 ≤ j → j < 2 → xAr s0 (s0 (d2 + 2) j).toNat) : Met l yX2_copyFrom (xws yX2_copyFrom cX2_copyFrom 3 none) { frames := 0, cells := 0, slots := 0, locals := 0 } (xP [.ref (h0 + d), .ref (h0 + d2)] D g T h0 s0) (xQv D g h0 (fun τ => xFr (fun k => k = d ∨ k = d + 1 ∨ k = d + 2 ∨ k = d + 5 ∨ k = d + 6 ∨ k = d + 7 ∨ k = d + 8 ∨ k = d + 9) s0 τ ∧ (((τ (d + 1) = fun _ => (-1)) ∧ (τ (d + 6) = fun _ => (-1)) ∧ (τ (d + 7) = fun _ => 0) ∧ (0 ≤ τ d 7 ∧ τ d 7 ≤ 9999) ∧ (0 ≤ τ d 8 ∧ τ d 8 ≤ 65535) ∧ (τ (d + 9) = fun _ => 0) ∧ True) ∧ (True)))) 0 0 (xA h0) := by
  refine x_met hσ (by decide) (Nat.le_of_ble_eq_true rfl) ?_
  intro p e s m args below meth c hx hb hr hml hown hT hlk hnm hE hW ls hl
  have hl : lv_has ls 3 [(0, .ref (h0 + d)), (1, .ref (h0 + d2))] := hl
  obtain ⟨Q, eQ⟩ : ∃ Q, Q = MQ below (xQv D g h0 (fun τ => xFr (fun k => k = d ∨ k = d + 1 ∨ k = d + 2 ∨ k = d + 5 ∨ k = d + 6 ∨ k = d + 7 ∨ k = d + 8 ∨ k = d + 9) s0 τ ∧ (((τ (d + 1) = fun _ => (-1)) ∧ (τ (d + 6) = fun _ => (-1)) ∧ (τ (d + 7) = fun _ => 0) ∧ (0 ≤ τ d 7 ∧ τ d 7 ≤ 9999) ∧ (0 ≤ τ d 8 ∧ τ d 8 ≤ 65535) ∧ (τ (d + 9) = fun _ => 0) ∧ True) ∧ (True)))) args s 0 0 (xA h0) := ⟨_, rfl⟩
  rw [← eQ]
  generalize hHe : ([] : List Loc) = locs at hW ⊢
  obtain ⟨H, eH⟩ : ∃ H, H = s.heap := ⟨_, rfl⟩
  rw [← eH] at hW ⊢
  have hF : xFr (fun k => k = d ∨ k = d + 1 ∨ k = d + 2 ∨ k = d + 5 ∨ k = d + 6 ∨ k = d + 7 ∨ k = d + 8 ∨ k = d + 9) s0 s0 := xFr.rf
  have hbd : (136 ≤ d ∧ d < 209) ∧ (d ≤ 146 ∨ 158 ≤ d) := by unfold xDay at hd; omega
  have hbd2 : (136 ≤ d2 ∧ d2 < 209) ∧ (d2 ≤ 146 ∨ 158 ≤ d2) := by unfold xDay at hd2; omega
  refine x_iconst hx hb dX2_copyFrom_0 ?_
  refine lv_istore_n (lv' := [(2, .int (xJ 0)), (0, .ref (h0 + d)), (1, .ref (h0 + d2))]) hx hb dX2_copyFrom_1 rfl hl (by decide) rfl (fun ls hl => ?_)
  have L2 : ∀ (fu : Nat) (i2_2 : Int) (s_2 : xS) (H : Heap) (locs : List Loc) (ls : Array Slot), (xR i2_2) → (xFr (fun k => k = d ∨ k = d + 1 ∨ k = d + 2 ∨ k = d + 5 ∨ k = d + 6 ∨ k = d + 7 ∨ k = d + 8 ∨ k = d + 9) s0 s_2) → (s_2 (d + 1) = fun _ => (-1)) → (s_2 (d + 6) = fun _ => (-1)) → (s_2 (d + 7) = fun _ => 0) → (0 ≤ s_2 d 7 ∧ s_2 d 7 ≤ 9999) → (0 ≤ s_2 d 8 ∧ s_2 d 8 ≤ 65535) → (s_2 (d + 9) = fun _ => 0) → (s_2 (d2 + 1) = fun _ => (-1)) → (s_2 (d2 + 6) = fun _ => (-1)) → (s_2 (d2 + 7) = fun _ => 0) → (0 ≤ s_2 d2 7 ∧ s_2 d2 7 ≤ 9999) → (0 ≤ s_2 d2 8 ∧ s_2 d2 8 ≤ 65535) → (s_2 (d2 + 9) = fun _ => 0) → (∀ j : Int, 0 ≤ j → j < 2 → xAr s_2 (s_2 (d2 + 2) j).toNat) → (0 ≤ i2_2) → (2 - i2_2).toNat < fu → xW D g h0 s H locs s_2 → lv_has ls 3 [(0, .ref (h0 + d)), (1, .ref (h0 + d2)), (2, .int (xJ i2_2))] → W p l e { frames := 0, cells := 0, slots := 0, locals := 0 } s m args below meth c H locs 0 0 Q (F0 m 2 ls []) := by
    intro fu
    induction fu with
    | zero => intro i2_2 s_2 H locs ls ri2_2 hF_2 q2_0 q2_1 q2_2 q2_3 q2_4 q2_5 q2_6 q2_7 q2_8 q2_9 q2_10 q2_11 q2_12 v2_0 hm; exact absurd hm (Nat.not_lt_zero _)
    | succ fu ih2 =>
      intro i2_2 s_2 H locs ls ri2_2 hF_2 q2_0 q2_1 q2_2 q2_3 q2_4 q2_5 q2_6 q2_7 q2_8 q2_9 q2_10 q2_11 q2_12 v2_0 hm hW hl
      refine x_iload_n hx hb hl 2 rfl dX2_copyFrom_2 rfl ?_
      refine x_iconst hx hb dX2_copyFrom_3 ?_
      refine x_icmp_ge (tgt := 49) hx hb ri2_2 (by decide) dX2_copyFrom_4 (by decide) (fun c1 => ?_) (fun c1 => ?_)
      · skip
        refine x_iconst hx hb dX2_copyFrom_49 ?_
        refine lv_istore_n (lv' := [(2, .int (xJ 0)), (0, .ref (h0 + d)), (1, .ref (h0 + d2))]) hx hb dX2_copyFrom_50 rfl hl (by decide) rfl (fun ls hl => ?_)
        have L51 : ∀ (fu : Nat) (i2_51 : Int) (s_51 : xS) (H : Heap) (locs : List Loc) (ls : Array Slot), (xR i2_51) → (xFr (fun k => k = d ∨ k = d + 1 ∨ k = d + 2 ∨ k = d + 5 ∨ k = d + 6 ∨ k = d + 7 ∨ k = d + 8 ∨ k = d + 9) s0 s_51) → (s_51 (d + 1) = fun _ => (-1)) → (s_51 (d + 6) = fun _ => (-1)) → (s_51 (d + 7) = fun _ => 0) → (0 ≤ s_51 d 7 ∧ s_51 d 7 ≤ 9999) → (0 ≤ s_51 d 8 ∧ s_51 d 8 ≤ 65535) → (s_51 (d + 9) = fun _ => 0) → (s_51 (d2 + 1) = fun _ => (-1)) → (s_51 (d2 + 6) = fun _ => (-1)) → (s_51 (d2 + 7) = fun _ => 0) → (0 ≤ s_51 d2 7 ∧ s_51 d2 7 ≤ 9999) → (0 ≤ s_51 d2 8 ∧ s_51 d2 8 ≤ 65535) → (s_51 (d2 + 9) = fun _ => 0) → (∀ j : Int, 0 ≤ j → j < 2 → xAr s_51 (s_51 (d2 + 2) j).toNat) → (0 ≤ i2_51) → (10 - i2_51).toNat < fu → xW D g h0 s H locs s_51 → lv_has ls 3 [(0, .ref (h0 + d)), (1, .ref (h0 + d2)), (2, .int (xJ i2_51))] → W p l e { frames := 0, cells := 0, slots := 0, locals := 0 } s m args below meth c H locs 0 0 Q (F0 m 51 ls []) := by
          intro fu
          induction fu with
          | zero => intro i2_51 s_51 H locs ls ri2_51 hF_51 q51_0 q51_1 q51_2 q51_3 q51_4 q51_5 q51_6 q51_7 q51_8 q51_9 q51_10 q51_11 q51_12 v51_0 hm; exact absurd hm (Nat.not_lt_zero _)
          | succ fu ih51 =>
            intro i2_51 s_51 H locs ls ri2_51 hF_51 q51_0 q51_1 q51_2 q51_3 q51_4 q51_5 q51_6 q51_7 q51_8 q51_9 q51_10 q51_11 q51_12 v51_0 hm hW hl
            refine x_iload_n hx hb hl 2 rfl dX2_copyFrom_51 rfl ?_
            refine x_bipush hx hb dX2_copyFrom_52 (by decide) ?_
            refine x_icmp_ge (tgt := 111) hx hb ri2_51 (by decide) dX2_copyFrom_54 (by decide) (fun c2 => ?_) (fun c2 => ?_)
            · skip
              refine x_aload_n hx hb hl 0 rfl dX2_copyFrom_111 rfl ?_
              refine x_aload_n hx hb hl 1 rfl dX2_copyFrom_112 rfl ?_
              refine x_get (j := 7) (v := .int (xJ (s_51 d2 7))) hx hb hown hT hE hW cls_X2 (Or.inl (by omega)) (so_day0 h0 g hd2 _) (by decide) rfl wq401 dX2_copyFrom_113 ?_
              refine x_rd hW (fun x3 ex3 rx3 => ?_)
              have qx3 : 0 ≤ x3 ∧ x3 ≤ 9999 := by rw [ex3]; exact q51_9
              refine x_put (j := 7) hx hb hown hT hE hW cls_X2 (by omega) (fun σ => so_day0 h0 g hd σ) (by decide) (st_X2_7 h0 s_51 d x3) (ln_X2_7 h0 _ _) wq401 rfl rfl rfl rx3 dX2_copyFrom_116 (fun H locs s4 es4 hW => ?_)
              have q5 : s4 (d + 1) = fun _ => (-1) := by rw [es4, xU_k _ _ _ (by omega)]; exact q51_0
              have q6 : s4 (d + 6) = fun _ => (-1) := by rw [es4, xU_k _ _ _ (by omega)]; exact q51_1
              have q7 : s4 (d + 7) = fun _ => 0 := by rw [es4, xU_k _ _ _ (by omega)]; exact q51_2
              have q8 : 0 ≤ s4 d 7 ∧ s4 d 7 ≤ 9999 := by rw [es4, xU_s]; omega
              have q9 : 0 ≤ s4 d 8 ∧ s4 d 8 ≤ 65535 := by rw [es4, xU_j _ _ (by decide)]; exact q51_4
              have q10 : s4 (d + 9) = fun _ => 0 := by rw [es4, xU_k _ _ _ (by omega)]; exact q51_5
              have q11 : s4 (d2 + 1) = fun _ => (-1) := by rw [es4, xU_k _ _ _ (by omega)]; exact q51_6
              have q12 : s4 (d2 + 6) = fun _ => (-1) := by rw [es4, xU_k _ _ _ (by omega)]; exact q51_7
              have q13 : s4 (d2 + 7) = fun _ => 0 := by rw [es4, xU_k _ _ _ (by omega)]; exact q51_8
              have q14 : 0 ≤ s4 d2 7 ∧ s4 d2 7 ≤ 9999 := by rw [es4, xU_k _ _ _ (by omega)]; exact q51_9
              have q15 : 0 ≤ s4 d2 8 ∧ s4 d2 8 ≤ 65535 := by rw [es4, xU_k _ _ _ (by omega)]; exact q51_10
              have q16 : s4 (d2 + 9) = fun _ => 0 := by rw [es4, xU_k _ _ _ (by omega)]; exact q51_11
              have q17 : ∀ j : Int, 0 ≤ j → j < 2 → xAr s4 (s4 (d2 + 2) j).toNat := by intro j h1 h2; rw [show s4 (d2 + 2) = s_51 (d2 + 2) from by rw [es4, xU_k _ _ _ (by omega)]]; exact (q51_12 j h1 h2).f (by rw [es4, xU_k _ _ _ (by omega)])
              have hF18 := hF_51.put es4 (by omega)
              refine x_aload_n hx hb hl 0 rfl dX2_copyFrom_119 rfl ?_
              refine x_aload_n hx hb hl 1 rfl dX2_copyFrom_120 rfl ?_
              refine x_get (j := 8) (v := .int (xJ (s4 d2 8))) hx hb hown hT hE hW cls_X2 (Or.inl (by omega)) (so_day0 h0 g hd2 _) (by decide) rfl wq404 dX2_copyFrom_121 ?_
              refine x_rd hW (fun x19 ex19 rx19 => ?_)
              have qx19 : 0 ≤ x19 ∧ x19 ≤ 65535 := by rw [ex19]; exact q15
              refine x_put (j := 8) hx hb hown hT hE hW cls_X2 (by omega) (fun σ => so_day0 h0 g hd σ) (by decide) (st_X2_8 h0 s4 d x19) (ln_X2_8 h0 _ _) wq404 rfl rfl rfl rx19 dX2_copyFrom_124 (fun H locs s20 es20 hW => ?_)
              have q21 : s20 (d + 1) = fun _ => (-1) := by rw [es20, xU_k _ _ _ (by omega)]; exact q5
              have q22 : s20 (d + 6) = fun _ => (-1) := by rw [es20, xU_k _ _ _ (by omega)]; exact q6
              have q23 : s20 (d + 7) = fun _ => 0 := by rw [es20, xU_k _ _ _ (by omega)]; exact q7
              have q24 : 0 ≤ s20 d 7 ∧ s20 d 7 ≤ 9999 := by rw [es20, xU_j _ _ (by decide)]; exact q8
              have q25 : 0 ≤ s20 d 8 ∧ s20 d 8 ≤ 65535 := by rw [es20, xU_s]; omega
              have q26 : s20 (d + 9) = fun _ => 0 := by rw [es20, xU_k _ _ _ (by omega)]; exact q10
              have q27 : s20 (d2 + 1) = fun _ => (-1) := by rw [es20, xU_k _ _ _ (by omega)]; exact q11
              have q28 : s20 (d2 + 6) = fun _ => (-1) := by rw [es20, xU_k _ _ _ (by omega)]; exact q12
              have q29 : s20 (d2 + 7) = fun _ => 0 := by rw [es20, xU_k _ _ _ (by omega)]; exact q13
              have q30 : 0 ≤ s20 d2 7 ∧ s20 d2 7 ≤ 9999 := by rw [es20, xU_k _ _ _ (by omega)]; exact q14
              have q31 : 0 ≤ s20 d2 8 ∧ s20 d2 8 ≤ 65535 := by rw [es20, xU_k _ _ _ (by omega)]; exact q15
              have q32 : s20 (d2 + 9) = fun _ => 0 := by rw [es20, xU_k _ _ _ (by omega)]; exact q16
              have q33 : ∀ j : Int, 0 ≤ j → j < 2 → xAr s20 (s20 (d2 + 2) j).toNat := by intro j h1 h2; rw [show s20 (d2 + 2) = s4 (d2 + 2) from by rw [es20, xU_k _ _ _ (by omega)]]; exact (q17 j h1 h2).f (by rw [es20, xU_k _ _ _ (by omega)])
              have hF34 := hF18.put es20 (by omega)
              refine x_aload_n hx hb hl 0 rfl dX2_copyFrom_127 rfl ?_
              refine x_aload_n hx hb hl 1 rfl dX2_copyFrom_128 rfl ?_
              refine x_get (j := 9) (v := .int (xJ (s20 d2 9))) hx hb hown hT hE hW cls_X2 (Or.inl (by omega)) (so_day0 h0 g hd2 _) (by decide) rfl wq406 dX2_copyFrom_129 ?_
              refine x_rd hW (fun x35 ex35 rx35 => ?_)
              refine x_put (j := 9) hx hb hown hT hE hW cls_X2 (by omega) (fun σ => so_day0 h0 g hd σ) (by decide) (st_X2_9 h0 s20 d x35) (ln_X2_9 h0 _ _) wq406 rfl rfl rfl rx35 dX2_copyFrom_132 (fun H locs s36 es36 hW => ?_)
              have q37 : s36 (d + 1) = fun _ => (-1) := by rw [es36, xU_k _ _ _ (by omega)]; exact q21
              have q38 : s36 (d + 6) = fun _ => (-1) := by rw [es36, xU_k _ _ _ (by omega)]; exact q22
              have q39 : s36 (d + 7) = fun _ => 0 := by rw [es36, xU_k _ _ _ (by omega)]; exact q23
              have q40 : 0 ≤ s36 d 7 ∧ s36 d 7 ≤ 9999 := by rw [es36, xU_j _ _ (by decide)]; exact q24
              have q41 : 0 ≤ s36 d 8 ∧ s36 d 8 ≤ 65535 := by rw [es36, xU_j _ _ (by decide)]; exact q25
              have q42 : s36 (d + 9) = fun _ => 0 := by rw [es36, xU_k _ _ _ (by omega)]; exact q26
              have q43 : s36 (d2 + 1) = fun _ => (-1) := by rw [es36, xU_k _ _ _ (by omega)]; exact q27
              have q44 : s36 (d2 + 6) = fun _ => (-1) := by rw [es36, xU_k _ _ _ (by omega)]; exact q28
              have q45 : s36 (d2 + 7) = fun _ => 0 := by rw [es36, xU_k _ _ _ (by omega)]; exact q29
              have q46 : 0 ≤ s36 d2 7 ∧ s36 d2 7 ≤ 9999 := by rw [es36, xU_k _ _ _ (by omega)]; exact q30
              have q47 : 0 ≤ s36 d2 8 ∧ s36 d2 8 ≤ 65535 := by rw [es36, xU_k _ _ _ (by omega)]; exact q31
              have q48 : s36 (d2 + 9) = fun _ => 0 := by rw [es36, xU_k _ _ _ (by omega)]; exact q32
              have q49 : ∀ j : Int, 0 ≤ j → j < 2 → xAr s36 (s36 (d2 + 2) j).toNat := by intro j h1 h2; rw [show s36 (d2 + 2) = s20 (d2 + 2) from by rw [es36, xU_k _ _ _ (by omega)]]; exact (q33 j h1 h2).f (by rw [es36, xU_k _ _ _ (by omega)])
              have hF50 := hF34.put es36 (by omega)
              refine x_aload_n hx hb hl 0 rfl dX2_copyFrom_135 rfl ?_
              refine x_aload_n hx hb hl 1 rfl dX2_copyFrom_136 rfl ?_
              refine x_get (j := 10) (v := .int (xJ (s36 d2 10))) hx hb hown hT hE hW cls_X2 (Or.inl (by omega)) (so_day0 h0 g hd2 _) (by decide) rfl wq409 dX2_copyFrom_137 ?_
              refine x_rd hW (fun x51 ex51 rx51 => ?_)
              refine x_put (j := 10) hx hb hown hT hE hW cls_X2 (by omega) (fun σ => so_day0 h0 g hd σ) (by decide) (st_X2_10 h0 s36 d x51) (ln_X2_10 h0 _ _) wq409 rfl rfl rfl rx51 dX2_copyFrom_140 (fun H locs s52 es52 hW => ?_)
              have q53 : s52 (d + 1) = fun _ => (-1) := by rw [es52, xU_k _ _ _ (by omega)]; exact q37
              have q54 : s52 (d + 6) = fun _ => (-1) := by rw [es52, xU_k _ _ _ (by omega)]; exact q38
              have q55 : s52 (d + 7) = fun _ => 0 := by rw [es52, xU_k _ _ _ (by omega)]; exact q39
              have q56 : 0 ≤ s52 d 7 ∧ s52 d 7 ≤ 9999 := by rw [es52, xU_j _ _ (by decide)]; exact q40
              have q57 : 0 ≤ s52 d 8 ∧ s52 d 8 ≤ 65535 := by rw [es52, xU_j _ _ (by decide)]; exact q41
              have q58 : s52 (d + 9) = fun _ => 0 := by rw [es52, xU_k _ _ _ (by omega)]; exact q42
              have q59 : s52 (d2 + 1) = fun _ => (-1) := by rw [es52, xU_k _ _ _ (by omega)]; exact q43
              have q60 : s52 (d2 + 6) = fun _ => (-1) := by rw [es52, xU_k _ _ _ (by omega)]; exact q44
              have q61 : s52 (d2 + 7) = fun _ => 0 := by rw [es52, xU_k _ _ _ (by omega)]; exact q45
              have q62 : 0 ≤ s52 d2 7 ∧ s52 d2 7 ≤ 9999 := by rw [es52, xU_k _ _ _ (by omega)]; exact q46
              have q63 : 0 ≤ s52 d2 8 ∧ s52 d2 8 ≤ 65535 := by rw [es52, xU_k _ _ _ (by omega)]; exact q47
              have q64 : s52 (d2 + 9) = fun _ => 0 := by rw [es52, xU_k _ _ _ (by omega)]; exact q48
              have q65 : ∀ j : Int, 0 ≤ j → j < 2 → xAr s52 (s52 (d2 + 2) j).toNat := by intro j h1 h2; rw [show s52 (d2 + 2) = s36 (d2 + 2) from by rw [es52, xU_k _ _ _ (by omega)]]; exact (q49 j h1 h2).f (by rw [es52, xU_k _ _ _ (by omega)])
              have hF66 := hF50.put es52 (by omega)
              refine x_aload_n hx hb hl 0 rfl dX2_copyFrom_143 rfl ?_
              refine x_aload_n hx hb hl 1 rfl dX2_copyFrom_144 rfl ?_
              refine x_get (j := 11) (v := .int (xJ (s52 d2 11))) hx hb hown hT hE hW cls_X2 (Or.inl (by omega)) (so_day0 h0 g hd2 _) (by decide) rfl wq412 dX2_copyFrom_145 ?_
              refine x_rd hW (fun x67 ex67 rx67 => ?_)
              refine x_put (j := 11) hx hb hown hT hE hW cls_X2 (by omega) (fun σ => so_day0 h0 g hd σ) (by decide) (st_X2_11 h0 s52 d x67) (ln_X2_11 h0 _ _) wq412 rfl rfl rfl rx67 dX2_copyFrom_148 (fun H locs s68 es68 hW => ?_)
              have q69 : s68 (d + 1) = fun _ => (-1) := by rw [es68, xU_k _ _ _ (by omega)]; exact q53
              have q70 : s68 (d + 6) = fun _ => (-1) := by rw [es68, xU_k _ _ _ (by omega)]; exact q54
              have q71 : s68 (d + 7) = fun _ => 0 := by rw [es68, xU_k _ _ _ (by omega)]; exact q55
              have q72 : 0 ≤ s68 d 7 ∧ s68 d 7 ≤ 9999 := by rw [es68, xU_j _ _ (by decide)]; exact q56
              have q73 : 0 ≤ s68 d 8 ∧ s68 d 8 ≤ 65535 := by rw [es68, xU_j _ _ (by decide)]; exact q57
              have q74 : s68 (d + 9) = fun _ => 0 := by rw [es68, xU_k _ _ _ (by omega)]; exact q58
              have q75 : s68 (d2 + 1) = fun _ => (-1) := by rw [es68, xU_k _ _ _ (by omega)]; exact q59
              have q76 : s68 (d2 + 6) = fun _ => (-1) := by rw [es68, xU_k _ _ _ (by omega)]; exact q60
              have q77 : s68 (d2 + 7) = fun _ => 0 := by rw [es68, xU_k _ _ _ (by omega)]; exact q61
              have q78 : 0 ≤ s68 d2 7 ∧ s68 d2 7 ≤ 9999 := by rw [es68, xU_k _ _ _ (by omega)]; exact q62
              have q79 : 0 ≤ s68 d2 8 ∧ s68 d2 8 ≤ 65535 := by rw [es68, xU_k _ _ _ (by omega)]; exact q63
              have q80 : s68 (d2 + 9) = fun _ => 0 := by rw [es68, xU_k _ _ _ (by omega)]; exact q64
              have q81 : ∀ j : Int, 0 ≤ j → j < 2 → xAr s68 (s68 (d2 + 2) j).toNat := by intro j h1 h2; rw [show s68 (d2 + 2) = s52 (d2 + 2) from by rw [es68, xU_k _ _ _ (by omega)]]; exact (q65 j h1 h2).f (by rw [es68, xU_k _ _ _ (by omega)])
              have hF82 := hF66.put es68 (by omega)
              rw [eQ]
              exact x_vret hx hb hr hlk hW ⟨hF82, ⟨q69, q70, q71, q72, q73, q74, trivial⟩, trivial⟩ dX2_copyFrom_151
            refine x_aload_n hx hb hl 0 rfl dX2_copyFrom_57 rfl ?_
            refine x_get (j := 3) (v := .ref (h0 + (d + 6))) hx hb hown hT hE hW cls_X2 (Or.inl (by omega)) (so_day0 h0 g hd _) (by decide) rfl wq388 dX2_copyFrom_58 ?_
            refine x_iload_n hx hb hl 2 rfl dX2_copyFrom_61 rfl ?_
            refine x_aload_n hx hb hl 1 rfl dX2_copyFrom_62 rfl ?_
            refine x_get (j := 3) (v := .ref (h0 + (d2 + 6))) hx hb hown hT hE hW cls_X2 (Or.inl (by omega)) (so_day0 h0 g hd2 _) (by decide) rfl wq388 dX2_copyFrom_63 ?_
            refine x_iload_n hx hb hl 2 rfl dX2_copyFrom_66 rfl ?_
            refine x_iald hx hb hE hW (Or.inl (by omega)) (sa_day6 h0 g hd2 _) (by omega) (by decide) dX2_copyFrom_67 ?_
            refine x_rd hW (fun x83 ex83 rx83 => ?_)
            have fx83 : x83 = (-1) := by rw [ex83, q51_7]
            refine x_iast hx hb hE hW (by omega) (fun σ => sa_day6 h0 g hd σ) (by omega) (by decide) rx83 dX2_copyFrom_68 (fun H locs s84 es84 hW => ?_)
            have q85 : s84 (d + 1) = fun _ => (-1) := by rw [es84, xU_k _ _ _ (by omega)]; exact q51_0
            have q86 : s84 (d + 6) = fun _ => (-1) := by rw [es84, show x83 = (-1) from by omega]; exact xU_c q51_1
            have q87 : s84 (d + 7) = fun _ => 0 := by rw [es84, xU_k _ _ _ (by omega)]; exact q51_2
            have q88 : 0 ≤ s84 d 7 ∧ s84 d 7 ≤ 9999 := by rw [es84, xU_k _ _ _ (by omega)]; exact q51_3
            have q89 : 0 ≤ s84 d 8 ∧ s84 d 8 ≤ 65535 := by rw [es84, xU_k _ _ _ (by omega)]; exact q51_4
            have q90 : s84 (d + 9) = fun _ => 0 := by rw [es84, xU_k _ _ _ (by omega)]; exact q51_5
            have q91 : s84 (d2 + 1) = fun _ => (-1) := by rw [es84, xU_k _ _ _ (by omega)]; exact q51_6
            have q92 : s84 (d2 + 6) = fun _ => (-1) := by rw [es84, xU_k _ _ _ (by omega)]; exact q51_7
            have q93 : s84 (d2 + 7) = fun _ => 0 := by rw [es84, xU_k _ _ _ (by omega)]; exact q51_8
            have q94 : 0 ≤ s84 d2 7 ∧ s84 d2 7 ≤ 9999 := by rw [es84, xU_k _ _ _ (by omega)]; exact q51_9
            have q95 : 0 ≤ s84 d2 8 ∧ s84 d2 8 ≤ 65535 := by rw [es84, xU_k _ _ _ (by omega)]; exact q51_10
            have q96 : s84 (d2 + 9) = fun _ => 0 := by rw [es84, xU_k _ _ _ (by omega)]; exact q51_11
            have q97 : ∀ j : Int, 0 ≤ j → j < 2 → xAr s84 (s84 (d2 + 2) j).toNat := by intro j h1 h2; rw [show s84 (d2 + 2) = s_51 (d2 + 2) from by rw [es84, xU_k _ _ _ (by omega)]]; exact (q51_12 j h1 h2).f (by rw [es84, xU_k _ _ _ (by omega)])
            have hF98 := hF_51.put es84 (by omega)
            refine x_aload_n hx hb hl 0 rfl dX2_copyFrom_69 rfl ?_
            refine x_get (j := 4) (v := .ref (h0 + (d + 7))) hx hb hown hT hE hW cls_X2 (Or.inl (by omega)) (so_day0 h0 g hd _) (by decide) rfl wq392 dX2_copyFrom_70 ?_
            refine x_iload_n hx hb hl 2 rfl dX2_copyFrom_73 rfl ?_
            refine x_aload_n hx hb hl 1 rfl dX2_copyFrom_74 rfl ?_
            refine x_get (j := 4) (v := .ref (h0 + (d2 + 7))) hx hb hown hT hE hW cls_X2 (Or.inl (by omega)) (so_day0 h0 g hd2 _) (by decide) rfl wq392 dX2_copyFrom_75 ?_
            refine x_iload_n hx hb hl 2 rfl dX2_copyFrom_78 rfl ?_
            refine x_iald hx hb hE hW (Or.inl (by omega)) (sa_day7 h0 g hd2 _) (by omega) (by decide) dX2_copyFrom_79 ?_
            refine x_rd hW (fun x99 ex99 rx99 => ?_)
            have fx99 : x99 = 0 := by rw [ex99, q93]
            refine x_iast hx hb hE hW (by omega) (fun σ => sa_day7 h0 g hd σ) (by omega) (by decide) rx99 dX2_copyFrom_80 (fun H locs s100 es100 hW => ?_)
            have q101 : s100 (d + 1) = fun _ => (-1) := by rw [es100, xU_k _ _ _ (by omega)]; exact q85
            have q102 : s100 (d + 6) = fun _ => (-1) := by rw [es100, xU_k _ _ _ (by omega)]; exact q86
            have q103 : s100 (d + 7) = fun _ => 0 := by rw [es100, show x99 = 0 from by omega]; exact xU_c q87
            have q104 : 0 ≤ s100 d 7 ∧ s100 d 7 ≤ 9999 := by rw [es100, xU_k _ _ _ (by omega)]; exact q88
            have q105 : 0 ≤ s100 d 8 ∧ s100 d 8 ≤ 65535 := by rw [es100, xU_k _ _ _ (by omega)]; exact q89
            have q106 : s100 (d + 9) = fun _ => 0 := by rw [es100, xU_k _ _ _ (by omega)]; exact q90
            have q107 : s100 (d2 + 1) = fun _ => (-1) := by rw [es100, xU_k _ _ _ (by omega)]; exact q91
            have q108 : s100 (d2 + 6) = fun _ => (-1) := by rw [es100, xU_k _ _ _ (by omega)]; exact q92
            have q109 : s100 (d2 + 7) = fun _ => 0 := by rw [es100, xU_k _ _ _ (by omega)]; exact q93
            have q110 : 0 ≤ s100 d2 7 ∧ s100 d2 7 ≤ 9999 := by rw [es100, xU_k _ _ _ (by omega)]; exact q94
            have q111 : 0 ≤ s100 d2 8 ∧ s100 d2 8 ≤ 65535 := by rw [es100, xU_k _ _ _ (by omega)]; exact q95
            have q112 : s100 (d2 + 9) = fun _ => 0 := by rw [es100, xU_k _ _ _ (by omega)]; exact q96
            have q113 : ∀ j : Int, 0 ≤ j → j < 2 → xAr s100 (s100 (d2 + 2) j).toNat := by intro j h1 h2; rw [show s100 (d2 + 2) = s84 (d2 + 2) from by rw [es100, xU_k _ _ _ (by omega)]]; exact (q97 j h1 h2).f (by rw [es100, xU_k _ _ _ (by omega)])
            have hF114 := hF98.put es100 (by omega)
            refine x_aload_n hx hb hl 0 rfl dX2_copyFrom_81 rfl ?_
            refine x_get (j := 5) (v := .ref (h0 + (d + 8))) hx hb hown hT hE hW cls_X2 (Or.inl (by omega)) (so_day0 h0 g hd _) (by decide) rfl wq395 dX2_copyFrom_82 ?_
            refine x_iload_n hx hb hl 2 rfl dX2_copyFrom_85 rfl ?_
            refine x_aload_n hx hb hl 1 rfl dX2_copyFrom_86 rfl ?_
            refine x_get (j := 5) (v := .ref (h0 + (d2 + 8))) hx hb hown hT hE hW cls_X2 (Or.inl (by omega)) (so_day0 h0 g hd2 _) (by decide) rfl wq395 dX2_copyFrom_87 ?_
            refine x_iload_n hx hb hl 2 rfl dX2_copyFrom_90 rfl ?_
            refine x_iald hx hb hE hW (Or.inl (by omega)) (sa_day8 h0 g hd2 _) (by omega) (by decide) dX2_copyFrom_91 ?_
            refine x_rd hW (fun x115 ex115 rx115 => ?_)
            refine x_iast hx hb hE hW (by omega) (fun σ => sa_day8 h0 g hd σ) (by omega) (by decide) rx115 dX2_copyFrom_92 (fun H locs s116 es116 hW => ?_)
            have q117 : s116 (d + 1) = fun _ => (-1) := by rw [es116, xU_k _ _ _ (by omega)]; exact q101
            have q118 : s116 (d + 6) = fun _ => (-1) := by rw [es116, xU_k _ _ _ (by omega)]; exact q102
            have q119 : s116 (d + 7) = fun _ => 0 := by rw [es116, xU_k _ _ _ (by omega)]; exact q103
            have q120 : 0 ≤ s116 d 7 ∧ s116 d 7 ≤ 9999 := by rw [es116, xU_k _ _ _ (by omega)]; exact q104
            have q121 : 0 ≤ s116 d 8 ∧ s116 d 8 ≤ 65535 := by rw [es116, xU_k _ _ _ (by omega)]; exact q105
            have q122 : s116 (d + 9) = fun _ => 0 := by rw [es116, xU_k _ _ _ (by omega)]; exact q106
            have q123 : s116 (d2 + 1) = fun _ => (-1) := by rw [es116, xU_k _ _ _ (by omega)]; exact q107
            have q124 : s116 (d2 + 6) = fun _ => (-1) := by rw [es116, xU_k _ _ _ (by omega)]; exact q108
            have q125 : s116 (d2 + 7) = fun _ => 0 := by rw [es116, xU_k _ _ _ (by omega)]; exact q109
            have q126 : 0 ≤ s116 d2 7 ∧ s116 d2 7 ≤ 9999 := by rw [es116, xU_k _ _ _ (by omega)]; exact q110
            have q127 : 0 ≤ s116 d2 8 ∧ s116 d2 8 ≤ 65535 := by rw [es116, xU_k _ _ _ (by omega)]; exact q111
            have q128 : s116 (d2 + 9) = fun _ => 0 := by rw [es116, xU_k _ _ _ (by omega)]; exact q112
            have q129 : ∀ j : Int, 0 ≤ j → j < 2 → xAr s116 (s116 (d2 + 2) j).toNat := by intro j h1 h2; rw [show s116 (d2 + 2) = s100 (d2 + 2) from by rw [es116, xU_k _ _ _ (by omega)]]; exact (q113 j h1 h2).f (by rw [es116, xU_k _ _ _ (by omega)])
            have hF130 := hF114.put es116 (by omega)
            refine x_aload_n hx hb hl 0 rfl dX2_copyFrom_93 rfl ?_
            refine x_get (j := 6) (v := .ref (h0 + (d + 9))) hx hb hown hT hE hW cls_X2 (Or.inl (by omega)) (so_day0 h0 g hd _) (by decide) rfl wq398 dX2_copyFrom_94 ?_
            refine x_iload_n hx hb hl 2 rfl dX2_copyFrom_97 rfl ?_
            refine x_aload_n hx hb hl 1 rfl dX2_copyFrom_98 rfl ?_
            refine x_get (j := 6) (v := .ref (h0 + (d2 + 9))) hx hb hown hT hE hW cls_X2 (Or.inl (by omega)) (so_day0 h0 g hd2 _) (by decide) rfl wq398 dX2_copyFrom_99 ?_
            refine x_iload_n hx hb hl 2 rfl dX2_copyFrom_102 rfl ?_
            refine x_zald hx hb hE hW (Or.inl (by omega)) (sa_day9 h0 g hd2 _) (by omega) (by decide) dX2_copyFrom_103 ?_
            refine x_rd hW (fun x131 ex131 rx131 => ?_)
            have fx131 : x131 = 0 := by rw [ex131, q128]
            refine x_zast hx hb hE hW (by omega) (fun σ => sa_day9 h0 g hd σ) (by omega) (by decide) (by omega) dX2_copyFrom_104 (fun H locs s132 es132 hW => ?_)
            have q133 : s132 (d + 1) = fun _ => (-1) := by rw [es132, xU_k _ _ _ (by omega)]; exact q117
            have q134 : s132 (d + 6) = fun _ => (-1) := by rw [es132, xU_k _ _ _ (by omega)]; exact q118
            have q135 : s132 (d + 7) = fun _ => 0 := by rw [es132, xU_k _ _ _ (by omega)]; exact q119
            have q136 : 0 ≤ s132 d 7 ∧ s132 d 7 ≤ 9999 := by rw [es132, xU_k _ _ _ (by omega)]; exact q120
            have q137 : 0 ≤ s132 d 8 ∧ s132 d 8 ≤ 65535 := by rw [es132, xU_k _ _ _ (by omega)]; exact q121
            have q138 : s132 (d + 9) = fun _ => 0 := by rw [es132, show x131 = 0 from by omega]; exact xU_c q122
            have q139 : s132 (d2 + 1) = fun _ => (-1) := by rw [es132, xU_k _ _ _ (by omega)]; exact q123
            have q140 : s132 (d2 + 6) = fun _ => (-1) := by rw [es132, xU_k _ _ _ (by omega)]; exact q124
            have q141 : s132 (d2 + 7) = fun _ => 0 := by rw [es132, xU_k _ _ _ (by omega)]; exact q125
            have q142 : 0 ≤ s132 d2 7 ∧ s132 d2 7 ≤ 9999 := by rw [es132, xU_k _ _ _ (by omega)]; exact q126
            have q143 : 0 ≤ s132 d2 8 ∧ s132 d2 8 ≤ 65535 := by rw [es132, xU_k _ _ _ (by omega)]; exact q127
            have q144 : s132 (d2 + 9) = fun _ => 0 := by rw [es132, xU_k _ _ _ (by omega)]; exact q128
            have q145 : ∀ j : Int, 0 ≤ j → j < 2 → xAr s132 (s132 (d2 + 2) j).toNat := by intro j h1 h2; rw [show s132 (d2 + 2) = s116 (d2 + 2) from by rw [es132, xU_k _ _ _ (by omega)]]; exact (q129 j h1 h2).f (by rw [es132, xU_k _ _ _ (by omega)])
            have hF146 := hF130.put es132 (by omega)
            refine x_iinc (lv' := [(2, .int (xJ (i2_51 + 1))), (0, .ref (h0 + d)), (1, .ref (h0 + d2))]) hx hb hl 2 rfl dX2_copyFrom_105 (by decide) rfl (fun ls hl => ?_)
            refine lv_goto (tgt := 51) hx hb dX2_copyFrom_108 (by decide) ?_
            exact ih51 (i2_51 + 1) s132 H locs ls (by omega) hF146 q133 q134 q135 q136 q137 q138 q139 q140 q141 q142 q143 q144 q145 (by omega) (by omega) hW (lv_sub hl [1, 2, 0] rfl)
        exact L51 ((10 - 0 : Int).toNat + 1) 0 s_2 H locs ls (by decide) hF_2 q2_0 q2_1 q2_2 q2_3 q2_4 q2_5 q2_6 q2_7 q2_8 q2_9 q2_10 q2_11 q2_12 (by omega) (Nat.lt_succ_self _) hW (lv_sub hl [1, 2, 0] rfl)
      refine x_aload_n hx hb hl 0 rfl dX2_copyFrom_7 rfl ?_
      refine x_get (j := 0) (v := .ref (h0 + (d + 1))) hx hb hown hT hE hW cls_X2 (Or.inl (by omega)) (so_day0 h0 g hd _) (by decide) rfl wq383 dX2_copyFrom_8 ?_
      refine x_iload_n hx hb hl 2 rfl dX2_copyFrom_11 rfl ?_
      refine x_aload_n hx hb hl 1 rfl dX2_copyFrom_12 rfl ?_
      refine x_get (j := 0) (v := .ref (h0 + (d2 + 1))) hx hb hown hT hE hW cls_X2 (Or.inl (by omega)) (so_day0 h0 g hd2 _) (by decide) rfl wq383 dX2_copyFrom_13 ?_
      refine x_iload_n hx hb hl 2 rfl dX2_copyFrom_16 rfl ?_
      refine x_iald hx hb hE hW (Or.inl (by omega)) (sa_day1 h0 g hd2 _) (by omega) (by decide) dX2_copyFrom_17 ?_
      refine x_rd hW (fun x147 ex147 rx147 => ?_)
      have fx147 : x147 = (-1) := by rw [ex147, q2_6]
      refine x_iast hx hb hE hW (by omega) (fun σ => sa_day1 h0 g hd σ) (by omega) (by decide) rx147 dX2_copyFrom_18 (fun H locs s148 es148 hW => ?_)
      have q149 : s148 (d + 1) = fun _ => (-1) := by rw [es148, show x147 = (-1) from by omega]; exact xU_c q2_0
      have q150 : s148 (d + 6) = fun _ => (-1) := by rw [es148, xU_k _ _ _ (by omega)]; exact q2_1
      have q151 : s148 (d + 7) = fun _ => 0 := by rw [es148, xU_k _ _ _ (by omega)]; exact q2_2
      have q152 : 0 ≤ s148 d 7 ∧ s148 d 7 ≤ 9999 := by rw [es148, xU_k _ _ _ (by omega)]; exact q2_3
      have q153 : 0 ≤ s148 d 8 ∧ s148 d 8 ≤ 65535 := by rw [es148, xU_k _ _ _ (by omega)]; exact q2_4
      have q154 : s148 (d + 9) = fun _ => 0 := by rw [es148, xU_k _ _ _ (by omega)]; exact q2_5
      have q155 : s148 (d2 + 1) = fun _ => (-1) := by rw [es148, xU_k _ _ _ (by omega)]; exact q2_6
      have q156 : s148 (d2 + 6) = fun _ => (-1) := by rw [es148, xU_k _ _ _ (by omega)]; exact q2_7
      have q157 : s148 (d2 + 7) = fun _ => 0 := by rw [es148, xU_k _ _ _ (by omega)]; exact q2_8
      have q158 : 0 ≤ s148 d2 7 ∧ s148 d2 7 ≤ 9999 := by rw [es148, xU_k _ _ _ (by omega)]; exact q2_9
      have q159 : 0 ≤ s148 d2 8 ∧ s148 d2 8 ≤ 65535 := by rw [es148, xU_k _ _ _ (by omega)]; exact q2_10
      have q160 : s148 (d2 + 9) = fun _ => 0 := by rw [es148, xU_k _ _ _ (by omega)]; exact q2_11
      have q161 : ∀ j : Int, 0 ≤ j → j < 2 → xAr s148 (s148 (d2 + 2) j).toNat := by intro j h1 h2; rw [show s148 (d2 + 2) = s_2 (d2 + 2) from by rw [es148, xU_k _ _ _ (by omega)]]; exact (q2_12 j h1 h2).f (by rw [es148, xU_k _ _ _ (by omega)])
      have hF162 := hF_2.put es148 (by omega)
      refine x_aload_n hx hb hl 0 rfl dX2_copyFrom_19 rfl ?_
      refine x_get (j := 1) (v := .ref (h0 + (d + 2))) hx hb hown hT hE hW cls_X2 (Or.inl (by omega)) (so_day0 h0 g hd _) (by decide) rfl wq386 dX2_copyFrom_20 ?_
      refine x_iload_n hx hb hl 2 rfl dX2_copyFrom_23 rfl ?_
      refine x_aload_n hx hb hl 1 rfl dX2_copyFrom_24 rfl ?_
      refine x_get (j := 1) (v := .ref (h0 + (d2 + 2))) hx hb hown hT hE hW cls_X2 (Or.inl (by omega)) (so_day0 h0 g hd2 _) (by decide) rfl wq386 dX2_copyFrom_25 ?_
      refine x_iload_n hx hb hl 2 rfl dX2_copyFrom_28 rfl ?_
      refine x_aaldR (t0 := 3) (n := 2) (r := (s148 (d2 + 2) i2_2).toNat) hx hb hE hW (by omega) rfl rfl (sg_day2 h0 g hd2 _) (by omega) (by decide) (by rw [xrow_day hd2, Int.toNat_of_nonneg (by omega)]) dX2_copyFrom_29 ?_
      obtain ⟨v163, ev163, rv163⟩ : ∃ v : Int, v = s148 (d2 + 2) i2_2 ∧ xR v := ⟨_, rfl, hW.2.1 _ _⟩
      rw [← ev163]
      refine x_aastR (v := v163) hx hb hE hW (by omega) (fun σ => sg_day2 h0 g hd σ) (xrow_day hd) (by omega) (by decide) (by rw [ev163]; exact q161 _ (by omega) (by omega)) rv163 dX2_copyFrom_30 (fun H locs s164 es164 hW => ?_)
      have q165 : s164 (d + 1) = fun _ => (-1) := by rw [es164, xU_k _ _ _ (by omega)]; exact q149
      have q166 : s164 (d + 6) = fun _ => (-1) := by rw [es164, xU_k _ _ _ (by omega)]; exact q150
      have q167 : s164 (d + 7) = fun _ => 0 := by rw [es164, xU_k _ _ _ (by omega)]; exact q151
      have q168 : 0 ≤ s164 d 7 ∧ s164 d 7 ≤ 9999 := by rw [es164, xU_k _ _ _ (by omega)]; exact q152
      have q169 : 0 ≤ s164 d 8 ∧ s164 d 8 ≤ 65535 := by rw [es164, xU_k _ _ _ (by omega)]; exact q153
      have q170 : s164 (d + 9) = fun _ => 0 := by rw [es164, xU_k _ _ _ (by omega)]; exact q154
      have q171 : s164 (d2 + 1) = fun _ => (-1) := by rw [es164, xU_k _ _ _ (by omega)]; exact q155
      have q172 : s164 (d2 + 6) = fun _ => (-1) := by rw [es164, xU_k _ _ _ (by omega)]; exact q156
      have q173 : s164 (d2 + 7) = fun _ => 0 := by rw [es164, xU_k _ _ _ (by omega)]; exact q157
      have q174 : 0 ≤ s164 d2 7 ∧ s164 d2 7 ≤ 9999 := by rw [es164, xU_k _ _ _ (by omega)]; exact q158
      have q175 : 0 ≤ s164 d2 8 ∧ s164 d2 8 ≤ 65535 := by rw [es164, xU_k _ _ _ (by omega)]; exact q159
      have q176 : s164 (d2 + 9) = fun _ => 0 := by rw [es164, xU_k _ _ _ (by omega)]; exact q160
      have q177 : ∀ j : Int, 0 ≤ j → j < 2 → xAr s164 (s164 (d2 + 2) j).toNat := by intro j h1 h2; rw [show s164 (d2 + 2) = s148 (d2 + 2) from by rw [es164, xU_k _ _ _ (by omega)]]; exact (q161 j h1 h2).f (by rw [es164, xU_k _ _ _ (by omega)])
      have hF178 := hF162.put es164 (by omega)
      refine x_aload_n hx hb hl 0 rfl dX2_copyFrom_31 rfl ?_
      refine x_get (j := 2) (v := .ref (h0 + (d + 5))) hx hb hown hT hE hW cls_X2 (Or.inl (by omega)) (so_day0 h0 g hd _) (by decide) rfl wq387 dX2_copyFrom_32 ?_
      refine x_iload_n hx hb hl 2 rfl dX2_copyFrom_35 rfl ?_
      refine x_aload_n hx hb hl 1 rfl dX2_copyFrom_36 rfl ?_
      refine x_get (j := 2) (v := .ref (h0 + (d2 + 5))) hx hb hown hT hE hW cls_X2 (Or.inl (by omega)) (so_day0 h0 g hd2 _) (by decide) rfl wq387 dX2_copyFrom_37 ?_
      refine x_iload_n hx hb hl 2 rfl dX2_copyFrom_40 rfl ?_
      refine x_iald hx hb hE hW (Or.inl (by omega)) (sa_day5 h0 g hd2 _) (by omega) (by decide) dX2_copyFrom_41 ?_
      refine x_rd hW (fun x179 ex179 rx179 => ?_)
      refine x_iast hx hb hE hW (by omega) (fun σ => sa_day5 h0 g hd σ) (by omega) (by decide) rx179 dX2_copyFrom_42 (fun H locs s180 es180 hW => ?_)
      have q181 : s180 (d + 1) = fun _ => (-1) := by rw [es180, xU_k _ _ _ (by omega)]; exact q165
      have q182 : s180 (d + 6) = fun _ => (-1) := by rw [es180, xU_k _ _ _ (by omega)]; exact q166
      have q183 : s180 (d + 7) = fun _ => 0 := by rw [es180, xU_k _ _ _ (by omega)]; exact q167
      have q184 : 0 ≤ s180 d 7 ∧ s180 d 7 ≤ 9999 := by rw [es180, xU_k _ _ _ (by omega)]; exact q168
      have q185 : 0 ≤ s180 d 8 ∧ s180 d 8 ≤ 65535 := by rw [es180, xU_k _ _ _ (by omega)]; exact q169
      have q186 : s180 (d + 9) = fun _ => 0 := by rw [es180, xU_k _ _ _ (by omega)]; exact q170
      have q187 : s180 (d2 + 1) = fun _ => (-1) := by rw [es180, xU_k _ _ _ (by omega)]; exact q171
      have q188 : s180 (d2 + 6) = fun _ => (-1) := by rw [es180, xU_k _ _ _ (by omega)]; exact q172
      have q189 : s180 (d2 + 7) = fun _ => 0 := by rw [es180, xU_k _ _ _ (by omega)]; exact q173
      have q190 : 0 ≤ s180 d2 7 ∧ s180 d2 7 ≤ 9999 := by rw [es180, xU_k _ _ _ (by omega)]; exact q174
      have q191 : 0 ≤ s180 d2 8 ∧ s180 d2 8 ≤ 65535 := by rw [es180, xU_k _ _ _ (by omega)]; exact q175
      have q192 : s180 (d2 + 9) = fun _ => 0 := by rw [es180, xU_k _ _ _ (by omega)]; exact q176
      have q193 : ∀ j : Int, 0 ≤ j → j < 2 → xAr s180 (s180 (d2 + 2) j).toNat := by intro j h1 h2; rw [show s180 (d2 + 2) = s164 (d2 + 2) from by rw [es180, xU_k _ _ _ (by omega)]]; exact (q177 j h1 h2).f (by rw [es180, xU_k _ _ _ (by omega)])
      have hF194 := hF178.put es180 (by omega)
      refine x_iinc (lv' := [(2, .int (xJ (i2_2 + 1))), (0, .ref (h0 + d)), (1, .ref (h0 + d2))]) hx hb hl 2 rfl dX2_copyFrom_43 (by decide) rfl (fun ls hl => ?_)
      refine lv_goto (tgt := 2) hx hb dX2_copyFrom_46 (by decide) ?_
      exact ih2 (i2_2 + 1) s180 H locs ls (by omega) hF194 q181 q182 q183 q184 q185 q186 q187 q188 q189 q190 q191 q192 q193 (by omega) (by omega) hW (lv_sub hl [1, 2, 0] rfl)
  exact L2 ((2 - 0 : Int).toNat + 1) 0 s0 H locs ls (by decide) hF p0 p1 p2 p3 p4 p5 p6 p7 p8 p9 p10 p11 p12 (by omega) (Nat.lt_succ_self _) hW (lv_sub hl [1, 2, 0] rfl)
set_option maxHeartbeats 4000000 in
set_option maxRecDepth 100000 in
theorem c_X10_isIn (l : Launch) (D : va_G) (g : xG) (T : Nat × Nat × Nat) (h0 : Nat) (s0 : xS) (hσ : xRR s0) (x : Int) (rx : xR x) (lo : Int) (rlo : xR lo) (hi : Int) (rhi : xR hi) : Met l yX10_isIn (xws yX10_isIn cX10_isIn 3 (some .boolean)) { frames := 0, cells := 0, slots := 0, locals := 0 } (xP [.int (xJ x), .int (xJ lo), .int (xJ hi)] D g T h0 s0) (xQi D g h0 (fun r τ => s0 = τ ∧ ((r = 1 ∧ lo ≤ x ∧ x ≤ hi) ∨ (r = 0 ∧ (x < lo ∨ hi < x))))) 0 0 (xA h0) := by
  refine x_met hσ (by decide) (Nat.le_of_ble_eq_true rfl) ?_
  intro p e s m args below meth c hx hb hr hml hown hT hlk hnm hE hW ls hl
  have hl : lv_has ls 3 [(0, .int (xJ x)), (1, .int (xJ lo)), (2, .int (xJ hi))] := hl
  obtain ⟨Q, eQ⟩ : ∃ Q, Q = MQ below (xQi D g h0 (fun r τ => s0 = τ ∧ ((r = 1 ∧ lo ≤ x ∧ x ≤ hi) ∨ (r = 0 ∧ (x < lo ∨ hi < x))))) args s 0 0 (xA h0) := ⟨_, rfl⟩
  rw [← eQ]
  generalize hHe : ([] : List Loc) = locs at hW ⊢
  obtain ⟨H, eH⟩ : ∃ H, H = s.heap := ⟨_, rfl⟩
  rw [← eH] at hW ⊢
  refine x_iload_n hx hb hl 0 rfl dX10_isIn_0 rfl ?_
  refine x_iload_n hx hb hl 1 rfl dX10_isIn_1 rfl ?_
  refine x_icmp_lt (tgt := 14) hx hb rx rlo dX10_isIn_2 (by decide) (fun c1 => ?_) (fun c1 => ?_)
  · skip
    refine x_iconst hx hb dX10_isIn_14 ?_
    rw [eQ]
    exact x_zret hx hb hr hlk hW (by omega) ⟨rfl, by omega⟩ dX10_isIn_15
  refine x_iload_n hx hb hl 0 rfl dX10_isIn_5 rfl ?_
  refine x_iload_n hx hb hl 2 rfl dX10_isIn_6 rfl ?_
  refine x_icmp_gt (tgt := 14) hx hb rx rhi dX10_isIn_7 (by decide) (fun c2 => ?_) (fun c2 => ?_)
  · skip
    refine x_iconst hx hb dX10_isIn_14 ?_
    rw [eQ]
    exact x_zret hx hb hr hlk hW (by omega) ⟨rfl, by omega⟩ dX10_isIn_15
  refine x_iconst hx hb dX10_isIn_10 ?_
  refine lv_goto (tgt := 15) hx hb dX10_isIn_11 (by decide) ?_
  rw [eQ]
  exact x_zret hx hb hr hlk hW (by omega) ⟨rfl, by omega⟩ dX10_isIn_15
set_option maxHeartbeats 4000000 in
set_option maxRecDepth 100000 in
theorem c_X10_holds2 (l : Launch) (D : va_G) (g : xG) (T : Nat × Nat × Nat) (h0 : Nat) (s0 : xS) (hσ : xRR s0) (ka : Nat) (hka : ka < 310) (hca : ∀ σ : xS, xcel h0 g σ ka = .inl (g.1, 2, .inl (fun j => xJ (σ ka j)))) (x : Int) (rx : xR x) (hx0 : x ≠ -1) (p0 : s0 ka = fun _ => (-1)) : Met l yX10_holds (xws yX10_holds cX10_holds 3 (some .boolean)) { frames := 0, cells := 0, slots := 0, locals := 0 } (xP [.ref (h0 + ka), .int (xJ x)] D g T h0 s0) (xQi D g h0 (fun r τ => s0 = τ ∧ (r = 0))) 0 0 (xA h0) := by
  refine x_met hσ (by decide) (Nat.le_of_ble_eq_true rfl) ?_
  intro p e s m args below meth c hx hb hr hml hown hT hlk hnm hE hW ls hl
  have hl : lv_has ls 3 [(0, .ref (h0 + ka)), (1, .int (xJ x))] := hl
  obtain ⟨Q, eQ⟩ : ∃ Q, Q = MQ below (xQi D g h0 (fun r τ => s0 = τ ∧ (r = 0))) args s 0 0 (xA h0) := ⟨_, rfl⟩
  rw [← eQ]
  generalize hHe : ([] : List Loc) = locs at hW ⊢
  obtain ⟨H, eH⟩ : ∃ H, H = s.heap := ⟨_, rfl⟩
  rw [← eH] at hW ⊢
  refine x_iconst hx hb dX10_holds_0 ?_
  refine lv_istore_n (lv' := [(2, .int (xJ 0)), (0, .ref (h0 + ka)), (1, .int (xJ x))]) hx hb dX10_holds_1 rfl hl (by decide) rfl (fun ls hl => ?_)
  have L2 : ∀ (fu : Nat) (i2_2 : Int) (ls : Array Slot), (xR i2_2) → (0 ≤ i2_2) → (2 - i2_2).toNat < fu → lv_has ls 3 [(0, .ref (h0 + ka)), (1, .int (xJ x)), (2, .int (xJ i2_2))] → W p l e { frames := 0, cells := 0, slots := 0, locals := 0 } s m args below meth c H locs 0 0 Q (F0 m 2 ls []) := by
    intro fu
    induction fu with
    | zero => intro i2_2 ls ri2_2 v2_0 hm; exact absurd hm (Nat.not_lt_zero _)
    | succ fu ih2 =>
      intro i2_2 ls ri2_2 v2_0 hm  hl
      refine x_iload_n hx hb hl 2 rfl dX10_holds_2 rfl ?_
      refine x_aload_n hx hb hl 0 rfl dX10_holds_3 rfl ?_
      refine x_alen (n := 2) (t0 := 0) hx hb hE hW (Or.inl hka) (hca _) rfl rfl dX10_holds_4 ?_
      refine x_icmp_ge (tgt := 23) hx hb ri2_2 (by decide) dX10_holds_5 (by decide) (fun c1 => ?_) (fun c1 => ?_)
      · skip
        refine x_iconst hx hb dX10_holds_23 ?_
        rw [eQ]
        exact x_zret hx hb hr hlk hW (by omega) ⟨rfl, by omega⟩ dX10_holds_24
      refine x_aload_n hx hb hl 0 rfl dX10_holds_8 rfl ?_
      refine x_iload_n hx hb hl 2 rfl dX10_holds_9 rfl ?_
      refine x_iald hx hb hE hW (Or.inl hka) (hca _) (by omega) (by decide) dX10_holds_10 ?_
      refine x_rd hW (fun x2 ex2 rx2 => ?_)
      have fx2 : x2 = (-1) := by rw [ex2, p0]
      refine x_iload_n hx hb hl 1 rfl dX10_holds_11 rfl ?_
      refine x_icmp_ne (tgt := 17) hx hb rx2 rx dX10_holds_12 (by decide) (fun c3 => ?_) (fun c3 => False.elim (by omega))
      refine x_iinc (lv' := [(2, .int (xJ (i2_2 + 1))), (0, .ref (h0 + ka)), (1, .int (xJ x))]) hx hb hl 2 rfl dX10_holds_17 (by decide) rfl (fun ls hl => ?_)
      refine lv_goto (tgt := 2) hx hb dX10_holds_20 (by decide) ?_
      exact ih2 (i2_2 + 1) ls (by omega) (by omega) (by omega)  (lv_sub hl [1, 2, 0] rfl)
  exact L2 ((2 - 0 : Int).toNat + 1) 0 ls (by decide) (by omega) (Nat.lt_succ_self _)  (lv_sub hl [1, 2, 0] rfl)
set_option maxHeartbeats 4000000 in
set_option maxRecDepth 100000 in
theorem c_X10_bitsOfTold2 (l : Launch) (D : va_G) (g : xG) (T : Nat × Nat × Nat) (h0 : Nat) (s0 : xS) (hσ : xRR s0) (ka : Nat) (hka : ka < 310) (hca : ∀ σ : xS, xcel h0 g σ ka = .inl (g.1, 2, .inl (fun j => xJ (σ ka j)))) (p0 : s0 ka = fun _ => (-1)) : Met l yX10_bitsOfTold (xws yX10_bitsOfTold cX10_bitsOfTold 3 (some .int)) { frames := 0, cells := 0, slots := 0, locals := 0 } (xP [.ref (h0 + ka)] D g T h0 s0) (xQi D g h0 (fun r τ => s0 = τ ∧ (r = 0))) 0 0 (xA h0) := by
  refine x_met hσ (by decide) (Nat.le_of_ble_eq_true rfl) ?_
  intro p e s m args below meth c hx hb hr hml hown hT hlk hnm hE hW ls hl
  have hl : lv_has ls 3 [(0, .ref (h0 + ka))] := hl
  obtain ⟨Q, eQ⟩ : ∃ Q, Q = MQ below (xQi D g h0 (fun r τ => s0 = τ ∧ (r = 0))) args s 0 0 (xA h0) := ⟨_, rfl⟩
  rw [← eQ]
  generalize hHe : ([] : List Loc) = locs at hW ⊢
  obtain ⟨H, eH⟩ : ∃ H, H = s.heap := ⟨_, rfl⟩
  rw [← eH] at hW ⊢
  refine x_iconst hx hb dX10_bitsOfTold_0 ?_
  refine lv_istore_n (lv' := [(1, .int (xJ 0)), (0, .ref (h0 + ka))]) hx hb dX10_bitsOfTold_1 rfl hl (by decide) rfl (fun ls hl => ?_)
  refine x_iconst hx hb dX10_bitsOfTold_2 ?_
  refine lv_istore_n (lv' := [(2, .int (xJ 0)), (1, .int (xJ 0)), (0, .ref (h0 + ka))]) hx hb dX10_bitsOfTold_3 rfl hl (by decide) rfl (fun ls hl => ?_)
  have L4 : ∀ (fu : Nat) (i2_4 : Int) (ls : Array Slot), (xR i2_4) → (0 ≤ i2_4) → (0 = 0) → (2 - i2_4).toNat < fu → lv_has ls 3 [(0, .ref (h0 + ka)), (1, .int (xJ 0)), (2, .int (xJ i2_4))] → W p l e { frames := 0, cells := 0, slots := 0, locals := 0 } s m args below meth c H locs 0 0 Q (F0 m 4 ls []) := by
    intro fu
    induction fu with
    | zero => intro i2_4 ls ri2_4 v4_0 v4_1 hm; exact absurd hm (Nat.not_lt_zero _)
    | succ fu ih4 =>
      intro i2_4 ls ri2_4 v4_0 v4_1 hm  hl
      refine x_iload_n hx hb hl 2 rfl dX10_bitsOfTold_4 rfl ?_
      refine x_aload_n hx hb hl 0 rfl dX10_bitsOfTold_5 rfl ?_
      refine x_alen (n := 2) (t0 := 0) hx hb hE hW (Or.inl hka) (hca _) rfl rfl dX10_bitsOfTold_6 ?_
      refine x_icmp_ge (tgt := 29) hx hb ri2_4 (by decide) dX10_bitsOfTold_7 (by decide) (fun c1 => ?_) (fun c1 => ?_)
      · skip
        refine x_iload_n hx hb hl 1 rfl dX10_bitsOfTold_29 rfl ?_
        rw [eQ]
        exact x_iret hx hb hr hlk hW (by decide) ⟨rfl, by omega⟩ dX10_bitsOfTold_30
      refine x_aload_n hx hb hl 0 rfl dX10_bitsOfTold_10 rfl ?_
      refine x_iload_n hx hb hl 2 rfl dX10_bitsOfTold_11 rfl ?_
      refine x_iald hx hb hE hW (Or.inl hka) (hca _) (by omega) (by decide) dX10_bitsOfTold_12 ?_
      refine x_rd hW (fun x2 ex2 rx2 => ?_)
      have fx2 : x2 = (-1) := by rw [ex2, p0]
      refine x_iconst hx hb dX10_bitsOfTold_13 ?_
      refine x_icmp_eq (tgt := 23) hx hb rx2 (by decide) dX10_bitsOfTold_14 (by decide) (fun c3 => ?_) (fun c3 => False.elim (by omega))
      refine x_iinc (lv' := [(2, .int (xJ (i2_4 + 1))), (0, .ref (h0 + ka)), (1, .int (xJ 0))]) hx hb hl 2 rfl dX10_bitsOfTold_23 (by decide) rfl (fun ls hl => ?_)
      refine lv_goto (tgt := 4) hx hb dX10_bitsOfTold_26 (by decide) ?_
      exact ih4 (i2_4 + 1) ls (by omega) (by omega) (by omega) (by omega)  (lv_sub hl [1, 2, 0] rfl)
  exact L4 ((2 - 0 : Int).toNat + 1) 0 ls (by decide) (by omega) (by omega) (Nat.lt_succ_self _)  (lv_sub hl [2, 1, 0] rfl)
set_option maxHeartbeats 4000000 in
set_option maxRecDepth 100000 in
theorem c_X10_holds10 (l : Launch) (D : va_G) (g : xG) (T : Nat × Nat × Nat) (h0 : Nat) (s0 : xS) (hσ : xRR s0) (ka : Nat) (hka : ka < 310) (hca : ∀ σ : xS, xcel h0 g σ ka = .inl (g.1, 10, .inl (fun j => xJ (σ ka j)))) (x : Int) (rx : xR x) (hx0 : x ≠ -1) (p0 : s0 ka = fun _ => (-1)) : Met l yX10_holds (xws yX10_holds cX10_holds 3 (some .boolean)) { frames := 0, cells := 0, slots := 0, locals := 0 } (xP [.ref (h0 + ka), .int (xJ x)] D g T h0 s0) (xQi D g h0 (fun r τ => s0 = τ ∧ (r = 0))) 0 0 (xA h0) := by
  refine x_met hσ (by decide) (Nat.le_of_ble_eq_true rfl) ?_
  intro p e s m args below meth c hx hb hr hml hown hT hlk hnm hE hW ls hl
  have hl : lv_has ls 3 [(0, .ref (h0 + ka)), (1, .int (xJ x))] := hl
  obtain ⟨Q, eQ⟩ : ∃ Q, Q = MQ below (xQi D g h0 (fun r τ => s0 = τ ∧ (r = 0))) args s 0 0 (xA h0) := ⟨_, rfl⟩
  rw [← eQ]
  generalize hHe : ([] : List Loc) = locs at hW ⊢
  obtain ⟨H, eH⟩ : ∃ H, H = s.heap := ⟨_, rfl⟩
  rw [← eH] at hW ⊢
  refine x_iconst hx hb dX10_holds_0 ?_
  refine lv_istore_n (lv' := [(2, .int (xJ 0)), (0, .ref (h0 + ka)), (1, .int (xJ x))]) hx hb dX10_holds_1 rfl hl (by decide) rfl (fun ls hl => ?_)
  have L2 : ∀ (fu : Nat) (i2_2 : Int) (ls : Array Slot), (xR i2_2) → (0 ≤ i2_2) → (10 - i2_2).toNat < fu → lv_has ls 3 [(0, .ref (h0 + ka)), (1, .int (xJ x)), (2, .int (xJ i2_2))] → W p l e { frames := 0, cells := 0, slots := 0, locals := 0 } s m args below meth c H locs 0 0 Q (F0 m 2 ls []) := by
    intro fu
    induction fu with
    | zero => intro i2_2 ls ri2_2 v2_0 hm; exact absurd hm (Nat.not_lt_zero _)
    | succ fu ih2 =>
      intro i2_2 ls ri2_2 v2_0 hm  hl
      refine x_iload_n hx hb hl 2 rfl dX10_holds_2 rfl ?_
      refine x_aload_n hx hb hl 0 rfl dX10_holds_3 rfl ?_
      refine x_alen (n := 10) (t0 := 0) hx hb hE hW (Or.inl hka) (hca _) rfl rfl dX10_holds_4 ?_
      refine x_icmp_ge (tgt := 23) hx hb ri2_2 (by decide) dX10_holds_5 (by decide) (fun c1 => ?_) (fun c1 => ?_)
      · skip
        refine x_iconst hx hb dX10_holds_23 ?_
        rw [eQ]
        exact x_zret hx hb hr hlk hW (by omega) ⟨rfl, by omega⟩ dX10_holds_24
      refine x_aload_n hx hb hl 0 rfl dX10_holds_8 rfl ?_
      refine x_iload_n hx hb hl 2 rfl dX10_holds_9 rfl ?_
      refine x_iald hx hb hE hW (Or.inl hka) (hca _) (by omega) (by decide) dX10_holds_10 ?_
      refine x_rd hW (fun x2 ex2 rx2 => ?_)
      have fx2 : x2 = (-1) := by rw [ex2, p0]
      refine x_iload_n hx hb hl 1 rfl dX10_holds_11 rfl ?_
      refine x_icmp_ne (tgt := 17) hx hb rx2 rx dX10_holds_12 (by decide) (fun c3 => ?_) (fun c3 => False.elim (by omega))
      refine x_iinc (lv' := [(2, .int (xJ (i2_2 + 1))), (0, .ref (h0 + ka)), (1, .int (xJ x))]) hx hb hl 2 rfl dX10_holds_17 (by decide) rfl (fun ls hl => ?_)
      refine lv_goto (tgt := 2) hx hb dX10_holds_20 (by decide) ?_
      exact ih2 (i2_2 + 1) ls (by omega) (by omega) (by omega)  (lv_sub hl [1, 2, 0] rfl)
  exact L2 ((10 - 0 : Int).toNat + 1) 0 ls (by decide) (by omega) (Nat.lt_succ_self _)  (lv_sub hl [1, 2, 0] rfl)
set_option maxHeartbeats 4000000 in
set_option maxRecDepth 100000 in
theorem c_X10_bitsOfTold10 (l : Launch) (D : va_G) (g : xG) (T : Nat × Nat × Nat) (h0 : Nat) (s0 : xS) (hσ : xRR s0) (ka : Nat) (hka : ka < 310) (hca : ∀ σ : xS, xcel h0 g σ ka = .inl (g.1, 10, .inl (fun j => xJ (σ ka j)))) (p0 : s0 ka = fun _ => (-1)) : Met l yX10_bitsOfTold (xws yX10_bitsOfTold cX10_bitsOfTold 3 (some .int)) { frames := 0, cells := 0, slots := 0, locals := 0 } (xP [.ref (h0 + ka)] D g T h0 s0) (xQi D g h0 (fun r τ => s0 = τ ∧ (r = 0))) 0 0 (xA h0) := by
  refine x_met hσ (by decide) (Nat.le_of_ble_eq_true rfl) ?_
  intro p e s m args below meth c hx hb hr hml hown hT hlk hnm hE hW ls hl
  have hl : lv_has ls 3 [(0, .ref (h0 + ka))] := hl
  obtain ⟨Q, eQ⟩ : ∃ Q, Q = MQ below (xQi D g h0 (fun r τ => s0 = τ ∧ (r = 0))) args s 0 0 (xA h0) := ⟨_, rfl⟩
  rw [← eQ]
  generalize hHe : ([] : List Loc) = locs at hW ⊢
  obtain ⟨H, eH⟩ : ∃ H, H = s.heap := ⟨_, rfl⟩
  rw [← eH] at hW ⊢
  refine x_iconst hx hb dX10_bitsOfTold_0 ?_
  refine lv_istore_n (lv' := [(1, .int (xJ 0)), (0, .ref (h0 + ka))]) hx hb dX10_bitsOfTold_1 rfl hl (by decide) rfl (fun ls hl => ?_)
  refine x_iconst hx hb dX10_bitsOfTold_2 ?_
  refine lv_istore_n (lv' := [(2, .int (xJ 0)), (1, .int (xJ 0)), (0, .ref (h0 + ka))]) hx hb dX10_bitsOfTold_3 rfl hl (by decide) rfl (fun ls hl => ?_)
  have L4 : ∀ (fu : Nat) (i2_4 : Int) (ls : Array Slot), (xR i2_4) → (0 ≤ i2_4) → (0 = 0) → (10 - i2_4).toNat < fu → lv_has ls 3 [(0, .ref (h0 + ka)), (1, .int (xJ 0)), (2, .int (xJ i2_4))] → W p l e { frames := 0, cells := 0, slots := 0, locals := 0 } s m args below meth c H locs 0 0 Q (F0 m 4 ls []) := by
    intro fu
    induction fu with
    | zero => intro i2_4 ls ri2_4 v4_0 v4_1 hm; exact absurd hm (Nat.not_lt_zero _)
    | succ fu ih4 =>
      intro i2_4 ls ri2_4 v4_0 v4_1 hm  hl
      refine x_iload_n hx hb hl 2 rfl dX10_bitsOfTold_4 rfl ?_
      refine x_aload_n hx hb hl 0 rfl dX10_bitsOfTold_5 rfl ?_
      refine x_alen (n := 10) (t0 := 0) hx hb hE hW (Or.inl hka) (hca _) rfl rfl dX10_bitsOfTold_6 ?_
      refine x_icmp_ge (tgt := 29) hx hb ri2_4 (by decide) dX10_bitsOfTold_7 (by decide) (fun c1 => ?_) (fun c1 => ?_)
      · skip
        refine x_iload_n hx hb hl 1 rfl dX10_bitsOfTold_29 rfl ?_
        rw [eQ]
        exact x_iret hx hb hr hlk hW (by decide) ⟨rfl, by omega⟩ dX10_bitsOfTold_30
      refine x_aload_n hx hb hl 0 rfl dX10_bitsOfTold_10 rfl ?_
      refine x_iload_n hx hb hl 2 rfl dX10_bitsOfTold_11 rfl ?_
      refine x_iald hx hb hE hW (Or.inl hka) (hca _) (by omega) (by decide) dX10_bitsOfTold_12 ?_
      refine x_rd hW (fun x2 ex2 rx2 => ?_)
      have fx2 : x2 = (-1) := by rw [ex2, p0]
      refine x_iconst hx hb dX10_bitsOfTold_13 ?_
      refine x_icmp_eq (tgt := 23) hx hb rx2 (by decide) dX10_bitsOfTold_14 (by decide) (fun c3 => ?_) (fun c3 => False.elim (by omega))
      refine x_iinc (lv' := [(2, .int (xJ (i2_4 + 1))), (0, .ref (h0 + ka)), (1, .int (xJ 0))]) hx hb hl 2 rfl dX10_bitsOfTold_23 (by decide) rfl (fun ls hl => ?_)
      refine lv_goto (tgt := 4) hx hb dX10_bitsOfTold_26 (by decide) ?_
      exact ih4 (i2_4 + 1) ls (by omega) (by omega) (by omega) (by omega)  (lv_sub hl [1, 2, 0] rfl)
  exact L4 ((10 - 0 : Int).toNat + 1) 0 ls (by decide) (by omega) (by omega) (Nat.lt_succ_self _)  (lv_sub hl [2, 1, 0] rfl)
set_option maxHeartbeats 4000000 in
set_option maxRecDepth 100000 in
theorem c_X10_holds4 (l : Launch) (D : va_G) (g : xG) (T : Nat × Nat × Nat) (h0 : Nat) (s0 : xS) (hσ : xRR s0) (ka : Nat) (hka : ka < 310) (hca : ∀ σ : xS, xcel h0 g σ ka = .inl (g.1, 4, .inl (fun j => xJ (σ ka j)))) (x : Int) (rx : xR x) (hx0 : x ≠ -1) (p0 : s0 ka = fun _ => (-1)) : Met l yX10_holds (xws yX10_holds cX10_holds 3 (some .boolean)) { frames := 0, cells := 0, slots := 0, locals := 0 } (xP [.ref (h0 + ka), .int (xJ x)] D g T h0 s0) (xQi D g h0 (fun r τ => s0 = τ ∧ (r = 0))) 0 0 (xA h0) := by
  refine x_met hσ (by decide) (Nat.le_of_ble_eq_true rfl) ?_
  intro p e s m args below meth c hx hb hr hml hown hT hlk hnm hE hW ls hl
  have hl : lv_has ls 3 [(0, .ref (h0 + ka)), (1, .int (xJ x))] := hl
  obtain ⟨Q, eQ⟩ : ∃ Q, Q = MQ below (xQi D g h0 (fun r τ => s0 = τ ∧ (r = 0))) args s 0 0 (xA h0) := ⟨_, rfl⟩
  rw [← eQ]
  generalize hHe : ([] : List Loc) = locs at hW ⊢
  obtain ⟨H, eH⟩ : ∃ H, H = s.heap := ⟨_, rfl⟩
  rw [← eH] at hW ⊢
  refine x_iconst hx hb dX10_holds_0 ?_
  refine lv_istore_n (lv' := [(2, .int (xJ 0)), (0, .ref (h0 + ka)), (1, .int (xJ x))]) hx hb dX10_holds_1 rfl hl (by decide) rfl (fun ls hl => ?_)
  have L2 : ∀ (fu : Nat) (i2_2 : Int) (ls : Array Slot), (xR i2_2) → (0 ≤ i2_2) → (4 - i2_2).toNat < fu → lv_has ls 3 [(0, .ref (h0 + ka)), (1, .int (xJ x)), (2, .int (xJ i2_2))] → W p l e { frames := 0, cells := 0, slots := 0, locals := 0 } s m args below meth c H locs 0 0 Q (F0 m 2 ls []) := by
    intro fu
    induction fu with
    | zero => intro i2_2 ls ri2_2 v2_0 hm; exact absurd hm (Nat.not_lt_zero _)
    | succ fu ih2 =>
      intro i2_2 ls ri2_2 v2_0 hm  hl
      refine x_iload_n hx hb hl 2 rfl dX10_holds_2 rfl ?_
      refine x_aload_n hx hb hl 0 rfl dX10_holds_3 rfl ?_
      refine x_alen (n := 4) (t0 := 0) hx hb hE hW (Or.inl hka) (hca _) rfl rfl dX10_holds_4 ?_
      refine x_icmp_ge (tgt := 23) hx hb ri2_2 (by decide) dX10_holds_5 (by decide) (fun c1 => ?_) (fun c1 => ?_)
      · skip
        refine x_iconst hx hb dX10_holds_23 ?_
        rw [eQ]
        exact x_zret hx hb hr hlk hW (by omega) ⟨rfl, by omega⟩ dX10_holds_24
      refine x_aload_n hx hb hl 0 rfl dX10_holds_8 rfl ?_
      refine x_iload_n hx hb hl 2 rfl dX10_holds_9 rfl ?_
      refine x_iald hx hb hE hW (Or.inl hka) (hca _) (by omega) (by decide) dX10_holds_10 ?_
      refine x_rd hW (fun x2 ex2 rx2 => ?_)
      have fx2 : x2 = (-1) := by rw [ex2, p0]
      refine x_iload_n hx hb hl 1 rfl dX10_holds_11 rfl ?_
      refine x_icmp_ne (tgt := 17) hx hb rx2 rx dX10_holds_12 (by decide) (fun c3 => ?_) (fun c3 => False.elim (by omega))
      refine x_iinc (lv' := [(2, .int (xJ (i2_2 + 1))), (0, .ref (h0 + ka)), (1, .int (xJ x))]) hx hb hl 2 rfl dX10_holds_17 (by decide) rfl (fun ls hl => ?_)
      refine lv_goto (tgt := 2) hx hb dX10_holds_20 (by decide) ?_
      exact ih2 (i2_2 + 1) ls (by omega) (by omega) (by omega)  (lv_sub hl [1, 2, 0] rfl)
  exact L2 ((4 - 0 : Int).toNat + 1) 0 ls (by decide) (by omega) (Nat.lt_succ_self _)  (lv_sub hl [1, 2, 0] rfl)
set_option maxHeartbeats 4000000 in
set_option maxRecDepth 100000 in
theorem c_X10_bitsOfTold4 (l : Launch) (D : va_G) (g : xG) (T : Nat × Nat × Nat) (h0 : Nat) (s0 : xS) (hσ : xRR s0) (ka : Nat) (hka : ka < 310) (hca : ∀ σ : xS, xcel h0 g σ ka = .inl (g.1, 4, .inl (fun j => xJ (σ ka j)))) (p0 : s0 ka = fun _ => (-1)) : Met l yX10_bitsOfTold (xws yX10_bitsOfTold cX10_bitsOfTold 3 (some .int)) { frames := 0, cells := 0, slots := 0, locals := 0 } (xP [.ref (h0 + ka)] D g T h0 s0) (xQi D g h0 (fun r τ => s0 = τ ∧ (r = 0))) 0 0 (xA h0) := by
  refine x_met hσ (by decide) (Nat.le_of_ble_eq_true rfl) ?_
  intro p e s m args below meth c hx hb hr hml hown hT hlk hnm hE hW ls hl
  have hl : lv_has ls 3 [(0, .ref (h0 + ka))] := hl
  obtain ⟨Q, eQ⟩ : ∃ Q, Q = MQ below (xQi D g h0 (fun r τ => s0 = τ ∧ (r = 0))) args s 0 0 (xA h0) := ⟨_, rfl⟩
  rw [← eQ]
  generalize hHe : ([] : List Loc) = locs at hW ⊢
  obtain ⟨H, eH⟩ : ∃ H, H = s.heap := ⟨_, rfl⟩
  rw [← eH] at hW ⊢
  refine x_iconst hx hb dX10_bitsOfTold_0 ?_
  refine lv_istore_n (lv' := [(1, .int (xJ 0)), (0, .ref (h0 + ka))]) hx hb dX10_bitsOfTold_1 rfl hl (by decide) rfl (fun ls hl => ?_)
  refine x_iconst hx hb dX10_bitsOfTold_2 ?_
  refine lv_istore_n (lv' := [(2, .int (xJ 0)), (1, .int (xJ 0)), (0, .ref (h0 + ka))]) hx hb dX10_bitsOfTold_3 rfl hl (by decide) rfl (fun ls hl => ?_)
  have L4 : ∀ (fu : Nat) (i2_4 : Int) (ls : Array Slot), (xR i2_4) → (0 ≤ i2_4) → (0 = 0) → (4 - i2_4).toNat < fu → lv_has ls 3 [(0, .ref (h0 + ka)), (1, .int (xJ 0)), (2, .int (xJ i2_4))] → W p l e { frames := 0, cells := 0, slots := 0, locals := 0 } s m args below meth c H locs 0 0 Q (F0 m 4 ls []) := by
    intro fu
    induction fu with
    | zero => intro i2_4 ls ri2_4 v4_0 v4_1 hm; exact absurd hm (Nat.not_lt_zero _)
    | succ fu ih4 =>
      intro i2_4 ls ri2_4 v4_0 v4_1 hm  hl
      refine x_iload_n hx hb hl 2 rfl dX10_bitsOfTold_4 rfl ?_
      refine x_aload_n hx hb hl 0 rfl dX10_bitsOfTold_5 rfl ?_
      refine x_alen (n := 4) (t0 := 0) hx hb hE hW (Or.inl hka) (hca _) rfl rfl dX10_bitsOfTold_6 ?_
      refine x_icmp_ge (tgt := 29) hx hb ri2_4 (by decide) dX10_bitsOfTold_7 (by decide) (fun c1 => ?_) (fun c1 => ?_)
      · skip
        refine x_iload_n hx hb hl 1 rfl dX10_bitsOfTold_29 rfl ?_
        rw [eQ]
        exact x_iret hx hb hr hlk hW (by decide) ⟨rfl, by omega⟩ dX10_bitsOfTold_30
      refine x_aload_n hx hb hl 0 rfl dX10_bitsOfTold_10 rfl ?_
      refine x_iload_n hx hb hl 2 rfl dX10_bitsOfTold_11 rfl ?_
      refine x_iald hx hb hE hW (Or.inl hka) (hca _) (by omega) (by decide) dX10_bitsOfTold_12 ?_
      refine x_rd hW (fun x2 ex2 rx2 => ?_)
      have fx2 : x2 = (-1) := by rw [ex2, p0]
      refine x_iconst hx hb dX10_bitsOfTold_13 ?_
      refine x_icmp_eq (tgt := 23) hx hb rx2 (by decide) dX10_bitsOfTold_14 (by decide) (fun c3 => ?_) (fun c3 => False.elim (by omega))
      refine x_iinc (lv' := [(2, .int (xJ (i2_4 + 1))), (0, .ref (h0 + ka)), (1, .int (xJ 0))]) hx hb hl 2 rfl dX10_bitsOfTold_23 (by decide) rfl (fun ls hl => ?_)
      refine lv_goto (tgt := 4) hx hb dX10_bitsOfTold_26 (by decide) ?_
      exact ih4 (i2_4 + 1) ls (by omega) (by omega) (by omega) (by omega)  (lv_sub hl [1, 2, 0] rfl)
  exact L4 ((4 - 0 : Int).toNat + 1) 0 ls (by decide) (by omega) (by omega) (Nat.lt_succ_self _)  (lv_sub hl [2, 1, 0] rfl)
