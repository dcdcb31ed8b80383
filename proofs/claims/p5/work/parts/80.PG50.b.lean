set_option maxHeartbeats 4000000 in
set_option maxRecDepth 100000 in
theorem c_X4_joinedV (l : Launch) (D : va_G) (g : xG) (T : Nat × Nat × Nat) (h0 : Nat) (s0 : xS) (hσ : xRR s0) (q : Int) (rq : xR q) (a : Int) (ra : xR a) (b : Int) (rb : xR b) : Met l yX4_joined (xws yX4_joined cX4_joined 3 (some .int)) { frames := 0, cells := 0, slots := 0, locals := 0 } (xP [.int (xJ q), .int (xJ a), .int (xJ b)] D g T h0 s0) (xQi D g h0 (fun r τ => s0 = τ ∧ ((q = 43 ∧ r = zwp (a + b)) ∨ (q = 45 ∧ r = zwp (a - b)) ∨ (q = 42 ∧ r = zwp (a * b)) ∨ (q = 47 ∧ b ≠ 0 ∧ r = zdv a b) ∨ (q = 47 ∧ b = 0 ∧ r = 0) ∨ (q = 37 ∧ b ≠ 0 ∧ r = zrm a b) ∨ (q = 37 ∧ b = 0 ∧ r = 0) ∨ (q = 60 ∧ ((a < b ∧ r = 1) ∨ (b ≤ a ∧ r = 0))) ∨ (q = 62 ∧ ((b < a ∧ r = 1) ∨ (a ≤ b ∧ r = 0))) ∨ (q ≠ 43 ∧ q ≠ 45 ∧ q ≠ 42 ∧ q ≠ 47 ∧ q ≠ 37 ∧ q ≠ 60 ∧ q ≠ 62 ∧ ((a = b ∧ r = 1) ∨ (a ≠ b ∧ r = 0)))))) 0 0 (xA h0) := by
  refine x_met hσ (by decide) (Nat.le_of_ble_eq_true rfl) ?_
  intro p e s m args below meth c hx hb hr hml hown hT hlk hnm hE hW ls hl
  have hl : lv_has ls 3 [(0, .int (xJ q)), (1, .int (xJ a)), (2, .int (xJ b))] := hl
  obtain ⟨Q, eQ⟩ : ∃ Q, Q = MQ below (xQi D g h0 (fun r τ => s0 = τ ∧ ((q = 43 ∧ r = zwp (a + b)) ∨ (q = 45 ∧ r = zwp (a - b)) ∨ (q = 42 ∧ r = zwp (a * b)) ∨ (q = 47 ∧ b ≠ 0 ∧ r = zdv a b) ∨ (q = 47 ∧ b = 0 ∧ r = 0) ∨ (q = 37 ∧ b ≠ 0 ∧ r = zrm a b) ∨ (q = 37 ∧ b = 0 ∧ r = 0) ∨ (q = 60 ∧ ((a < b ∧ r = 1) ∨ (b ≤ a ∧ r = 0))) ∨ (q = 62 ∧ ((b < a ∧ r = 1) ∨ (a ≤ b ∧ r = 0))) ∨ (q ≠ 43 ∧ q ≠ 45 ∧ q ≠ 42 ∧ q ≠ 47 ∧ q ≠ 37 ∧ q ≠ 60 ∧ q ≠ 62 ∧ ((a = b ∧ r = 1) ∨ (a ≠ b ∧ r = 0)))))) args s 0 0 (xA h0) := ⟨_, rfl⟩
  rw [← eQ]
  generalize hHe : ([] : List Loc) = locs at hW ⊢
  obtain ⟨H, eH⟩ : ∃ H, H = s.heap := ⟨_, rfl⟩
  rw [← eH] at hW ⊢
  refine x_iload_n hx hb hl 0 rfl dX4_joined_0 rfl ?_
  rcases (show (q ≠ 37 ∧ q ≠ 42 ∧ q ≠ 43 ∧ q ≠ 45 ∧ q ≠ 47 ∧ q ≠ 60 ∧ q ≠ 62) ∨ q = 37 ∨ q = 42 ∨ q = 43 ∨ q = 45 ∨ q = 47 ∨ q = 60 ∨ q = 62 from by omega) with c1 | c1 | c1 | c1 | c1 | c1 | c1 | c1
  · refine x_look (tgt := 126) (off := 125) hx hb rq dX4_joined_1 rfl (xlk_n (by simp; omega)) (by decide) ?_
    refine x_iload_n hx hb hl 1 rfl dX4_joined_126 rfl ?_
    refine x_iload_n hx hb hl 2 rfl dX4_joined_127 rfl ?_
    refine x_icmp_ne (tgt := 135) hx hb ra rb dX4_joined_128 (by decide) (fun c2 => ?_) (fun c2 => ?_)
    · skip
      refine x_iconst hx hb dX4_joined_135 ?_
      rw [eQ]
      exact x_iret hx hb hr hlk hW (by decide) ⟨rfl, by omega⟩ dX4_joined_136
    refine x_iconst hx hb dX4_joined_131 ?_
    refine lv_goto (tgt := 136) hx hb dX4_joined_132 (by decide) ?_
    rw [eQ]
    exact x_iret hx hb hr hlk hW (by decide) ⟨rfl, by omega⟩ dX4_joined_136
  · refine x_look (tgt := 92) (off := 91) hx hb rq dX4_joined_1 rfl (by rw [c1]; rfl) (by decide) ?_
    refine x_iload_n hx hb hl 2 rfl dX4_joined_92 rfl ?_
    refine x_if_ne (tgt := 100) hx hb rb dX4_joined_93 (by decide) (fun c3 => ?_) (fun c3 => ?_)
    · skip
      refine x_iload_n hx hb hl 1 rfl dX4_joined_100 rfl ?_
      refine x_iload_n hx hb hl 2 rfl dX4_joined_101 rfl ?_
      refine x_iremE hx hb rb (by omega) dX4_joined_102 (fun x4 ex4 rx4 => ?_)
      rw [eQ]
      exact x_iret hx hb hr hlk hW rx4 ⟨rfl, by omega⟩ dX4_joined_103
    refine x_iconst hx hb dX4_joined_96 ?_
    refine lv_goto (tgt := 103) hx hb dX4_joined_97 (by decide) ?_
    rw [eQ]
    exact x_iret hx hb hr hlk hW (by decide) ⟨rfl, by omega⟩ dX4_joined_103
  · refine x_look (tgt := 76) (off := 75) hx hb rq dX4_joined_1 rfl (by rw [c1]; rfl) (by decide) ?_
    refine x_iload_n hx hb hl 1 rfl dX4_joined_76 rfl ?_
    refine x_iload_n hx hb hl 2 rfl dX4_joined_77 rfl ?_
    refine x_imul hx hb dX4_joined_78 ?_
    refine x_wv (fun x5 ex5 rx5 => ?_)
    rw [eQ]
    exact x_iret hx hb hr hlk hW rx5 ⟨rfl, by omega⟩ dX4_joined_79
  · refine x_look (tgt := 68) (off := 67) hx hb rq dX4_joined_1 rfl (by rw [c1]; rfl) (by decide) ?_
    refine x_iload_n hx hb hl 1 rfl dX4_joined_68 rfl ?_
    refine x_iload_n hx hb hl 2 rfl dX4_joined_69 rfl ?_
    refine x_iadd hx hb dX4_joined_70 ?_
    refine x_wv (fun x6 ex6 rx6 => ?_)
    rw [eQ]
    exact x_iret hx hb hr hlk hW rx6 ⟨rfl, by omega⟩ dX4_joined_71
  · refine x_look (tgt := 72) (off := 71) hx hb rq dX4_joined_1 rfl (by rw [c1]; rfl) (by decide) ?_
    refine x_iload_n hx hb hl 1 rfl dX4_joined_72 rfl ?_
    refine x_iload_n hx hb hl 2 rfl dX4_joined_73 rfl ?_
    refine x_isub hx hb dX4_joined_74 ?_
    refine x_wv (fun x7 ex7 rx7 => ?_)
    rw [eQ]
    exact x_iret hx hb hr hlk hW rx7 ⟨rfl, by omega⟩ dX4_joined_75
  · refine x_look (tgt := 80) (off := 79) hx hb rq dX4_joined_1 rfl (by rw [c1]; rfl) (by decide) ?_
    refine x_iload_n hx hb hl 2 rfl dX4_joined_80 rfl ?_
    refine x_if_ne (tgt := 88) hx hb rb dX4_joined_81 (by decide) (fun c8 => ?_) (fun c8 => ?_)
    · skip
      refine x_iload_n hx hb hl 1 rfl dX4_joined_88 rfl ?_
      refine x_iload_n hx hb hl 2 rfl dX4_joined_89 rfl ?_
      refine x_idivE hx hb rb (by omega) dX4_joined_90 (fun x9 ex9 rx9 => ?_)
      rw [eQ]
      exact x_iret hx hb hr hlk hW rx9 ⟨rfl, by omega⟩ dX4_joined_91
    refine x_iconst hx hb dX4_joined_84 ?_
    refine lv_goto (tgt := 91) hx hb dX4_joined_85 (by decide) ?_
    rw [eQ]
    exact x_iret hx hb hr hlk hW (by decide) ⟨rfl, by omega⟩ dX4_joined_91
  · refine x_look (tgt := 104) (off := 103) hx hb rq dX4_joined_1 rfl (by rw [c1]; rfl) (by decide) ?_
    refine x_iload_n hx hb hl 1 rfl dX4_joined_104 rfl ?_
    refine x_iload_n hx hb hl 2 rfl dX4_joined_105 rfl ?_
    refine x_icmp_ge (tgt := 113) hx hb ra rb dX4_joined_106 (by decide) (fun c10 => ?_) (fun c10 => ?_)
    · skip
      refine x_iconst hx hb dX4_joined_113 ?_
      rw [eQ]
      exact x_iret hx hb hr hlk hW (by decide) ⟨rfl, by omega⟩ dX4_joined_114
    refine x_iconst hx hb dX4_joined_109 ?_
    refine lv_goto (tgt := 114) hx hb dX4_joined_110 (by decide) ?_
    rw [eQ]
    exact x_iret hx hb hr hlk hW (by decide) ⟨rfl, by omega⟩ dX4_joined_114
  · refine x_look (tgt := 115) (off := 114) hx hb rq dX4_joined_1 rfl (by rw [c1]; rfl) (by decide) ?_
    refine x_iload_n hx hb hl 1 rfl dX4_joined_115 rfl ?_
    refine x_iload_n hx hb hl 2 rfl dX4_joined_116 rfl ?_
    refine x_icmp_le (tgt := 124) hx hb ra rb dX4_joined_117 (by decide) (fun c11 => ?_) (fun c11 => ?_)
    · skip
      refine x_iconst hx hb dX4_joined_124 ?_
      rw [eQ]
      exact x_iret hx hb hr hlk hW (by decide) ⟨rfl, by omega⟩ dX4_joined_125
    refine x_iconst hx hb dX4_joined_120 ?_
    refine lv_goto (tgt := 125) hx hb dX4_joined_121 (by decide) ?_
    rw [eQ]
    exact x_iret hx hb hr hlk hW (by decide) ⟨rfl, by omega⟩ dX4_joined_125
set_option maxHeartbeats 4000000 in
set_option maxRecDepth 100000 in
theorem c_X4_toldAtV (l : Launch) (D : va_G) (g : xG) (T : Nat × Nat × Nat) (h0 : Nat) (s0 : xS) (hσ : xRR s0) (x : Int) (rx : xR x) (hxz : 0 ≤ x ∧ x < 7) (p0 : IC s0) : Met l yX4_toldAt (xws yX4_toldAt cX4_toldAt 2 (some .int)) { frames := 0, cells := 0, slots := 0, locals := 0 } (xP [.ref (h0 + 109), .int (xJ x)] D g T h0 s0) (xQi D g h0 (fun r τ => s0 = τ ∧ (r = s0 115 x))) 0 0 (xA h0) := by
  refine x_met hσ (by decide) (Nat.le_of_ble_eq_true rfl) ?_
  intro p e s m args below meth c hx hb hr hml hown hT hlk hnm hE hW ls hl
  have hl : lv_has ls 2 [(0, .ref (h0 + 109)), (1, .int (xJ x))] := hl
  obtain ⟨Q, eQ⟩ : ∃ Q, Q = MQ below (xQi D g h0 (fun r τ => s0 = τ ∧ (r = s0 115 x))) args s 0 0 (xA h0) := ⟨_, rfl⟩
  rw [← eQ]
  generalize hHe : ([] : List Loc) = locs at hW ⊢
  obtain ⟨H, eH⟩ : ∃ H, H = s.heap := ⟨_, rfl⟩
  rw [← eH] at hW ⊢
  have k1_1 : s0 1 1 = s0 1 1 := rfl
  refine x_iload_n hx hb hl 1 rfl dX4_toldAt_0 rfl ?_
  refine x_if_lt (tgt := 22) hx hb rx dX4_toldAt_1 (by decide) (fun c1 => False.elim (by omega)) (fun c1 => ?_)
  refine x_iload_n hx hb hl 1 rfl dX4_toldAt_4 rfl ?_
  refine x_aload_n hx hb hl 0 rfl dX4_toldAt_5 rfl ?_
  refine x_get (j := 7) (v := .ref (h0 + 115)) hx hb hown hT hE hW cls_X4 (Or.inl (by decide)) (so_109 h0 g _) (by decide) rfl wq264 dX4_toldAt_6 ?_
  refine x_alen (n := 7) (t0 := 0) hx hb hE hW (Or.inl (by decide)) (sa_115 h0 g _) rfl rfl dX4_toldAt_9 ?_
  refine x_icmp_ge (tgt := 22) hx hb rx (by decide) dX4_toldAt_10 (by decide) (fun c2 => False.elim (by omega)) (fun c2 => ?_)
  refine x_aload_n hx hb hl 0 rfl dX4_toldAt_13 rfl ?_
  refine x_get (j := 7) (v := .ref (h0 + 115)) hx hb hown hT hE hW cls_X4 (Or.inl (by decide)) (so_109 h0 g _) (by decide) rfl wq264 dX4_toldAt_14 ?_
  refine x_iload_n hx hb hl 1 rfl dX4_toldAt_17 rfl ?_
  refine x_iald hx hb hE hW (Or.inl (by decide)) (sa_115 h0 g _) (by omega) (by decide) dX4_toldAt_18 ?_
  refine x_rd hW (fun x3 ex3 rx3 => ?_)
  have V18 := ex3
  refine lv_goto (tgt := 23) hx hb dX4_toldAt_19 (by decide) ?_
  rw [eQ]
  exact x_iret hx hb hr hlk hW rx3 ⟨rfl, V18⟩ dX4_toldAt_23
set_option maxHeartbeats 4000000 in
set_option maxRecDepth 100000 in
theorem c_X4_reckonV (l : Launch) (D : va_G) (g : xG) (T : Nat × Nat × Nat) (h0 : Nat) (s0 : xS) (hσ : xRR s0) (a : Int) (ra : xR a) (C9 : Int → Int) (d9 : Int → Int) (a9 : Int) (t9 : Int) (m9 : Bool) (s9 : Int) (hg : zGD C9 a9 t9 m9 d9) (hrd : (∀ k, a9 ≤ k → k < t9 → s0 110 (k + s9) = zom (C9 k) ∧ s0 111 (k + s9) = zwm s9 (C9 k)) ∧ s0 110 (t9 + s9) = 0 ∧ (0 ≤ s9 ∧ s9 ≤ 31 ∧ t9 + s9 < s0 109 2)) (ha : a = a9 + s9) (p0 : IC s0) : Met l yX4_reckon (xws yX4_reckon cX4_reckon 9 (some .int)) { frames := 1, cells := 0, slots := 0, locals := 22 } (xP [.ref (h0 + 109), .int (xJ a)] D g T h0 s0) (xQi D g h0 (fun r τ => xFr (fun k => k = 116) s0 τ ∧ (((IC τ) ∧ True) ∧ (r = (zEV C9 (s0 115) a9 t9))))) 0 0 (xA h0) := by
  refine x_met hσ (by decide) (Nat.le_of_ble_eq_true rfl) ?_
  intro p e s m args below meth c hx hb hr hml hown hT hlk hnm hE hW ls hl
  have hl : lv_has ls 9 [(0, .ref (h0 + 109)), (1, .int (xJ a))] := hl
  obtain ⟨Q, eQ⟩ : ∃ Q, Q = MQ below (xQi D g h0 (fun r τ => xFr (fun k => k = 116) s0 τ ∧ (((IC τ) ∧ True) ∧ (r = (zEV C9 (s0 115) a9 t9))))) args s 0 0 (xA h0) := ⟨_, rfl⟩
  rw [← eQ]
  generalize hHe : ([] : List Loc) = locs at hW ⊢
  obtain ⟨H, eH⟩ : ∃ H, H = s.heap := ⟨_, rfl⟩
  rw [← eH] at hW ⊢
  have hF : xFr (fun k => k = 116) s0 s0 := xFr.rf
  have k1_1 : s0 1 1 = s0 1 1 := rfl
  have hr2 := hrd.2.1
  have hr3 := hrd.2.2
  have hg1 := hg.1
  have hg2 := hg.2.1
  obtain ⟨V0, eV0⟩ : ∃ v : Int, v = (zEV C9 (s0 115) a9 t9) := ⟨_, rfl⟩
  refine x_iload_n hx hb hl 1 rfl dX4_reckon_0 rfl ?_
  refine lv_istore_n (lv' := [(2, .int (xJ a)), (0, .ref (h0 + 109)), (1, .int (xJ a))]) hx hb dX4_reckon_1 rfl hl (by decide) rfl (fun ls hl => ?_)
  refine x_iconst hx hb dX4_reckon_2 ?_
  refine lv_istore_n (lv' := [(3, .int (xJ 0)), (2, .int (xJ a)), (0, .ref (h0 + 109)), (1, .int (xJ a))]) hx hb dX4_reckon_3 rfl hl (by decide) rfl (fun ls hl => ?_)
  refine x_iconst hx hb dX4_reckon_4 ?_
  refine lv_istore (lv' := [(4, .int (xJ 0)), (3, .int (xJ 0)), (2, .int (xJ a)), (0, .ref (h0 + 109)), (1, .int (xJ a))]) hx hb dX4_reckon_5 hl (by decide) rfl (fun ls hl => ?_)
  have L7 : ∀ (fu : Nat) (i2_7 : Int) (i3_7 : Int) (i4_7 : Int) (s_7 : xS) (H : Heap) (locs : List Loc) (ls : Array Slot), (xR i2_7) → (xR i3_7) → (xR i4_7) → (xFr (fun k => k = 116) s0 s_7) → (IC s_7) → (s_7 1 1 = s0 1 1) → (0 ≤ i4_7 ∧ i4_7 + a9 + s9 ≤ i2_7) → (0 ≤ i3_7 ∧ i3_7 ≤ 40) → (zVS C9 (s0 115) d9 a9 t9 V0 (i2_7 - s9) (zl1 (s_7 116) i3_7)) → (s_7 110 = s0 110 ∧ s_7 111 = s0 111 ∧ s_7 115 = s0 115) → (300 - i4_7).toNat < fu → xW D g h0 s H locs s_7 → lv_has ls 9 [(0, .ref (h0 + 109)), (2, .int (xJ i2_7)), (3, .int (xJ i3_7)), (4, .int (xJ i4_7))] → W p l e { frames := 1, cells := 0, slots := 0, locals := 22 } s m args below meth c H locs 0 0 Q (F0 m 7 ls []) := by
    intro fu
    induction fu with
    | zero => intro i2_7 i3_7 i4_7 s_7 H locs ls ri2_7 ri3_7 ri4_7 hF_7 q7_0 q7_1 v7_0 v7_1 v7_2 v7_3 hm; exact absurd hm (Nat.not_lt_zero _)
    | succ fu ih7 =>
      intro i2_7 i3_7 i4_7 s_7 H locs ls ri2_7 ri3_7 ri4_7 hF_7 q7_0 q7_1 v7_0 v7_1 v7_2 v7_3 hm hW hl
      have hm_7 := fun (_ : Unit) => hm
      clear hm
      have l7 := v7_2.2.1
      have n7 := v7_2.2.2.1
      rw [zl1_l _ (by omega)] at n7
      have u7 : s_7 109 2 = s0 109 2 := congrFun (hF_7 109 (by first | decide | omega)) 2
      refine x_iload hx hb hl 3 rfl dX4_reckon_7 ?_
      refine x_sipush hx hb dX4_reckon_9 (by decide) ?_
      refine x_icmp_ge (tgt := 255) hx hb ri4_7 (by decide) dX4_reckon_12 (by decide) (fun c1 => False.elim (by omega)) (fun c1 => ?_)
      refine x_iload_n hx hb hl 1 rfl dX4_reckon_15 rfl ?_
      refine x_if_lt (tgt := 255) hx hb ri2_7 dX4_reckon_16 (by decide) (fun c2 => False.elim (by omega)) (fun c2 => ?_)
      refine x_iload_n hx hb hl 1 rfl dX4_reckon_19 rfl ?_
      refine x_aload_n hx hb hl 0 rfl dX4_reckon_20 rfl ?_
      refine x_get (j := 2) (v := .int (xJ (s_7 109 2))) hx hb hown hT hE hW cls_X4 (Or.inl (by decide)) (so_109 h0 g _) (by decide) rfl wq253 dX4_reckon_21 ?_
      refine x_rd hW (fun x3 ex3 rx3 => ?_)
      have bx3 : 0 ≤ x3 ∧ x3 ≤ 300 := by rw [ex3]; exact (IC.l1 q7_0).1
      refine x_icmp_ge (tgt := 255) hx hb ri2_7 rx3 dX4_reckon_24 (by decide) (fun c4 => False.elim (by omega)) (fun c4 => ?_)
      refine x_aload_n hx hb hl 0 rfl dX4_reckon_27 rfl ?_
      refine x_get (j := 0) (v := .ref (h0 + 110)) hx hb hown hT hE hW cls_X4 (Or.inl (by decide)) (so_109 h0 g _) (by decide) rfl wq251 dX4_reckon_28 ?_
      refine x_iload_n hx hb hl 1 rfl dX4_reckon_31 rfl ?_
      refine x_iald hx hb hE hW (Or.inl (by decide)) (sa_110 h0 g _) (by omega) (by decide) dX4_reckon_32 ?_
      refine x_rd hW (fun x5 ex5 rx5 => ?_)
      have V32 : x5 = s0 110 i2_7 := by rw [ex5, v7_3.1]
      obtain ⟨c9, ec9⟩ : ∃ c : Int, c = C9 (i2_7 - s9) := ⟨_, rfl⟩
      refine lv_istore (lv' := [(5, .int (xJ x5)), (0, .ref (h0 + 109)), (2, .int (xJ i2_7)), (3, .int (xJ i3_7)), (4, .int (xJ i4_7))]) hx hb dX4_reckon_33 hl (by decide) rfl (fun ls hl => ?_)
      refine x_aload_n hx hb hl 1 rfl dX4_reckon_35 rfl ?_
      refine x_get (j := 1) (v := .ref (h0 + 111)) hx hb hown hT hE hW cls_X4 (Or.inl (by decide)) (so_109 h0 g _) (by decide) rfl wq252 dX4_reckon_36 ?_
      refine x_iload_n hx hb hl 2 rfl dX4_reckon_39 rfl ?_
      refine x_iald hx hb hE hW (Or.inl (by decide)) (sa_111 h0 g _) (by omega) (by decide) dX4_reckon_40 ?_
      refine x_rd hW (fun x6 ex6 rx6 => ?_)
      refine lv_istore (lv' := [(6, .int (xJ x6)), (5, .int (xJ x5)), (0, .ref (h0 + 109)), (2, .int (xJ i2_7)), (3, .int (xJ i3_7)), (4, .int (xJ i4_7))]) hx hb dX4_reckon_41 hl (by decide) rfl (fun ls hl => ?_)
      have V41 : x6 = s0 111 i2_7 := by rw [ex6, v7_3.2.1]
      have K41 : (i2_7 - s9 = t9 ∧ x5 = 0) ∨ (i2_7 - s9 < t9 ∧ x5 = zom c9 ∧ x6 = zwm s9 c9) := by
        by_cases e : i2_7 - s9 < t9
        · have q := hrd.1 (i2_7 - s9) (by omega) e
          rw [show i2_7 - s9 + s9 = i2_7 from by omega, ← ec9] at q
          exact Or.inr ⟨e, V32.trans q.1, V41.trans q.2⟩
        · exact Or.inl ⟨by omega, V32.trans (by rw [show i2_7 = t9 + s9 from by omega]; exact hr2)⟩
      have A41 : i2_7 - s9 < t9 → _ := fun e => hg.at_ (p := i2_7 - s9) (by omega) e
      rw [← ec9] at A41
      have B41 : i2_7 - s9 < t9 → 0 ≤ c9 ∧ c9 < 13631488 := fun e => by have q := A41 e; omega
      have T41 : i2_7 - s9 < t9 → 10485760 ≤ c9 → _ := fun e e2 => v7_2.top hg e (by rw [← ec9]; exact e2)
      refine x_iinc (lv' := [(2, .int (xJ (i2_7 + 1))), (6, .int (xJ x6)), (5, .int (xJ x5)), (0, .ref (h0 + 109)), (3, .int (xJ i3_7)), (4, .int (xJ i4_7))]) hx hb hl 3 rfl dX4_reckon_43 (by decide) rfl (fun ls hl => ?_)
      refine x_aload_n hx hb hl 3 rfl dX4_reckon_46 rfl ?_
      refine x_get (j := 8) (v := .ref (h0 + 116)) hx hb hown hT hE hW cls_X4 (Or.inl (by decide)) (so_109 h0 g _) (by decide) rfl wq265 dX4_reckon_47 ?_
      refine x_iload_n hx hb hl 4 rfl dX4_reckon_50 rfl ?_
      refine x_iald hx hb hE hW (Or.inl (by decide)) (sa_116 h0 g _) (by omega) (by decide) dX4_reckon_51 ?_
      refine x_rd hW (fun x7 ex7 rx7 => ?_)
      have L51 : 1 ≤ i3_7 → zl1 (s_7 116) i3_7 = x7 :: zl1 (s_7 116) (i3_7 - 1) := fun h => by rw [zl1_pop _ h, ex7]
      refine lv_istore (lv' := [(7, .int (xJ x7)), (2, .int (xJ (i2_7 + 1))), (6, .int (xJ x6)), (5, .int (xJ x5)), (0, .ref (h0 + 109)), (3, .int (xJ i3_7)), (4, .int (xJ i4_7))]) hx hb dX4_reckon_52 hl (by decide) rfl (fun ls hl => ?_)
      refine x_iload_n hx hb hl 5 rfl dX4_reckon_54 rfl ?_
      have J65 : ∀ (t0_65 : Int) (ls : Array Slot), (xR t0_65) → ((0 < i3_7 ∧ t0_65 = i3_7 - 1) ∨ (i3_7 ≤ 0 ∧ t0_65 = 0)) → lv_has ls 9 [(0, .ref (h0 + 109)), (2, .int (xJ (i2_7 + 1))), (3, .int (xJ i3_7)), (4, .int (xJ i4_7)), (5, .int (xJ x5)), (6, .int (xJ x6)), (7, .int (xJ x7))] → W p l e { frames := 1, cells := 0, slots := 0, locals := 22 } s m args below meth c H locs 0 0 Q (F0 m 65 ls [.int (xJ t0_65)]) := by
        intro t0_65 ls rt0_65 v65_0  hl
        refine lv_istore (lv' := [(8, .int (xJ t0_65)), (0, .ref (h0 + 109)), (2, .int (xJ (i2_7 + 1))), (3, .int (xJ i3_7)), (4, .int (xJ i4_7)), (5, .int (xJ x5)), (6, .int (xJ x6)), (7, .int (xJ x7))]) hx hb dX4_reckon_65 hl (by decide) rfl (fun ls hl => ?_)
        refine x_iload hx hb hl 5 rfl dX4_reckon_67 ?_
        rcases (show (x5 < 0 ∨ 5 < x5) ∨ x5 = 0 ∨ x5 = 1 ∨ x5 = 2 ∨ x5 = 3 ∨ x5 = 4 ∨ x5 = 5 from by omega) with c8 | c8 | c8 | c8 | c8 | c8 | c8
        · refine x_tabOut (tgt := 206) hx hb rx5 dX4_reckon_69 c8 (by decide) ?_
          refine x_iload hx hb hl 7 rfl dX4_reckon_206 ?_
          refine x_if_ne (tgt := 227) hx hb rx7 dX4_reckon_208 (by decide) (fun c9 => ?_) (fun c9 => ?_)
          · skip
            refine x_iload hx hb hl 0 rfl dX4_reckon_227 ?_
            refine lv_istore_n (lv' := [(3, .int (xJ t0_65)), (8, .int (xJ t0_65)), (0, .ref (h0 + 109)), (2, .int (xJ (i2_7 + 1))), (4, .int (xJ i4_7)), (5, .int (xJ x5)), (6, .int (xJ x6)), (7, .int (xJ x7))]) hx hb dX4_reckon_229 rfl hl (by decide) rfl (fun ls hl => ?_)
            refine x_aload_n hx hb hl 2 rfl dX4_reckon_230 rfl ?_
            refine x_get (j := 8) (v := .ref (h0 + 116)) hx hb hown hT hE hW cls_X4 (Or.inl (by decide)) (so_109 h0 g _) (by decide) rfl wq265 dX4_reckon_231 ?_
            refine x_iload_n hx hb hl 0 rfl dX4_reckon_234 rfl ?_
            refine x_iload hx hb hl 5 rfl dX4_reckon_235 ?_
            refine x_aload_n hx hb hl 2 rfl dX4_reckon_237 rfl ?_
            refine x_get (j := 8) (v := .ref (h0 + 116)) hx hb hown hT hE hW cls_X4 (Or.inl (by decide)) (so_109 h0 g _) (by decide) rfl wq265 dX4_reckon_238 ?_
            refine x_iload_n hx hb hl 0 rfl dX4_reckon_241 rfl ?_
            refine x_iald hx hb hE hW (Or.inl (by decide)) (sa_116 h0 g _) (by omega) (by decide) dX4_reckon_242 ?_
            refine x_rd hW (fun x10 ex10 rx10 => ?_)
            have V242 := ex10
            refine x_iload hx hb hl 7 rfl dX4_reckon_243 ?_
            refine x_goi (x_runS (As := [.int (xJ x5), .int (xJ x10), .int (xJ x7)]) hx hb hml hown hT hE hW hl.1 cf_X4_joined wq813 wq812 (c_X4_joinedV l D g T h0 s_7 hW.2.1 x5 rx5 x10 rx10 x7 rx7) ⟨rfl, rfl, ⟨by decide, by decide⟩, ⟨by decide, by decide⟩⟩ rfl rfl (Nat.le_of_ble_eq_true rfl) dX4_reckon_245) hW (fun x11 s12 H locs rx11 hp13 hW => ?_)
            obtain ⟨es12, hp13⟩ := hp13
            subst es12
            have ghp13 := hp13
            have H245 := ghp13
            refine x_iast hx hb hE hW (by decide) (fun σ => sa_116 h0 g σ) (by omega) (by decide) rx11 dX4_reckon_248 (fun H locs s14 es14 hW => ?_)
            have q15 : IC s14 := by rw [es14]; exact IC_o (by decide) q7_0
            have q16 : s14 1 1 = s0 1 1 := (show s14 1 1 = s_7 1 1 from by rw [es14, xU_k _ _ _ (by first | decide | omega)]).trans q7_1
            have hF17 := hF_7.put es14 (by omega)
            have X248 : zl1 (s14 116) t0_65 = x11 :: zl1 (s_7 116) (i3_7 - 2) := by rw [es14, xU_xud, zl1_put _ (by omega) (by omega), show t0_65 - 1 = i3_7 - 2 from by omega]
            refine x_iinc (lv' := [(4, .int (xJ (i4_7 + 1))), (3, .int (xJ t0_65)), (8, .int (xJ t0_65)), (0, .ref (h0 + 109)), (2, .int (xJ (i2_7 + 1))), (5, .int (xJ x5)), (6, .int (xJ x6)), (7, .int (xJ x7))]) hx hb hl 4 rfl dX4_reckon_249 (by decide) rfl (fun ls hl => ?_)
            refine lv_goto (tgt := 7) hx hb dX4_reckon_252 (by decide) ?_
            exact ih7 (i2_7 + 1) t0_65 (i4_7 + 1) s14 H locs ls (by omega) rt0_65 (by omega) hF17 q15 q16 (by omega) (by omega) (by first | (exfalso; omega) | exact (by
                have q := K41.resolve_left (fun q => by omega)
                have w := zom_k (B41 q.1)
                have y := zwm_k (s := s9) (B41 q.1)
                rw [X147]
                exact v7_2.num hg q.1 (by rw [← ec9]; omega) (by rw [← ec9]; omega) (by omega)) | exact (by
                have q := K41.resolve_left (fun q => by omega)
                have w := zom_k (B41 q.1)
                have y := zwm_k (s := s9) (B41 q.1)
                rw [X147]
                exact v7_2.let_ hg q.1 (by rw [← ec9]; omega) (by rw [H144, v7_3.2.2, ← ec9]; congr 1; omega) (by omega)) | exact (by
                have q := K41.resolve_left (fun q => by omega)
                have w := zom_k (B41 q.1)
                have tp := T41 q.1 (by omega)
                have e1 := L51 (by rw [zl1_l _ (by omega)] at tp; omega)
                rw [X166]
                refine v7_2.not hg q.1 (by rw [← ec9]; omega) ?_ (by rw [e1]; rfl) (by omega)
                rw [e1] at tp ⊢
                have tp2 : x7 = 0 ∨ x7 = 1 := tp.2
                show _ = 1 - x7
                omega) | exact (by
                have q := K41.resolve_left (fun q => by omega)
                have w := zom_k (B41 q.1)
                have y := zwm_k (s := s9) (B41 q.1)
                have tp := T41 q.1 (by omega)
                have aa := A41 q.1
                have e1 := L51 (by rw [zl1_l _ (by omega)] at tp; omega)
                have hh : zhd (zl1 (s_7 116) i3_7) = x7 := by rw [e1]; rfl
                exact (v7_2.jmp hg q.1 (by rw [← ec9, hh]; rw [hh] at tp; omega) (by rw [← ec9]; omega)).1) | exact (by
                have q := K41.resolve_left (fun q => by omega)
                have w := zom_k (B41 q.1)
                have tp := T41 q.1 (by omega)
                have e1 := L51 (by rw [zl1_l _ (by omega)] at tp; omega)
                have hh : zhd (zl1 (s_7 116) i3_7) = x7 := by rw [e1]; rfl
                rw [show t0_65 = i3_7 - 1 from by omega]
                exact v7_2.stay hg q.1 (by rw [← ec9, hh]; rw [hh] at tp; omega) (by rw [hh]; exact e1) (by omega)) | exact (by
                have q := K41.resolve_left (fun q => by omega)
                have w := zom_k (B41 q.1)
                have z := zom_z (B41 q.1)
                have aa := A41 q.1
                have e1 := L51 (by omega)
                have e2 := zl1_pop (s_7 116) (n := i3_7 - 1) (by omega)
                rw [show i3_7 - 1 - 1 = i3_7 - 2 from by omega, show i3_7 - 1 = t0_65 from by omega, ← V242] at e2
                rw [show i3_7 - 1 = t0_65 from by omega, e2] at e1
                have hh : zhd (zl1 (s_7 116) i3_7) = x7 := by rw [e1]; rfl
                rw [X248]
                exact v7_2.op hg q.1 (by rw [← ec9]; omega) (by rw [← ec9, hh]; omega) e1 (by rw [← ec9]; exact zom_r (by omega) (by omega) (by rw [← q.2.1]; omega)) (by omega))) (by first | exact ⟨rfl, rfl, rfl⟩ | exact v7_3 | (rw [es14, xU_k _ _ _ (by first | decide | omega), xU_k _ _ _ (by first | decide | omega), xU_k _ _ _ (by first | decide | omega)]; exact v7_3)) (by have hm := hm_7 (); omega) hW (lv_sub hl [3, 4, 1, 0] rfl)
          refine x_iload hx hb hl 5 rfl dX4_reckon_211 ?_
          refine x_bipush hx hb dX4_reckon_213 (by decide) ?_
          refine x_icmp_eq (tgt := 225) hx hb rx5 (by decide) dX4_reckon_215 (by decide) (fun c18 => ?_) (fun c18 => ?_)
          · skip
            refine x_iconst hx hb dX4_reckon_225 ?_
            rw [eQ]
            exact x_iret hx hb hr hlk hW (by decide) ⟨hF_7, ⟨q7_0, trivial⟩, by
                rw [← eV0]
                have q := K41.resolve_left (fun q => by omega)
                have y := zom_z (B41 q.1)
                have w := zom_k (B41 q.1)
                have aa := A41 q.1
                have z := v7_2.zero q.1 (by rw [← ec9]; omega) (by rw [L51 (by omega)]; show x7 = 0; omega)
                omega⟩ dX4_reckon_226
          refine x_iload hx hb hl 5 rfl dX4_reckon_218 ?_
          refine x_bipush hx hb dX4_reckon_220 (by decide) ?_
          refine x_icmp_ne (tgt := 227) hx hb rx5 (by decide) dX4_reckon_222 (by decide) (fun c19 => ?_) (fun c19 => ?_)
          · skip
            refine x_iload hx hb hl 0 rfl dX4_reckon_227 ?_
            refine lv_istore_n (lv' := [(3, .int (xJ t0_65)), (8, .int (xJ t0_65)), (0, .ref (h0 + 109)), (2, .int (xJ (i2_7 + 1))), (4, .int (xJ i4_7)), (5, .int (xJ x5)), (6, .int (xJ x6)), (7, .int (xJ x7))]) hx hb dX4_reckon_229 rfl hl (by decide) rfl (fun ls hl => ?_)
            refine x_aload_n hx hb hl 2 rfl dX4_reckon_230 rfl ?_
            refine x_get (j := 8) (v := .ref (h0 + 116)) hx hb hown hT hE hW cls_X4 (Or.inl (by decide)) (so_109 h0 g _) (by decide) rfl wq265 dX4_reckon_231 ?_
            refine x_iload_n hx hb hl 0 rfl dX4_reckon_234 rfl ?_
            refine x_iload hx hb hl 5 rfl dX4_reckon_235 ?_
            refine x_aload_n hx hb hl 2 rfl dX4_reckon_237 rfl ?_
            refine x_get (j := 8) (v := .ref (h0 + 116)) hx hb hown hT hE hW cls_X4 (Or.inl (by decide)) (so_109 h0 g _) (by decide) rfl wq265 dX4_reckon_238 ?_
            refine x_iload_n hx hb hl 0 rfl dX4_reckon_241 rfl ?_
            refine x_iald hx hb hE hW (Or.inl (by decide)) (sa_116 h0 g _) (by omega) (by decide) dX4_reckon_242 ?_
            refine x_rd hW (fun x20 ex20 rx20 => ?_)
            have V242 := ex20
            refine x_iload hx hb hl 7 rfl dX4_reckon_243 ?_
            refine x_goi (x_runS (As := [.int (xJ x5), .int (xJ x20), .int (xJ x7)]) hx hb hml hown hT hE hW hl.1 cf_X4_joined wq813 wq812 (c_X4_joinedV l D g T h0 s_7 hW.2.1 x5 rx5 x20 rx20 x7 rx7) ⟨rfl, rfl, ⟨by decide, by decide⟩, ⟨by decide, by decide⟩⟩ rfl rfl (Nat.le_of_ble_eq_true rfl) dX4_reckon_245) hW (fun x21 s22 H locs rx21 hp23 hW => ?_)
            obtain ⟨es22, hp23⟩ := hp23
            subst es22
            have ghp23 := hp23
            have H245 := ghp23
            refine x_iast hx hb hE hW (by decide) (fun σ => sa_116 h0 g σ) (by omega) (by decide) rx21 dX4_reckon_248 (fun H locs s24 es24 hW => ?_)
            have q25 : IC s24 := by rw [es24]; exact IC_o (by decide) q7_0
            have q26 : s24 1 1 = s0 1 1 := (show s24 1 1 = s_7 1 1 from by rw [es24, xU_k _ _ _ (by first | decide | omega)]).trans q7_1
            have hF27 := hF_7.put es24 (by omega)
            have X248 : zl1 (s24 116) t0_65 = x21 :: zl1 (s_7 116) (i3_7 - 2) := by rw [es24, xU_xud, zl1_put _ (by omega) (by omega), show t0_65 - 1 = i3_7 - 2 from by omega]
            refine x_iinc (lv' := [(4, .int (xJ (i4_7 + 1))), (3, .int (xJ t0_65)), (8, .int (xJ t0_65)), (0, .ref (h0 + 109)), (2, .int (xJ (i2_7 + 1))), (5, .int (xJ x5)), (6, .int (xJ x6)), (7, .int (xJ x7))]) hx hb hl 4 rfl dX4_reckon_249 (by decide) rfl (fun ls hl => ?_)
            refine lv_goto (tgt := 7) hx hb dX4_reckon_252 (by decide) ?_
            exact ih7 (i2_7 + 1) t0_65 (i4_7 + 1) s24 H locs ls (by omega) rt0_65 (by omega) hF27 q25 q26 (by omega) (by omega) (by first | (exfalso; omega) | exact (by
                have q := K41.resolve_left (fun q => by omega)
                have w := zom_k (B41 q.1)
                have y := zwm_k (s := s9) (B41 q.1)
                rw [X147]
                exact v7_2.num hg q.1 (by rw [← ec9]; omega) (by rw [← ec9]; omega) (by omega)) | exact (by
                have q := K41.resolve_left (fun q => by omega)
                have w := zom_k (B41 q.1)
                have y := zwm_k (s := s9) (B41 q.1)
                rw [X147]
                exact v7_2.let_ hg q.1 (by rw [← ec9]; omega) (by rw [H144, v7_3.2.2, ← ec9]; congr 1; omega) (by omega)) | exact (by
                have q := K41.resolve_left (fun q => by omega)
                have w := zom_k (B41 q.1)
                have tp := T41 q.1 (by omega)
                have e1 := L51 (by rw [zl1_l _ (by omega)] at tp; omega)
                rw [X166]
                refine v7_2.not hg q.1 (by rw [← ec9]; omega) ?_ (by rw [e1]; rfl) (by omega)
                rw [e1] at tp ⊢
                have tp2 : x7 = 0 ∨ x7 = 1 := tp.2
                show _ = 1 - x7
                omega) | exact (by
                have q := K41.resolve_left (fun q => by omega)
                have w := zom_k (B41 q.1)
                have y := zwm_k (s := s9) (B41 q.1)
                have tp := T41 q.1 (by omega)
                have aa := A41 q.1
                have e1 := L51 (by rw [zl1_l _ (by omega)] at tp; omega)
                have hh : zhd (zl1 (s_7 116) i3_7) = x7 := by rw [e1]; rfl
                exact (v7_2.jmp hg q.1 (by rw [← ec9, hh]; rw [hh] at tp; omega) (by rw [← ec9]; omega)).1) | exact (by
                have q := K41.resolve_left (fun q => by omega)
                have w := zom_k (B41 q.1)
                have tp := T41 q.1 (by omega)
                have e1 := L51 (by rw [zl1_l _ (by omega)] at tp; omega)
                have hh : zhd (zl1 (s_7 116) i3_7) = x7 := by rw [e1]; rfl
                rw [show t0_65 = i3_7 - 1 from by omega]
                exact v7_2.stay hg q.1 (by rw [← ec9, hh]; rw [hh] at tp; omega) (by rw [hh]; exact e1) (by omega)) | exact (by
                have q := K41.resolve_left (fun q => by omega)
                have w := zom_k (B41 q.1)
                have z := zom_z (B41 q.1)
                have aa := A41 q.1
                have e1 := L51 (by omega)
                have e2 := zl1_pop (s_7 116) (n := i3_7 - 1) (by omega)
                rw [show i3_7 - 1 - 1 = i3_7 - 2 from by omega, show i3_7 - 1 = t0_65 from by omega, ← V242] at e2
                rw [show i3_7 - 1 = t0_65 from by omega, e2] at e1
                have hh : zhd (zl1 (s_7 116) i3_7) = x7 := by rw [e1]; rfl
                rw [X248]
                exact v7_2.op hg q.1 (by rw [← ec9]; omega) (by rw [← ec9, hh]; omega) e1 (by rw [← ec9]; exact zom_r (by omega) (by omega) (by rw [← q.2.1]; omega)) (by omega))) (by first | exact ⟨rfl, rfl, rfl⟩ | exact v7_3 | (rw [es24, xU_k _ _ _ (by first | decide | omega), xU_k _ _ _ (by first | decide | omega), xU_k _ _ _ (by first | decide | omega)]; exact v7_3)) (by have hm := hm_7 (); omega) hW (lv_sub hl [3, 4, 1, 0] rfl)
          refine x_iconst hx hb dX4_reckon_225 ?_
          rw [eQ]
          exact x_iret hx hb hr hlk hW (by decide) ⟨hF_7, ⟨q7_0, trivial⟩, by
              rw [← eV0]
              have q := K41.resolve_left (fun q => by omega)
              have y := zom_z (B41 q.1)
              have w := zom_k (B41 q.1)
              have aa := A41 q.1
              have z := v7_2.zero q.1 (by rw [← ec9]; omega) (by rw [L51 (by omega)]; show x7 = 0; omega)
              omega⟩ dX4_reckon_226
        · refine x_tabIn (v := 0) (tgt := 108) hx hb rx5 c8 dX4_reckon_69 (by decide) rfl (by decide) ?_
          refine x_iload hx hb hl 7 rfl dX4_reckon_108 ?_
          rw [eQ]
          exact x_iret hx hb hr hlk hW rx7 ⟨hF_7, ⟨q7_0, trivial⟩, by
              rw [← eV0]
              have q := K41.resolve_right (fun q => by have y := zom_k (B41 q.1); omega)
              have y := v7_2.fin q.1
              rw [y, L51 (by rw [q.1] at n7; omega)]
              rfl⟩ dX4_reckon_110
        · refine x_tabIn (v := 1) (tgt := 111) hx hb rx5 c8 dX4_reckon_69 (by decide) rfl (by decide) ?_
          refine x_iload_n hx hb hl 3 rfl dX4_reckon_111 rfl ?_
          refine x_bipush hx hb dX4_reckon_112 (by decide) ?_
          refine x_icmp_ge (tgt := 123) hx hb ri3_7 (by decide) dX4_reckon_114 (by decide) (fun c28 => False.elim (by omega)) (fun c28 => ?_)
          refine x_iload_n hx hb hl 3 rfl dX4_reckon_117 rfl ?_
          refine x_iconst hx hb dX4_reckon_118 ?_
          refine x_iadd hx hb dX4_reckon_119 ?_
          refine lv_goto (tgt := 124) hx hb dX4_reckon_120 (by decide) ?_
          refine x_nm (fun x29 ex29 => ?_)
          refine lv_istore_n (lv' := [(3, .int (xJ x29)), (8, .int (xJ t0_65)), (0, .ref (h0 + 109)), (2, .int (xJ (i2_7 + 1))), (4, .int (xJ i4_7)), (5, .int (xJ x5)), (6, .int (xJ x6)), (7, .int (xJ x7))]) hx hb dX4_reckon_124 rfl hl (by decide) rfl (fun ls hl => ?_)
          refine x_aload_n hx hb hl 2 rfl dX4_reckon_125 rfl ?_
          refine x_get (j := 8) (v := .ref (h0 + 116)) hx hb hown hT hE hW cls_X4 (Or.inl (by decide)) (so_109 h0 g _) (by decide) rfl wq265 dX4_reckon_126 ?_
          refine x_iload_n hx hb hl 0 rfl dX4_reckon_129 rfl ?_
          refine x_iload hx hb hl 5 rfl dX4_reckon_130 ?_
          refine x_iconst hx hb dX4_reckon_132 ?_
          refine x_icmp_ne (tgt := 141) hx hb rx5 (by decide) dX4_reckon_133 (by decide) (fun c30 => ?_) (fun c30 => ?_)
          · skip
            refine x_aload_n hx hb hl 2 rfl dX4_reckon_141 rfl ?_
            refine x_iload hx hb hl 6 rfl dX4_reckon_142 ?_
            refine x_goi (x_runV (As := [.int (xJ x6)]) hx hb hml hown hT hE hW hl.1 (Or.inl (by decide)) (so_109 h0 g _) rfl cf_X4_toldAt wq810 wq44 wq808 (c_X4_toldAtV l D g T h0 s_7 hW.2.1 x6 rx6 (by omega) q7_0) ⟨rfl, rfl, ⟨by decide, by decide⟩, ⟨by decide, by decide⟩⟩ rfl rfl (Nat.le_of_ble_eq_true rfl) dX4_reckon_144) hW (fun x31 s32 H locs rx31 hp33 hW => ?_)
            obtain ⟨es32, hp33⟩ := hp33
            subst es32
            have ghp33 := hp33
            have H144 := ghp33
            refine x_iast hx hb hE hW (by decide) (fun σ => sa_116 h0 g σ) (by omega) (by decide) rx31 dX4_reckon_147 (fun H locs s34 es34 hW => ?_)
            have q35 : IC s34 := by rw [es34]; exact IC_o (by decide) q7_0
            have q36 : s34 1 1 = s0 1 1 := (show s34 1 1 = s_7 1 1 from by rw [es34, xU_k _ _ _ (by first | decide | omega)]).trans q7_1
            have hF37 := hF_7.put es34 (by omega)
            have X147 : zl1 (s34 116) x29 = x31 :: zl1 (s_7 116) i3_7 := by rw [es34, xU_xud, show x29 = x29 from by omega]; exact zl1_push _ (by omega) (by omega)
            refine lv_goto (tgt := 249) hx hb dX4_reckon_148 (by decide) ?_
            refine x_iinc (lv' := [(4, .int (xJ (i4_7 + 1))), (3, .int (xJ x29)), (8, .int (xJ t0_65)), (0, .ref (h0 + 109)), (2, .int (xJ (i2_7 + 1))), (5, .int (xJ x5)), (6, .int (xJ x6)), (7, .int (xJ x7))]) hx hb hl 4 rfl dX4_reckon_249 (by decide) rfl (fun ls hl => ?_)
            refine lv_goto (tgt := 7) hx hb dX4_reckon_252 (by decide) ?_
            exact ih7 (i2_7 + 1) x29 (i4_7 + 1) s34 H locs ls (by omega) (by omega) (by omega) hF37 q35 q36 (by omega) (by omega) (by first | (exfalso; omega) | exact (by
                have q := K41.resolve_left (fun q => by omega)
                have w := zom_k (B41 q.1)
                have y := zwm_k (s := s9) (B41 q.1)
                rw [X147]
                exact v7_2.num hg q.1 (by rw [← ec9]; omega) (by rw [← ec9]; omega) (by omega)) | exact (by
                have q := K41.resolve_left (fun q => by omega)
                have w := zom_k (B41 q.1)
                have y := zwm_k (s := s9) (B41 q.1)
                rw [X147]
                exact v7_2.let_ hg q.1 (by rw [← ec9]; omega) (by rw [H144, v7_3.2.2, ← ec9]; congr 1; omega) (by omega)) | exact (by
                have q := K41.resolve_left (fun q => by omega)
                have w := zom_k (B41 q.1)
                have tp := T41 q.1 (by omega)
                have e1 := L51 (by rw [zl1_l _ (by omega)] at tp; omega)
                rw [X166]
                refine v7_2.not hg q.1 (by rw [← ec9]; omega) ?_ (by rw [e1]; rfl) (by omega)
                rw [e1] at tp ⊢
                have tp2 : x7 = 0 ∨ x7 = 1 := tp.2
                show _ = 1 - x7
                omega) | exact (by
                have q := K41.resolve_left (fun q => by omega)
                have w := zom_k (B41 q.1)
                have y := zwm_k (s := s9) (B41 q.1)
                have tp := T41 q.1 (by omega)
                have aa := A41 q.1
                have e1 := L51 (by rw [zl1_l _ (by omega)] at tp; omega)
                have hh : zhd (zl1 (s_7 116) i3_7) = x7 := by rw [e1]; rfl
                exact (v7_2.jmp hg q.1 (by rw [← ec9, hh]; rw [hh] at tp; omega) (by rw [← ec9]; omega)).1) | exact (by
                have q := K41.resolve_left (fun q => by omega)
                have w := zom_k (B41 q.1)
                have tp := T41 q.1 (by omega)
                have e1 := L51 (by rw [zl1_l _ (by omega)] at tp; omega)
                have hh : zhd (zl1 (s_7 116) i3_7) = x7 := by rw [e1]; rfl
                rw [show x29 = i3_7 - 1 from by omega]
                exact v7_2.stay hg q.1 (by rw [← ec9, hh]; rw [hh] at tp; omega) (by rw [hh]; exact e1) (by omega)) | exact (by
                have q := K41.resolve_left (fun q => by omega)
                have w := zom_k (B41 q.1)
                have z := zom_z (B41 q.1)
                have aa := A41 q.1
                have e1 := L51 (by omega)
                have e2 := zl1_pop (s_7 116) (n := i3_7 - 1) (by omega)
                rw [show i3_7 - 1 - 1 = i3_7 - 2 from by omega, show i3_7 - 1 = x29 from by omega, ← V242] at e2
                rw [show i3_7 - 1 = x29 from by omega, e2] at e1
                have hh : zhd (zl1 (s_7 116) i3_7) = x7 := by rw [e1]; rfl
                rw [X248]
                exact v7_2.op hg q.1 (by rw [← ec9]; omega) (by rw [← ec9, hh]; omega) e1 (by rw [← ec9]; exact zom_r (by omega) (by omega) (by rw [← q.2.1]; omega)) (by omega))) (by first | exact ⟨rfl, rfl, rfl⟩ | exact v7_3 | (rw [es34, xU_k _ _ _ (by first | decide | omega), xU_k _ _ _ (by first | decide | omega), xU_k _ _ _ (by first | decide | omega)]; exact v7_3)) (by have hm := hm_7 (); omega) hW (lv_sub hl [3, 4, 1, 0] rfl)
          refine x_iload hx hb hl 6 rfl dX4_reckon_136 ?_
          refine lv_goto (tgt := 147) hx hb dX4_reckon_138 (by decide) ?_
          refine x_iast hx hb hE hW (by decide) (fun σ => sa_116 h0 g σ) (by omega) (by decide) rx6 dX4_reckon_147 (fun H locs s38 es38 hW => ?_)
          have q39 : IC s38 := by rw [es38]; exact IC_o (by decide) q7_0
          have q40 : s38 1 1 = s0 1 1 := (show s38 1 1 = s_7 1 1 from by rw [es38, xU_k _ _ _ (by first | decide | omega)]).trans q7_1
          have hF41 := hF_7.put es38 (by omega)
          have X147 : zl1 (s38 116) x29 = x6 :: zl1 (s_7 116) i3_7 := by rw [es38, xU_xud, show x29 = x29 from by omega]; exact zl1_push _ (by omega) (by omega)
          refine lv_goto (tgt := 249) hx hb dX4_reckon_148 (by decide) ?_
          refine x_iinc (lv' := [(4, .int (xJ (i4_7 + 1))), (3, .int (xJ x29)), (8, .int (xJ t0_65)), (0, .ref (h0 + 109)), (2, .int (xJ (i2_7 + 1))), (5, .int (xJ x5)), (6, .int (xJ x6)), (7, .int (xJ x7))]) hx hb hl 4 rfl dX4_reckon_249 (by decide) rfl (fun ls hl => ?_)
          refine lv_goto (tgt := 7) hx hb dX4_reckon_252 (by decide) ?_
          exact ih7 (i2_7 + 1) x29 (i4_7 + 1) s38 H locs ls (by omega) (by omega) (by omega) hF41 q39 q40 (by omega) (by omega) (by first | (exfalso; omega) | exact (by
              have q := K41.resolve_left (fun q => by omega)
              have w := zom_k (B41 q.1)
              have y := zwm_k (s := s9) (B41 q.1)
              rw [X147]
              exact v7_2.num hg q.1 (by rw [← ec9]; omega) (by rw [← ec9]; omega) (by omega)) | exact (by
              have q := K41.resolve_left (fun q => by omega)
              have w := zom_k (B41 q.1)
              have y := zwm_k (s := s9) (B41 q.1)
              rw [X147]
              exact v7_2.let_ hg q.1 (by rw [← ec9]; omega) (by rw [H144, v7_3.2.2, ← ec9]; congr 1; omega) (by omega)) | exact (by
              have q := K41.resolve_left (fun q => by omega)
              have w := zom_k (B41 q.1)
              have tp := T41 q.1 (by omega)
              have e1 := L51 (by rw [zl1_l _ (by omega)] at tp; omega)
              rw [X166]
              refine v7_2.not hg q.1 (by rw [← ec9]; omega) ?_ (by rw [e1]; rfl) (by omega)
              rw [e1] at tp ⊢
              have tp2 : x7 = 0 ∨ x7 = 1 := tp.2
              show _ = 1 - x7
              omega) | exact (by
              have q := K41.resolve_left (fun q => by omega)
              have w := zom_k (B41 q.1)
              have y := zwm_k (s := s9) (B41 q.1)
              have tp := T41 q.1 (by omega)
              have aa := A41 q.1
              have e1 := L51 (by rw [zl1_l _ (by omega)] at tp; omega)
              have hh : zhd (zl1 (s_7 116) i3_7) = x7 := by rw [e1]; rfl
              exact (v7_2.jmp hg q.1 (by rw [← ec9, hh]; rw [hh] at tp; omega) (by rw [← ec9]; omega)).1) | exact (by
              have q := K41.resolve_left (fun q => by omega)
              have w := zom_k (B41 q.1)
              have tp := T41 q.1 (by omega)
              have e1 := L51 (by rw [zl1_l _ (by omega)] at tp; omega)
              have hh : zhd (zl1 (s_7 116) i3_7) = x7 := by rw [e1]; rfl
              rw [show x29 = i3_7 - 1 from by omega]
              exact v7_2.stay hg q.1 (by rw [← ec9, hh]; rw [hh] at tp; omega) (by rw [hh]; exact e1) (by omega)) | exact (by
              have q := K41.resolve_left (fun q => by omega)
              have w := zom_k (B41 q.1)
              have z := zom_z (B41 q.1)
              have aa := A41 q.1
              have e1 := L51 (by omega)
              have e2 := zl1_pop (s_7 116) (n := i3_7 - 1) (by omega)
              rw [show i3_7 - 1 - 1 = i3_7 - 2 from by omega, show i3_7 - 1 = x29 from by omega, ← V242] at e2
              rw [show i3_7 - 1 = x29 from by omega, e2] at e1
              have hh : zhd (zl1 (s_7 116) i3_7) = x7 := by rw [e1]; rfl
              rw [X248]
              exact v7_2.op hg q.1 (by rw [← ec9]; omega) (by rw [← ec9, hh]; omega) e1 (by rw [← ec9]; exact zom_r (by omega) (by omega) (by rw [← q.2.1]; omega)) (by omega))) (by first | exact ⟨rfl, rfl, rfl⟩ | exact v7_3 | (rw [es38, xU_k _ _ _ (by first | decide | omega), xU_k _ _ _ (by first | decide | omega), xU_k _ _ _ (by first | decide | omega)]; exact v7_3)) (by have hm := hm_7 (); omega) hW (lv_sub hl [3, 4, 1, 0] rfl)
        · refine x_tabIn (v := 2) (tgt := 111) hx hb rx5 c8 dX4_reckon_69 (by decide) rfl (by decide) ?_
          refine x_iload_n hx hb hl 3 rfl dX4_reckon_111 rfl ?_
          refine x_bipush hx hb dX4_reckon_112 (by decide) ?_
          refine x_icmp_ge (tgt := 123) hx hb ri3_7 (by decide) dX4_reckon_114 (by decide) (fun c42 => False.elim (by omega)) (fun c42 => ?_)
          refine x_iload_n hx hb hl 3 rfl dX4_reckon_117 rfl ?_
          refine x_iconst hx hb dX4_reckon_118 ?_
          refine x_iadd hx hb dX4_reckon_119 ?_
          refine lv_goto (tgt := 124) hx hb dX4_reckon_120 (by decide) ?_
          refine x_nm (fun x43 ex43 => ?_)
          refine lv_istore_n (lv' := [(3, .int (xJ x43)), (8, .int (xJ t0_65)), (0, .ref (h0 + 109)), (2, .int (xJ (i2_7 + 1))), (4, .int (xJ i4_7)), (5, .int (xJ x5)), (6, .int (xJ x6)), (7, .int (xJ x7))]) hx hb dX4_reckon_124 rfl hl (by decide) rfl (fun ls hl => ?_)
          refine x_aload_n hx hb hl 2 rfl dX4_reckon_125 rfl ?_
          refine x_get (j := 8) (v := .ref (h0 + 116)) hx hb hown hT hE hW cls_X4 (Or.inl (by decide)) (so_109 h0 g _) (by decide) rfl wq265 dX4_reckon_126 ?_
          refine x_iload_n hx hb hl 0 rfl dX4_reckon_129 rfl ?_
          refine x_iload hx hb hl 5 rfl dX4_reckon_130 ?_
          refine x_iconst hx hb dX4_reckon_132 ?_
          refine x_icmp_ne (tgt := 141) hx hb rx5 (by decide) dX4_reckon_133 (by decide) (fun c44 => ?_) (fun c44 => ?_)
          · skip
            refine x_aload_n hx hb hl 2 rfl dX4_reckon_141 rfl ?_
            refine x_iload hx hb hl 6 rfl dX4_reckon_142 ?_
            refine x_goi (x_runV (As := [.int (xJ x6)]) hx hb hml hown hT hE hW hl.1 (Or.inl (by decide)) (so_109 h0 g _) rfl cf_X4_toldAt wq810 wq44 wq808 (c_X4_toldAtV l D g T h0 s_7 hW.2.1 x6 rx6 (by omega) q7_0) ⟨rfl, rfl, ⟨by decide, by decide⟩, ⟨by decide, by decide⟩⟩ rfl rfl (Nat.le_of_ble_eq_true rfl) dX4_reckon_144) hW (fun x45 s46 H locs rx45 hp47 hW => ?_)
            obtain ⟨es46, hp47⟩ := hp47
            subst es46
            have ghp47 := hp47
            have H144 := ghp47
            refine x_iast hx hb hE hW (by decide) (fun σ => sa_116 h0 g σ) (by omega) (by decide) rx45 dX4_reckon_147 (fun H locs s48 es48 hW => ?_)
            have q49 : IC s48 := by rw [es48]; exact IC_o (by decide) q7_0
            have q50 : s48 1 1 = s0 1 1 := (show s48 1 1 = s_7 1 1 from by rw [es48, xU_k _ _ _ (by first | decide | omega)]).trans q7_1
            have hF51 := hF_7.put es48 (by omega)
            have X147 : zl1 (s48 116) x43 = x45 :: zl1 (s_7 116) i3_7 := by rw [es48, xU_xud, show x43 = x43 from by omega]; exact zl1_push _ (by omega) (by omega)
            refine lv_goto (tgt := 249) hx hb dX4_reckon_148 (by decide) ?_
            refine x_iinc (lv' := [(4, .int (xJ (i4_7 + 1))), (3, .int (xJ x43)), (8, .int (xJ t0_65)), (0, .ref (h0 + 109)), (2, .int (xJ (i2_7 + 1))), (5, .int (xJ x5)), (6, .int (xJ x6)), (7, .int (xJ x7))]) hx hb hl 4 rfl dX4_reckon_249 (by decide) rfl (fun ls hl => ?_)
            refine lv_goto (tgt := 7) hx hb dX4_reckon_252 (by decide) ?_
            exact ih7 (i2_7 + 1) x43 (i4_7 + 1) s48 H locs ls (by omega) (by omega) (by omega) hF51 q49 q50 (by omega) (by omega) (by first | (exfalso; omega) | exact (by
                have q := K41.resolve_left (fun q => by omega)
                have w := zom_k (B41 q.1)
                have y := zwm_k (s := s9) (B41 q.1)
                rw [X147]
                exact v7_2.num hg q.1 (by rw [← ec9]; omega) (by rw [← ec9]; omega) (by omega)) | exact (by
                have q := K41.resolve_left (fun q => by omega)
                have w := zom_k (B41 q.1)
                have y := zwm_k (s := s9) (B41 q.1)
                rw [X147]
                exact v7_2.let_ hg q.1 (by rw [← ec9]; omega) (by rw [H144, v7_3.2.2, ← ec9]; congr 1; omega) (by omega)) | exact (by
                have q := K41.resolve_left (fun q => by omega)
                have w := zom_k (B41 q.1)
                have tp := T41 q.1 (by omega)
                have e1 := L51 (by rw [zl1_l _ (by omega)] at tp; omega)
                rw [X166]
                refine v7_2.not hg q.1 (by rw [← ec9]; omega) ?_ (by rw [e1]; rfl) (by omega)
                rw [e1] at tp ⊢
                have tp2 : x7 = 0 ∨ x7 = 1 := tp.2
                show _ = 1 - x7
                omega) | exact (by
                have q := K41.resolve_left (fun q => by omega)
                have w := zom_k (B41 q.1)
                have y := zwm_k (s := s9) (B41 q.1)
                have tp := T41 q.1 (by omega)
                have aa := A41 q.1
                have e1 := L51 (by rw [zl1_l _ (by omega)] at tp; omega)
                have hh : zhd (zl1 (s_7 116) i3_7) = x7 := by rw [e1]; rfl
                exact (v7_2.jmp hg q.1 (by rw [← ec9, hh]; rw [hh] at tp; omega) (by rw [← ec9]; omega)).1) | exact (by
                have q := K41.resolve_left (fun q => by omega)
                have w := zom_k (B41 q.1)
                have tp := T41 q.1 (by omega)
                have e1 := L51 (by rw [zl1_l _ (by omega)] at tp; omega)
                have hh : zhd (zl1 (s_7 116) i3_7) = x7 := by rw [e1]; rfl
                rw [show x43 = i3_7 - 1 from by omega]
                exact v7_2.stay hg q.1 (by rw [← ec9, hh]; rw [hh] at tp; omega) (by rw [hh]; exact e1) (by omega)) | exact (by
                have q := K41.resolve_left (fun q => by omega)
                have w := zom_k (B41 q.1)
                have z := zom_z (B41 q.1)
                have aa := A41 q.1
                have e1 := L51 (by omega)
                have e2 := zl1_pop (s_7 116) (n := i3_7 - 1) (by omega)
                rw [show i3_7 - 1 - 1 = i3_7 - 2 from by omega, show i3_7 - 1 = x43 from by omega, ← V242] at e2
                rw [show i3_7 - 1 = x43 from by omega, e2] at e1
                have hh : zhd (zl1 (s_7 116) i3_7) = x7 := by rw [e1]; rfl
                rw [X248]
                exact v7_2.op hg q.1 (by rw [← ec9]; omega) (by rw [← ec9, hh]; omega) e1 (by rw [← ec9]; exact zom_r (by omega) (by omega) (by rw [← q.2.1]; omega)) (by omega))) (by first | exact ⟨rfl, rfl, rfl⟩ | exact v7_3 | (rw [es48, xU_k _ _ _ (by first | decide | omega), xU_k _ _ _ (by first | decide | omega), xU_k _ _ _ (by first | decide | omega)]; exact v7_3)) (by have hm := hm_7 (); omega) hW (lv_sub hl [3, 4, 1, 0] rfl)
          refine x_iload hx hb hl 6 rfl dX4_reckon_136 ?_
          refine lv_goto (tgt := 147) hx hb dX4_reckon_138 (by decide) ?_
          refine x_iast hx hb hE hW (by decide) (fun σ => sa_116 h0 g σ) (by omega) (by decide) rx6 dX4_reckon_147 (fun H locs s52 es52 hW => ?_)
          have q53 : IC s52 := by rw [es52]; exact IC_o (by decide) q7_0
          have q54 : s52 1 1 = s0 1 1 := (show s52 1 1 = s_7 1 1 from by rw [es52, xU_k _ _ _ (by first | decide | omega)]).trans q7_1
          have hF55 := hF_7.put es52 (by omega)
          have X147 : zl1 (s52 116) x43 = x6 :: zl1 (s_7 116) i3_7 := by rw [es52, xU_xud, show x43 = x43 from by omega]; exact zl1_push _ (by omega) (by omega)
          refine lv_goto (tgt := 249) hx hb dX4_reckon_148 (by decide) ?_
          refine x_iinc (lv' := [(4, .int (xJ (i4_7 + 1))), (3, .int (xJ x43)), (8, .int (xJ t0_65)), (0, .ref (h0 + 109)), (2, .int (xJ (i2_7 + 1))), (5, .int (xJ x5)), (6, .int (xJ x6)), (7, .int (xJ x7))]) hx hb hl 4 rfl dX4_reckon_249 (by decide) rfl (fun ls hl => ?_)
          refine lv_goto (tgt := 7) hx hb dX4_reckon_252 (by decide) ?_
          exact ih7 (i2_7 + 1) x43 (i4_7 + 1) s52 H locs ls (by omega) (by omega) (by omega) hF55 q53 q54 (by omega) (by omega) (by first | (exfalso; omega) | exact (by
              have q := K41.resolve_left (fun q => by omega)
              have w := zom_k (B41 q.1)
              have y := zwm_k (s := s9) (B41 q.1)
              rw [X147]
              exact v7_2.num hg q.1 (by rw [← ec9]; omega) (by rw [← ec9]; omega) (by omega)) | exact (by
              have q := K41.resolve_left (fun q => by omega)
              have w := zom_k (B41 q.1)
              have y := zwm_k (s := s9) (B41 q.1)
              rw [X147]
              exact v7_2.let_ hg q.1 (by rw [← ec9]; omega) (by rw [H144, v7_3.2.2, ← ec9]; congr 1; omega) (by omega)) | exact (by
              have q := K41.resolve_left (fun q => by omega)
              have w := zom_k (B41 q.1)
              have tp := T41 q.1 (by omega)
              have e1 := L51 (by rw [zl1_l _ (by omega)] at tp; omega)
              rw [X166]
              refine v7_2.not hg q.1 (by rw [← ec9]; omega) ?_ (by rw [e1]; rfl) (by omega)
              rw [e1] at tp ⊢
              have tp2 : x7 = 0 ∨ x7 = 1 := tp.2
              show _ = 1 - x7
              omega) | exact (by
              have q := K41.resolve_left (fun q => by omega)
              have w := zom_k (B41 q.1)
              have y := zwm_k (s := s9) (B41 q.1)
              have tp := T41 q.1 (by omega)
              have aa := A41 q.1
              have e1 := L51 (by rw [zl1_l _ (by omega)] at tp; omega)
              have hh : zhd (zl1 (s_7 116) i3_7) = x7 := by rw [e1]; rfl
              exact (v7_2.jmp hg q.1 (by rw [← ec9, hh]; rw [hh] at tp; omega) (by rw [← ec9]; omega)).1) | exact (by
              have q := K41.resolve_left (fun q => by omega)
              have w := zom_k (B41 q.1)
              have tp := T41 q.1 (by omega)
              have e1 := L51 (by rw [zl1_l _ (by omega)] at tp; omega)
              have hh : zhd (zl1 (s_7 116) i3_7) = x7 := by rw [e1]; rfl
              rw [show x43 = i3_7 - 1 from by omega]
              exact v7_2.stay hg q.1 (by rw [← ec9, hh]; rw [hh] at tp; omega) (by rw [hh]; exact e1) (by omega)) | exact (by
              have q := K41.resolve_left (fun q => by omega)
              have w := zom_k (B41 q.1)
              have z := zom_z (B41 q.1)
              have aa := A41 q.1
              have e1 := L51 (by omega)
              have e2 := zl1_pop (s_7 116) (n := i3_7 - 1) (by omega)
              rw [show i3_7 - 1 - 1 = i3_7 - 2 from by omega, show i3_7 - 1 = x43 from by omega, ← V242] at e2
              rw [show i3_7 - 1 = x43 from by omega, e2] at e1
              have hh : zhd (zl1 (s_7 116) i3_7) = x7 := by rw [e1]; rfl
              rw [X248]
              exact v7_2.op hg q.1 (by rw [← ec9]; omega) (by rw [← ec9, hh]; omega) e1 (by rw [← ec9]; exact zom_r (by omega) (by omega) (by rw [← q.2.1]; omega)) (by omega))) (by first | exact ⟨rfl, rfl, rfl⟩ | exact v7_3 | (rw [es52, xU_k _ _ _ (by first | decide | omega), xU_k _ _ _ (by first | decide | omega), xU_k _ _ _ (by first | decide | omega)]; exact v7_3)) (by have hm := hm_7 (); omega) hW (lv_sub hl [3, 4, 1, 0] rfl)
        · refine x_tabIn (v := 3) (tgt := 151) hx hb rx5 c8 dX4_reckon_69 (by decide) rfl (by decide) ?_
          refine x_aload_n hx hb hl 1 rfl dX4_reckon_151 rfl ?_
          refine x_get (j := 8) (v := .ref (h0 + 116)) hx hb hown hT hE hW cls_X4 (Or.inl (by decide)) (so_109 h0 g _) (by decide) rfl wq265 dX4_reckon_152 ?_
          refine x_iload_n hx hb hl 3 rfl dX4_reckon_155 rfl ?_
          refine x_iload hx hb hl 7 rfl dX4_reckon_156 ?_
          refine x_if_ne (tgt := 165) hx hb rx7 dX4_reckon_158 (by decide) (fun c56 => ?_) (fun c56 => ?_)
          · skip
            refine x_iconst hx hb dX4_reckon_165 ?_
            refine x_iast hx hb hE hW (by decide) (fun σ => sa_116 h0 g σ) (by omega) (by decide) (by decide) dX4_reckon_166 (fun H locs s57 es57 hW => ?_)
            have q58 : IC s57 := by rw [es57]; exact IC_o (by decide) q7_0
            have q59 : s57 1 1 = s0 1 1 := (show s57 1 1 = s_7 1 1 from by rw [es57, xU_k _ _ _ (by first | decide | omega)]).trans q7_1
            have hF60 := hF_7.put es57 (by omega)
            have X166 : zl1 (s57 116) i3_7 = 0 :: zl1 (s_7 116) (i3_7 - 1) := by rw [es57, xU_xud]; exact zl1_put _ (by omega) (by omega)
            refine lv_goto (tgt := 249) hx hb dX4_reckon_167 (by decide) ?_
            refine x_iinc (lv' := [(4, .int (xJ (i4_7 + 1))), (8, .int (xJ t0_65)), (0, .ref (h0 + 109)), (2, .int (xJ (i2_7 + 1))), (3, .int (xJ i3_7)), (5, .int (xJ x5)), (6, .int (xJ x6)), (7, .int (xJ x7))]) hx hb hl 4 rfl dX4_reckon_249 (by decide) rfl (fun ls hl => ?_)
            refine lv_goto (tgt := 7) hx hb dX4_reckon_252 (by decide) ?_
            exact ih7 (i2_7 + 1) i3_7 (i4_7 + 1) s57 H locs ls (by omega) ri3_7 (by omega) hF60 q58 q59 (by omega) (by omega) (by first | (exfalso; omega) | exact (by
                have q := K41.resolve_left (fun q => by omega)
                have w := zom_k (B41 q.1)
                have y := zwm_k (s := s9) (B41 q.1)
                rw [X147]
                exact v7_2.num hg q.1 (by rw [← ec9]; omega) (by rw [← ec9]; omega) (by omega)) | exact (by
                have q := K41.resolve_left (fun q => by omega)
                have w := zom_k (B41 q.1)
                have y := zwm_k (s := s9) (B41 q.1)
                rw [X147]
                exact v7_2.let_ hg q.1 (by rw [← ec9]; omega) (by rw [H144, v7_3.2.2, ← ec9]; congr 1; omega) (by omega)) | exact (by
                have q := K41.resolve_left (fun q => by omega)
                have w := zom_k (B41 q.1)
                have tp := T41 q.1 (by omega)
                have e1 := L51 (by rw [zl1_l _ (by omega)] at tp; omega)
                rw [X166]
                refine v7_2.not hg q.1 (by rw [← ec9]; omega) ?_ (by rw [e1]; rfl) (by omega)
                rw [e1] at tp ⊢
                have tp2 : x7 = 0 ∨ x7 = 1 := tp.2
                show _ = 1 - x7
                omega) | exact (by
                have q := K41.resolve_left (fun q => by omega)
                have w := zom_k (B41 q.1)
                have y := zwm_k (s := s9) (B41 q.1)
                have tp := T41 q.1 (by omega)
                have aa := A41 q.1
                have e1 := L51 (by rw [zl1_l _ (by omega)] at tp; omega)
                have hh : zhd (zl1 (s_7 116) i3_7) = x7 := by rw [e1]; rfl
                exact (v7_2.jmp hg q.1 (by rw [← ec9, hh]; rw [hh] at tp; omega) (by rw [← ec9]; omega)).1) | exact (by
                have q := K41.resolve_left (fun q => by omega)
                have w := zom_k (B41 q.1)
                have tp := T41 q.1 (by omega)
                have e1 := L51 (by rw [zl1_l _ (by omega)] at tp; omega)
                have hh : zhd (zl1 (s_7 116) i3_7) = x7 := by rw [e1]; rfl
                rw [show i3_7 = i3_7 - 1 from by omega]
                exact v7_2.stay hg q.1 (by rw [← ec9, hh]; rw [hh] at tp; omega) (by rw [hh]; exact e1) (by omega)) | exact (by
                have q := K41.resolve_left (fun q => by omega)
                have w := zom_k (B41 q.1)
                have z := zom_z (B41 q.1)
                have aa := A41 q.1
                have e1 := L51 (by omega)
                have e2 := zl1_pop (s_7 116) (n := i3_7 - 1) (by omega)
                rw [show i3_7 - 1 - 1 = i3_7 - 2 from by omega, show i3_7 - 1 = i3_7 from by omega, ← V242] at e2
                rw [show i3_7 - 1 = i3_7 from by omega, e2] at e1
                have hh : zhd (zl1 (s_7 116) i3_7) = x7 := by rw [e1]; rfl
                rw [X248]
                exact v7_2.op hg q.1 (by rw [← ec9]; omega) (by rw [← ec9, hh]; omega) e1 (by rw [← ec9]; exact zom_r (by omega) (by omega) (by rw [← q.2.1]; omega)) (by omega))) (by first | exact ⟨rfl, rfl, rfl⟩ | exact v7_3 | (rw [es57, xU_k _ _ _ (by first | decide | omega), xU_k _ _ _ (by first | decide | omega), xU_k _ _ _ (by first | decide | omega)]; exact v7_3)) (by have hm := hm_7 (); omega) hW (lv_sub hl [2, 3, 4, 0] rfl)
          refine x_iconst hx hb dX4_reckon_161 ?_
          refine lv_goto (tgt := 166) hx hb dX4_reckon_162 (by decide) ?_
          refine x_iast hx hb hE hW (by decide) (fun σ => sa_116 h0 g σ) (by omega) (by decide) (by decide) dX4_reckon_166 (fun H locs s61 es61 hW => ?_)
          have q62 : IC s61 := by rw [es61]; exact IC_o (by decide) q7_0
          have q63 : s61 1 1 = s0 1 1 := (show s61 1 1 = s_7 1 1 from by rw [es61, xU_k _ _ _ (by first | decide | omega)]).trans q7_1
          have hF64 := hF_7.put es61 (by omega)
          have X166 : zl1 (s61 116) i3_7 = 1 :: zl1 (s_7 116) (i3_7 - 1) := by rw [es61, xU_xud]; exact zl1_put _ (by omega) (by omega)
          refine lv_goto (tgt := 249) hx hb dX4_reckon_167 (by decide) ?_
          refine x_iinc (lv' := [(4, .int (xJ (i4_7 + 1))), (8, .int (xJ t0_65)), (0, .ref (h0 + 109)), (2, .int (xJ (i2_7 + 1))), (3, .int (xJ i3_7)), (5, .int (xJ x5)), (6, .int (xJ x6)), (7, .int (xJ x7))]) hx hb hl 4 rfl dX4_reckon_249 (by decide) rfl (fun ls hl => ?_)
          refine lv_goto (tgt := 7) hx hb dX4_reckon_252 (by decide) ?_
          exact ih7 (i2_7 + 1) i3_7 (i4_7 + 1) s61 H locs ls (by omega) ri3_7 (by omega) hF64 q62 q63 (by omega) (by omega) (by first | (exfalso; omega) | exact (by
              have q := K41.resolve_left (fun q => by omega)
              have w := zom_k (B41 q.1)
              have y := zwm_k (s := s9) (B41 q.1)
              rw [X147]
              exact v7_2.num hg q.1 (by rw [← ec9]; omega) (by rw [← ec9]; omega) (by omega)) | exact (by
              have q := K41.resolve_left (fun q => by omega)
              have w := zom_k (B41 q.1)
              have y := zwm_k (s := s9) (B41 q.1)
              rw [X147]
              exact v7_2.let_ hg q.1 (by rw [← ec9]; omega) (by rw [H144, v7_3.2.2, ← ec9]; congr 1; omega) (by omega)) | exact (by
              have q := K41.resolve_left (fun q => by omega)
              have w := zom_k (B41 q.1)
              have tp := T41 q.1 (by omega)
              have e1 := L51 (by rw [zl1_l _ (by omega)] at tp; omega)
              rw [X166]
              refine v7_2.not hg q.1 (by rw [← ec9]; omega) ?_ (by rw [e1]; rfl) (by omega)
              rw [e1] at tp ⊢
              have tp2 : x7 = 0 ∨ x7 = 1 := tp.2
              show _ = 1 - x7
              omega) | exact (by
              have q := K41.resolve_left (fun q => by omega)
              have w := zom_k (B41 q.1)
              have y := zwm_k (s := s9) (B41 q.1)
              have tp := T41 q.1 (by omega)
              have aa := A41 q.1
              have e1 := L51 (by rw [zl1_l _ (by omega)] at tp; omega)
              have hh : zhd (zl1 (s_7 116) i3_7) = x7 := by rw [e1]; rfl
              exact (v7_2.jmp hg q.1 (by rw [← ec9, hh]; rw [hh] at tp; omega) (by rw [← ec9]; omega)).1) | exact (by
              have q := K41.resolve_left (fun q => by omega)
              have w := zom_k (B41 q.1)
              have tp := T41 q.1 (by omega)
              have e1 := L51 (by rw [zl1_l _ (by omega)] at tp; omega)
              have hh : zhd (zl1 (s_7 116) i3_7) = x7 := by rw [e1]; rfl
              rw [show i3_7 = i3_7 - 1 from by omega]
              exact v7_2.stay hg q.1 (by rw [← ec9, hh]; rw [hh] at tp; omega) (by rw [hh]; exact e1) (by omega)) | exact (by
              have q := K41.resolve_left (fun q => by omega)
              have w := zom_k (B41 q.1)
              have z := zom_z (B41 q.1)
              have aa := A41 q.1
              have e1 := L51 (by omega)
              have e2 := zl1_pop (s_7 116) (n := i3_7 - 1) (by omega)
              rw [show i3_7 - 1 - 1 = i3_7 - 2 from by omega, show i3_7 - 1 = i3_7 from by omega, ← V242] at e2
              rw [show i3_7 - 1 = i3_7 from by omega, e2] at e1
              have hh : zhd (zl1 (s_7 116) i3_7) = x7 := by rw [e1]; rfl
              rw [X248]
              exact v7_2.op hg q.1 (by rw [← ec9]; omega) (by rw [← ec9, hh]; omega) e1 (by rw [← ec9]; exact zom_r (by omega) (by omega) (by rw [← q.2.1]; omega)) (by omega))) (by first | exact ⟨rfl, rfl, rfl⟩ | exact v7_3 | (rw [es61, xU_k _ _ _ (by first | decide | omega), xU_k _ _ _ (by first | decide | omega), xU_k _ _ _ (by first | decide | omega)]; exact v7_3)) (by have hm := hm_7 (); omega) hW (lv_sub hl [2, 3, 4, 0] rfl)
        · refine x_tabIn (v := 4) (tgt := 170) hx hb rx5 c8 dX4_reckon_69 (by decide) rfl (by decide) ?_
          refine x_iload hx hb hl 7 rfl dX4_reckon_170 ?_
          refine x_if_eq (tgt := 179) hx hb rx7 dX4_reckon_172 (by decide) (fun c65 => ?_) (fun c65 => ?_)
          · skip
            refine x_iconst hx hb dX4_reckon_179 ?_
            refine x_iload hx hb hl 5 rfl dX4_reckon_180 ?_
            refine x_iconst hx hb dX4_reckon_182 ?_
            refine x_icmp_ne (tgt := 190) hx hb rx5 (by decide) dX4_reckon_183 (by decide) (fun c66 => ?_) (fun c66 => ?_)
            · skip
              refine x_iconst hx hb dX4_reckon_190 ?_
              refine x_icmp_ne (tgt := 200) hx hb (by decide) (by decide) dX4_reckon_191 (by decide) (fun c67 => False.elim (by omega)) (fun c67 => ?_)
              refine x_iload hx hb hl 6 rfl dX4_reckon_194 ?_
              refine lv_istore_n (lv' := [(2, .int (xJ x6)), (8, .int (xJ t0_65)), (0, .ref (h0 + 109)), (3, .int (xJ i3_7)), (4, .int (xJ i4_7)), (5, .int (xJ x5)), (6, .int (xJ x6)), (7, .int (xJ x7))]) hx hb dX4_reckon_196 rfl hl (by decide) rfl (fun ls hl => ?_)
              refine lv_goto (tgt := 249) hx hb dX4_reckon_197 (by decide) ?_
              refine x_iinc (lv' := [(4, .int (xJ (i4_7 + 1))), (2, .int (xJ x6)), (8, .int (xJ t0_65)), (0, .ref (h0 + 109)), (3, .int (xJ i3_7)), (5, .int (xJ x5)), (6, .int (xJ x6)), (7, .int (xJ x7))]) hx hb hl 4 rfl dX4_reckon_249 (by decide) rfl (fun ls hl => ?_)
              refine lv_goto (tgt := 7) hx hb dX4_reckon_252 (by decide) ?_
              exact ih7 x6 i3_7 (i4_7 + 1) s_7 H locs ls rx6 ri3_7 (by omega) hF_7 q7_0 q7_1 (by omega) (by omega) (by first | (exfalso; omega) | exact (by
                  have q := K41.resolve_left (fun q => by omega)
                  have w := zom_k (B41 q.1)
                  have y := zwm_k (s := s9) (B41 q.1)
                  rw [X147]
                  exact v7_2.num hg q.1 (by rw [← ec9]; omega) (by rw [← ec9]; omega) (by omega)) | exact (by
                  have q := K41.resolve_left (fun q => by omega)
                  have w := zom_k (B41 q.1)
                  have y := zwm_k (s := s9) (B41 q.1)
                  rw [X147]
                  exact v7_2.let_ hg q.1 (by rw [← ec9]; omega) (by rw [H144, v7_3.2.2, ← ec9]; congr 1; omega) (by omega)) | exact (by
                  have q := K41.resolve_left (fun q => by omega)
                  have w := zom_k (B41 q.1)
                  have tp := T41 q.1 (by omega)
                  have e1 := L51 (by rw [zl1_l _ (by omega)] at tp; omega)
                  rw [X166]
                  refine v7_2.not hg q.1 (by rw [← ec9]; omega) ?_ (by rw [e1]; rfl) (by omega)
                  rw [e1] at tp ⊢
                  have tp2 : x7 = 0 ∨ x7 = 1 := tp.2
                  show _ = 1 - x7
                  omega) | exact (by
                  have q := K41.resolve_left (fun q => by omega)
                  have w := zom_k (B41 q.1)
                  have y := zwm_k (s := s9) (B41 q.1)
                  have tp := T41 q.1 (by omega)
                  have aa := A41 q.1
                  have e1 := L51 (by rw [zl1_l _ (by omega)] at tp; omega)
                  have hh : zhd (zl1 (s_7 116) i3_7) = x7 := by rw [e1]; rfl
                  exact (v7_2.jmp hg q.1 (by rw [← ec9, hh]; rw [hh] at tp; omega) (by rw [← ec9]; omega)).1) | exact (by
                  have q := K41.resolve_left (fun q => by omega)
                  have w := zom_k (B41 q.1)
                  have tp := T41 q.1 (by omega)
                  have e1 := L51 (by rw [zl1_l _ (by omega)] at tp; omega)
                  have hh : zhd (zl1 (s_7 116) i3_7) = x7 := by rw [e1]; rfl
                  rw [show i3_7 = i3_7 - 1 from by omega]
                  exact v7_2.stay hg q.1 (by rw [← ec9, hh]; rw [hh] at tp; omega) (by rw [hh]; exact e1) (by omega)) | exact (by
                  have q := K41.resolve_left (fun q => by omega)
                  have w := zom_k (B41 q.1)
                  have z := zom_z (B41 q.1)
                  have aa := A41 q.1
                  have e1 := L51 (by omega)
                  have e2 := zl1_pop (s_7 116) (n := i3_7 - 1) (by omega)
                  rw [show i3_7 - 1 - 1 = i3_7 - 2 from by omega, show i3_7 - 1 = i3_7 from by omega, ← V242] at e2
                  rw [show i3_7 - 1 = i3_7 from by omega, e2] at e1
                  have hh : zhd (zl1 (s_7 116) i3_7) = x7 := by rw [e1]; rfl
                  rw [X248]
                  exact v7_2.op hg q.1 (by rw [← ec9]; omega) (by rw [← ec9, hh]; omega) e1 (by rw [← ec9]; exact zom_r (by omega) (by omega) (by rw [← q.2.1]; omega)) (by omega))) (by first | exact ⟨rfl, rfl, rfl⟩ | exact v7_3 | (rw [es_7, xU_k _ _ _ (by first | decide | omega), xU_k _ _ _ (by first | decide | omega), xU_k _ _ _ (by first | decide | omega)]; exact v7_3)) (by have hm := hm_7 (); omega) hW (lv_sub hl [3, 1, 4, 0] rfl)
            refine x_iconst hx hb dX4_reckon_186 ?_
            refine lv_goto (tgt := 191) hx hb dX4_reckon_187 (by decide) ?_
            refine x_icmp_ne (tgt := 200) hx hb (by decide) (by decide) dX4_reckon_191 (by decide) (fun c68 => ?_) (fun c68 => False.elim (by omega))
            refine x_iload hx hb hl 0 rfl dX4_reckon_200 ?_
            refine lv_istore_n (lv' := [(3, .int (xJ t0_65)), (8, .int (xJ t0_65)), (0, .ref (h0 + 109)), (2, .int (xJ (i2_7 + 1))), (4, .int (xJ i4_7)), (5, .int (xJ x5)), (6, .int (xJ x6)), (7, .int (xJ x7))]) hx hb dX4_reckon_202 rfl hl (by decide) rfl (fun ls hl => ?_)
            refine lv_goto (tgt := 249) hx hb dX4_reckon_203 (by decide) ?_
            refine x_iinc (lv' := [(4, .int (xJ (i4_7 + 1))), (3, .int (xJ t0_65)), (8, .int (xJ t0_65)), (0, .ref (h0 + 109)), (2, .int (xJ (i2_7 + 1))), (5, .int (xJ x5)), (6, .int (xJ x6)), (7, .int (xJ x7))]) hx hb hl 4 rfl dX4_reckon_249 (by decide) rfl (fun ls hl => ?_)
            refine lv_goto (tgt := 7) hx hb dX4_reckon_252 (by decide) ?_
            exact ih7 (i2_7 + 1) t0_65 (i4_7 + 1) s_7 H locs ls (by omega) rt0_65 (by omega) hF_7 q7_0 q7_1 (by omega) (by omega) (by first | (exfalso; omega) | exact (by
                have q := K41.resolve_left (fun q => by omega)
                have w := zom_k (B41 q.1)
                have y := zwm_k (s := s9) (B41 q.1)
                rw [X147]
                exact v7_2.num hg q.1 (by rw [← ec9]; omega) (by rw [← ec9]; omega) (by omega)) | exact (by
                have q := K41.resolve_left (fun q => by omega)
                have w := zom_k (B41 q.1)
                have y := zwm_k (s := s9) (B41 q.1)
                rw [X147]
                exact v7_2.let_ hg q.1 (by rw [← ec9]; omega) (by rw [H144, v7_3.2.2, ← ec9]; congr 1; omega) (by omega)) | exact (by
                have q := K41.resolve_left (fun q => by omega)
                have w := zom_k (B41 q.1)
                have tp := T41 q.1 (by omega)
                have e1 := L51 (by rw [zl1_l _ (by omega)] at tp; omega)
                rw [X166]
                refine v7_2.not hg q.1 (by rw [← ec9]; omega) ?_ (by rw [e1]; rfl) (by omega)
                rw [e1] at tp ⊢
                have tp2 : x7 = 0 ∨ x7 = 1 := tp.2
                show _ = 1 - x7
                omega) | exact (by
                have q := K41.resolve_left (fun q => by omega)
                have w := zom_k (B41 q.1)
                have y := zwm_k (s := s9) (B41 q.1)
                have tp := T41 q.1 (by omega)
                have aa := A41 q.1
                have e1 := L51 (by rw [zl1_l _ (by omega)] at tp; omega)
                have hh : zhd (zl1 (s_7 116) i3_7) = x7 := by rw [e1]; rfl
                exact (v7_2.jmp hg q.1 (by rw [← ec9, hh]; rw [hh] at tp; omega) (by rw [← ec9]; omega)).1) | exact (by
                have q := K41.resolve_left (fun q => by omega)
                have w := zom_k (B41 q.1)
                have tp := T41 q.1 (by omega)
                have e1 := L51 (by rw [zl1_l _ (by omega)] at tp; omega)
                have hh : zhd (zl1 (s_7 116) i3_7) = x7 := by rw [e1]; rfl
                rw [show t0_65 = i3_7 - 1 from by omega]
                exact v7_2.stay hg q.1 (by rw [← ec9, hh]; rw [hh] at tp; omega) (by rw [hh]; exact e1) (by omega)) | exact (by
                have q := K41.resolve_left (fun q => by omega)
                have w := zom_k (B41 q.1)
                have z := zom_z (B41 q.1)
                have aa := A41 q.1
                have e1 := L51 (by omega)
                have e2 := zl1_pop (s_7 116) (n := i3_7 - 1) (by omega)
                rw [show i3_7 - 1 - 1 = i3_7 - 2 from by omega, show i3_7 - 1 = t0_65 from by omega, ← V242] at e2
                rw [show i3_7 - 1 = t0_65 from by omega, e2] at e1
                have hh : zhd (zl1 (s_7 116) i3_7) = x7 := by rw [e1]; rfl
                rw [X248]
                exact v7_2.op hg q.1 (by rw [← ec9]; omega) (by rw [← ec9, hh]; omega) e1 (by rw [← ec9]; exact zom_r (by omega) (by omega) (by rw [← q.2.1]; omega)) (by omega))) (by first | exact ⟨rfl, rfl, rfl⟩ | exact v7_3 | (rw [es_7, xU_k _ _ _ (by first | decide | omega), xU_k _ _ _ (by first | decide | omega), xU_k _ _ _ (by first | decide | omega)]; exact v7_3)) (by have hm := hm_7 (); omega) hW (lv_sub hl [3, 4, 1, 0] rfl)
          refine x_iconst hx hb dX4_reckon_175 ?_
          refine lv_goto (tgt := 180) hx hb dX4_reckon_176 (by decide) ?_
          refine x_iload hx hb hl 5 rfl dX4_reckon_180 ?_
          refine x_iconst hx hb dX4_reckon_182 ?_
          refine x_icmp_ne (tgt := 190) hx hb rx5 (by decide) dX4_reckon_183 (by decide) (fun c69 => ?_) (fun c69 => ?_)
          · skip
            refine x_iconst hx hb dX4_reckon_190 ?_
            refine x_icmp_ne (tgt := 200) hx hb (by decide) (by decide) dX4_reckon_191 (by decide) (fun c70 => ?_) (fun c70 => False.elim (by omega))
            refine x_iload hx hb hl 0 rfl dX4_reckon_200 ?_
            refine lv_istore_n (lv' := [(3, .int (xJ t0_65)), (8, .int (xJ t0_65)), (0, .ref (h0 + 109)), (2, .int (xJ (i2_7 + 1))), (4, .int (xJ i4_7)), (5, .int (xJ x5)), (6, .int (xJ x6)), (7, .int (xJ x7))]) hx hb dX4_reckon_202 rfl hl (by decide) rfl (fun ls hl => ?_)
            refine lv_goto (tgt := 249) hx hb dX4_reckon_203 (by decide) ?_
            refine x_iinc (lv' := [(4, .int (xJ (i4_7 + 1))), (3, .int (xJ t0_65)), (8, .int (xJ t0_65)), (0, .ref (h0 + 109)), (2, .int (xJ (i2_7 + 1))), (5, .int (xJ x5)), (6, .int (xJ x6)), (7, .int (xJ x7))]) hx hb hl 4 rfl dX4_reckon_249 (by decide) rfl (fun ls hl => ?_)
            refine lv_goto (tgt := 7) hx hb dX4_reckon_252 (by decide) ?_
            exact ih7 (i2_7 + 1) t0_65 (i4_7 + 1) s_7 H locs ls (by omega) rt0_65 (by omega) hF_7 q7_0 q7_1 (by omega) (by omega) (by first | (exfalso; omega) | exact (by
                have q := K41.resolve_left (fun q => by omega)
                have w := zom_k (B41 q.1)
                have y := zwm_k (s := s9) (B41 q.1)
                rw [X147]
                exact v7_2.num hg q.1 (by rw [← ec9]; omega) (by rw [← ec9]; omega) (by omega)) | exact (by
                have q := K41.resolve_left (fun q => by omega)
                have w := zom_k (B41 q.1)
                have y := zwm_k (s := s9) (B41 q.1)
                rw [X147]
                exact v7_2.let_ hg q.1 (by rw [← ec9]; omega) (by rw [H144, v7_3.2.2, ← ec9]; congr 1; omega) (by omega)) | exact (by
                have q := K41.resolve_left (fun q => by omega)
                have w := zom_k (B41 q.1)
                have tp := T41 q.1 (by omega)
                have e1 := L51 (by rw [zl1_l _ (by omega)] at tp; omega)
                rw [X166]
                refine v7_2.not hg q.1 (by rw [← ec9]; omega) ?_ (by rw [e1]; rfl) (by omega)
                rw [e1] at tp ⊢
                have tp2 : x7 = 0 ∨ x7 = 1 := tp.2
                show _ = 1 - x7
                omega) | exact (by
                have q := K41.resolve_left (fun q => by omega)
                have w := zom_k (B41 q.1)
                have y := zwm_k (s := s9) (B41 q.1)
                have tp := T41 q.1 (by omega)
                have aa := A41 q.1
                have e1 := L51 (by rw [zl1_l _ (by omega)] at tp; omega)
                have hh : zhd (zl1 (s_7 116) i3_7) = x7 := by rw [e1]; rfl
                exact (v7_2.jmp hg q.1 (by rw [← ec9, hh]; rw [hh] at tp; omega) (by rw [← ec9]; omega)).1) | exact (by
                have q := K41.resolve_left (fun q => by omega)
                have w := zom_k (B41 q.1)
                have tp := T41 q.1 (by omega)
                have e1 := L51 (by rw [zl1_l _ (by omega)] at tp; omega)
                have hh : zhd (zl1 (s_7 116) i3_7) = x7 := by rw [e1]; rfl
                rw [show t0_65 = i3_7 - 1 from by omega]
                exact v7_2.stay hg q.1 (by rw [← ec9, hh]; rw [hh] at tp; omega) (by rw [hh]; exact e1) (by omega)) | exact (by
                have q := K41.resolve_left (fun q => by omega)
                have w := zom_k (B41 q.1)
                have z := zom_z (B41 q.1)
                have aa := A41 q.1
                have e1 := L51 (by omega)
                have e2 := zl1_pop (s_7 116) (n := i3_7 - 1) (by omega)
                rw [show i3_7 - 1 - 1 = i3_7 - 2 from by omega, show i3_7 - 1 = t0_65 from by omega, ← V242] at e2
                rw [show i3_7 - 1 = t0_65 from by omega, e2] at e1
                have hh : zhd (zl1 (s_7 116) i3_7) = x7 := by rw [e1]; rfl
                rw [X248]
                exact v7_2.op hg q.1 (by rw [← ec9]; omega) (by rw [← ec9, hh]; omega) e1 (by rw [← ec9]; exact zom_r (by omega) (by omega) (by rw [← q.2.1]; omega)) (by omega))) (by first | exact ⟨rfl, rfl, rfl⟩ | exact v7_3 | (rw [es_7, xU_k _ _ _ (by first | decide | omega), xU_k _ _ _ (by first | decide | omega), xU_k _ _ _ (by first | decide | omega)]; exact v7_3)) (by have hm := hm_7 (); omega) hW (lv_sub hl [3, 4, 1, 0] rfl)
          refine x_iconst hx hb dX4_reckon_186 ?_
          refine lv_goto (tgt := 191) hx hb dX4_reckon_187 (by decide) ?_
          refine x_icmp_ne (tgt := 200) hx hb (by decide) (by decide) dX4_reckon_191 (by decide) (fun c71 => False.elim (by omega)) (fun c71 => ?_)
          refine x_iload hx hb hl 6 rfl dX4_reckon_194 ?_
          refine lv_istore_n (lv' := [(2, .int (xJ x6)), (8, .int (xJ t0_65)), (0, .ref (h0 + 109)), (3, .int (xJ i3_7)), (4, .int (xJ i4_7)), (5, .int (xJ x5)), (6, .int (xJ x6)), (7, .int (xJ x7))]) hx hb dX4_reckon_196 rfl hl (by decide) rfl (fun ls hl => ?_)
          refine lv_goto (tgt := 249) hx hb dX4_reckon_197 (by decide) ?_
          refine x_iinc (lv' := [(4, .int (xJ (i4_7 + 1))), (2, .int (xJ x6)), (8, .int (xJ t0_65)), (0, .ref (h0 + 109)), (3, .int (xJ i3_7)), (5, .int (xJ x5)), (6, .int (xJ x6)), (7, .int (xJ x7))]) hx hb hl 4 rfl dX4_reckon_249 (by decide) rfl (fun ls hl => ?_)
          refine lv_goto (tgt := 7) hx hb dX4_reckon_252 (by decide) ?_
          exact ih7 x6 i3_7 (i4_7 + 1) s_7 H locs ls rx6 ri3_7 (by omega) hF_7 q7_0 q7_1 (by omega) (by omega) (by first | (exfalso; omega) | exact (by
              have q := K41.resolve_left (fun q => by omega)
              have w := zom_k (B41 q.1)
              have y := zwm_k (s := s9) (B41 q.1)
              rw [X147]
              exact v7_2.num hg q.1 (by rw [← ec9]; omega) (by rw [← ec9]; omega) (by omega)) | exact (by
              have q := K41.resolve_left (fun q => by omega)
              have w := zom_k (B41 q.1)
              have y := zwm_k (s := s9) (B41 q.1)
              rw [X147]
              exact v7_2.let_ hg q.1 (by rw [← ec9]; omega) (by rw [H144, v7_3.2.2, ← ec9]; congr 1; omega) (by omega)) | exact (by
              have q := K41.resolve_left (fun q => by omega)
              have w := zom_k (B41 q.1)
              have tp := T41 q.1 (by omega)
              have e1 := L51 (by rw [zl1_l _ (by omega)] at tp; omega)
              rw [X166]
              refine v7_2.not hg q.1 (by rw [← ec9]; omega) ?_ (by rw [e1]; rfl) (by omega)
              rw [e1] at tp ⊢
              have tp2 : x7 = 0 ∨ x7 = 1 := tp.2
              show _ = 1 - x7
              omega) | exact (by
              have q := K41.resolve_left (fun q => by omega)
              have w := zom_k (B41 q.1)
              have y := zwm_k (s := s9) (B41 q.1)
              have tp := T41 q.1 (by omega)
              have aa := A41 q.1
              have e1 := L51 (by rw [zl1_l _ (by omega)] at tp; omega)
              have hh : zhd (zl1 (s_7 116) i3_7) = x7 := by rw [e1]; rfl
              exact (v7_2.jmp hg q.1 (by rw [← ec9, hh]; rw [hh] at tp; omega) (by rw [← ec9]; omega)).1) | exact (by
              have q := K41.resolve_left (fun q => by omega)
              have w := zom_k (B41 q.1)
              have tp := T41 q.1 (by omega)
              have e1 := L51 (by rw [zl1_l _ (by omega)] at tp; omega)
              have hh : zhd (zl1 (s_7 116) i3_7) = x7 := by rw [e1]; rfl
              rw [show i3_7 = i3_7 - 1 from by omega]
              exact v7_2.stay hg q.1 (by rw [← ec9, hh]; rw [hh] at tp; omega) (by rw [hh]; exact e1) (by omega)) | exact (by
              have q := K41.resolve_left (fun q => by omega)
              have w := zom_k (B41 q.1)
              have z := zom_z (B41 q.1)
              have aa := A41 q.1
              have e1 := L51 (by omega)
              have e2 := zl1_pop (s_7 116) (n := i3_7 - 1) (by omega)
              rw [show i3_7 - 1 - 1 = i3_7 - 2 from by omega, show i3_7 - 1 = i3_7 from by omega, ← V242] at e2
              rw [show i3_7 - 1 = i3_7 from by omega, e2] at e1
              have hh : zhd (zl1 (s_7 116) i3_7) = x7 := by rw [e1]; rfl
              rw [X248]
              exact v7_2.op hg q.1 (by rw [← ec9]; omega) (by rw [← ec9, hh]; omega) e1 (by rw [← ec9]; exact zom_r (by omega) (by omega) (by rw [← q.2.1]; omega)) (by omega))) (by first | exact ⟨rfl, rfl, rfl⟩ | exact v7_3 | (rw [es_7, xU_k _ _ _ (by first | decide | omega), xU_k _ _ _ (by first | decide | omega), xU_k _ _ _ (by first | decide | omega)]; exact v7_3)) (by have hm := hm_7 (); omega) hW (lv_sub hl [3, 1, 4, 0] rfl)
        · refine x_tabIn (v := 5) (tgt := 170) hx hb rx5 c8 dX4_reckon_69 (by decide) rfl (by decide) ?_
          refine x_iload hx hb hl 7 rfl dX4_reckon_170 ?_
          refine x_if_eq (tgt := 179) hx hb rx7 dX4_reckon_172 (by decide) (fun c72 => ?_) (fun c72 => ?_)
          · skip
            refine x_iconst hx hb dX4_reckon_179 ?_
            refine x_iload hx hb hl 5 rfl dX4_reckon_180 ?_
            refine x_iconst hx hb dX4_reckon_182 ?_
            refine x_icmp_ne (tgt := 190) hx hb rx5 (by decide) dX4_reckon_183 (by decide) (fun c73 => ?_) (fun c73 => ?_)
            · skip
              refine x_iconst hx hb dX4_reckon_190 ?_
              refine x_icmp_ne (tgt := 200) hx hb (by decide) (by decide) dX4_reckon_191 (by decide) (fun c74 => False.elim (by omega)) (fun c74 => ?_)
              refine x_iload hx hb hl 6 rfl dX4_reckon_194 ?_
              refine lv_istore_n (lv' := [(2, .int (xJ x6)), (8, .int (xJ t0_65)), (0, .ref (h0 + 109)), (3, .int (xJ i3_7)), (4, .int (xJ i4_7)), (5, .int (xJ x5)), (6, .int (xJ x6)), (7, .int (xJ x7))]) hx hb dX4_reckon_196 rfl hl (by decide) rfl (fun ls hl => ?_)
              refine lv_goto (tgt := 249) hx hb dX4_reckon_197 (by decide) ?_
              refine x_iinc (lv' := [(4, .int (xJ (i4_7 + 1))), (2, .int (xJ x6)), (8, .int (xJ t0_65)), (0, .ref (h0 + 109)), (3, .int (xJ i3_7)), (5, .int (xJ x5)), (6, .int (xJ x6)), (7, .int (xJ x7))]) hx hb hl 4 rfl dX4_reckon_249 (by decide) rfl (fun ls hl => ?_)
              refine lv_goto (tgt := 7) hx hb dX4_reckon_252 (by decide) ?_
              exact ih7 x6 i3_7 (i4_7 + 1) s_7 H locs ls rx6 ri3_7 (by omega) hF_7 q7_0 q7_1 (by omega) (by omega) (by first | (exfalso; omega) | exact (by
                  have q := K41.resolve_left (fun q => by omega)
                  have w := zom_k (B41 q.1)
                  have y := zwm_k (s := s9) (B41 q.1)
                  rw [X147]
                  exact v7_2.num hg q.1 (by rw [← ec9]; omega) (by rw [← ec9]; omega) (by omega)) | exact (by
                  have q := K41.resolve_left (fun q => by omega)
                  have w := zom_k (B41 q.1)
                  have y := zwm_k (s := s9) (B41 q.1)
                  rw [X147]
                  exact v7_2.let_ hg q.1 (by rw [← ec9]; omega) (by rw [H144, v7_3.2.2, ← ec9]; congr 1; omega) (by omega)) | exact (by
                  have q := K41.resolve_left (fun q => by omega)
                  have w := zom_k (B41 q.1)
                  have tp := T41 q.1 (by omega)
                  have e1 := L51 (by rw [zl1_l _ (by omega)] at tp; omega)
                  rw [X166]
                  refine v7_2.not hg q.1 (by rw [← ec9]; omega) ?_ (by rw [e1]; rfl) (by omega)
                  rw [e1] at tp ⊢
                  have tp2 : x7 = 0 ∨ x7 = 1 := tp.2
                  show _ = 1 - x7
                  omega) | exact (by
                  have q := K41.resolve_left (fun q => by omega)
                  have w := zom_k (B41 q.1)
                  have y := zwm_k (s := s9) (B41 q.1)
                  have tp := T41 q.1 (by omega)
                  have aa := A41 q.1
                  have e1 := L51 (by rw [zl1_l _ (by omega)] at tp; omega)
                  have hh : zhd (zl1 (s_7 116) i3_7) = x7 := by rw [e1]; rfl
                  exact (v7_2.jmp hg q.1 (by rw [← ec9, hh]; rw [hh] at tp; omega) (by rw [← ec9]; omega)).1) | exact (by
                  have q := K41.resolve_left (fun q => by omega)
                  have w := zom_k (B41 q.1)
                  have tp := T41 q.1 (by omega)
                  have e1 := L51 (by rw [zl1_l _ (by omega)] at tp; omega)
                  have hh : zhd (zl1 (s_7 116) i3_7) = x7 := by rw [e1]; rfl
                  rw [show i3_7 = i3_7 - 1 from by omega]
                  exact v7_2.stay hg q.1 (by rw [← ec9, hh]; rw [hh] at tp; omega) (by rw [hh]; exact e1) (by omega)) | exact (by
                  have q := K41.resolve_left (fun q => by omega)
                  have w := zom_k (B41 q.1)
                  have z := zom_z (B41 q.1)
                  have aa := A41 q.1
                  have e1 := L51 (by omega)
                  have e2 := zl1_pop (s_7 116) (n := i3_7 - 1) (by omega)
                  rw [show i3_7 - 1 - 1 = i3_7 - 2 from by omega, show i3_7 - 1 = i3_7 from by omega, ← V242] at e2
                  rw [show i3_7 - 1 = i3_7 from by omega, e2] at e1
                  have hh : zhd (zl1 (s_7 116) i3_7) = x7 := by rw [e1]; rfl
                  rw [X248]
                  exact v7_2.op hg q.1 (by rw [← ec9]; omega) (by rw [← ec9, hh]; omega) e1 (by rw [← ec9]; exact zom_r (by omega) (by omega) (by rw [← q.2.1]; omega)) (by omega))) (by first | exact ⟨rfl, rfl, rfl⟩ | exact v7_3 | (rw [es_7, xU_k _ _ _ (by first | decide | omega), xU_k _ _ _ (by first | decide | omega), xU_k _ _ _ (by first | decide | omega)]; exact v7_3)) (by have hm := hm_7 (); omega) hW (lv_sub hl [3, 1, 4, 0] rfl)
            refine x_iconst hx hb dX4_reckon_186 ?_
            refine lv_goto (tgt := 191) hx hb dX4_reckon_187 (by decide) ?_
            refine x_icmp_ne (tgt := 200) hx hb (by decide) (by decide) dX4_reckon_191 (by decide) (fun c75 => ?_) (fun c75 => False.elim (by omega))
            refine x_iload hx hb hl 0 rfl dX4_reckon_200 ?_
            refine lv_istore_n (lv' := [(3, .int (xJ t0_65)), (8, .int (xJ t0_65)), (0, .ref (h0 + 109)), (2, .int (xJ (i2_7 + 1))), (4, .int (xJ i4_7)), (5, .int (xJ x5)), (6, .int (xJ x6)), (7, .int (xJ x7))]) hx hb dX4_reckon_202 rfl hl (by decide) rfl (fun ls hl => ?_)
            refine lv_goto (tgt := 249) hx hb dX4_reckon_203 (by decide) ?_
            refine x_iinc (lv' := [(4, .int (xJ (i4_7 + 1))), (3, .int (xJ t0_65)), (8, .int (xJ t0_65)), (0, .ref (h0 + 109)), (2, .int (xJ (i2_7 + 1))), (5, .int (xJ x5)), (6, .int (xJ x6)), (7, .int (xJ x7))]) hx hb hl 4 rfl dX4_reckon_249 (by decide) rfl (fun ls hl => ?_)
            refine lv_goto (tgt := 7) hx hb dX4_reckon_252 (by decide) ?_
            exact ih7 (i2_7 + 1) t0_65 (i4_7 + 1) s_7 H locs ls (by omega) rt0_65 (by omega) hF_7 q7_0 q7_1 (by omega) (by omega) (by first | (exfalso; omega) | exact (by
                have q := K41.resolve_left (fun q => by omega)
                have w := zom_k (B41 q.1)
                have y := zwm_k (s := s9) (B41 q.1)
                rw [X147]
                exact v7_2.num hg q.1 (by rw [← ec9]; omega) (by rw [← ec9]; omega) (by omega)) | exact (by
                have q := K41.resolve_left (fun q => by omega)
                have w := zom_k (B41 q.1)
                have y := zwm_k (s := s9) (B41 q.1)
                rw [X147]
                exact v7_2.let_ hg q.1 (by rw [← ec9]; omega) (by rw [H144, v7_3.2.2, ← ec9]; congr 1; omega) (by omega)) | exact (by
                have q := K41.resolve_left (fun q => by omega)
                have w := zom_k (B41 q.1)
                have tp := T41 q.1 (by omega)
                have e1 := L51 (by rw [zl1_l _ (by omega)] at tp; omega)
                rw [X166]
                refine v7_2.not hg q.1 (by rw [← ec9]; omega) ?_ (by rw [e1]; rfl) (by omega)
                rw [e1] at tp ⊢
                have tp2 : x7 = 0 ∨ x7 = 1 := tp.2
                show _ = 1 - x7
                omega) | exact (by
                have q := K41.resolve_left (fun q => by omega)
                have w := zom_k (B41 q.1)
                have y := zwm_k (s := s9) (B41 q.1)
                have tp := T41 q.1 (by omega)
                have aa := A41 q.1
                have e1 := L51 (by rw [zl1_l _ (by omega)] at tp; omega)
                have hh : zhd (zl1 (s_7 116) i3_7) = x7 := by rw [e1]; rfl
                exact (v7_2.jmp hg q.1 (by rw [← ec9, hh]; rw [hh] at tp; omega) (by rw [← ec9]; omega)).1) | exact (by
                have q := K41.resolve_left (fun q => by omega)
                have w := zom_k (B41 q.1)
                have tp := T41 q.1 (by omega)
                have e1 := L51 (by rw [zl1_l _ (by omega)] at tp; omega)
                have hh : zhd (zl1 (s_7 116) i3_7) = x7 := by rw [e1]; rfl
                rw [show t0_65 = i3_7 - 1 from by omega]
                exact v7_2.stay hg q.1 (by rw [← ec9, hh]; rw [hh] at tp; omega) (by rw [hh]; exact e1) (by omega)) | exact (by
                have q := K41.resolve_left (fun q => by omega)
                have w := zom_k (B41 q.1)
                have z := zom_z (B41 q.1)
                have aa := A41 q.1
                have e1 := L51 (by omega)
                have e2 := zl1_pop (s_7 116) (n := i3_7 - 1) (by omega)
                rw [show i3_7 - 1 - 1 = i3_7 - 2 from by omega, show i3_7 - 1 = t0_65 from by omega, ← V242] at e2
                rw [show i3_7 - 1 = t0_65 from by omega, e2] at e1
                have hh : zhd (zl1 (s_7 116) i3_7) = x7 := by rw [e1]; rfl
                rw [X248]
                exact v7_2.op hg q.1 (by rw [← ec9]; omega) (by rw [← ec9, hh]; omega) e1 (by rw [← ec9]; exact zom_r (by omega) (by omega) (by rw [← q.2.1]; omega)) (by omega))) (by first | exact ⟨rfl, rfl, rfl⟩ | exact v7_3 | (rw [es_7, xU_k _ _ _ (by first | decide | omega), xU_k _ _ _ (by first | decide | omega), xU_k _ _ _ (by first | decide | omega)]; exact v7_3)) (by have hm := hm_7 (); omega) hW (lv_sub hl [3, 4, 1, 0] rfl)
          refine x_iconst hx hb dX4_reckon_175 ?_
          refine lv_goto (tgt := 180) hx hb dX4_reckon_176 (by decide) ?_
          refine x_iload hx hb hl 5 rfl dX4_reckon_180 ?_
          refine x_iconst hx hb dX4_reckon_182 ?_
          refine x_icmp_ne (tgt := 190) hx hb rx5 (by decide) dX4_reckon_183 (by decide) (fun c76 => ?_) (fun c76 => ?_)
          · skip
            refine x_iconst hx hb dX4_reckon_190 ?_
            refine x_icmp_ne (tgt := 200) hx hb (by decide) (by decide) dX4_reckon_191 (by decide) (fun c77 => ?_) (fun c77 => False.elim (by omega))
            refine x_iload hx hb hl 0 rfl dX4_reckon_200 ?_
            refine lv_istore_n (lv' := [(3, .int (xJ t0_65)), (8, .int (xJ t0_65)), (0, .ref (h0 + 109)), (2, .int (xJ (i2_7 + 1))), (4, .int (xJ i4_7)), (5, .int (xJ x5)), (6, .int (xJ x6)), (7, .int (xJ x7))]) hx hb dX4_reckon_202 rfl hl (by decide) rfl (fun ls hl => ?_)
            refine lv_goto (tgt := 249) hx hb dX4_reckon_203 (by decide) ?_
            refine x_iinc (lv' := [(4, .int (xJ (i4_7 + 1))), (3, .int (xJ t0_65)), (8, .int (xJ t0_65)), (0, .ref (h0 + 109)), (2, .int (xJ (i2_7 + 1))), (5, .int (xJ x5)), (6, .int (xJ x6)), (7, .int (xJ x7))]) hx hb hl 4 rfl dX4_reckon_249 (by decide) rfl (fun ls hl => ?_)
            refine lv_goto (tgt := 7) hx hb dX4_reckon_252 (by decide) ?_
            exact ih7 (i2_7 + 1) t0_65 (i4_7 + 1) s_7 H locs ls (by omega) rt0_65 (by omega) hF_7 q7_0 q7_1 (by omega) (by omega) (by first | (exfalso; omega) | exact (by
                have q := K41.resolve_left (fun q => by omega)
                have w := zom_k (B41 q.1)
                have y := zwm_k (s := s9) (B41 q.1)
                rw [X147]
                exact v7_2.num hg q.1 (by rw [← ec9]; omega) (by rw [← ec9]; omega) (by omega)) | exact (by
                have q := K41.resolve_left (fun q => by omega)
                have w := zom_k (B41 q.1)
                have y := zwm_k (s := s9) (B41 q.1)
                rw [X147]
                exact v7_2.let_ hg q.1 (by rw [← ec9]; omega) (by rw [H144, v7_3.2.2, ← ec9]; congr 1; omega) (by omega)) | exact (by
                have q := K41.resolve_left (fun q => by omega)
                have w := zom_k (B41 q.1)
                have tp := T41 q.1 (by omega)
                have e1 := L51 (by rw [zl1_l _ (by omega)] at tp; omega)
                rw [X166]
                refine v7_2.not hg q.1 (by rw [← ec9]; omega) ?_ (by rw [e1]; rfl) (by omega)
                rw [e1] at tp ⊢
                have tp2 : x7 = 0 ∨ x7 = 1 := tp.2
                show _ = 1 - x7
                omega) | exact (by
                have q := K41.resolve_left (fun q => by omega)
                have w := zom_k (B41 q.1)
                have y := zwm_k (s := s9) (B41 q.1)
                have tp := T41 q.1 (by omega)
                have aa := A41 q.1
                have e1 := L51 (by rw [zl1_l _ (by omega)] at tp; omega)
                have hh : zhd (zl1 (s_7 116) i3_7) = x7 := by rw [e1]; rfl
                exact (v7_2.jmp hg q.1 (by rw [← ec9, hh]; rw [hh] at tp; omega) (by rw [← ec9]; omega)).1) | exact (by
                have q := K41.resolve_left (fun q => by omega)
                have w := zom_k (B41 q.1)
                have tp := T41 q.1 (by omega)
                have e1 := L51 (by rw [zl1_l _ (by omega)] at tp; omega)
                have hh : zhd (zl1 (s_7 116) i3_7) = x7 := by rw [e1]; rfl
                rw [show t0_65 = i3_7 - 1 from by omega]
                exact v7_2.stay hg q.1 (by rw [← ec9, hh]; rw [hh] at tp; omega) (by rw [hh]; exact e1) (by omega)) | exact (by
                have q := K41.resolve_left (fun q => by omega)
                have w := zom_k (B41 q.1)
                have z := zom_z (B41 q.1)
                have aa := A41 q.1
                have e1 := L51 (by omega)
                have e2 := zl1_pop (s_7 116) (n := i3_7 - 1) (by omega)
                rw [show i3_7 - 1 - 1 = i3_7 - 2 from by omega, show i3_7 - 1 = t0_65 from by omega, ← V242] at e2
                rw [show i3_7 - 1 = t0_65 from by omega, e2] at e1
                have hh : zhd (zl1 (s_7 116) i3_7) = x7 := by rw [e1]; rfl
                rw [X248]
                exact v7_2.op hg q.1 (by rw [← ec9]; omega) (by rw [← ec9, hh]; omega) e1 (by rw [← ec9]; exact zom_r (by omega) (by omega) (by rw [← q.2.1]; omega)) (by omega))) (by first | exact ⟨rfl, rfl, rfl⟩ | exact v7_3 | (rw [es_7, xU_k _ _ _ (by first | decide | omega), xU_k _ _ _ (by first | decide | omega), xU_k _ _ _ (by first | decide | omega)]; exact v7_3)) (by have hm := hm_7 (); omega) hW (lv_sub hl [3, 4, 1, 0] rfl)
          refine x_iconst hx hb dX4_reckon_186 ?_
          refine lv_goto (tgt := 191) hx hb dX4_reckon_187 (by decide) ?_
          refine x_icmp_ne (tgt := 200) hx hb (by decide) (by decide) dX4_reckon_191 (by decide) (fun c78 => False.elim (by omega)) (fun c78 => ?_)
          refine x_iload hx hb hl 6 rfl dX4_reckon_194 ?_
          refine lv_istore_n (lv' := [(2, .int (xJ x6)), (8, .int (xJ t0_65)), (0, .ref (h0 + 109)), (3, .int (xJ i3_7)), (4, .int (xJ i4_7)), (5, .int (xJ x5)), (6, .int (xJ x6)), (7, .int (xJ x7))]) hx hb dX4_reckon_196 rfl hl (by decide) rfl (fun ls hl => ?_)
          refine lv_goto (tgt := 249) hx hb dX4_reckon_197 (by decide) ?_
          refine x_iinc (lv' := [(4, .int (xJ (i4_7 + 1))), (2, .int (xJ x6)), (8, .int (xJ t0_65)), (0, .ref (h0 + 109)), (3, .int (xJ i3_7)), (5, .int (xJ x5)), (6, .int (xJ x6)), (7, .int (xJ x7))]) hx hb hl 4 rfl dX4_reckon_249 (by decide) rfl (fun ls hl => ?_)
          refine lv_goto (tgt := 7) hx hb dX4_reckon_252 (by decide) ?_
          exact ih7 x6 i3_7 (i4_7 + 1) s_7 H locs ls rx6 ri3_7 (by omega) hF_7 q7_0 q7_1 (by omega) (by omega) (by first | (exfalso; omega) | exact (by
              have q := K41.resolve_left (fun q => by omega)
              have w := zom_k (B41 q.1)
              have y := zwm_k (s := s9) (B41 q.1)
              rw [X147]
              exact v7_2.num hg q.1 (by rw [← ec9]; omega) (by rw [← ec9]; omega) (by omega)) | exact (by
              have q := K41.resolve_left (fun q => by omega)
              have w := zom_k (B41 q.1)
              have y := zwm_k (s := s9) (B41 q.1)
              rw [X147]
              exact v7_2.let_ hg q.1 (by rw [← ec9]; omega) (by rw [H144, v7_3.2.2, ← ec9]; congr 1; omega) (by omega)) | exact (by
              have q := K41.resolve_left (fun q => by omega)
              have w := zom_k (B41 q.1)
              have tp := T41 q.1 (by omega)
              have e1 := L51 (by rw [zl1_l _ (by omega)] at tp; omega)
              rw [X166]
              refine v7_2.not hg q.1 (by rw [← ec9]; omega) ?_ (by rw [e1]; rfl) (by omega)
              rw [e1] at tp ⊢
              have tp2 : x7 = 0 ∨ x7 = 1 := tp.2
              show _ = 1 - x7
              omega) | exact (by
              have q := K41.resolve_left (fun q => by omega)
              have w := zom_k (B41 q.1)
              have y := zwm_k (s := s9) (B41 q.1)
              have tp := T41 q.1 (by omega)
              have aa := A41 q.1
              have e1 := L51 (by rw [zl1_l _ (by omega)] at tp; omega)
              have hh : zhd (zl1 (s_7 116) i3_7) = x7 := by rw [e1]; rfl
              exact (v7_2.jmp hg q.1 (by rw [← ec9, hh]; rw [hh] at tp; omega) (by rw [← ec9]; omega)).1) | exact (by
              have q := K41.resolve_left (fun q => by omega)
              have w := zom_k (B41 q.1)
              have tp := T41 q.1 (by omega)
              have e1 := L51 (by rw [zl1_l _ (by omega)] at tp; omega)
              have hh : zhd (zl1 (s_7 116) i3_7) = x7 := by rw [e1]; rfl
              rw [show i3_7 = i3_7 - 1 from by omega]
              exact v7_2.stay hg q.1 (by rw [← ec9, hh]; rw [hh] at tp; omega) (by rw [hh]; exact e1) (by omega)) | exact (by
              have q := K41.resolve_left (fun q => by omega)
              have w := zom_k (B41 q.1)
              have z := zom_z (B41 q.1)
              have aa := A41 q.1
              have e1 := L51 (by omega)
              have e2 := zl1_pop (s_7 116) (n := i3_7 - 1) (by omega)
              rw [show i3_7 - 1 - 1 = i3_7 - 2 from by omega, show i3_7 - 1 = i3_7 from by omega, ← V242] at e2
              rw [show i3_7 - 1 = i3_7 from by omega, e2] at e1
              have hh : zhd (zl1 (s_7 116) i3_7) = x7 := by rw [e1]; rfl
              rw [X248]
              exact v7_2.op hg q.1 (by rw [← ec9]; omega) (by rw [← ec9, hh]; omega) e1 (by rw [← ec9]; exact zom_r (by omega) (by omega) (by rw [← q.2.1]; omega)) (by omega))) (by first | exact ⟨rfl, rfl, rfl⟩ | exact v7_3 | (rw [es_7, xU_k _ _ _ (by first | decide | omega), xU_k _ _ _ (by first | decide | omega), xU_k _ _ _ (by first | decide | omega)]; exact v7_3)) (by have hm := hm_7 (); omega) hW (lv_sub hl [3, 1, 4, 0] rfl)
      refine x_if_le (tgt := 64) hx hb ri3_7 dX4_reckon_55 (by decide) (fun c79 => ?_) (fun c79 => ?_)
      · skip
        refine x_iconst hx hb dX4_reckon_64 ?_
        exact J65 0 ls (by decide) (by omega)  (lv_sub hl [4, 1, 5, 6, 3, 2, 0] rfl)
      refine x_iload_n hx hb hl 5 rfl dX4_reckon_58 rfl ?_
      refine x_iconst hx hb dX4_reckon_59 ?_
      refine x_isub hx hb dX4_reckon_60 ?_
      refine lv_goto (tgt := 65) hx hb dX4_reckon_61 (by decide) ?_
      exact J65 (i3_7 - 1) ls (by omega) (by omega)  (lv_sub hl [4, 1, 5, 6, 3, 2, 0] rfl)
  exact L7 ((300 - 0 : Int).toNat + 1) a 0 0 s0 H locs ls ra (by decide) (by decide) hF p0 k1_1 (by omega) (by omega) (by rw [eV0, show a - s9 = a9 from by omega, zl1_0 _ (by omega)]; exact zVS.new hg) (by first | exact ⟨rfl, rfl, rfl⟩ | exact v7_3 | (rw [es0, xU_k _ _ _ (by first | decide | omega), xU_k _ _ _ (by first | decide | omega), xU_k _ _ _ (by first | decide | omega)]; exact v7_3)) (Nat.lt_succ_self _) hW (lv_sub hl [3, 2, 1, 0] rfl)
