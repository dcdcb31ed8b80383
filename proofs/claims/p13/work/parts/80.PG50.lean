/-- what is joined -/
def zJN (q a b r : Int) : Prop := (q = 43 → r = zwp (a + b)) ∧ (q = 45 → r = zwp (a - b)) ∧ (q = 42 → r = zwp (a * b)) ∧ (q = 47 → b ≠ 0 → r = zdv a b) ∧ (q = 37 → b ≠ 0 → r = zrm a b) ∧ (q = 60 → r = if a < b then 1 else 0) ∧ (q = 62 → r = if b < a then 1 else 0) ∧ (q = 61 → r = if a = b then 1 else 0)
theorem zom_J {v x y r : Int} (h : 2097152 ≤ v ∧ v < 10485760) (hz : ¬ ((5242880 ≤ v ∧ v < 7340032) ∧ y = 0)) (hr : zJN (zom v) x y r) : r = zrk (v / 1048576) x y := by
  have q : (zom v = 43 ∧ v / 1048576 = 2) ∨ (zom v = 45 ∧ v / 1048576 = 3) ∨ (zom v = 42 ∧ v / 1048576 = 4) ∨ (zom v = 47 ∧ v / 1048576 = 5) ∨ (zom v = 37 ∧ v / 1048576 = 6) ∨ (zom v = 60 ∧ v / 1048576 = 7) ∨ (zom v = 62 ∧ v / 1048576 = 8) ∨ (zom v = 61 ∧ v / 1048576 = 9) := by
    clear hr
    unfold zom
    (repeat' split) <;> omega
  unfold zJN at hr
  obtain ⟨h1, h2, h3, h4, h5, h6, h7, h8⟩ := hr
  rcases q with ⟨q, e⟩ | ⟨q, e⟩ | ⟨q, e⟩ | ⟨q, e⟩ | ⟨q, e⟩ | ⟨q, e⟩ | ⟨q, e⟩ | ⟨q, e⟩ <;> rw [e]
  · exact h1 q
  · exact h2 q
  · exact h3 q
  · exact h4 q (by clear h1 h2 h3 h4 h5 h6 h7 h8; omega)
  · exact h5 q (by clear h1 h2 h3 h4 h5 h6 h7 h8; omega)
  · exact h6 q
  · exact h7 q
  · exact h8 q
set_option maxHeartbeats 4000000 in
set_option maxRecDepth 100000 in
theorem c_X4_joinedV (l : Launch) (D : va_G) (g : xG) (T : Nat × Nat × Nat) (h0 : Nat) (s0 : xS) (hσ : xRR s0) (q : Int) (rq : xR q) (a : Int) (ra : xR a) (b : Int) (rb : xR b) : Met l yX4_joined (xws yX4_joined cX4_joined 3 (some .int)) { frames := 0, cells := 0, slots := 0, locals := 0 } (xP [.int (xJ q), .int (xJ a), .int (xJ b)] D g T h0 s0) (xQi D g h0 (fun r τ => s0 = τ ∧ (zJN q a b r))) 0 0 (xA h0) := by
  refine x_met hσ (by decide) (Nat.le_of_ble_eq_true rfl) ?_
  intro p e s m args below meth c hx hb hr hml hown hT hlk hnm hE hW ls hl
  have hl : lv_has ls 3 [(0, .int (xJ q)), (1, .int (xJ a)), (2, .int (xJ b))] := hl
  obtain ⟨Q, eQ⟩ : ∃ Q, Q = MQ below (xQi D g h0 (fun r τ => s0 = τ ∧ (zJN q a b r))) args s 0 0 (xA h0) := ⟨_, rfl⟩
  rw [← eQ]
  generalize hHe : ([] : List Loc) = locs at hW ⊢
  obtain ⟨H, eH⟩ : ∃ H, H = s.heap := ⟨_, rfl⟩
  rw [← eH] at hW ⊢
  refine x_iload_n hx hb hl 0 rfl dX4_joined_0 rfl ?_
  rcases (show (q ≠ 37 ∧ q ≠ 42 ∧ q ≠ 43 ∧ q ≠ 45 ∧ q ≠ 47 ∧ q ≠ 60 ∧ q ≠ 62) ∨ q = 37 ∨ q = 42 ∨ q = 43 ∨ q = 45 ∨ q = 47 ∨ q = 60 ∨ q = 62 from by omega) with c1 | c1 | c1 | c1 | c1 | c1 | c1 | c1
  · refine x_look (tgt := 126) (off := 125) hx hb rq dX4_joined_1 rfl (xlk_n (by simp; omega)) (by decide) ?_
    refine x_iload_n hx hb hl 1 rfl dX4_joined_126 rfl ?_
    refine x_iload_n hx hb hl 2 rfl dX4_joined_127 rfl ?_
    refine x_icmp_ne (tgt := 135) hx hb ra rb dX4_joined_128 (by decide) (fun c2 => ?_) (fun c2 => ?_)
    · skip
      refine x_iconst hx hb dX4_joined_135 ?_
      rw [eQ]
      exact x_iret hx hb hr hlk hW (by decide) ⟨rfl, by
          refine ⟨fun h => ?_, fun h => ?_, fun h => ?_, fun h h2 => ?_, fun h h2 => ?_, fun h => ?_, fun h => ?_, fun h => ?_⟩
          all_goals
            first
              | assumption
              | (exfalso; omega)
              | omega
              | (split <;> omega)⟩ dX4_joined_136
    refine x_iconst hx hb dX4_joined_131 ?_
    refine lv_goto (tgt := 136) hx hb dX4_joined_132 (by decide) ?_
    rw [eQ]
    exact x_iret hx hb hr hlk hW (by decide) ⟨rfl, by
        refine ⟨fun h => ?_, fun h => ?_, fun h => ?_, fun h h2 => ?_, fun h h2 => ?_, fun h => ?_, fun h => ?_, fun h => ?_⟩
        all_goals
          first
            | assumption
            | (exfalso; omega)
            | omega
            | (split <;> omega)⟩ dX4_joined_136
  · refine x_look (tgt := 92) (off := 91) hx hb rq dX4_joined_1 rfl (by rw [c1]; rfl) (by decide) ?_
    refine x_iload_n hx hb hl 2 rfl dX4_joined_92 rfl ?_
    refine x_if_ne (tgt := 100) hx hb rb dX4_joined_93 (by decide) (fun c3 => ?_) (fun c3 => ?_)
    · skip
      refine x_iload_n hx hb hl 1 rfl dX4_joined_100 rfl ?_
      refine x_iload_n hx hb hl 2 rfl dX4_joined_101 rfl ?_
      refine x_iremE hx hb rb (by omega) dX4_joined_102 (fun x4 ex4 rx4 => ?_)
      rw [eQ]
      exact x_iret hx hb hr hlk hW rx4 ⟨rfl, by
          refine ⟨fun h => ?_, fun h => ?_, fun h => ?_, fun h h2 => ?_, fun h h2 => ?_, fun h => ?_, fun h => ?_, fun h => ?_⟩
          all_goals
            first
              | assumption
              | (exfalso; omega)
              | omega
              | (split <;> omega)⟩ dX4_joined_103
    refine x_iconst hx hb dX4_joined_96 ?_
    refine lv_goto (tgt := 103) hx hb dX4_joined_97 (by decide) ?_
    rw [eQ]
    exact x_iret hx hb hr hlk hW (by decide) ⟨rfl, by
        refine ⟨fun h => ?_, fun h => ?_, fun h => ?_, fun h h2 => ?_, fun h h2 => ?_, fun h => ?_, fun h => ?_, fun h => ?_⟩
        all_goals
          first
            | assumption
            | (exfalso; omega)
            | omega
            | (split <;> omega)⟩ dX4_joined_103
  · refine x_look (tgt := 76) (off := 75) hx hb rq dX4_joined_1 rfl (by rw [c1]; rfl) (by decide) ?_
    refine x_iload_n hx hb hl 1 rfl dX4_joined_76 rfl ?_
    refine x_iload_n hx hb hl 2 rfl dX4_joined_77 rfl ?_
    refine x_imul hx hb dX4_joined_78 ?_
    refine x_wv (fun x5 ex5 rx5 => ?_)
    rw [eQ]
    exact x_iret hx hb hr hlk hW rx5 ⟨rfl, by
        refine ⟨fun h => ?_, fun h => ?_, fun h => ?_, fun h h2 => ?_, fun h h2 => ?_, fun h => ?_, fun h => ?_, fun h => ?_⟩
        all_goals
          first
            | assumption
            | (exfalso; omega)
            | omega
            | (split <;> omega)⟩ dX4_joined_79
  · refine x_look (tgt := 68) (off := 67) hx hb rq dX4_joined_1 rfl (by rw [c1]; rfl) (by decide) ?_
    refine x_iload_n hx hb hl 1 rfl dX4_joined_68 rfl ?_
    refine x_iload_n hx hb hl 2 rfl dX4_joined_69 rfl ?_
    refine x_iadd hx hb dX4_joined_70 ?_
    refine x_wv (fun x6 ex6 rx6 => ?_)
    rw [eQ]
    exact x_iret hx hb hr hlk hW rx6 ⟨rfl, by
        refine ⟨fun h => ?_, fun h => ?_, fun h => ?_, fun h h2 => ?_, fun h h2 => ?_, fun h => ?_, fun h => ?_, fun h => ?_⟩
        all_goals
          first
            | assumption
            | (exfalso; omega)
            | omega
            | (split <;> omega)⟩ dX4_joined_71
  · refine x_look (tgt := 72) (off := 71) hx hb rq dX4_joined_1 rfl (by rw [c1]; rfl) (by decide) ?_
    refine x_iload_n hx hb hl 1 rfl dX4_joined_72 rfl ?_
    refine x_iload_n hx hb hl 2 rfl dX4_joined_73 rfl ?_
    refine x_isub hx hb dX4_joined_74 ?_
    refine x_wv (fun x7 ex7 rx7 => ?_)
    rw [eQ]
    exact x_iret hx hb hr hlk hW rx7 ⟨rfl, by
        refine ⟨fun h => ?_, fun h => ?_, fun h => ?_, fun h h2 => ?_, fun h h2 => ?_, fun h => ?_, fun h => ?_, fun h => ?_⟩
        all_goals
          first
            | assumption
            | (exfalso; omega)
            | omega
            | (split <;> omega)⟩ dX4_joined_75
  · refine x_look (tgt := 80) (off := 79) hx hb rq dX4_joined_1 rfl (by rw [c1]; rfl) (by decide) ?_
    refine x_iload_n hx hb hl 2 rfl dX4_joined_80 rfl ?_
    refine x_if_ne (tgt := 88) hx hb rb dX4_joined_81 (by decide) (fun c8 => ?_) (fun c8 => ?_)
    · skip
      refine x_iload_n hx hb hl 1 rfl dX4_joined_88 rfl ?_
      refine x_iload_n hx hb hl 2 rfl dX4_joined_89 rfl ?_
      refine x_idivE hx hb rb (by omega) dX4_joined_90 (fun x9 ex9 rx9 => ?_)
      rw [eQ]
      exact x_iret hx hb hr hlk hW rx9 ⟨rfl, by
          refine ⟨fun h => ?_, fun h => ?_, fun h => ?_, fun h h2 => ?_, fun h h2 => ?_, fun h => ?_, fun h => ?_, fun h => ?_⟩
          all_goals
            first
              | assumption
              | (exfalso; omega)
              | omega
              | (split <;> omega)⟩ dX4_joined_91
    refine x_iconst hx hb dX4_joined_84 ?_
    refine lv_goto (tgt := 91) hx hb dX4_joined_85 (by decide) ?_
    rw [eQ]
    exact x_iret hx hb hr hlk hW (by decide) ⟨rfl, by
        refine ⟨fun h => ?_, fun h => ?_, fun h => ?_, fun h h2 => ?_, fun h h2 => ?_, fun h => ?_, fun h => ?_, fun h => ?_⟩
        all_goals
          first
            | assumption
            | (exfalso; omega)
            | omega
            | (split <;> omega)⟩ dX4_joined_91
  · refine x_look (tgt := 104) (off := 103) hx hb rq dX4_joined_1 rfl (by rw [c1]; rfl) (by decide) ?_
    refine x_iload_n hx hb hl 1 rfl dX4_joined_104 rfl ?_
    refine x_iload_n hx hb hl 2 rfl dX4_joined_105 rfl ?_
    refine x_icmp_ge (tgt := 113) hx hb ra rb dX4_joined_106 (by decide) (fun c10 => ?_) (fun c10 => ?_)
    · skip
      refine x_iconst hx hb dX4_joined_113 ?_
      rw [eQ]
      exact x_iret hx hb hr hlk hW (by decide) ⟨rfl, by
          refine ⟨fun h => ?_, fun h => ?_, fun h => ?_, fun h h2 => ?_, fun h h2 => ?_, fun h => ?_, fun h => ?_, fun h => ?_⟩
          all_goals
            first
              | assumption
              | (exfalso; omega)
              | omega
              | (split <;> omega)⟩ dX4_joined_114
    refine x_iconst hx hb dX4_joined_109 ?_
    refine lv_goto (tgt := 114) hx hb dX4_joined_110 (by decide) ?_
    rw [eQ]
    exact x_iret hx hb hr hlk hW (by decide) ⟨rfl, by
        refine ⟨fun h => ?_, fun h => ?_, fun h => ?_, fun h h2 => ?_, fun h h2 => ?_, fun h => ?_, fun h => ?_, fun h => ?_⟩
        all_goals
          first
            | assumption
            | (exfalso; omega)
            | omega
            | (split <;> omega)⟩ dX4_joined_114
  · refine x_look (tgt := 115) (off := 114) hx hb rq dX4_joined_1 rfl (by rw [c1]; rfl) (by decide) ?_
    refine x_iload_n hx hb hl 1 rfl dX4_joined_115 rfl ?_
    refine x_iload_n hx hb hl 2 rfl dX4_joined_116 rfl ?_
    refine x_icmp_le (tgt := 124) hx hb ra rb dX4_joined_117 (by decide) (fun c11 => ?_) (fun c11 => ?_)
    · skip
      refine x_iconst hx hb dX4_joined_124 ?_
      rw [eQ]
      exact x_iret hx hb hr hlk hW (by decide) ⟨rfl, by
          refine ⟨fun h => ?_, fun h => ?_, fun h => ?_, fun h h2 => ?_, fun h h2 => ?_, fun h => ?_, fun h => ?_, fun h => ?_⟩
          all_goals
            first
              | assumption
              | (exfalso; omega)
              | omega
              | (split <;> omega)⟩ dX4_joined_125
    refine x_iconst hx hb dX4_joined_120 ?_
    refine lv_goto (tgt := 125) hx hb dX4_joined_121 (by decide) ?_
    rw [eQ]
    exact x_iret hx hb hr hlk hW (by decide) ⟨rfl, by
        refine ⟨fun h => ?_, fun h => ?_, fun h => ?_, fun h h2 => ?_, fun h h2 => ?_, fun h => ?_, fun h => ?_, fun h => ?_⟩
        all_goals
          first
            | assumption
            | (exfalso; omega)
            | omega
            | (split <;> omega)⟩ dX4_joined_125
set_option maxHeartbeats 4000000 in
set_option maxRecDepth 100000 in
theorem c_X4_toldAtV (l : Launch) (D : va_G) (g : xG) (T : Nat × Nat × Nat) (h0 : Nat) (s0 : xS) (hσ : xRR s0) (x : Int) (rx : xR x) (hxz : 0 ≤ x ∧ x < 7) (p0 : IC s0) : Met l yX4_toldAt (xws yX4_toldAt cX4_toldAt 2 (some .int)) { frames := 0, cells := 0, slots := 0, locals := 0 } (xP [.ref (h0 + 109), .int (xJ x)] D g T h0 s0) (xQi D g h0 (fun r τ => s0 = τ ∧ (r = s0 115 x))) 0 0 (xA h0) := by
  refine x_met hσ (by decide) (Nat.le_of_ble_eq_true rfl) ?_
  intro p e s m args below meth c hx hb hr hml hown hT hlk hnm hE hW ls hl
  have hl : lv_has ls 2 [(0, .ref (h0 + 109)), (1, .int (xJ x))] := hl
  obtain ⟨Q, eQ⟩ : ∃ Q, Q = MQ below (xQi D g h0 (fun r τ => s0 = τ ∧ (r = s0 115 x))) args s 0 0 (xA h0) := ⟨_, rfl⟩
  rw [← eQ]
  generalize hHe : ([] : List Loc) = locs at hW ⊢
  obtain ⟨H, eH⟩ : ∃ H, H = s.heap := ⟨_, rfl⟩
  rw [← eH] at hW ⊢
  have k1_1 : s0 1 1 = s0 1 1 := rfl
  refine x_iload_n hx hb hl 1 rfl dX4_toldAt_0 rfl ?_
  refine x_if_lt (tgt := 22) hx hb rx dX4_toldAt_1 (by decide) (fun c1 => False.elim (by omega)) (fun c1 => ?_)
  refine x_iload_n hx hb hl 1 rfl dX4_toldAt_4 rfl ?_
  refine x_aload_n hx hb hl 0 rfl dX4_toldAt_5 rfl ?_
  refine x_get (j := 7) (v := .ref (h0 + 115)) hx hb hown hT hE hW cls_X4 (Or.inl (by decide)) (so_109 h0 g _) (by decide) rfl wq264 dX4_toldAt_6 ?_
  refine x_alen (n := 7) (t0 := 0) hx hb hE hW (Or.inl (by decide)) (sa_115 h0 g _) rfl rfl dX4_toldAt_9 ?_
  refine x_icmp_ge (tgt := 22) hx hb rx (by decide) dX4_toldAt_10 (by decide) (fun c2 => False.elim (by omega)) (fun c2 => ?_)
  refine x_aload_n hx hb hl 0 rfl dX4_toldAt_13 rfl ?_
  refine x_get (j := 7) (v := .ref (h0 + 115)) hx hb hown hT hE hW cls_X4 (Or.inl (by decide)) (so_109 h0 g _) (by decide) rfl wq264 dX4_toldAt_14 ?_
  refine x_iload_n hx hb hl 1 rfl dX4_toldAt_17 rfl ?_
  refine x_iald hx hb hE hW (Or.inl (by decide)) (sa_115 h0 g _) (by omega) (by decide) dX4_toldAt_18 ?_
  refine x_rd hW (fun x3 ex3 rx3 => ?_)
  have V18 := ex3
  refine lv_goto (tgt := 23) hx hb dX4_toldAt_19 (by decide) ?_
  rw [eQ]
  exact x_iret hx hb hr hlk hW rx3 ⟨rfl, V18⟩ dX4_toldAt_23
set_option maxHeartbeats 4000000 in
set_option maxRecDepth 100000 in
theorem c_X4_reckonV (l : Launch) (D : va_G) (g : xG) (T : Nat × Nat × Nat) (h0 : Nat) (s0 : xS) (hσ : xRR s0) (a : Int) (ra : xR a) (C9 : Int → Int) (d9 : Int → Int) (a9 : Int) (t9 : Int) (m9 : Bool) (s9 : Int) (hg : zGD C9 a9 t9 m9 d9) (hrd : (∀ k, a9 ≤ k → k < t9 → s0 110 (k + s9) = zom (C9 k) ∧ s0 111 (k + s9) = zwm s9 (C9 k)) ∧ s0 110 (t9 + s9) = 0 ∧ (0 ≤ s9 ∧ s9 ≤ 31 ∧ t9 + s9 < s0 109 2)) (ha : a = a9 + s9) (p0 : IC s0) : Met l yX4_reckon (xws yX4_reckon cX4_reckon 9 (some .int)) { frames := 1, cells := 0, slots := 0, locals := 22 } (xP [.ref (h0 + 109), .int (xJ a)] D g T h0 s0) (xQi D g h0 (fun r τ => xFr (fun k => k = 116) s0 τ ∧ (((IC τ) ∧ True) ∧ (r = (zEV C9 (s0 115) a9 t9))))) 0 0 (xA h0) := by
  refine x_met hσ (by decide) (Nat.le_of_ble_eq_true rfl) ?_
  intro p e s m args below meth c hx hb hr hml hown hT hlk hnm hE hW ls hl
  have hl : lv_has ls 9 [(0, .ref (h0 + 109)), (1, .int (xJ a))] := hl
  obtain ⟨Q, eQ⟩ : ∃ Q, Q = MQ below (xQi D g h0 (fun r τ => xFr (fun k => k = 116) s0 τ ∧ (((IC τ) ∧ True) ∧ (r = (zEV C9 (s0 115) a9 t9))))) args s 0 0 (xA h0) := ⟨_, rfl⟩
  rw [← eQ]
  generalize hHe : ([] : List Loc) = locs at hW ⊢
  obtain ⟨H, eH⟩ : ∃ H, H = s.heap := ⟨_, rfl⟩
  rw [← eH] at hW ⊢
  have hF : xFr (fun k => k = 116) s0 s0 := xFr.rf
  have k1_1 : s0 1 1 = s0 1 1 := rfl
  have hr2 := hrd.2.1
  have hr3 := hrd.2.2
  have hg1 := hg.1
  have hg2 := hg.2.1
  obtain ⟨V0, eV0⟩ : ∃ v : Int, v = (zEV C9 (s0 115) a9 t9) := ⟨_, rfl⟩
  refine x_iload_n hx hb hl 1 rfl dX4_reckon_0 rfl ?_
  refine lv_istore_n (lv' := [(2, .int (xJ a)), (0, .ref (h0 + 109)), (1, .int (xJ a))]) hx hb dX4_reckon_1 rfl hl (by decide) rfl (fun ls hl => ?_)
  refine x_iconst hx hb dX4_reckon_2 ?_
  refine lv_istore_n (lv' := [(3, .int (xJ 0)), (2, .int (xJ a)), (0, .ref (h0 + 109)), (1, .int (xJ a))]) hx hb dX4_reckon_3 rfl hl (by decide) rfl (fun ls hl => ?_)
  refine x_iconst hx hb dX4_reckon_4 ?_
  refine lv_istore (lv' := [(4, .int (xJ 0)), (3, .int (xJ 0)), (2, .int (xJ a)), (0, .ref (h0 + 109)), (1, .int (xJ a))]) hx hb dX4_reckon_5 hl (by decide) rfl (fun ls hl => ?_)
  have L7 : ∀ (fu : Nat) (i2_7 : Int) (i3_7 : Int) (i4_7 : Int) (s_7 : xS) (H : Heap) (locs : List Loc) (ls : Array Slot), (xR i2_7) → (xR i3_7) → (xR i4_7) → (xFr (fun k => k = 116) s0 s_7) → (IC s_7) → (s_7 1 1 = s0 1 1) → (0 ≤ i4_7 ∧ i4_7 + a9 + s9 ≤ i2_7) → (0 ≤ i3_7 ∧ i3_7 ≤ 40) → (zVS C9 (s0 115) d9 a9 t9 V0 (i2_7 - s9) (zl1 (s_7 116) i3_7)) → (s_7 110 = s0 110 ∧ s_7 111 = s0 111 ∧ s_7 115 = s0 115) → (300 - i4_7).toNat < fu → xW D g h0 s H locs s_7 → lv_has ls 9 [(0, .ref (h0 + 109)), (2, .int (xJ i2_7)), (3, .int (xJ i3_7)), (4, .int (xJ i4_7))] → W p l e { frames := 1, cells := 0, slots := 0, locals := 22 } s m args below meth c H locs 0 0 Q (F0 m 7 ls []) := by
    intro fu
    induction fu with
    | zero => intro i2_7 i3_7 i4_7 s_7 H locs ls ri2_7 ri3_7 ri4_7 hF_7 q7_0 q7_1 v7_0 v7_1 v7_2 v7_3 hm; exact absurd hm (Nat.not_lt_zero _)
    | succ fu ih7 =>
      intro i2_7 i3_7 i4_7 s_7 H locs ls ri2_7 ri3_7 ri4_7 hF_7 q7_0 q7_1 v7_0 v7_1 v7_2 v7_3 hm hW hl
      have hm_7 := fun (_ : Unit) => hm
      clear hm
      have l7 := v7_2.2.1
      have n7 := v7_2.2.2.1
      rw [zl1_l _ (by omega)] at n7
      have u7 : s_7 109 2 = s0 109 2 := congrFun (hF_7 109 (by first | decide | omega)) 2
      refine x_iload hx hb hl 3 rfl dX4_reckon_7 ?_
      refine x_sipush hx hb dX4_reckon_9 (by decide) ?_
      refine x_icmp_ge (tgt := 255) hx hb ri4_7 (by decide) dX4_reckon_12 (by decide) (fun c1 => False.elim (by omega)) (fun c1 => ?_)
      refine x_iload_n hx hb hl 1 rfl dX4_reckon_15 rfl ?_
      refine x_if_lt (tgt := 255) hx hb ri2_7 dX4_reckon_16 (by decide) (fun c2 => False.elim (by omega)) (fun c2 => ?_)
      refine x_iload_n hx hb hl 1 rfl dX4_reckon_19 rfl ?_
      refine x_aload_n hx hb hl 0 rfl dX4_reckon_20 rfl ?_
      refine x_get (j := 2) (v := .int (xJ (s_7 109 2))) hx hb hown hT hE hW cls_X4 (Or.inl (by decide)) (so_109 h0 g _) (by decide) rfl wq253 dX4_reckon_21 ?_
      refine x_rd hW (fun x3 ex3 rx3 => ?_)
      have bx3 : 0 ≤ x3 ∧ x3 ≤ 300 := by rw [ex3]; exact (IC.l1 q7_0).1
      refine x_icmp_ge (tgt := 255) hx hb ri2_7 rx3 dX4_reckon_24 (by decide) (fun c4 => False.elim (by omega)) (fun c4 => ?_)
      refine x_aload_n hx hb hl 0 rfl dX4_reckon_27 rfl ?_
      refine x_get (j := 0) (v := .ref (h0 + 110)) hx hb hown hT hE hW cls_X4 (Or.inl (by decide)) (so_109 h0 g _) (by decide) rfl wq251 dX4_reckon_28 ?_
      refine x_iload_n hx hb hl 1 rfl dX4_reckon_31 rfl ?_
      refine x_iald hx hb hE hW (Or.inl (by decide)) (sa_110 h0 g _) (by omega) (by decide) dX4_reckon_32 ?_
      refine x_rd hW (fun x5 ex5 rx5 => ?_)
      have V32 : x5 = s0 110 i2_7 := by rw [ex5, v7_3.1]
      obtain ⟨u9, eu9⟩ : ∃ c : Int, c = C9 (i2_7 - s9) := ⟨_, rfl⟩
      refine lv_istore (lv' := [(5, .int (xJ x5)), (0, .ref (h0 + 109)), (2, .int (xJ i2_7)), (3, .int (xJ i3_7)), (4, .int (xJ i4_7))]) hx hb dX4_reckon_33 hl (by decide) rfl (fun ls hl => ?_)
      refine x_aload_n hx hb hl 1 rfl dX4_reckon_35 rfl ?_
      refine x_get (j := 1) (v := .ref (h0 + 111)) hx hb hown hT hE hW cls_X4 (Or.inl (by decide)) (so_109 h0 g _) (by decide) rfl wq252 dX4_reckon_36 ?_
      refine x_iload_n hx hb hl 2 rfl dX4_reckon_39 rfl ?_
      refine x_iald hx hb hE hW (Or.inl (by decide)) (sa_111 h0 g _) (by omega) (by decide) dX4_reckon_40 ?_
      refine x_rd hW (fun x6 ex6 rx6 => ?_)
      refine lv_istore (lv' := [(6, .int (xJ x6)), (5, .int (xJ x5)), (0, .ref (h0 + 109)), (2, .int (xJ i2_7)), (3, .int (xJ i3_7)), (4, .int (xJ i4_7))]) hx hb dX4_reckon_41 hl (by decide) rfl (fun ls hl => ?_)
      have V41 : x6 = s0 111 i2_7 := by rw [ex6, v7_3.2.1]
      have K41 : Unit → ((i2_7 - s9 = t9 ∧ x5 = 0) ∨ (i2_7 - s9 < t9 ∧ x5 = zom u9 ∧ x6 = zwm s9 u9)) := fun _ => by
        by_cases e : i2_7 - s9 < t9
        · have q := hrd.1 (i2_7 - s9) (by omega) e
          rw [show i2_7 - s9 + s9 = i2_7 from by omega, ← eu9] at q
          exact Or.inr ⟨e, V32.trans q.1, V41.trans q.2⟩
        · exact Or.inl ⟨by omega, V32.trans (by rw [show i2_7 = t9 + s9 from by omega]; exact hr2)⟩
      have A41 : Unit → i2_7 - s9 < t9 → _ := fun _ e => hg.at_ (p := i2_7 - s9) (by omega) e
      rw [← eu9] at A41
      have B41 : Unit → i2_7 - s9 < t9 → 0 ≤ u9 ∧ u9 < 13631488 := fun _ e => by have q := A41 () e; omega
      have T41 : Unit → i2_7 - s9 < t9 → 10485760 ≤ u9 → _ := fun _ e e2 => v7_2.top hg e (by rw [← eu9]; exact e2)
      refine x_iinc (lv' := [(2, .int (xJ (i2_7 + 1))), (6, .int (xJ x6)), (5, .int (xJ x5)), (0, .ref (h0 + 109)), (3, .int (xJ i3_7)), (4, .int (xJ i4_7))]) hx hb hl 3 rfl dX4_reckon_43 (by decide) rfl (fun ls hl => ?_)
      refine x_aload_n hx hb hl 3 rfl dX4_reckon_46 rfl ?_
      refine x_get (j := 8) (v := .ref (h0 + 116)) hx hb hown hT hE hW cls_X4 (Or.inl (by decide)) (so_109 h0 g _) (by decide) rfl wq265 dX4_reckon_47 ?_
      refine x_iload_n hx hb hl 4 rfl dX4_reckon_50 rfl ?_
      refine x_iald hx hb hE hW (Or.inl (by decide)) (sa_116 h0 g _) (by omega) (by decide) dX4_reckon_51 ?_
      refine x_rd hW (fun x7 ex7 rx7 => ?_)
      have L51 : Unit → 1 ≤ i3_7 → zl1 (s_7 116) i3_7 = x7 :: zl1 (s_7 116) (i3_7 - 1) := fun _ h => by rw [zl1_pop _ h, ex7]
      refine lv_istore (lv' := [(7, .int (xJ x7)), (2, .int (xJ (i2_7 + 1))), (6, .int (xJ x6)), (5, .int (xJ x5)), (0, .ref (h0 + 109)), (3, .int (xJ i3_7)), (4, .int (xJ i4_7))]) hx hb dX4_reckon_52 hl (by decide) rfl (fun ls hl => ?_)
      refine x_iload_n hx hb hl 5 rfl dX4_reckon_54 rfl ?_
      have J65 : ∀ (t0_65 : Int) (ls : Array Slot), (xR t0_65) → ((0 < i3_7 ∧ t0_65 = i3_7 - 1) ∨ (i3_7 ≤ 0 ∧ t0_65 = 0)) → lv_has ls 9 [(0, .ref (h0 + 109)), (2, .int (xJ (i2_7 + 1))), (3, .int (xJ i3_7)), (4, .int (xJ i4_7)), (5, .int (xJ x5)), (6, .int (xJ x6)), (7, .int (xJ x7))] → W p l e { frames := 1, cells := 0, slots := 0, locals := 22 } s m args below meth c H locs 0 0 Q (F0 m 65 ls [.int (xJ t0_65)]) := by
        intro t0_65 ls rt0_65 v65_0  hl
        refine lv_istore (lv' := [(8, .int (xJ t0_65)), (0, .ref (h0 + 109)), (2, .int (xJ (i2_7 + 1))), (3, .int (xJ i3_7)), (4, .int (xJ i4_7)), (5, .int (xJ x5)), (6, .int (xJ x6)), (7, .int (xJ x7))]) hx hb dX4_reckon_65 hl (by decide) rfl (fun ls hl => ?_)
        refine x_iload hx hb hl 5 rfl dX4_reckon_67 ?_
        rcases (show (x5 < 0 ∨ 5 < x5) ∨ x5 = 0 ∨ x5 = 1 ∨ x5 = 2 ∨ x5 = 3 ∨ x5 = 4 ∨ x5 = 5 from by omega) with c8 | c8 | c8 | c8 | c8 | c8 | c8
        · refine x_tabOut (tgt := 206) hx hb rx5 dX4_reckon_69 c8 (by decide) ?_
          refine x_iload hx hb hl 7 rfl dX4_reckon_206 ?_
          have q206 := (K41 ()).resolve_left (fun q => by omega)
          have R206 : 2097152 ≤ u9 ∧ u9 < 10485760 := by have w := zom_k (B41 () q206.1); omega
          have U206 : 2 ≤ i3_7 := by have a := A41 () q206.1; omega
          have Z206 : Unit → (5242880 ≤ u9 ∧ u9 < 7340032 → x5 = 47 ∨ x5 = 37) := fun _ h => by have z := (zom_z (B41 () q206.1)).2.2 h.1 h.2; omega
          have Y206 : Unit → (x5 = 47 ∨ x5 = 37 → 5242880 ≤ u9 ∧ u9 < 7340032) := fun _ h => by have z := zom_z (B41 () q206.1); omega
          refine x_if_ne (tgt := 227) hx hb rx7 dX4_reckon_208 (by decide) (fun c9 => ?_) (fun c9 => ?_)
          · skip
            refine x_iload hx hb hl 0 rfl dX4_reckon_227 ?_
            refine lv_istore_n (lv' := [(3, .int (xJ t0_65)), (8, .int (xJ t0_65)), (0, .ref (h0 + 109)), (2, .int (xJ (i2_7 + 1))), (4, .int (xJ i4_7)), (5, .int (xJ x5)), (6, .int (xJ x6)), (7, .int (xJ x7))]) hx hb dX4_reckon_229 rfl hl (by decide) rfl (fun ls hl => ?_)
            refine x_aload_n hx hb hl 2 rfl dX4_reckon_230 rfl ?_
            refine x_get (j := 8) (v := .ref (h0 + 116)) hx hb hown hT hE hW cls_X4 (Or.inl (by decide)) (so_109 h0 g _) (by decide) rfl wq265 dX4_reckon_231 ?_
            refine x_iload_n hx hb hl 0 rfl dX4_reckon_234 rfl ?_
            refine x_iload hx hb hl 5 rfl dX4_reckon_235 ?_
            refine x_aload_n hx hb hl 2 rfl dX4_reckon_237 rfl ?_
            refine x_get (j := 8) (v := .ref (h0 + 116)) hx hb hown hT hE hW cls_X4 (Or.inl (by decide)) (so_109 h0 g _) (by decide) rfl wq265 dX4_reckon_238 ?_
            refine x_iload_n hx hb hl 0 rfl dX4_reckon_241 rfl ?_
            refine x_iald hx hb hE hW (Or.inl (by decide)) (sa_116 h0 g _) (by omega) (by decide) dX4_reckon_242 ?_
            refine x_rd hW (fun x10 ex10 rx10 => ?_)
            have V242 := ex10
            refine x_iload hx hb hl 7 rfl dX4_reckon_243 ?_
            refine x_goi (x_runS (As := [.int (xJ x5), .int (xJ x10), .int (xJ x7)]) hx hb hml hown hT hE hW hl.1 cf_X4_joined wq813 wq812 (c_X4_joinedV l D g T h0 s_7 hW.2.1 x5 rx5 x10 rx10 x7 rx7) ⟨rfl, rfl, ⟨by decide, by decide⟩, ⟨by decide, by decide⟩⟩ rfl rfl (Nat.le_of_ble_eq_true rfl) dX4_reckon_245) hW (fun x11 s12 H locs rx11 hp13 hW => ?_)
            obtain ⟨es12, hp13⟩ := hp13
            subst es12
            have ghp13 := hp13
            have H245 := ghp13
            refine x_iast hx hb hE hW (by decide) (fun σ => sa_116 h0 g σ) (by omega) (by decide) rx11 dX4_reckon_248 (fun H locs s14 es14 hW => ?_)
            have q15 : IC s14 := by rw [es14]; exact IC_o (by decide) q7_0
            have q16 : s14 1 1 = s0 1 1 := (show s14 1 1 = s_7 1 1 from by rw [es14, xU_k _ _ _ (by first | decide | omega)]).trans q7_1
            have hF17 := hF_7.put es14 (by omega)
            have X248 : zl1 (s14 116) t0_65 = x11 :: zl1 (s_7 116) (i3_7 - 2) := by rw [es14, xU_xud, zl1_put _ (by omega) (by omega), show t0_65 - 1 = i3_7 - 2 from by omega]
            refine x_iinc (lv' := [(4, .int (xJ (i4_7 + 1))), (3, .int (xJ t0_65)), (8, .int (xJ t0_65)), (0, .ref (h0 + 109)), (2, .int (xJ (i2_7 + 1))), (5, .int (xJ x5)), (6, .int (xJ x6)), (7, .int (xJ x7))]) hx hb hl 4 rfl dX4_reckon_249 (by decide) rfl (fun ls hl => ?_)
            refine lv_goto (tgt := 7) hx hb dX4_reckon_252 (by decide) ?_
            exact ih7 (i2_7 + 1) t0_65 (i4_7 + 1) s14 H locs ls (by omega) rt0_65 (by omega) hF17 q15 q16 (by omega) (by omega) (by
                first
                  | exact (by
                      have gg := H144
                      rw [X147]
                      exact v7_2.let_ hg q111.1 (by rw [← eu9]; omega) (by rw [H144, v7_3.2.2, ← eu9]; congr 1; omega) (by omega))
                  | exact (by
                      have gg := X147
                      rw [X147]
                      exact v7_2.num hg q111.1 (by rw [← eu9]; omega) (by rw [← eu9]; omega) (by omega))
                  | exact (by
                      have gg := X166
                      rw [X166]
                      refine v7_2.not hg q151.1 (by rw [← eu9]; omega) ?_ (by rw [e151]; rfl) (by omega)
                      rw [e151]
                      have tp2 := P151
                      show _ = 1 - x7
                      omega)
                  | exact (by
                      have gg := X248
                      have e1 := L51 () (by omega)
                      have e2 := zl1_pop (s_7 116) (n := i3_7 - 1) (by omega)
                      rw [show i3_7 - 1 - 1 = i3_7 - 2 from by omega, show i3_7 - 1 = t0_65 from by omega, ← V242] at e2
                      rw [show i3_7 - 1 = t0_65 from by omega, e2] at e1
                      have hh : zhd (zl1 (s_7 116) i3_7) = x7 := by rw [e1]; rfl
                      rw [X248]
                      exact v7_2.op hg q206.1 (by rw [← eu9]; omega) (by rw [← eu9, hh]; have z := Z206 (); omega) e1 (by rw [← eu9]; exact zom_J (by omega) (by have z := Z206 (); omega) (by rw [← q206.2.1]; exact H245)) (by omega))
                  | exact (by
                      have gg := F170
                      have hh : zhd (zl1 (s_7 116) i3_7) = x7 := by rw [e170]; rfl
                      rw [show t0_65 = i3_7 - 1 from by omega]
                      exact v7_2.stay hg q170.1 (by rw [← eu9, hh]; omega) (by rw [hh]; exact e170) (by omega))
                  | exact (by
                      have gg := F170
                      have hh : zhd (zl1 (s_7 116) i3_7) = x7 := by rw [e170]; rfl
                      exact (v7_2.jmp hg q170.1 (by rw [← eu9, hh]; omega) (by rw [← eu9]; omega)).1)
                  | (exfalso; omega)) (by first | exact ⟨rfl, rfl, rfl⟩ | exact v7_3 | (rw [es14, xU_k _ _ _ (by first | decide | omega), xU_k _ _ _ (by first | decide | omega), xU_k _ _ _ (by first | decide | omega)]; exact v7_3)) (by have hm := hm_7 (); omega) hW (lv_sub hl [3, 4, 1, 0] rfl)
          refine x_iload hx hb hl 5 rfl dX4_reckon_211 ?_
          refine x_bipush hx hb dX4_reckon_213 (by decide) ?_
          refine x_icmp_eq (tgt := 225) hx hb rx5 (by decide) dX4_reckon_215 (by decide) (fun c18 => ?_) (fun c18 => ?_)
          · skip
            refine x_iconst hx hb dX4_reckon_225 ?_
            rw [eQ]
            exact x_iret hx hb hr hlk hW (by decide) ⟨hF_7, ⟨q7_0, trivial⟩, by
                rw [← eV0]
                have y := Y206 ()
                have z := v7_2.zero q206.1 (by rw [← eu9]; omega) (by rw [L51 () (by omega)]; show x7 = 0; omega)
                omega⟩ dX4_reckon_226
          refine x_iload hx hb hl 5 rfl dX4_reckon_218 ?_
          refine x_bipush hx hb dX4_reckon_220 (by decide) ?_
          refine x_icmp_ne (tgt := 227) hx hb rx5 (by decide) dX4_reckon_222 (by decide) (fun c19 => ?_) (fun c19 => ?_)
          · skip
            refine x_iload hx hb hl 0 rfl dX4_reckon_227 ?_
            refine lv_istore_n (lv' := [(3, .int (xJ t0_65)), (8, .int (xJ t0_65)), (0, .ref (h0 + 109)), (2, .int (xJ (i2_7 + 1))), (4, .int (xJ i4_7)), (5, .int (xJ x5)), (6, .int (xJ x6)), (7, .int (xJ x7))]) hx hb dX4_reckon_229 rfl hl (by decide) rfl (fun ls hl => ?_)
            refine x_aload_n hx hb hl 2 rfl dX4_reckon_230 rfl ?_
            refine x_get (j := 8) (v := .ref (h0 + 116)) hx hb hown hT hE hW cls_X4 (Or.inl (by decide)) (so_109 h0 g _) (by decide) rfl wq265 dX4_reckon_231 ?_
            refine x_iload_n hx hb hl 0 rfl dX4_reckon_234 rfl ?_
            refine x_iload hx hb hl 5 rfl dX4_reckon_235 ?_
            refine x_aload_n hx hb hl 2 rfl dX4_reckon_237 rfl ?_
            refine x_get (j := 8) (v := .ref (h0 + 116)) hx hb hown hT hE hW cls_X4 (Or.inl (by decide)) (so_109 h0 g _) (by decide) rfl wq265 dX4_reckon_238 ?_
            refine x_iload_n hx hb hl 0 rfl dX4_reckon_241 rfl ?_
            refine x_iald hx hb hE hW (Or.inl (by decide)) (sa_116 h0 g _) (by omega) (by decide) dX4_reckon_242 ?_
            refine x_rd hW (fun x20 ex20 rx20 => ?_)
            have V242 := ex20
            refine x_iload hx hb hl 7 rfl dX4_reckon_243 ?_
            refine x_goi (x_runS (As := [.int (xJ x5), .int (xJ x20), .int (xJ x7)]) hx hb hml hown hT hE hW hl.1 cf_X4_joined wq813 wq812 (c_X4_joinedV l D g T h0 s_7 hW.2.1 x5 rx5 x20 rx20 x7 rx7) ⟨rfl, rfl, ⟨by decide, by decide⟩, ⟨by decide, by decide⟩⟩ rfl rfl (Nat.le_of_ble_eq_true rfl) dX4_reckon_245) hW (fun x21 s22 H locs rx21 hp23 hW => ?_)
            obtain ⟨es22, hp23⟩ := hp23
            subst es22
            have ghp23 := hp23
            have H245 := ghp23
            refine x_iast hx hb hE hW (by decide) (fun σ => sa_116 h0 g σ) (by omega) (by decide) rx21 dX4_reckon_248 (fun H locs s24 es24 hW => ?_)
            have q25 : IC s24 := by rw [es24]; exact IC_o (by decide) q7_0
            have q26 : s24 1 1 = s0 1 1 := (show s24 1 1 = s_7 1 1 from by rw [es24, xU_k _ _ _ (by first | decide | omega)]).trans q7_1
            have hF27 := hF_7.put es24 (by omega)
            have X248 : zl1 (s24 116) t0_65 = x21 :: zl1 (s_7 116) (i3_7 - 2) := by rw [es24, xU_xud, zl1_put _ (by omega) (by omega), show t0_65 - 1 = i3_7 - 2 from by omega]
            refine x_iinc (lv' := [(4, .int (xJ (i4_7 + 1))), (3, .int (xJ t0_65)), (8, .int (xJ t0_65)), (0, .ref (h0 + 109)), (2, .int (xJ (i2_7 + 1))), (5, .int (xJ x5)), (6, .int (xJ x6)), (7, .int (xJ x7))]) hx hb hl 4 rfl dX4_reckon_249 (by decide) rfl (fun ls hl => ?_)
            refine lv_goto (tgt := 7) hx hb dX4_reckon_252 (by decide) ?_
            exact ih7 (i2_7 + 1) t0_65 (i4_7 + 1) s24 H locs ls (by omega) rt0_65 (by omega) hF27 q25 q26 (by omega) (by omega) (by
                first
                  | exact (by
                      have gg := H144
                      rw [X147]
                      exact v7_2.let_ hg q111.1 (by rw [← eu9]; omega) (by rw [H144, v7_3.2.2, ← eu9]; congr 1; omega) (by omega))
                  | exact (by
                      have gg := X147
                      rw [X147]
                      exact v7_2.num hg q111.1 (by rw [← eu9]; omega) (by rw [← eu9]; omega) (by omega))
                  | exact (by
                      have gg := X166
                      rw [X166]
                      refine v7_2.not hg q151.1 (by rw [← eu9]; omega) ?_ (by rw [e151]; rfl) (by omega)
                      rw [e151]
                      have tp2 := P151
                      show _ = 1 - x7
                      omega)
                  | exact (by
                      have gg := X248
                      have e1 := L51 () (by omega)
                      have e2 := zl1_pop (s_7 116) (n := i3_7 - 1) (by omega)
                      rw [show i3_7 - 1 - 1 = i3_7 - 2 from by omega, show i3_7 - 1 = t0_65 from by omega, ← V242] at e2
                      rw [show i3_7 - 1 = t0_65 from by omega, e2] at e1
                      have hh : zhd (zl1 (s_7 116) i3_7) = x7 := by rw [e1]; rfl
                      rw [X248]
                      exact v7_2.op hg q206.1 (by rw [← eu9]; omega) (by rw [← eu9, hh]; have z := Z206 (); omega) e1 (by rw [← eu9]; exact zom_J (by omega) (by have z := Z206 (); omega) (by rw [← q206.2.1]; exact H245)) (by omega))
                  | exact (by
                      have gg := F170
                      have hh : zhd (zl1 (s_7 116) i3_7) = x7 := by rw [e170]; rfl
                      rw [show t0_65 = i3_7 - 1 from by omega]
                      exact v7_2.stay hg q170.1 (by rw [← eu9, hh]; omega) (by rw [hh]; exact e170) (by omega))
                  | exact (by
                      have gg := F170
                      have hh : zhd (zl1 (s_7 116) i3_7) = x7 := by rw [e170]; rfl
                      exact (v7_2.jmp hg q170.1 (by rw [← eu9, hh]; omega) (by rw [← eu9]; omega)).1)
                  | (exfalso; omega)) (by first | exact ⟨rfl, rfl, rfl⟩ | exact v7_3 | (rw [es24, xU_k _ _ _ (by first | decide | omega), xU_k _ _ _ (by first | decide | omega), xU_k _ _ _ (by first | decide | omega)]; exact v7_3)) (by have hm := hm_7 (); omega) hW (lv_sub hl [3, 4, 1, 0] rfl)
          refine x_iconst hx hb dX4_reckon_225 ?_
          rw [eQ]
          exact x_iret hx hb hr hlk hW (by decide) ⟨hF_7, ⟨q7_0, trivial⟩, by
              rw [← eV0]
              have y := Y206 ()
              have z := v7_2.zero q206.1 (by rw [← eu9]; omega) (by rw [L51 () (by omega)]; show x7 = 0; omega)
              omega⟩ dX4_reckon_226
        · refine x_tabIn (v := 0) (tgt := 108) hx hb rx5 c8 dX4_reckon_69 (by decide) rfl (by decide) ?_
          refine x_iload hx hb hl 7 rfl dX4_reckon_108 ?_
          rw [eQ]
          exact x_iret hx hb hr hlk hW rx7 ⟨hF_7, ⟨q7_0, trivial⟩, by
              rw [← eV0]
              have q := (K41 ()).resolve_right (fun q => by have y := zom_k (B41 () q.1); omega)
              have y := v7_2.fin q.1
              rw [y, L51 () (by rw [q.1] at n7; omega)]
              rfl⟩ dX4_reckon_110
        · refine x_tabIn (v := 1) (tgt := 111) hx hb rx5 c8 dX4_reckon_69 (by decide) rfl (by decide) ?_
          refine x_iload_n hx hb hl 3 rfl dX4_reckon_111 rfl ?_
          have q111 := (K41 ()).resolve_left (fun q => by omega)
          have R111 : (u9 < 1048576 ∧ x5 = 1 ∧ x6 = u9) ∨ ((1048576 ≤ u9 ∧ u9 < 1048583) ∧ x5 = 2 ∧ x6 = u9 - 1048576) := by have a := A41 () q111.1; have w := zom_k (B41 () q111.1); have y := zwm_k (s := s9) (B41 () q111.1); omega
          have U111 : i3_7 < 40 := by have a := A41 () q111.1; omega
          have B111 := B41 () q111.1
          refine x_bipush hx hb dX4_reckon_112 (by decide) ?_
          refine x_icmp_ge (tgt := 123) hx hb ri3_7 (by decide) dX4_reckon_114 (by decide) (fun c28 => False.elim (by omega)) (fun c28 => ?_)
          refine x_iload_n hx hb hl 3 rfl dX4_reckon_117 rfl ?_
          refine x_iconst hx hb dX4_reckon_118 ?_
          refine x_iadd hx hb dX4_reckon_119 ?_
          refine lv_goto (tgt := 124) hx hb dX4_reckon_120 (by decide) ?_
          refine x_nm (fun x29 ex29 => ?_)
          refine lv_istore_n (lv' := [(3, .int (xJ x29)), (8, .int (xJ t0_65)), (0, .ref (h0 + 109)), (2, .int (xJ (i2_7 + 1))), (4, .int (xJ i4_7)), (5, .int (xJ x5)), (6, .int (xJ x6)), (7, .int (xJ x7))]) hx hb dX4_reckon_124 rfl hl (by decide) rfl (fun ls hl => ?_)
          refine x_aload_n hx hb hl 2 rfl dX4_reckon_125 rfl ?_
          refine x_get (j := 8) (v := .ref (h0 + 116)) hx hb hown hT hE hW cls_X4 (Or.inl (by decide)) (so_109 h0 g _) (by decide) rfl wq265 dX4_reckon_126 ?_
          refine x_iload_n hx hb hl 0 rfl dX4_reckon_129 rfl ?_
          refine x_iload hx hb hl 5 rfl dX4_reckon_130 ?_
          refine x_iconst hx hb dX4_reckon_132 ?_
          refine x_icmp_ne (tgt := 141) hx hb rx5 (by decide) dX4_reckon_133 (by decide) (fun c30 => ?_) (fun c30 => ?_)
          · skip
            refine x_aload_n hx hb hl 2 rfl dX4_reckon_141 rfl ?_
            refine x_iload hx hb hl 6 rfl dX4_reckon_142 ?_
            refine x_goi (x_runV (As := [.int (xJ x6)]) hx hb hml hown hT hE hW hl.1 (Or.inl (by decide)) (so_109 h0 g _) rfl cf_X4_toldAt wq810 wq44 wq808 (c_X4_toldAtV l D g T h0 s_7 hW.2.1 x6 rx6 (by omega) q7_0) ⟨rfl, rfl, ⟨by decide, by decide⟩, ⟨by decide, by decide⟩⟩ rfl rfl (Nat.le_of_ble_eq_true rfl) dX4_reckon_144) hW (fun x31 s32 H locs rx31 hp33 hW => ?_)
            obtain ⟨es32, hp33⟩ := hp33
            subst es32
            have ghp33 := hp33
            have H144 := ghp33
            refine x_iast hx hb hE hW (by decide) (fun σ => sa_116 h0 g σ) (by omega) (by decide) rx31 dX4_reckon_147 (fun H locs s34 es34 hW => ?_)
            have q35 : IC s34 := by rw [es34]; exact IC_o (by decide) q7_0
            have q36 : s34 1 1 = s0 1 1 := (show s34 1 1 = s_7 1 1 from by rw [es34, xU_k _ _ _ (by first | decide | omega)]).trans q7_1
            have hF37 := hF_7.put es34 (by omega)
            have X147 : zl1 (s34 116) x29 = x31 :: zl1 (s_7 116) i3_7 := by rw [es34, xU_xud, show x29 = x29 from by omega]; exact zl1_push _ (by omega) (by omega)
            refine lv_goto (tgt := 249) hx hb dX4_reckon_148 (by decide) ?_
            refine x_iinc (lv' := [(4, .int (xJ (i4_7 + 1))), (3, .int (xJ x29)), (8, .int (xJ t0_65)), (0, .ref (h0 + 109)), (2, .int (xJ (i2_7 + 1))), (5, .int (xJ x5)), (6, .int (xJ x6)), (7, .int (xJ x7))]) hx hb hl 4 rfl dX4_reckon_249 (by decide) rfl (fun ls hl => ?_)
            refine lv_goto (tgt := 7) hx hb dX4_reckon_252 (by decide) ?_
            exact ih7 (i2_7 + 1) x29 (i4_7 + 1) s34 H locs ls (by omega) (by omega) (by omega) hF37 q35 q36 (by omega) (by omega) (by
                first
                  | exact (by
                      have gg := H144
                      rw [X147]
                      exact v7_2.let_ hg q111.1 (by rw [← eu9]; omega) (by rw [H144, v7_3.2.2, ← eu9]; congr 1; omega) (by omega))
                  | exact (by
                      have gg := X147
                      rw [X147]
                      exact v7_2.num hg q111.1 (by rw [← eu9]; omega) (by rw [← eu9]; omega) (by omega))
                  | exact (by
                      have gg := X166
                      rw [X166]
                      refine v7_2.not hg q151.1 (by rw [← eu9]; omega) ?_ (by rw [e151]; rfl) (by omega)
                      rw [e151]
                      have tp2 := P151
                      show _ = 1 - x7
                      omega)
                  | exact (by
                      have gg := X248
                      have e1 := L51 () (by omega)
                      have e2 := zl1_pop (s_7 116) (n := i3_7 - 1) (by omega)
                      rw [show i3_7 - 1 - 1 = i3_7 - 2 from by omega, show i3_7 - 1 = x29 from by omega, ← V242] at e2
                      rw [show i3_7 - 1 = x29 from by omega, e2] at e1
                      have hh : zhd (zl1 (s_7 116) i3_7) = x7 := by rw [e1]; rfl
                      rw [X248]
                      exact v7_2.op hg q206.1 (by rw [← eu9]; omega) (by rw [← eu9, hh]; have z := Z206 (); omega) e1 (by rw [← eu9]; exact zom_J (by omega) (by have z := Z206 (); omega) (by rw [← q206.2.1]; exact H245)) (by omega))
                  | exact (by
                      have gg := F170
                      have hh : zhd (zl1 (s_7 116) i3_7) = x7 := by rw [e170]; rfl
                      rw [show x29 = i3_7 - 1 from by omega]
                      exact v7_2.stay hg q170.1 (by rw [← eu9, hh]; omega) (by rw [hh]; exact e170) (by omega))
                  | exact (by
                      have gg := F170
                      have hh : zhd (zl1 (s_7 116) i3_7) = x7 := by rw [e170]; rfl
                      exact (v7_2.jmp hg q170.1 (by rw [← eu9, hh]; omega) (by rw [← eu9]; omega)).1)
                  | (exfalso; omega)) (by first | exact ⟨rfl, rfl, rfl⟩ | exact v7_3 | (rw [es34, xU_k _ _ _ (by first | decide | omega), xU_k _ _ _ (by first | decide | omega), xU_k _ _ _ (by first | decide | omega)]; exact v7_3)) (by have hm := hm_7 (); omega) hW (lv_sub hl [3, 4, 1, 0] rfl)
          refine x_iload hx hb hl 6 rfl dX4_reckon_136 ?_
          refine lv_goto (tgt := 147) hx hb dX4_reckon_138 (by decide) ?_
          refine x_iast hx hb hE hW (by decide) (fun σ => sa_116 h0 g σ) (by omega) (by decide) rx6 dX4_reckon_147 (fun H locs s38 es38 hW => ?_)
          have q39 : IC s38 := by rw [es38]; exact IC_o (by decide) q7_0
          have q40 : s38 1 1 = s0 1 1 := (show s38 1 1 = s_7 1 1 from by rw [es38, xU_k _ _ _ (by first | decide | omega)]).trans q7_1
          have hF41 := hF_7.put es38 (by omega)
          have X147 : zl1 (s38 116) x29 = x6 :: zl1 (s_7 116) i3_7 := by rw [es38, xU_xud, show x29 = x29 from by omega]; exact zl1_push _ (by omega) (by omega)
          refine lv_goto (tgt := 249) hx hb dX4_reckon_148 (by decide) ?_
          refine x_iinc (lv' := [(4, .int (xJ (i4_7 + 1))), (3, .int (xJ x29)), (8, .int (xJ t0_65)), (0, .ref (h0 + 109)), (2, .int (xJ (i2_7 + 1))), (5, .int (xJ x5)), (6, .int (xJ x6)), (7, .int (xJ x7))]) hx hb hl 4 rfl dX4_reckon_249 (by decide) rfl (fun ls hl => ?_)
          refine lv_goto (tgt := 7) hx hb dX4_reckon_252 (by decide) ?_
          exact ih7 (i2_7 + 1) x29 (i4_7 + 1) s38 H locs ls (by omega) (by omega) (by omega) hF41 q39 q40 (by omega) (by omega) (by
            first
              | exact (by
                  have gg := H144
                  rw [X147]
                  exact v7_2.let_ hg q111.1 (by rw [← eu9]; omega) (by rw [H144, v7_3.2.2, ← eu9]; congr 1; omega) (by omega))
              | exact (by
                  have gg := X147
                  rw [X147]
                  exact v7_2.num hg q111.1 (by rw [← eu9]; omega) (by rw [← eu9]; omega) (by omega))
              | exact (by
                  have gg := X166
                  rw [X166]
                  refine v7_2.not hg q151.1 (by rw [← eu9]; omega) ?_ (by rw [e151]; rfl) (by omega)
                  rw [e151]
                  have tp2 := P151
                  show _ = 1 - x7
                  omega)
              | exact (by
                  have gg := X248
                  have e1 := L51 () (by omega)
                  have e2 := zl1_pop (s_7 116) (n := i3_7 - 1) (by omega)
                  rw [show i3_7 - 1 - 1 = i3_7 - 2 from by omega, show i3_7 - 1 = x29 from by omega, ← V242] at e2
                  rw [show i3_7 - 1 = x29 from by omega, e2] at e1
                  have hh : zhd (zl1 (s_7 116) i3_7) = x7 := by rw [e1]; rfl
                  rw [X248]
                  exact v7_2.op hg q206.1 (by rw [← eu9]; omega) (by rw [← eu9, hh]; have z := Z206 (); omega) e1 (by rw [← eu9]; exact zom_J (by omega) (by have z := Z206 (); omega) (by rw [← q206.2.1]; exact H245)) (by omega))
              | exact (by
                  have gg := F170
                  have hh : zhd (zl1 (s_7 116) i3_7) = x7 := by rw [e170]; rfl
                  rw [show x29 = i3_7 - 1 from by omega]
                  exact v7_2.stay hg q170.1 (by rw [← eu9, hh]; omega) (by rw [hh]; exact e170) (by omega))
              | exact (by
                  have gg := F170
                  have hh : zhd (zl1 (s_7 116) i3_7) = x7 := by rw [e170]; rfl
                  exact (v7_2.jmp hg q170.1 (by rw [← eu9, hh]; omega) (by rw [← eu9]; omega)).1)
              | (exfalso; omega)) (by first | exact ⟨rfl, rfl, rfl⟩ | exact v7_3 | (rw [es38, xU_k _ _ _ (by first | decide | omega), xU_k _ _ _ (by first | decide | omega), xU_k _ _ _ (by first | decide | omega)]; exact v7_3)) (by have hm := hm_7 (); omega) hW (lv_sub hl [3, 4, 1, 0] rfl)
        · refine x_tabIn (v := 2) (tgt := 111) hx hb rx5 c8 dX4_reckon_69 (by decide) rfl (by decide) ?_
          refine x_iload_n hx hb hl 3 rfl dX4_reckon_111 rfl ?_
          have q111 := (K41 ()).resolve_left (fun q => by omega)
          have R111 : (u9 < 1048576 ∧ x5 = 1 ∧ x6 = u9) ∨ ((1048576 ≤ u9 ∧ u9 < 1048583) ∧ x5 = 2 ∧ x6 = u9 - 1048576) := by have a := A41 () q111.1; have w := zom_k (B41 () q111.1); have y := zwm_k (s := s9) (B41 () q111.1); omega
          have U111 : i3_7 < 40 := by have a := A41 () q111.1; omega
          have B111 := B41 () q111.1
          refine x_bipush hx hb dX4_reckon_112 (by decide) ?_
          refine x_icmp_ge (tgt := 123) hx hb ri3_7 (by decide) dX4_reckon_114 (by decide) (fun c42 => False.elim (by omega)) (fun c42 => ?_)
          refine x_iload_n hx hb hl 3 rfl dX4_reckon_117 rfl ?_
          refine x_iconst hx hb dX4_reckon_118 ?_
          refine x_iadd hx hb dX4_reckon_119 ?_
          refine lv_goto (tgt := 124) hx hb dX4_reckon_120 (by decide) ?_
          refine x_nm (fun x43 ex43 => ?_)
          refine lv_istore_n (lv' := [(3, .int (xJ x43)), (8, .int (xJ t0_65)), (0, .ref (h0 + 109)), (2, .int (xJ (i2_7 + 1))), (4, .int (xJ i4_7)), (5, .int (xJ x5)), (6, .int (xJ x6)), (7, .int (xJ x7))]) hx hb dX4_reckon_124 rfl hl (by decide) rfl (fun ls hl => ?_)
          refine x_aload_n hx hb hl 2 rfl dX4_reckon_125 rfl ?_
          refine x_get (j := 8) (v := .ref (h0 + 116)) hx hb hown hT hE hW cls_X4 (Or.inl (by decide)) (so_109 h0 g _) (by decide) rfl wq265 dX4_reckon_126 ?_
          refine x_iload_n hx hb hl 0 rfl dX4_reckon_129 rfl ?_
          refine x_iload hx hb hl 5 rfl dX4_reckon_130 ?_
          refine x_iconst hx hb dX4_reckon_132 ?_
          refine x_icmp_ne (tgt := 141) hx hb rx5 (by decide) dX4_reckon_133 (by decide) (fun c44 => ?_) (fun c44 => ?_)
          · skip
            refine x_aload_n hx hb hl 2 rfl dX4_reckon_141 rfl ?_
            refine x_iload hx hb hl 6 rfl dX4_reckon_142 ?_
            refine x_goi (x_runV (As := [.int (xJ x6)]) hx hb hml hown hT hE hW hl.1 (Or.inl (by decide)) (so_109 h0 g _) rfl cf_X4_toldAt wq810 wq44 wq808 (c_X4_toldAtV l D g T h0 s_7 hW.2.1 x6 rx6 (by omega) q7_0) ⟨rfl, rfl, ⟨by decide, by decide⟩, ⟨by decide, by decide⟩⟩ rfl rfl (Nat.le_of_ble_eq_true rfl) dX4_reckon_144) hW (fun x45 s46 H locs rx45 hp47 hW => ?_)
            obtain ⟨es46, hp47⟩ := hp47
            subst es46
            have ghp47 := hp47
            have H144 := ghp47
            refine x_iast hx hb hE hW (by decide) (fun σ => sa_116 h0 g σ) (by omega) (by decide) rx45 dX4_reckon_147 (fun H locs s48 es48 hW => ?_)
            have q49 : IC s48 := by rw [es48]; exact IC_o (by decide) q7_0
            have q50 : s48 1 1 = s0 1 1 := (show s48 1 1 = s_7 1 1 from by rw [es48, xU_k _ _ _ (by first | decide | omega)]).trans q7_1
            have hF51 := hF_7.put es48 (by omega)
            have X147 : zl1 (s48 116) x43 = x45 :: zl1 (s_7 116) i3_7 := by rw [es48, xU_xud, show x43 = x43 from by omega]; exact zl1_push _ (by omega) (by omega)
            refine lv_goto (tgt := 249) hx hb dX4_reckon_148 (by decide) ?_
            refine x_iinc (lv' := [(4, .int (xJ (i4_7 + 1))), (3, .int (xJ x43)), (8, .int (xJ t0_65)), (0, .ref (h0 + 109)), (2, .int (xJ (i2_7 + 1))), (5, .int (xJ x5)), (6, .int (xJ x6)), (7, .int (xJ x7))]) hx hb hl 4 rfl dX4_reckon_249 (by decide) rfl (fun ls hl => ?_)
            refine lv_goto (tgt := 7) hx hb dX4_reckon_252 (by decide) ?_
            exact ih7 (i2_7 + 1) x43 (i4_7 + 1) s48 H locs ls (by omega) (by omega) (by omega) hF51 q49 q50 (by omega) (by omega) (by
                first
                  | exact (by
                      have gg := H144
                      rw [X147]
                      exact v7_2.let_ hg q111.1 (by rw [← eu9]; omega) (by rw [H144, v7_3.2.2, ← eu9]; congr 1; omega) (by omega))
                  | exact (by
                      have gg := X147
                      rw [X147]
                      exact v7_2.num hg q111.1 (by rw [← eu9]; omega) (by rw [← eu9]; omega) (by omega))
                  | exact (by
                      have gg := X166
                      rw [X166]
                      refine v7_2.not hg q151.1 (by rw [← eu9]; omega) ?_ (by rw [e151]; rfl) (by omega)
                      rw [e151]
                      have tp2 := P151
                      show _ = 1 - x7
                      omega)
                  | exact (by
                      have gg := X248
                      have e1 := L51 () (by omega)
                      have e2 := zl1_pop (s_7 116) (n := i3_7 - 1) (by omega)
                      rw [show i3_7 - 1 - 1 = i3_7 - 2 from by omega, show i3_7 - 1 = x43 from by omega, ← V242] at e2
                      rw [show i3_7 - 1 = x43 from by omega, e2] at e1
                      have hh : zhd (zl1 (s_7 116) i3_7) = x7 := by rw [e1]; rfl
                      rw [X248]
                      exact v7_2.op hg q206.1 (by rw [← eu9]; omega) (by rw [← eu9, hh]; have z := Z206 (); omega) e1 (by rw [← eu9]; exact zom_J (by omega) (by have z := Z206 (); omega) (by rw [← q206.2.1]; exact H245)) (by omega))
                  | exact (by
                      have gg := F170
                      have hh : zhd (zl1 (s_7 116) i3_7) = x7 := by rw [e170]; rfl
                      rw [show x43 = i3_7 - 1 from by omega]
                      exact v7_2.stay hg q170.1 (by rw [← eu9, hh]; omega) (by rw [hh]; exact e170) (by omega))
                  | exact (by
                      have gg := F170
                      have hh : zhd (zl1 (s_7 116) i3_7) = x7 := by rw [e170]; rfl
                      exact (v7_2.jmp hg q170.1 (by rw [← eu9, hh]; omega) (by rw [← eu9]; omega)).1)
                  | (exfalso; omega)) (by first | exact ⟨rfl, rfl, rfl⟩ | exact v7_3 | (rw [es48, xU_k _ _ _ (by first | decide | omega), xU_k _ _ _ (by first | decide | omega), xU_k _ _ _ (by first | decide | omega)]; exact v7_3)) (by have hm := hm_7 (); omega) hW (lv_sub hl [3, 4, 1, 0] rfl)
          refine x_iload hx hb hl 6 rfl dX4_reckon_136 ?_
          refine lv_goto (tgt := 147) hx hb dX4_reckon_138 (by decide) ?_
          refine x_iast hx hb hE hW (by decide) (fun σ => sa_116 h0 g σ) (by omega) (by decide) rx6 dX4_reckon_147 (fun H locs s52 es52 hW => ?_)
          have q53 : IC s52 := by rw [es52]; exact IC_o (by decide) q7_0
          have q54 : s52 1 1 = s0 1 1 := (show s52 1 1 = s_7 1 1 from by rw [es52, xU_k _ _ _ (by first | decide | omega)]).trans q7_1
          have hF55 := hF_7.put es52 (by omega)
          have X147 : zl1 (s52 116) x43 = x6 :: zl1 (s_7 116) i3_7 := by rw [es52, xU_xud, show x43 = x43 from by omega]; exact zl1_push _ (by omega) (by omega)
          refine lv_goto (tgt := 249) hx hb dX4_reckon_148 (by decide) ?_
          refine x_iinc (lv' := [(4, .int (xJ (i4_7 + 1))), (3, .int (xJ x43)), (8, .int (xJ t0_65)), (0, .ref (h0 + 109)), (2, .int (xJ (i2_7 + 1))), (5, .int (xJ x5)), (6, .int (xJ x6)), (7, .int (xJ x7))]) hx hb hl 4 rfl dX4_reckon_249 (by decide) rfl (fun ls hl => ?_)
          refine lv_goto (tgt := 7) hx hb dX4_reckon_252 (by decide) ?_
          exact ih7 (i2_7 + 1) x43 (i4_7 + 1) s52 H locs ls (by omega) (by omega) (by omega) hF55 q53 q54 (by omega) (by omega) (by
            first
              | exact (by
                  have gg := H144
                  rw [X147]
                  exact v7_2.let_ hg q111.1 (by rw [← eu9]; omega) (by rw [H144, v7_3.2.2, ← eu9]; congr 1; omega) (by omega))
              | exact (by
                  have gg := X147
                  rw [X147]
                  exact v7_2.num hg q111.1 (by rw [← eu9]; omega) (by rw [← eu9]; omega) (by omega))
              | exact (by
                  have gg := X166
                  rw [X166]
                  refine v7_2.not hg q151.1 (by rw [← eu9]; omega) ?_ (by rw [e151]; rfl) (by omega)
                  rw [e151]
                  have tp2 := P151
                  show _ = 1 - x7
                  omega)
              | exact (by
                  have gg := X248
                  have e1 := L51 () (by omega)
                  have e2 := zl1_pop (s_7 116) (n := i3_7 - 1) (by omega)
                  rw [show i3_7 - 1 - 1 = i3_7 - 2 from by omega, show i3_7 - 1 = x43 from by omega, ← V242] at e2
                  rw [show i3_7 - 1 = x43 from by omega, e2] at e1
                  have hh : zhd (zl1 (s_7 116) i3_7) = x7 := by rw [e1]; rfl
                  rw [X248]
                  exact v7_2.op hg q206.1 (by rw [← eu9]; omega) (by rw [← eu9, hh]; have z := Z206 (); omega) e1 (by rw [← eu9]; exact zom_J (by omega) (by have z := Z206 (); omega) (by rw [← q206.2.1]; exact H245)) (by omega))
              | exact (by
                  have gg := F170
                  have hh : zhd (zl1 (s_7 116) i3_7) = x7 := by rw [e170]; rfl
                  rw [show x43 = i3_7 - 1 from by omega]
                  exact v7_2.stay hg q170.1 (by rw [← eu9, hh]; omega) (by rw [hh]; exact e170) (by omega))
              | exact (by
                  have gg := F170
                  have hh : zhd (zl1 (s_7 116) i3_7) = x7 := by rw [e170]; rfl
                  exact (v7_2.jmp hg q170.1 (by rw [← eu9, hh]; omega) (by rw [← eu9]; omega)).1)
              | (exfalso; omega)) (by first | exact ⟨rfl, rfl, rfl⟩ | exact v7_3 | (rw [es52, xU_k _ _ _ (by first | decide | omega), xU_k _ _ _ (by first | decide | omega), xU_k _ _ _ (by first | decide | omega)]; exact v7_3)) (by have hm := hm_7 (); omega) hW (lv_sub hl [3, 4, 1, 0] rfl)
        · refine x_tabIn (v := 3) (tgt := 151) hx hb rx5 c8 dX4_reckon_69 (by decide) rfl (by decide) ?_
          refine x_aload_n hx hb hl 1 rfl dX4_reckon_151 rfl ?_
          have q151 := (K41 ()).resolve_left (fun q => by omega)
          have R151 : 10485760 ≤ u9 ∧ u9 < 11534336 := by have w := zom_k (B41 () q151.1); omega
          have U151 : 1 ≤ i3_7 ∧ (zhd (zl1 (s_7 116) i3_7) = 0 ∨ zhd (zl1 (s_7 116) i3_7) = 1) := by
            have tp := T41 () q151.1 (by omega)
            rw [zl1_l _ (by omega)] at tp
            exact tp
          have e151 := L51 () U151.1
          have P151 : x7 = 0 ∨ x7 = 1 := by have z := U151.2; rw [e151] at z; exact z
          refine x_get (j := 8) (v := .ref (h0 + 116)) hx hb hown hT hE hW cls_X4 (Or.inl (by decide)) (so_109 h0 g _) (by decide) rfl wq265 dX4_reckon_152 ?_
          refine x_iload_n hx hb hl 3 rfl dX4_reckon_155 rfl ?_
          refine x_iload hx hb hl 7 rfl dX4_reckon_156 ?_
          refine x_if_ne (tgt := 165) hx hb rx7 dX4_reckon_158 (by decide) (fun c56 => ?_) (fun c56 => ?_)
          · skip
            refine x_iconst hx hb dX4_reckon_165 ?_
            refine x_iast hx hb hE hW (by decide) (fun σ => sa_116 h0 g σ) (by omega) (by decide) (by decide) dX4_reckon_166 (fun H locs s57 es57 hW => ?_)
            have q58 : IC s57 := by rw [es57]; exact IC_o (by decide) q7_0
            have q59 : s57 1 1 = s0 1 1 := (show s57 1 1 = s_7 1 1 from by rw [es57, xU_k _ _ _ (by first | decide | omega)]).trans q7_1
            have hF60 := hF_7.put es57 (by omega)
            have X166 : zl1 (s57 116) i3_7 = 0 :: zl1 (s_7 116) (i3_7 - 1) := by rw [es57, xU_xud]; exact zl1_put _ (by omega) (by omega)
            refine lv_goto (tgt := 249) hx hb dX4_reckon_167 (by decide) ?_
            refine x_iinc (lv' := [(4, .int (xJ (i4_7 + 1))), (8, .int (xJ t0_65)), (0, .ref (h0 + 109)), (2, .int (xJ (i2_7 + 1))), (3, .int (xJ i3_7)), (5, .int (xJ x5)), (6, .int (xJ x6)), (7, .int (xJ x7))]) hx hb hl 4 rfl dX4_reckon_249 (by decide) rfl (fun ls hl => ?_)
            refine lv_goto (tgt := 7) hx hb dX4_reckon_252 (by decide) ?_
            exact ih7 (i2_7 + 1) i3_7 (i4_7 + 1) s57 H locs ls (by omega) ri3_7 (by omega) hF60 q58 q59 (by omega) (by omega) (by
                first
                  | exact (by
                      have gg := H144
                      rw [X147]
                      exact v7_2.let_ hg q111.1 (by rw [← eu9]; omega) (by rw [H144, v7_3.2.2, ← eu9]; congr 1; omega) (by omega))
                  | exact (by
                      have gg := X147
                      rw [X147]
                      exact v7_2.num hg q111.1 (by rw [← eu9]; omega) (by rw [← eu9]; omega) (by omega))
                  | exact (by
                      have gg := X166
                      rw [X166]
                      refine v7_2.not hg q151.1 (by rw [← eu9]; omega) ?_ (by rw [e151]; rfl) (by omega)
                      rw [e151]
                      have tp2 := P151
                      show _ = 1 - x7
                      omega)
                  | exact (by
                      have gg := X248
                      have e1 := L51 () (by omega)
                      have e2 := zl1_pop (s_7 116) (n := i3_7 - 1) (by omega)
                      rw [show i3_7 - 1 - 1 = i3_7 - 2 from by omega, show i3_7 - 1 = i3_7 from by omega, ← V242] at e2
                      rw [show i3_7 - 1 = i3_7 from by omega, e2] at e1
                      have hh : zhd (zl1 (s_7 116) i3_7) = x7 := by rw [e1]; rfl
                      rw [X248]
                      exact v7_2.op hg q206.1 (by rw [← eu9]; omega) (by rw [← eu9, hh]; have z := Z206 (); omega) e1 (by rw [← eu9]; exact zom_J (by omega) (by have z := Z206 (); omega) (by rw [← q206.2.1]; exact H245)) (by omega))
                  | exact (by
                      have gg := F170
                      have hh : zhd (zl1 (s_7 116) i3_7) = x7 := by rw [e170]; rfl
                      rw [show i3_7 = i3_7 - 1 from by omega]
                      exact v7_2.stay hg q170.1 (by rw [← eu9, hh]; omega) (by rw [hh]; exact e170) (by omega))
                  | exact (by
                      have gg := F170
                      have hh : zhd (zl1 (s_7 116) i3_7) = x7 := by rw [e170]; rfl
                      exact (v7_2.jmp hg q170.1 (by rw [← eu9, hh]; omega) (by rw [← eu9]; omega)).1)
                  | (exfalso; omega)) (by first | exact ⟨rfl, rfl, rfl⟩ | exact v7_3 | (rw [es57, xU_k _ _ _ (by first | decide | omega), xU_k _ _ _ (by first | decide | omega), xU_k _ _ _ (by first | decide | omega)]; exact v7_3)) (by have hm := hm_7 (); omega) hW (lv_sub hl [2, 3, 4, 0] rfl)
          refine x_iconst hx hb dX4_reckon_161 ?_
          refine lv_goto (tgt := 166) hx hb dX4_reckon_162 (by decide) ?_
          refine x_iast hx hb hE hW (by decide) (fun σ => sa_116 h0 g σ) (by omega) (by decide) (by decide) dX4_reckon_166 (fun H locs s61 es61 hW => ?_)
          have q62 : IC s61 := by rw [es61]; exact IC_o (by decide) q7_0
          have q63 : s61 1 1 = s0 1 1 := (show s61 1 1 = s_7 1 1 from by rw [es61, xU_k _ _ _ (by first | decide | omega)]).trans q7_1
          have hF64 := hF_7.put es61 (by omega)
          have X166 : zl1 (s61 116) i3_7 = 1 :: zl1 (s_7 116) (i3_7 - 1) := by rw [es61, xU_xud]; exact zl1_put _ (by omega) (by omega)
          refine lv_goto (tgt := 249) hx hb dX4_reckon_167 (by decide) ?_
          refine x_iinc (lv' := [(4, .int (xJ (i4_7 + 1))), (8, .int (xJ t0_65)), (0, .ref (h0 + 109)), (2, .int (xJ (i2_7 + 1))), (3, .int (xJ i3_7)), (5, .int (xJ x5)), (6, .int (xJ x6)), (7, .int (xJ x7))]) hx hb hl 4 rfl dX4_reckon_249 (by decide) rfl (fun ls hl => ?_)
          refine lv_goto (tgt := 7) hx hb dX4_reckon_252 (by decide) ?_
          exact ih7 (i2_7 + 1) i3_7 (i4_7 + 1) s61 H locs ls (by omega) ri3_7 (by omega) hF64 q62 q63 (by omega) (by omega) (by
            first
              | exact (by
                  have gg := H144
                  rw [X147]
                  exact v7_2.let_ hg q111.1 (by rw [← eu9]; omega) (by rw [H144, v7_3.2.2, ← eu9]; congr 1; omega) (by omega))
              | exact (by
                  have gg := X147
                  rw [X147]
                  exact v7_2.num hg q111.1 (by rw [← eu9]; omega) (by rw [← eu9]; omega) (by omega))
              | exact (by
                  have gg := X166
                  rw [X166]
                  refine v7_2.not hg q151.1 (by rw [← eu9]; omega) ?_ (by rw [e151]; rfl) (by omega)
                  rw [e151]
                  have tp2 := P151
                  show _ = 1 - x7
                  omega)
              | exact (by
                  have gg := X248
                  have e1 := L51 () (by omega)
                  have e2 := zl1_pop (s_7 116) (n := i3_7 - 1) (by omega)
                  rw [show i3_7 - 1 - 1 = i3_7 - 2 from by omega, show i3_7 - 1 = i3_7 from by omega, ← V242] at e2
                  rw [show i3_7 - 1 = i3_7 from by omega, e2] at e1
                  have hh : zhd (zl1 (s_7 116) i3_7) = x7 := by rw [e1]; rfl
                  rw [X248]
                  exact v7_2.op hg q206.1 (by rw [← eu9]; omega) (by rw [← eu9, hh]; have z := Z206 (); omega) e1 (by rw [← eu9]; exact zom_J (by omega) (by have z := Z206 (); omega) (by rw [← q206.2.1]; exact H245)) (by omega))
              | exact (by
                  have gg := F170
                  have hh : zhd (zl1 (s_7 116) i3_7) = x7 := by rw [e170]; rfl
                  rw [show i3_7 = i3_7 - 1 from by omega]
                  exact v7_2.stay hg q170.1 (by rw [← eu9, hh]; omega) (by rw [hh]; exact e170) (by omega))
              | exact (by
                  have gg := F170
                  have hh : zhd (zl1 (s_7 116) i3_7) = x7 := by rw [e170]; rfl
                  exact (v7_2.jmp hg q170.1 (by rw [← eu9, hh]; omega) (by rw [← eu9]; omega)).1)
              | (exfalso; omega)) (by first | exact ⟨rfl, rfl, rfl⟩ | exact v7_3 | (rw [es61, xU_k _ _ _ (by first | decide | omega), xU_k _ _ _ (by first | decide | omega), xU_k _ _ _ (by first | decide | omega)]; exact v7_3)) (by have hm := hm_7 (); omega) hW (lv_sub hl [2, 3, 4, 0] rfl)
        · refine x_tabIn (v := 4) (tgt := 170) hx hb rx5 c8 dX4_reckon_69 (by decide) rfl (by decide) ?_
          refine x_iload hx hb hl 7 rfl dX4_reckon_170 ?_
          have q170 := (K41 ()).resolve_left (fun q => by omega)
          have R170 : (11534336 ≤ u9 ∧ u9 < 12582912 ∧ x5 = 4) ∨ (12582912 ≤ u9 ∧ u9 < 13631488 ∧ x5 = 5) := by have w := zom_k (B41 () q170.1); have b := B41 () q170.1; omega
          have U170 : 1 ≤ i3_7 ∧ (zhd (zl1 (s_7 116) i3_7) = 0 ∨ zhd (zl1 (s_7 116) i3_7) = 1) := by
            have tp := T41 () q170.1 (by omega)
            rw [zl1_l _ (by omega)] at tp
            exact tp
          have e170 := L51 () U170.1
          have P170 : x7 = 0 ∨ x7 = 1 := by have z := U170.2; rw [e170] at z; exact z
          have F170 : x6 = u9 % 1048576 + s9 ∧ i2_7 < x6 ∧ x6 ≤ t9 + s9 := by have a := A41 () q170.1; have y := zwm_k (s := s9) (B41 () q170.1); omega
          refine x_if_eq (tgt := 179) hx hb rx7 dX4_reckon_172 (by decide) (fun c65 => ?_) (fun c65 => ?_)
          · skip
            refine x_iconst hx hb dX4_reckon_179 ?_
            refine x_iload hx hb hl 5 rfl dX4_reckon_180 ?_
            refine x_iconst hx hb dX4_reckon_182 ?_
            refine x_icmp_ne (tgt := 190) hx hb rx5 (by decide) dX4_reckon_183 (by decide) (fun c66 => ?_) (fun c66 => ?_)
            · skip
              refine x_iconst hx hb dX4_reckon_190 ?_
              refine x_icmp_ne (tgt := 200) hx hb (by decide) (by decide) dX4_reckon_191 (by decide) (fun c67 => False.elim (by omega)) (fun c67 => ?_)
              refine x_iload hx hb hl 6 rfl dX4_reckon_194 ?_
              refine lv_istore_n (lv' := [(2, .int (xJ x6)), (8, .int (xJ t0_65)), (0, .ref (h0 + 109)), (3, .int (xJ i3_7)), (4, .int (xJ i4_7)), (5, .int (xJ x5)), (6, .int (xJ x6)), (7, .int (xJ x7))]) hx hb dX4_reckon_196 rfl hl (by decide) rfl (fun ls hl => ?_)
              refine lv_goto (tgt := 249) hx hb dX4_reckon_197 (by decide) ?_
              refine x_iinc (lv' := [(4, .int (xJ (i4_7 + 1))), (2, .int (xJ x6)), (8, .int (xJ t0_65)), (0, .ref (h0 + 109)), (3, .int (xJ i3_7)), (5, .int (xJ x5)), (6, .int (xJ x6)), (7, .int (xJ x7))]) hx hb hl 4 rfl dX4_reckon_249 (by decide) rfl (fun ls hl => ?_)
              refine lv_goto (tgt := 7) hx hb dX4_reckon_252 (by decide) ?_
              exact ih7 x6 i3_7 (i4_7 + 1) s_7 H locs ls rx6 ri3_7 (by omega) hF_7 q7_0 q7_1 (by omega) (by omega) (by
                  first
                    | exact (by
                        have gg := H144
                        rw [X147]
                        exact v7_2.let_ hg q111.1 (by rw [← eu9]; omega) (by rw [H144, v7_3.2.2, ← eu9]; congr 1; omega) (by omega))
                    | exact (by
                        have gg := X147
                        rw [X147]
                        exact v7_2.num hg q111.1 (by rw [← eu9]; omega) (by rw [← eu9]; omega) (by omega))
                    | exact (by
                        have gg := X166
                        rw [X166]
                        refine v7_2.not hg q151.1 (by rw [← eu9]; omega) ?_ (by rw [e151]; rfl) (by omega)
                        rw [e151]
                        have tp2 := P151
                        show _ = 1 - x7
                        omega)
                    | exact (by
                        have gg := X248
                        have e1 := L51 () (by omega)
                        have e2 := zl1_pop (s_7 116) (n := i3_7 - 1) (by omega)
                        rw [show i3_7 - 1 - 1 = i3_7 - 2 from by omega, show i3_7 - 1 = i3_7 from by omega, ← V242] at e2
                        rw [show i3_7 - 1 = i3_7 from by omega, e2] at e1
                        have hh : zhd (zl1 (s_7 116) i3_7) = x7 := by rw [e1]; rfl
                        rw [X248]
                        exact v7_2.op hg q206.1 (by rw [← eu9]; omega) (by rw [← eu9, hh]; have z := Z206 (); omega) e1 (by rw [← eu9]; exact zom_J (by omega) (by have z := Z206 (); omega) (by rw [← q206.2.1]; exact H245)) (by omega))
                    | exact (by
                        have gg := F170
                        have hh : zhd (zl1 (s_7 116) i3_7) = x7 := by rw [e170]; rfl
                        rw [show i3_7 = i3_7 - 1 from by omega]
                        exact v7_2.stay hg q170.1 (by rw [← eu9, hh]; omega) (by rw [hh]; exact e170) (by omega))
                    | exact (by
                        have gg := F170
                        have hh : zhd (zl1 (s_7 116) i3_7) = x7 := by rw [e170]; rfl
                        exact (v7_2.jmp hg q170.1 (by rw [← eu9, hh]; omega) (by rw [← eu9]; omega)).1)
                    | (exfalso; omega)) (by first | exact ⟨rfl, rfl, rfl⟩ | exact v7_3 | (rw [es_7, xU_k _ _ _ (by first | decide | omega), xU_k _ _ _ (by first | decide | omega), xU_k _ _ _ (by first | decide | omega)]; exact v7_3)) (by have hm := hm_7 (); omega) hW (lv_sub hl [3, 1, 4, 0] rfl)
            refine x_iconst hx hb dX4_reckon_186 ?_
            refine lv_goto (tgt := 191) hx hb dX4_reckon_187 (by decide) ?_
            refine x_icmp_ne (tgt := 200) hx hb (by decide) (by decide) dX4_reckon_191 (by decide) (fun c68 => ?_) (fun c68 => False.elim (by omega))
            refine x_iload hx hb hl 0 rfl dX4_reckon_200 ?_
            refine lv_istore_n (lv' := [(3, .int (xJ t0_65)), (8, .int (xJ t0_65)), (0, .ref (h0 + 109)), (2, .int (xJ (i2_7 + 1))), (4, .int (xJ i4_7)), (5, .int (xJ x5)), (6, .int (xJ x6)), (7, .int (xJ x7))]) hx hb dX4_reckon_202 rfl hl (by decide) rfl (fun ls hl => ?_)
            refine lv_goto (tgt := 249) hx hb dX4_reckon_203 (by decide) ?_
            refine x_iinc (lv' := [(4, .int (xJ (i4_7 + 1))), (3, .int (xJ t0_65)), (8, .int (xJ t0_65)), (0, .ref (h0 + 109)), (2, .int (xJ (i2_7 + 1))), (5, .int (xJ x5)), (6, .int (xJ x6)), (7, .int (xJ x7))]) hx hb hl 4 rfl dX4_reckon_249 (by decide) rfl (fun ls hl => ?_)
            refine lv_goto (tgt := 7) hx hb dX4_reckon_252 (by decide) ?_
            exact ih7 (i2_7 + 1) t0_65 (i4_7 + 1) s_7 H locs ls (by omega) rt0_65 (by omega) hF_7 q7_0 q7_1 (by omega) (by omega) (by
                first
                  | exact (by
                      have gg := H144
                      rw [X147]
                      exact v7_2.let_ hg q111.1 (by rw [← eu9]; omega) (by rw [H144, v7_3.2.2, ← eu9]; congr 1; omega) (by omega))
                  | exact (by
                      have gg := X147
                      rw [X147]
                      exact v7_2.num hg q111.1 (by rw [← eu9]; omega) (by rw [← eu9]; omega) (by omega))
                  | exact (by
                      have gg := X166
                      rw [X166]
                      refine v7_2.not hg q151.1 (by rw [← eu9]; omega) ?_ (by rw [e151]; rfl) (by omega)
                      rw [e151]
                      have tp2 := P151
                      show _ = 1 - x7
                      omega)
                  | exact (by
                      have gg := X248
                      have e1 := L51 () (by omega)
                      have e2 := zl1_pop (s_7 116) (n := i3_7 - 1) (by omega)
                      rw [show i3_7 - 1 - 1 = i3_7 - 2 from by omega, show i3_7 - 1 = t0_65 from by omega, ← V242] at e2
                      rw [show i3_7 - 1 = t0_65 from by omega, e2] at e1
                      have hh : zhd (zl1 (s_7 116) i3_7) = x7 := by rw [e1]; rfl
                      rw [X248]
                      exact v7_2.op hg q206.1 (by rw [← eu9]; omega) (by rw [← eu9, hh]; have z := Z206 (); omega) e1 (by rw [← eu9]; exact zom_J (by omega) (by have z := Z206 (); omega) (by rw [← q206.2.1]; exact H245)) (by omega))
                  | exact (by
                      have gg := F170
                      have hh : zhd (zl1 (s_7 116) i3_7) = x7 := by rw [e170]; rfl
                      rw [show t0_65 = i3_7 - 1 from by omega]
                      exact v7_2.stay hg q170.1 (by rw [← eu9, hh]; omega) (by rw [hh]; exact e170) (by omega))
                  | exact (by
                      have gg := F170
                      have hh : zhd (zl1 (s_7 116) i3_7) = x7 := by rw [e170]; rfl
                      exact (v7_2.jmp hg q170.1 (by rw [← eu9, hh]; omega) (by rw [← eu9]; omega)).1)
                  | (exfalso; omega)) (by first | exact ⟨rfl, rfl, rfl⟩ | exact v7_3 | (rw [es_7, xU_k _ _ _ (by first | decide | omega), xU_k _ _ _ (by first | decide | omega), xU_k _ _ _ (by first | decide | omega)]; exact v7_3)) (by have hm := hm_7 (); omega) hW (lv_sub hl [3, 4, 1, 0] rfl)
          refine x_iconst hx hb dX4_reckon_175 ?_
          refine lv_goto (tgt := 180) hx hb dX4_reckon_176 (by decide) ?_
          refine x_iload hx hb hl 5 rfl dX4_reckon_180 ?_
          refine x_iconst hx hb dX4_reckon_182 ?_
          refine x_icmp_ne (tgt := 190) hx hb rx5 (by decide) dX4_reckon_183 (by decide) (fun c69 => ?_) (fun c69 => ?_)
          · skip
            refine x_iconst hx hb dX4_reckon_190 ?_
            refine x_icmp_ne (tgt := 200) hx hb (by decide) (by decide) dX4_reckon_191 (by decide) (fun c70 => ?_) (fun c70 => False.elim (by omega))
            refine x_iload hx hb hl 0 rfl dX4_reckon_200 ?_
            refine lv_istore_n (lv' := [(3, .int (xJ t0_65)), (8, .int (xJ t0_65)), (0, .ref (h0 + 109)), (2, .int (xJ (i2_7 + 1))), (4, .int (xJ i4_7)), (5, .int (xJ x5)), (6, .int (xJ x6)), (7, .int (xJ x7))]) hx hb dX4_reckon_202 rfl hl (by decide) rfl (fun ls hl => ?_)
            refine lv_goto (tgt := 249) hx hb dX4_reckon_203 (by decide) ?_
            refine x_iinc (lv' := [(4, .int (xJ (i4_7 + 1))), (3, .int (xJ t0_65)), (8, .int (xJ t0_65)), (0, .ref (h0 + 109)), (2, .int (xJ (i2_7 + 1))), (5, .int (xJ x5)), (6, .int (xJ x6)), (7, .int (xJ x7))]) hx hb hl 4 rfl dX4_reckon_249 (by decide) rfl (fun ls hl => ?_)
            refine lv_goto (tgt := 7) hx hb dX4_reckon_252 (by decide) ?_
            exact ih7 (i2_7 + 1) t0_65 (i4_7 + 1) s_7 H locs ls (by omega) rt0_65 (by omega) hF_7 q7_0 q7_1 (by omega) (by omega) (by
                first
                  | exact (by
                      have gg := H144
                      rw [X147]
                      exact v7_2.let_ hg q111.1 (by rw [← eu9]; omega) (by rw [H144, v7_3.2.2, ← eu9]; congr 1; omega) (by omega))
                  | exact (by
                      have gg := X147
                      rw [X147]
                      exact v7_2.num hg q111.1 (by rw [← eu9]; omega) (by rw [← eu9]; omega) (by omega))
                  | exact (by
                      have gg := X166
                      rw [X166]
                      refine v7_2.not hg q151.1 (by rw [← eu9]; omega) ?_ (by rw [e151]; rfl) (by omega)
                      rw [e151]
                      have tp2 := P151
                      show _ = 1 - x7
                      omega)
                  | exact (by
                      have gg := X248
                      have e1 := L51 () (by omega)
                      have e2 := zl1_pop (s_7 116) (n := i3_7 - 1) (by omega)
                      rw [show i3_7 - 1 - 1 = i3_7 - 2 from by omega, show i3_7 - 1 = t0_65 from by omega, ← V242] at e2
                      rw [show i3_7 - 1 = t0_65 from by omega, e2] at e1
                      have hh : zhd (zl1 (s_7 116) i3_7) = x7 := by rw [e1]; rfl
                      rw [X248]
                      exact v7_2.op hg q206.1 (by rw [← eu9]; omega) (by rw [← eu9, hh]; have z := Z206 (); omega) e1 (by rw [← eu9]; exact zom_J (by omega) (by have z := Z206 (); omega) (by rw [← q206.2.1]; exact H245)) (by omega))
                  | exact (by
                      have gg := F170
                      have hh : zhd (zl1 (s_7 116) i3_7) = x7 := by rw [e170]; rfl
                      rw [show t0_65 = i3_7 - 1 from by omega]
                      exact v7_2.stay hg q170.1 (by rw [← eu9, hh]; omega) (by rw [hh]; exact e170) (by omega))
                  | exact (by
                      have gg := F170
                      have hh : zhd (zl1 (s_7 116) i3_7) = x7 := by rw [e170]; rfl
                      exact (v7_2.jmp hg q170.1 (by rw [← eu9, hh]; omega) (by rw [← eu9]; omega)).1)
                  | (exfalso; omega)) (by first | exact ⟨rfl, rfl, rfl⟩ | exact v7_3 | (rw [es_7, xU_k _ _ _ (by first | decide | omega), xU_k _ _ _ (by first | decide | omega), xU_k _ _ _ (by first | decide | omega)]; exact v7_3)) (by have hm := hm_7 (); omega) hW (lv_sub hl [3, 4, 1, 0] rfl)
          refine x_iconst hx hb dX4_reckon_186 ?_
          refine lv_goto (tgt := 191) hx hb dX4_reckon_187 (by decide) ?_
          refine x_icmp_ne (tgt := 200) hx hb (by decide) (by decide) dX4_reckon_191 (by decide) (fun c71 => False.elim (by omega)) (fun c71 => ?_)
          refine x_iload hx hb hl 6 rfl dX4_reckon_194 ?_
          refine lv_istore_n (lv' := [(2, .int (xJ x6)), (8, .int (xJ t0_65)), (0, .ref (h0 + 109)), (3, .int (xJ i3_7)), (4, .int (xJ i4_7)), (5, .int (xJ x5)), (6, .int (xJ x6)), (7, .int (xJ x7))]) hx hb dX4_reckon_196 rfl hl (by decide) rfl (fun ls hl => ?_)
          refine lv_goto (tgt := 249) hx hb dX4_reckon_197 (by decide) ?_
          refine x_iinc (lv' := [(4, .int (xJ (i4_7 + 1))), (2, .int (xJ x6)), (8, .int (xJ t0_65)), (0, .ref (h0 + 109)), (3, .int (xJ i3_7)), (5, .int (xJ x5)), (6, .int (xJ x6)), (7, .int (xJ x7))]) hx hb hl 4 rfl dX4_reckon_249 (by decide) rfl (fun ls hl => ?_)
          refine lv_goto (tgt := 7) hx hb dX4_reckon_252 (by decide) ?_
          exact ih7 x6 i3_7 (i4_7 + 1) s_7 H locs ls rx6 ri3_7 (by omega) hF_7 q7_0 q7_1 (by omega) (by omega) (by
            first
              | exact (by
                  have gg := H144
                  rw [X147]
                  exact v7_2.let_ hg q111.1 (by rw [← eu9]; omega) (by rw [H144, v7_3.2.2, ← eu9]; congr 1; omega) (by omega))
              | exact (by
                  have gg := X147
                  rw [X147]
                  exact v7_2.num hg q111.1 (by rw [← eu9]; omega) (by rw [← eu9]; omega) (by omega))
              | exact (by
                  have gg := X166
                  rw [X166]
                  refine v7_2.not hg q151.1 (by rw [← eu9]; omega) ?_ (by rw [e151]; rfl) (by omega)
                  rw [e151]
                  have tp2 := P151
                  show _ = 1 - x7
                  omega)
              | exact (by
                  have gg := X248
                  have e1 := L51 () (by omega)
                  have e2 := zl1_pop (s_7 116) (n := i3_7 - 1) (by omega)
                  rw [show i3_7 - 1 - 1 = i3_7 - 2 from by omega, show i3_7 - 1 = i3_7 from by omega, ← V242] at e2
                  rw [show i3_7 - 1 = i3_7 from by omega, e2] at e1
                  have hh : zhd (zl1 (s_7 116) i3_7) = x7 := by rw [e1]; rfl
                  rw [X248]
                  exact v7_2.op hg q206.1 (by rw [← eu9]; omega) (by rw [← eu9, hh]; have z := Z206 (); omega) e1 (by rw [← eu9]; exact zom_J (by omega) (by have z := Z206 (); omega) (by rw [← q206.2.1]; exact H245)) (by omega))
              | exact (by
                  have gg := F170
                  have hh : zhd (zl1 (s_7 116) i3_7) = x7 := by rw [e170]; rfl
                  rw [show i3_7 = i3_7 - 1 from by omega]
                  exact v7_2.stay hg q170.1 (by rw [← eu9, hh]; omega) (by rw [hh]; exact e170) (by omega))
              | exact (by
                  have gg := F170
                  have hh : zhd (zl1 (s_7 116) i3_7) = x7 := by rw [e170]; rfl
                  exact (v7_2.jmp hg q170.1 (by rw [← eu9, hh]; omega) (by rw [← eu9]; omega)).1)
              | (exfalso; omega)) (by first | exact ⟨rfl, rfl, rfl⟩ | exact v7_3 | (rw [es_7, xU_k _ _ _ (by first | decide | omega), xU_k _ _ _ (by first | decide | omega), xU_k _ _ _ (by first | decide | omega)]; exact v7_3)) (by have hm := hm_7 (); omega) hW (lv_sub hl [3, 1, 4, 0] rfl)
        · refine x_tabIn (v := 5) (tgt := 170) hx hb rx5 c8 dX4_reckon_69 (by decide) rfl (by decide) ?_
          refine x_iload hx hb hl 7 rfl dX4_reckon_170 ?_
          have q170 := (K41 ()).resolve_left (fun q => by omega)
          have R170 : (11534336 ≤ u9 ∧ u9 < 12582912 ∧ x5 = 4) ∨ (12582912 ≤ u9 ∧ u9 < 13631488 ∧ x5 = 5) := by have w := zom_k (B41 () q170.1); have b := B41 () q170.1; omega
          have U170 : 1 ≤ i3_7 ∧ (zhd (zl1 (s_7 116) i3_7) = 0 ∨ zhd (zl1 (s_7 116) i3_7) = 1) := by
            have tp := T41 () q170.1 (by omega)
            rw [zl1_l _ (by omega)] at tp
            exact tp
          have e170 := L51 () U170.1
          have P170 : x7 = 0 ∨ x7 = 1 := by have z := U170.2; rw [e170] at z; exact z
          have F170 : x6 = u9 % 1048576 + s9 ∧ i2_7 < x6 ∧ x6 ≤ t9 + s9 := by have a := A41 () q170.1; have y := zwm_k (s := s9) (B41 () q170.1); omega
          refine x_if_eq (tgt := 179) hx hb rx7 dX4_reckon_172 (by decide) (fun c72 => ?_) (fun c72 => ?_)
          · skip
            refine x_iconst hx hb dX4_reckon_179 ?_
            refine x_iload hx hb hl 5 rfl dX4_reckon_180 ?_
            refine x_iconst hx hb dX4_reckon_182 ?_
            refine x_icmp_ne (tgt := 190) hx hb rx5 (by decide) dX4_reckon_183 (by decide) (fun c73 => ?_) (fun c73 => ?_)
            · skip
              refine x_iconst hx hb dX4_reckon_190 ?_
              refine x_icmp_ne (tgt := 200) hx hb (by decide) (by decide) dX4_reckon_191 (by decide) (fun c74 => False.elim (by omega)) (fun c74 => ?_)
              refine x_iload hx hb hl 6 rfl dX4_reckon_194 ?_
              refine lv_istore_n (lv' := [(2, .int (xJ x6)), (8, .int (xJ t0_65)), (0, .ref (h0 + 109)), (3, .int (xJ i3_7)), (4, .int (xJ i4_7)), (5, .int (xJ x5)), (6, .int (xJ x6)), (7, .int (xJ x7))]) hx hb dX4_reckon_196 rfl hl (by decide) rfl (fun ls hl => ?_)
              refine lv_goto (tgt := 249) hx hb dX4_reckon_197 (by decide) ?_
              refine x_iinc (lv' := [(4, .int (xJ (i4_7 + 1))), (2, .int (xJ x6)), (8, .int (xJ t0_65)), (0, .ref (h0 + 109)), (3, .int (xJ i3_7)), (5, .int (xJ x5)), (6, .int (xJ x6)), (7, .int (xJ x7))]) hx hb hl 4 rfl dX4_reckon_249 (by decide) rfl (fun ls hl => ?_)
              refine lv_goto (tgt := 7) hx hb dX4_reckon_252 (by decide) ?_
              exact ih7 x6 i3_7 (i4_7 + 1) s_7 H locs ls rx6 ri3_7 (by omega) hF_7 q7_0 q7_1 (by omega) (by omega) (by
                  first
                    | exact (by
                        have gg := H144
                        rw [X147]
                        exact v7_2.let_ hg q111.1 (by rw [← eu9]; omega) (by rw [H144, v7_3.2.2, ← eu9]; congr 1; omega) (by omega))
                    | exact (by
                        have gg := X147
                        rw [X147]
                        exact v7_2.num hg q111.1 (by rw [← eu9]; omega) (by rw [← eu9]; omega) (by omega))
                    | exact (by
                        have gg := X166
                        rw [X166]
                        refine v7_2.not hg q151.1 (by rw [← eu9]; omega) ?_ (by rw [e151]; rfl) (by omega)
                        rw [e151]
                        have tp2 := P151
                        show _ = 1 - x7
                        omega)
                    | exact (by
                        have gg := X248
                        have e1 := L51 () (by omega)
                        have e2 := zl1_pop (s_7 116) (n := i3_7 - 1) (by omega)
                        rw [show i3_7 - 1 - 1 = i3_7 - 2 from by omega, show i3_7 - 1 = i3_7 from by omega, ← V242] at e2
                        rw [show i3_7 - 1 = i3_7 from by omega, e2] at e1
                        have hh : zhd (zl1 (s_7 116) i3_7) = x7 := by rw [e1]; rfl
                        rw [X248]
                        exact v7_2.op hg q206.1 (by rw [← eu9]; omega) (by rw [← eu9, hh]; have z := Z206 (); omega) e1 (by rw [← eu9]; exact zom_J (by omega) (by have z := Z206 (); omega) (by rw [← q206.2.1]; exact H245)) (by omega))
                    | exact (by
                        have gg := F170
                        have hh : zhd (zl1 (s_7 116) i3_7) = x7 := by rw [e170]; rfl
                        rw [show i3_7 = i3_7 - 1 from by omega]
                        exact v7_2.stay hg q170.1 (by rw [← eu9, hh]; omega) (by rw [hh]; exact e170) (by omega))
                    | exact (by
                        have gg := F170
                        have hh : zhd (zl1 (s_7 116) i3_7) = x7 := by rw [e170]; rfl
                        exact (v7_2.jmp hg q170.1 (by rw [← eu9, hh]; omega) (by rw [← eu9]; omega)).1)
                    | (exfalso; omega)) (by first | exact ⟨rfl, rfl, rfl⟩ | exact v7_3 | (rw [es_7, xU_k _ _ _ (by first | decide | omega), xU_k _ _ _ (by first | decide | omega), xU_k _ _ _ (by first | decide | omega)]; exact v7_3)) (by have hm := hm_7 (); omega) hW (lv_sub hl [3, 1, 4, 0] rfl)
            refine x_iconst hx hb dX4_reckon_186 ?_
            refine lv_goto (tgt := 191) hx hb dX4_reckon_187 (by decide) ?_
            refine x_icmp_ne (tgt := 200) hx hb (by decide) (by decide) dX4_reckon_191 (by decide) (fun c75 => ?_) (fun c75 => False.elim (by omega))
            refine x_iload hx hb hl 0 rfl dX4_reckon_200 ?_
            refine lv_istore_n (lv' := [(3, .int (xJ t0_65)), (8, .int (xJ t0_65)), (0, .ref (h0 + 109)), (2, .int (xJ (i2_7 + 1))), (4, .int (xJ i4_7)), (5, .int (xJ x5)), (6, .int (xJ x6)), (7, .int (xJ x7))]) hx hb dX4_reckon_202 rfl hl (by decide) rfl (fun ls hl => ?_)
            refine lv_goto (tgt := 249) hx hb dX4_reckon_203 (by decide) ?_
            refine x_iinc (lv' := [(4, .int (xJ (i4_7 + 1))), (3, .int (xJ t0_65)), (8, .int (xJ t0_65)), (0, .ref (h0 + 109)), (2, .int (xJ (i2_7 + 1))), (5, .int (xJ x5)), (6, .int (xJ x6)), (7, .int (xJ x7))]) hx hb hl 4 rfl dX4_reckon_249 (by decide) rfl (fun ls hl => ?_)
            refine lv_goto (tgt := 7) hx hb dX4_reckon_252 (by decide) ?_
            exact ih7 (i2_7 + 1) t0_65 (i4_7 + 1) s_7 H locs ls (by omega) rt0_65 (by omega) hF_7 q7_0 q7_1 (by omega) (by omega) (by
                first
                  | exact (by
                      have gg := H144
                      rw [X147]
                      exact v7_2.let_ hg q111.1 (by rw [← eu9]; omega) (by rw [H144, v7_3.2.2, ← eu9]; congr 1; omega) (by omega))
                  | exact (by
                      have gg := X147
                      rw [X147]
                      exact v7_2.num hg q111.1 (by rw [← eu9]; omega) (by rw [← eu9]; omega) (by omega))
                  | exact (by
                      have gg := X166
                      rw [X166]
                      refine v7_2.not hg q151.1 (by rw [← eu9]; omega) ?_ (by rw [e151]; rfl) (by omega)
                      rw [e151]
                      have tp2 := P151
                      show _ = 1 - x7
                      omega)
                  | exact (by
                      have gg := X248
                      have e1 := L51 () (by omega)
                      have e2 := zl1_pop (s_7 116) (n := i3_7 - 1) (by omega)
                      rw [show i3_7 - 1 - 1 = i3_7 - 2 from by omega, show i3_7 - 1 = t0_65 from by omega, ← V242] at e2
                      rw [show i3_7 - 1 = t0_65 from by omega, e2] at e1
                      have hh : zhd (zl1 (s_7 116) i3_7) = x7 := by rw [e1]; rfl
                      rw [X248]
                      exact v7_2.op hg q206.1 (by rw [← eu9]; omega) (by rw [← eu9, hh]; have z := Z206 (); omega) e1 (by rw [← eu9]; exact zom_J (by omega) (by have z := Z206 (); omega) (by rw [← q206.2.1]; exact H245)) (by omega))
                  | exact (by
                      have gg := F170
                      have hh : zhd (zl1 (s_7 116) i3_7) = x7 := by rw [e170]; rfl
                      rw [show t0_65 = i3_7 - 1 from by omega]
                      exact v7_2.stay hg q170.1 (by rw [← eu9, hh]; omega) (by rw [hh]; exact e170) (by omega))
                  | exact (by
                      have gg := F170
                      have hh : zhd (zl1 (s_7 116) i3_7) = x7 := by rw [e170]; rfl
                      exact (v7_2.jmp hg q170.1 (by rw [← eu9, hh]; omega) (by rw [← eu9]; omega)).1)
                  | (exfalso; omega)) (by first | exact ⟨rfl, rfl, rfl⟩ | exact v7_3 | (rw [es_7, xU_k _ _ _ (by first | decide | omega), xU_k _ _ _ (by first | decide | omega), xU_k _ _ _ (by first | decide | omega)]; exact v7_3)) (by have hm := hm_7 (); omega) hW (lv_sub hl [3, 4, 1, 0] rfl)
          refine x_iconst hx hb dX4_reckon_175 ?_
          refine lv_goto (tgt := 180) hx hb dX4_reckon_176 (by decide) ?_
          refine x_iload hx hb hl 5 rfl dX4_reckon_180 ?_
          refine x_iconst hx hb dX4_reckon_182 ?_
          refine x_icmp_ne (tgt := 190) hx hb rx5 (by decide) dX4_reckon_183 (by decide) (fun c76 => ?_) (fun c76 => ?_)
          · skip
            refine x_iconst hx hb dX4_reckon_190 ?_
            refine x_icmp_ne (tgt := 200) hx hb (by decide) (by decide) dX4_reckon_191 (by decide) (fun c77 => ?_) (fun c77 => False.elim (by omega))
            refine x_iload hx hb hl 0 rfl dX4_reckon_200 ?_
            refine lv_istore_n (lv' := [(3, .int (xJ t0_65)), (8, .int (xJ t0_65)), (0, .ref (h0 + 109)), (2, .int (xJ (i2_7 + 1))), (4, .int (xJ i4_7)), (5, .int (xJ x5)), (6, .int (xJ x6)), (7, .int (xJ x7))]) hx hb dX4_reckon_202 rfl hl (by decide) rfl (fun ls hl => ?_)
            refine lv_goto (tgt := 249) hx hb dX4_reckon_203 (by decide) ?_
            refine x_iinc (lv' := [(4, .int (xJ (i4_7 + 1))), (3, .int (xJ t0_65)), (8, .int (xJ t0_65)), (0, .ref (h0 + 109)), (2, .int (xJ (i2_7 + 1))), (5, .int (xJ x5)), (6, .int (xJ x6)), (7, .int (xJ x7))]) hx hb hl 4 rfl dX4_reckon_249 (by decide) rfl (fun ls hl => ?_)
            refine lv_goto (tgt := 7) hx hb dX4_reckon_252 (by decide) ?_
            exact ih7 (i2_7 + 1) t0_65 (i4_7 + 1) s_7 H locs ls (by omega) rt0_65 (by omega) hF_7 q7_0 q7_1 (by omega) (by omega) (by
                first
                  | exact (by
                      have gg := H144
                      rw [X147]
                      exact v7_2.let_ hg q111.1 (by rw [← eu9]; omega) (by rw [H144, v7_3.2.2, ← eu9]; congr 1; omega) (by omega))
                  | exact (by
                      have gg := X147
                      rw [X147]
                      exact v7_2.num hg q111.1 (by rw [← eu9]; omega) (by rw [← eu9]; omega) (by omega))
                  | exact (by
                      have gg := X166
                      rw [X166]
                      refine v7_2.not hg q151.1 (by rw [← eu9]; omega) ?_ (by rw [e151]; rfl) (by omega)
                      rw [e151]
                      have tp2 := P151
                      show _ = 1 - x7
                      omega)
                  | exact (by
                      have gg := X248
                      have e1 := L51 () (by omega)
                      have e2 := zl1_pop (s_7 116) (n := i3_7 - 1) (by omega)
                      rw [show i3_7 - 1 - 1 = i3_7 - 2 from by omega, show i3_7 - 1 = t0_65 from by omega, ← V242] at e2
                      rw [show i3_7 - 1 = t0_65 from by omega, e2] at e1
                      have hh : zhd (zl1 (s_7 116) i3_7) = x7 := by rw [e1]; rfl
                      rw [X248]
                      exact v7_2.op hg q206.1 (by rw [← eu9]; omega) (by rw [← eu9, hh]; have z := Z206 (); omega) e1 (by rw [← eu9]; exact zom_J (by omega) (by have z := Z206 (); omega) (by rw [← q206.2.1]; exact H245)) (by omega))
                  | exact (by
                      have gg := F170
                      have hh : zhd (zl1 (s_7 116) i3_7) = x7 := by rw [e170]; rfl
                      rw [show t0_65 = i3_7 - 1 from by omega]
                      exact v7_2.stay hg q170.1 (by rw [← eu9, hh]; omega) (by rw [hh]; exact e170) (by omega))
                  | exact (by
                      have gg := F170
                      have hh : zhd (zl1 (s_7 116) i3_7) = x7 := by rw [e170]; rfl
                      exact (v7_2.jmp hg q170.1 (by rw [← eu9, hh]; omega) (by rw [← eu9]; omega)).1)
                  | (exfalso; omega)) (by first | exact ⟨rfl, rfl, rfl⟩ | exact v7_3 | (rw [es_7, xU_k _ _ _ (by first | decide | omega), xU_k _ _ _ (by first | decide | omega), xU_k _ _ _ (by first | decide | omega)]; exact v7_3)) (by have hm := hm_7 (); omega) hW (lv_sub hl [3, 4, 1, 0] rfl)
          refine x_iconst hx hb dX4_reckon_186 ?_
          refine lv_goto (tgt := 191) hx hb dX4_reckon_187 (by decide) ?_
          refine x_icmp_ne (tgt := 200) hx hb (by decide) (by decide) dX4_reckon_191 (by decide) (fun c78 => False.elim (by omega)) (fun c78 => ?_)
          refine x_iload hx hb hl 6 rfl dX4_reckon_194 ?_
          refine lv_istore_n (lv' := [(2, .int (xJ x6)), (8, .int (xJ t0_65)), (0, .ref (h0 + 109)), (3, .int (xJ i3_7)), (4, .int (xJ i4_7)), (5, .int (xJ x5)), (6, .int (xJ x6)), (7, .int (xJ x7))]) hx hb dX4_reckon_196 rfl hl (by decide) rfl (fun ls hl => ?_)
          refine lv_goto (tgt := 249) hx hb dX4_reckon_197 (by decide) ?_
          refine x_iinc (lv' := [(4, .int (xJ (i4_7 + 1))), (2, .int (xJ x6)), (8, .int (xJ t0_65)), (0, .ref (h0 + 109)), (3, .int (xJ i3_7)), (5, .int (xJ x5)), (6, .int (xJ x6)), (7, .int (xJ x7))]) hx hb hl 4 rfl dX4_reckon_249 (by decide) rfl (fun ls hl => ?_)
          refine lv_goto (tgt := 7) hx hb dX4_reckon_252 (by decide) ?_
          exact ih7 x6 i3_7 (i4_7 + 1) s_7 H locs ls rx6 ri3_7 (by omega) hF_7 q7_0 q7_1 (by omega) (by omega) (by
            first
              | exact (by
                  have gg := H144
                  rw [X147]
                  exact v7_2.let_ hg q111.1 (by rw [← eu9]; omega) (by rw [H144, v7_3.2.2, ← eu9]; congr 1; omega) (by omega))
              | exact (by
                  have gg := X147
                  rw [X147]
                  exact v7_2.num hg q111.1 (by rw [← eu9]; omega) (by rw [← eu9]; omega) (by omega))
              | exact (by
                  have gg := X166
                  rw [X166]
                  refine v7_2.not hg q151.1 (by rw [← eu9]; omega) ?_ (by rw [e151]; rfl) (by omega)
                  rw [e151]
                  have tp2 := P151
                  show _ = 1 - x7
                  omega)
              | exact (by
                  have gg := X248
                  have e1 := L51 () (by omega)
                  have e2 := zl1_pop (s_7 116) (n := i3_7 - 1) (by omega)
                  rw [show i3_7 - 1 - 1 = i3_7 - 2 from by omega, show i3_7 - 1 = i3_7 from by omega, ← V242] at e2
                  rw [show i3_7 - 1 = i3_7 from by omega, e2] at e1
                  have hh : zhd (zl1 (s_7 116) i3_7) = x7 := by rw [e1]; rfl
                  rw [X248]
                  exact v7_2.op hg q206.1 (by rw [← eu9]; omega) (by rw [← eu9, hh]; have z := Z206 (); omega) e1 (by rw [← eu9]; exact zom_J (by omega) (by have z := Z206 (); omega) (by rw [← q206.2.1]; exact H245)) (by omega))
              | exact (by
                  have gg := F170
                  have hh : zhd (zl1 (s_7 116) i3_7) = x7 := by rw [e170]; rfl
                  rw [show i3_7 = i3_7 - 1 from by omega]
                  exact v7_2.stay hg q170.1 (by rw [← eu9, hh]; omega) (by rw [hh]; exact e170) (by omega))
              | exact (by
                  have gg := F170
                  have hh : zhd (zl1 (s_7 116) i3_7) = x7 := by rw [e170]; rfl
                  exact (v7_2.jmp hg q170.1 (by rw [← eu9, hh]; omega) (by rw [← eu9]; omega)).1)
              | (exfalso; omega)) (by first | exact ⟨rfl, rfl, rfl⟩ | exact v7_3 | (rw [es_7, xU_k _ _ _ (by first | decide | omega), xU_k _ _ _ (by first | decide | omega), xU_k _ _ _ (by first | decide | omega)]; exact v7_3)) (by have hm := hm_7 (); omega) hW (lv_sub hl [3, 1, 4, 0] rfl)
      refine x_if_le (tgt := 64) hx hb ri3_7 dX4_reckon_55 (by decide) (fun c79 => ?_) (fun c79 => ?_)
      · skip
        refine x_iconst hx hb dX4_reckon_64 ?_
        exact J65 0 ls (by decide) (by omega)  (lv_sub hl [4, 1, 5, 6, 3, 2, 0] rfl)
      refine x_iload_n hx hb hl 5 rfl dX4_reckon_58 rfl ?_
      refine x_iconst hx hb dX4_reckon_59 ?_
      refine x_isub hx hb dX4_reckon_60 ?_
      refine lv_goto (tgt := 65) hx hb dX4_reckon_61 (by decide) ?_
      exact J65 (i3_7 - 1) ls (by omega) (by omega)  (lv_sub hl [4, 1, 5, 6, 3, 2, 0] rfl)
  exact L7 ((300 - 0 : Int).toNat + 1) a 0 0 s0 H locs ls ra (by decide) (by decide) hF p0 k1_1 (by omega) (by omega) (by rw [eV0, show a - s9 = a9 from by omega, zl1_0 _ (by omega)]; exact zVS.new hg) (by first | exact ⟨rfl, rfl, rfl⟩ | exact v7_3 | (rw [es0, xU_k _ _ _ (by first | decide | omega), xU_k _ _ _ (by first | decide | omega), xU_k _ _ _ (by first | decide | omega)]; exact v7_3)) (Nat.lt_succ_self _) hW (lv_sub hl [3, 2, 1, 0] rfl)

set_option maxHeartbeats 4000000 in
set_option maxRecDepth 100000 in
theorem c_X11_reckonV (l : Launch) (D : va_G) (g : xG) (T : Nat × Nat × Nat) (h0 : Nat) (s0 : xS) (hσ : xRR s0) (q : Int) (rq : xR q) (a : Int) (ra : xR a) (b : Int) (rb : xR b) (hq : 2 ≤ q ∧ q ≤ 9 ∧ ((q = 5 ∨ q = 6) → b ≠ 0)) : Met l yX11_reckon (xws yX11_reckon cX11_reckon 3 (some .int)) { frames := 0, cells := 0, slots := 0, locals := 0 } (xP [.int (xJ q), .int (xJ a), .int (xJ b)] D g T h0 s0) (xQi D g h0 (fun r τ => s0 = τ ∧ (r = zrk q a b))) 0 0 (xA h0) := by
  refine x_met hσ (by decide) (Nat.le_of_ble_eq_true rfl) ?_
  intro p e s m args below meth c hx hb hr hml hown hT hlk hnm hE hW ls hl
  have hl : lv_has ls 3 [(0, .int (xJ q)), (1, .int (xJ a)), (2, .int (xJ b))] := hl
  obtain ⟨Q, eQ⟩ : ∃ Q, Q = MQ below (xQi D g h0 (fun r τ => s0 = τ ∧ (r = zrk q a b))) args s 0 0 (xA h0) := ⟨_, rfl⟩
  rw [← eQ]
  generalize hHe : ([] : List Loc) = locs at hW ⊢
  obtain ⟨H, eH⟩ : ∃ H, H = s.heap := ⟨_, rfl⟩
  rw [← eH] at hW ⊢
  refine x_iload_n hx hb hl 0 rfl dX11_reckon_0 rfl ?_
  rcases (show (q < 2 ∨ 8 < q) ∨ q = 2 ∨ q = 3 ∨ q = 4 ∨ q = 5 ∨ q = 6 ∨ q = 7 ∨ q = 8 from by omega) with c1 | c1 | c1 | c1 | c1 | c1 | c1 | c1
  · refine x_tabOut (tgt := 86) hx hb rq dX11_reckon_1 c1 (by decide) ?_
    refine x_iload_n hx hb hl 1 rfl dX11_reckon_86 rfl ?_
    refine x_iload_n hx hb hl 2 rfl dX11_reckon_87 rfl ?_
    refine x_icmp_ne (tgt := 95) hx hb ra rb dX11_reckon_88 (by decide) (fun c2 => ?_) (fun c2 => ?_)
    · skip
      refine x_iconst hx hb dX11_reckon_95 ?_
      rw [eQ]
      exact x_iret hx hb hr hlk hW (by decide) ⟨rfl, by first | (rw [show q = 2 from by omega]; assumption) | (rw [show q = 3 from by omega]; assumption) | (rw [show q = 4 from by omega]; assumption) | (rw [show q = 5 from by omega]; assumption) | (rw [show q = 6 from by omega]; assumption) | (rw [show q = 7 from by omega]; show _ = if a < b then (1 : Int) else 0; first | rw [if_pos (by omega)] | rw [if_neg (by omega)]) | (rw [show q = 8 from by omega]; show _ = if b < a then (1 : Int) else 0; first | rw [if_pos (by omega)] | rw [if_neg (by omega)]) | (rw [show q = 9 from by omega]; show _ = if a = b then (1 : Int) else 0; first | rw [if_pos (by omega)] | rw [if_neg (by omega)])⟩ dX11_reckon_96
    refine x_iconst hx hb dX11_reckon_91 ?_
    refine lv_goto (tgt := 96) hx hb dX11_reckon_92 (by decide) ?_
    rw [eQ]
    exact x_iret hx hb hr hlk hW (by decide) ⟨rfl, by first | (rw [show q = 2 from by omega]; assumption) | (rw [show q = 3 from by omega]; assumption) | (rw [show q = 4 from by omega]; assumption) | (rw [show q = 5 from by omega]; assumption) | (rw [show q = 6 from by omega]; assumption) | (rw [show q = 7 from by omega]; show _ = if a < b then (1 : Int) else 0; first | rw [if_pos (by omega)] | rw [if_neg (by omega)]) | (rw [show q = 8 from by omega]; show _ = if b < a then (1 : Int) else 0; first | rw [if_pos (by omega)] | rw [if_neg (by omega)]) | (rw [show q = 9 from by omega]; show _ = if a = b then (1 : Int) else 0; first | rw [if_pos (by omega)] | rw [if_neg (by omega)])⟩ dX11_reckon_96
  · refine x_tabIn (v := 2) (tgt := 44) hx hb rq c1 dX11_reckon_1 (by decide) rfl (by decide) ?_
    refine x_iload_n hx hb hl 1 rfl dX11_reckon_44 rfl ?_
    refine x_iload_n hx hb hl 2 rfl dX11_reckon_45 rfl ?_
    refine x_iadd hx hb dX11_reckon_46 ?_
    refine x_wv (fun x3 ex3 rx3 => ?_)
    rw [eQ]
    exact x_iret hx hb hr hlk hW rx3 ⟨rfl, by first | (rw [show q = 2 from by omega]; assumption) | (rw [show q = 3 from by omega]; assumption) | (rw [show q = 4 from by omega]; assumption) | (rw [show q = 5 from by omega]; assumption) | (rw [show q = 6 from by omega]; assumption) | (rw [show q = 7 from by omega]; show _ = if a < b then (1 : Int) else 0; first | rw [if_pos (by omega)] | rw [if_neg (by omega)]) | (rw [show q = 8 from by omega]; show _ = if b < a then (1 : Int) else 0; first | rw [if_pos (by omega)] | rw [if_neg (by omega)]) | (rw [show q = 9 from by omega]; show _ = if a = b then (1 : Int) else 0; first | rw [if_pos (by omega)] | rw [if_neg (by omega)])⟩ dX11_reckon_47
  · refine x_tabIn (v := 3) (tgt := 48) hx hb rq c1 dX11_reckon_1 (by decide) rfl (by decide) ?_
    refine x_iload_n hx hb hl 1 rfl dX11_reckon_48 rfl ?_
    refine x_iload_n hx hb hl 2 rfl dX11_reckon_49 rfl ?_
    refine x_isub hx hb dX11_reckon_50 ?_
    refine x_wv (fun x4 ex4 rx4 => ?_)
    rw [eQ]
    exact x_iret hx hb hr hlk hW rx4 ⟨rfl, by first | (rw [show q = 2 from by omega]; assumption) | (rw [show q = 3 from by omega]; assumption) | (rw [show q = 4 from by omega]; assumption) | (rw [show q = 5 from by omega]; assumption) | (rw [show q = 6 from by omega]; assumption) | (rw [show q = 7 from by omega]; show _ = if a < b then (1 : Int) else 0; first | rw [if_pos (by omega)] | rw [if_neg (by omega)]) | (rw [show q = 8 from by omega]; show _ = if b < a then (1 : Int) else 0; first | rw [if_pos (by omega)] | rw [if_neg (by omega)]) | (rw [show q = 9 from by omega]; show _ = if a = b then (1 : Int) else 0; first | rw [if_pos (by omega)] | rw [if_neg (by omega)])⟩ dX11_reckon_51
  · refine x_tabIn (v := 4) (tgt := 52) hx hb rq c1 dX11_reckon_1 (by decide) rfl (by decide) ?_
    refine x_iload_n hx hb hl 1 rfl dX11_reckon_52 rfl ?_
    refine x_iload_n hx hb hl 2 rfl dX11_reckon_53 rfl ?_
    refine x_imul hx hb dX11_reckon_54 ?_
    refine x_wv (fun x5 ex5 rx5 => ?_)
    rw [eQ]
    exact x_iret hx hb hr hlk hW rx5 ⟨rfl, by first | (rw [show q = 2 from by omega]; assumption) | (rw [show q = 3 from by omega]; assumption) | (rw [show q = 4 from by omega]; assumption) | (rw [show q = 5 from by omega]; assumption) | (rw [show q = 6 from by omega]; assumption) | (rw [show q = 7 from by omega]; show _ = if a < b then (1 : Int) else 0; first | rw [if_pos (by omega)] | rw [if_neg (by omega)]) | (rw [show q = 8 from by omega]; show _ = if b < a then (1 : Int) else 0; first | rw [if_pos (by omega)] | rw [if_neg (by omega)]) | (rw [show q = 9 from by omega]; show _ = if a = b then (1 : Int) else 0; first | rw [if_pos (by omega)] | rw [if_neg (by omega)])⟩ dX11_reckon_55
  · refine x_tabIn (v := 5) (tgt := 56) hx hb rq c1 dX11_reckon_1 (by decide) rfl (by decide) ?_
    refine x_iload_n hx hb hl 1 rfl dX11_reckon_56 rfl ?_
    refine x_iload_n hx hb hl 2 rfl dX11_reckon_57 rfl ?_
    refine x_idivE hx hb rb (by omega) dX11_reckon_58 (fun x6 ex6 rx6 => ?_)
    rw [eQ]
    exact x_iret hx hb hr hlk hW rx6 ⟨rfl, by first | (rw [show q = 2 from by omega]; assumption) | (rw [show q = 3 from by omega]; assumption) | (rw [show q = 4 from by omega]; assumption) | (rw [show q = 5 from by omega]; assumption) | (rw [show q = 6 from by omega]; assumption) | (rw [show q = 7 from by omega]; show _ = if a < b then (1 : Int) else 0; first | rw [if_pos (by omega)] | rw [if_neg (by omega)]) | (rw [show q = 8 from by omega]; show _ = if b < a then (1 : Int) else 0; first | rw [if_pos (by omega)] | rw [if_neg (by omega)]) | (rw [show q = 9 from by omega]; show _ = if a = b then (1 : Int) else 0; first | rw [if_pos (by omega)] | rw [if_neg (by omega)])⟩ dX11_reckon_59
  · refine x_tabIn (v := 6) (tgt := 60) hx hb rq c1 dX11_reckon_1 (by decide) rfl (by decide) ?_
    refine x_iload_n hx hb hl 1 rfl dX11_reckon_60 rfl ?_
    refine x_iload_n hx hb hl 2 rfl dX11_reckon_61 rfl ?_
    refine x_iremE hx hb rb (by omega) dX11_reckon_62 (fun x7 ex7 rx7 => ?_)
    rw [eQ]
    exact x_iret hx hb hr hlk hW rx7 ⟨rfl, by first | (rw [show q = 2 from by omega]; assumption) | (rw [show q = 3 from by omega]; assumption) | (rw [show q = 4 from by omega]; assumption) | (rw [show q = 5 from by omega]; assumption) | (rw [show q = 6 from by omega]; assumption) | (rw [show q = 7 from by omega]; show _ = if a < b then (1 : Int) else 0; first | rw [if_pos (by omega)] | rw [if_neg (by omega)]) | (rw [show q = 8 from by omega]; show _ = if b < a then (1 : Int) else 0; first | rw [if_pos (by omega)] | rw [if_neg (by omega)]) | (rw [show q = 9 from by omega]; show _ = if a = b then (1 : Int) else 0; first | rw [if_pos (by omega)] | rw [if_neg (by omega)])⟩ dX11_reckon_63
  · refine x_tabIn (v := 7) (tgt := 64) hx hb rq c1 dX11_reckon_1 (by decide) rfl (by decide) ?_
    refine x_iload_n hx hb hl 1 rfl dX11_reckon_64 rfl ?_
    refine x_iload_n hx hb hl 2 rfl dX11_reckon_65 rfl ?_
    refine x_icmp_ge (tgt := 73) hx hb ra rb dX11_reckon_66 (by decide) (fun c8 => ?_) (fun c8 => ?_)
    · skip
      refine x_iconst hx hb dX11_reckon_73 ?_
      rw [eQ]
      exact x_iret hx hb hr hlk hW (by decide) ⟨rfl, by first | (rw [show q = 2 from by omega]; assumption) | (rw [show q = 3 from by omega]; assumption) | (rw [show q = 4 from by omega]; assumption) | (rw [show q = 5 from by omega]; assumption) | (rw [show q = 6 from by omega]; assumption) | (rw [show q = 7 from by omega]; show _ = if a < b then (1 : Int) else 0; first | rw [if_pos (by omega)] | rw [if_neg (by omega)]) | (rw [show q = 8 from by omega]; show _ = if b < a then (1 : Int) else 0; first | rw [if_pos (by omega)] | rw [if_neg (by omega)]) | (rw [show q = 9 from by omega]; show _ = if a = b then (1 : Int) else 0; first | rw [if_pos (by omega)] | rw [if_neg (by omega)])⟩ dX11_reckon_74
    refine x_iconst hx hb dX11_reckon_69 ?_
    refine lv_goto (tgt := 74) hx hb dX11_reckon_70 (by decide) ?_
    rw [eQ]
    exact x_iret hx hb hr hlk hW (by decide) ⟨rfl, by first | (rw [show q = 2 from by omega]; assumption) | (rw [show q = 3 from by omega]; assumption) | (rw [show q = 4 from by omega]; assumption) | (rw [show q = 5 from by omega]; assumption) | (rw [show q = 6 from by omega]; assumption) | (rw [show q = 7 from by omega]; show _ = if a < b then (1 : Int) else 0; first | rw [if_pos (by omega)] | rw [if_neg (by omega)]) | (rw [show q = 8 from by omega]; show _ = if b < a then (1 : Int) else 0; first | rw [if_pos (by omega)] | rw [if_neg (by omega)]) | (rw [show q = 9 from by omega]; show _ = if a = b then (1 : Int) else 0; first | rw [if_pos (by omega)] | rw [if_neg (by omega)])⟩ dX11_reckon_74
  · refine x_tabIn (v := 8) (tgt := 75) hx hb rq c1 dX11_reckon_1 (by decide) rfl (by decide) ?_
    refine x_iload_n hx hb hl 1 rfl dX11_reckon_75 rfl ?_
    refine x_iload_n hx hb hl 2 rfl dX11_reckon_76 rfl ?_
    refine x_icmp_le (tgt := 84) hx hb ra rb dX11_reckon_77 (by decide) (fun c9 => ?_) (fun c9 => ?_)
    · skip
      refine x_iconst hx hb dX11_reckon_84 ?_
      rw [eQ]
      exact x_iret hx hb hr hlk hW (by decide) ⟨rfl, by first | (rw [show q = 2 from by omega]; assumption) | (rw [show q = 3 from by omega]; assumption) | (rw [show q = 4 from by omega]; assumption) | (rw [show q = 5 from by omega]; assumption) | (rw [show q = 6 from by omega]; assumption) | (rw [show q = 7 from by omega]; show _ = if a < b then (1 : Int) else 0; first | rw [if_pos (by omega)] | rw [if_neg (by omega)]) | (rw [show q = 8 from by omega]; show _ = if b < a then (1 : Int) else 0; first | rw [if_pos (by omega)] | rw [if_neg (by omega)]) | (rw [show q = 9 from by omega]; show _ = if a = b then (1 : Int) else 0; first | rw [if_pos (by omega)] | rw [if_neg (by omega)])⟩ dX11_reckon_85
    refine x_iconst hx hb dX11_reckon_80 ?_
    refine lv_goto (tgt := 85) hx hb dX11_reckon_81 (by decide) ?_
    rw [eQ]
    exact x_iret hx hb hr hlk hW (by decide) ⟨rfl, by first | (rw [show q = 2 from by omega]; assumption) | (rw [show q = 3 from by omega]; assumption) | (rw [show q = 4 from by omega]; assumption) | (rw [show q = 5 from by omega]; assumption) | (rw [show q = 6 from by omega]; assumption) | (rw [show q = 7 from by omega]; show _ = if a < b then (1 : Int) else 0; first | rw [if_pos (by omega)] | rw [if_neg (by omega)]) | (rw [show q = 8 from by omega]; show _ = if b < a then (1 : Int) else 0; first | rw [if_pos (by omega)] | rw [if_neg (by omega)]) | (rw [show q = 9 from by omega]; show _ = if a = b then (1 : Int) else 0; first | rw [if_pos (by omega)] | rw [if_neg (by omega)])⟩ dX11_reckon_85
set_option maxHeartbeats 4000000 in
set_option maxRecDepth 100000 in
theorem c_X11_comesToV (l : Launch) (D : va_G) (g : xG) (T : Nat × Nat × Nat) (h0 : Nat) (s0 : xS) (hσ : xRR s0) (a : Int) (ra : xR a) (b : Int) (rb : xR b) (m9 : Bool) (d9 : Int → Int) (hg : zGD (s0 283) a b m9 d9) (p0 : IMn s0) (p1 : IMk s0) (p2 : IMo s0) : Met l yX11_comesTo (xws yX11_comesTo cX11_comesTo 8 (some .int)) { frames := 1, cells := 0, slots := 0, locals := 22 } (xP [.ref (h0 + 268), .int (xJ a), .int (xJ b)] D g T h0 s0) (xQi D g h0 (fun r τ => xFr (fun k => k = 293) s0 τ ∧ (((IMn τ) ∧ (IMk τ) ∧ (IMo τ) ∧ True) ∧ (r = (zEV (s0 283) (s0 294) a b))))) 0 0 (xA h0) := by
  refine x_met hσ (by decide) (Nat.le_of_ble_eq_true rfl) ?_
  intro p e s m args below meth c hx hb hr hml hown hT hlk hnm hE hW ls hl
  have hl : lv_has ls 8 [(0, .ref (h0 + 268)), (1, .int (xJ a)), (2, .int (xJ b))] := hl
  obtain ⟨Q, eQ⟩ : ∃ Q, Q = MQ below (xQi D g h0 (fun r τ => xFr (fun k => k = 293) s0 τ ∧ (((IMn τ) ∧ (IMk τ) ∧ (IMo τ) ∧ True) ∧ (r = (zEV (s0 283) (s0 294) a b))))) args s 0 0 (xA h0) := ⟨_, rfl⟩
  rw [← eQ]
  generalize hHe : ([] : List Loc) = locs at hW ⊢
  obtain ⟨H, eH⟩ : ∃ H, H = s.heap := ⟨_, rfl⟩
  rw [← eH] at hW ⊢
  have hF : xFr (fun k => k = 293) s0 s0 := xFr.rf
  have k268_8 : s0 268 8 = s0 268 8 := rfl
  have k268_58 : s0 268 58 = s0 268 58 := rfl
  have hg1 := hg.1
  have hg2 := hg.2.1
  obtain ⟨V0, eV0⟩ : ∃ v : Int, v = (zEV (s0 283) (s0 294) a b) := ⟨_, rfl⟩
  refine x_iconst hx hb dX11_comesTo_0 ?_
  refine lv_istore_n (lv' := [(3, .int (xJ 0)), (0, .ref (h0 + 268)), (1, .int (xJ a)), (2, .int (xJ b))]) hx hb dX11_comesTo_1 rfl hl (by decide) rfl (fun ls hl => ?_)
  refine x_sipush hx hb dX11_comesTo_2 (by decide) ?_
  refine x_iload_n hx hb hl 2 rfl dX11_comesTo_5 rfl ?_
  refine x_sipush hx hb dX11_comesTo_6 (by decide) ?_
  refine x_idiv hx hb ra (by decide) (by omega) (by decide) dX11_comesTo_9 ?_
  refine x_imul hx hb dX11_comesTo_10 ?_
  refine x_nm (fun x1 ex1 => ?_)
  refine lv_istore (lv' := [(4, .int (xJ x1)), (3, .int (xJ 0)), (0, .ref (h0 + 268)), (1, .int (xJ a)), (2, .int (xJ b))]) hx hb dX11_comesTo_11 hl (by decide) rfl (fun ls hl => ?_)
  refine x_iload_n hx hb hl 3 rfl dX11_comesTo_13 rfl ?_
  refine lv_istore (lv' := [(5, .int (xJ a)), (4, .int (xJ x1)), (3, .int (xJ 0)), (0, .ref (h0 + 268)), (1, .int (xJ a)), (2, .int (xJ b))]) hx hb dX11_comesTo_14 hl (by decide) rfl (fun ls hl => ?_)
  have L16 : ∀ (fu : Nat) (i3_16 : Int) (i5_16 : Int) (s_16 : xS) (H : Heap) (locs : List Loc) (ls : Array Slot), (xR i3_16) → (xR i5_16) → (xFr (fun k => k = 293) s0 s_16) → (IMn s_16) → (IMk s_16) → (IMo s_16) → (s_16 268 8 = s0 268 8) → (s_16 268 58 = s0 268 58) → (a ≤ i5_16 ∧ i5_16 ≤ b) → (0 ≤ i3_16 ∧ i3_16 ≤ 40) → (zVS (s0 283) (s0 294) d9 a b V0 i5_16 (zl0 (s_16 293) i3_16)) → (b - i5_16).toNat < fu → xW D g h0 s H locs s_16 → lv_has ls 8 [(0, .ref (h0 + 268)), (2, .int (xJ b)), (3, .int (xJ i3_16)), (4, .int (xJ x1)), (5, .int (xJ i5_16))] → W p l e { frames := 1, cells := 0, slots := 0, locals := 22 } s m args below meth c H locs 0 0 Q (F0 m 16 ls []) := by
    intro fu
    induction fu with
    | zero => intro i3_16 i5_16 s_16 H locs ls ri3_16 ri5_16 hF_16 q16_0 q16_1 q16_2 q16_3 q16_4 v16_0 v16_1 v16_2 hm; exact absurd hm (Nat.not_lt_zero _)
    | succ fu ih16 =>
      intro i3_16 i5_16 s_16 H locs ls ri3_16 ri5_16 hF_16 q16_0 q16_1 q16_2 q16_3 q16_4 v16_0 v16_1 v16_2 hm hW hl
      have hm_16 := fun (_ : Unit) => hm
      clear hm
      have n16 := v16_2.2.2.1
      rw [zl0_l _ (by omega)] at n16
      refine x_iload hx hb hl 4 rfl dX11_comesTo_16 ?_
      refine x_iload_n hx hb hl 1 rfl dX11_comesTo_18 rfl ?_
      refine x_icmp_ge (tgt := 233) hx hb ri5_16 rb dX11_comesTo_19 (by decide) (fun c2 => ?_) (fun c2 => ?_)
      · skip
        refine x_aload_n hx hb hl 0 rfl dX11_comesTo_233 rfl ?_
        refine x_get (j := 38) (v := .ref (h0 + 293)) hx hb hown hT hE hW cls_X11 (Or.inl (by decide)) (so_268 h0 g _) (by decide) rfl wq1223 dX11_comesTo_234 ?_
        refine x_iconst hx hb dX11_comesTo_237 ?_
        refine x_iald hx hb hE hW (Or.inl (by decide)) (sa_293 h0 g _) ⟨by decide, by decide⟩ (by decide) dX11_comesTo_238 ?_
        refine x_rd hW (fun x3 ex3 rx3 => ?_)
        have V238 := ex3
        rw [eQ]
        exact x_iret hx hb hr hlk hW rx3 ⟨hF_16, ⟨q16_0, q16_1, q16_2, trivial⟩, by
            rw [← eV0]
            have e9 : i5_16 = b := by omega
            rw [e9] at n16
            have y := v16_2.fin e9
            rw [y, zl0_pop _ (by omega), V238, show i3_16 - 1 = 0 from by omega]
            rfl⟩ dX11_comesTo_239
      refine x_aload_n hx hb hl 0 rfl dX11_comesTo_22 rfl ?_
      refine x_get (j := 24) (v := .ref (h0 + 283)) hx hb hown hT hE hW cls_X11 (Or.inl (by decide)) (so_268 h0 g _) (by decide) rfl wq1209 dX11_comesTo_23 ?_
      refine x_iload hx hb hl 4 rfl dX11_comesTo_26 ?_
      refine x_iald hx hb hE hW (Or.inl (by decide)) (sa_283 h0 g _) (by omega) (by decide) dX11_comesTo_28 ?_
      refine x_rd hW (fun x4 ex4 rx4 => ?_)
      have V28 : x4 = s0 283 i5_16 := by rw [ex4, hF_16 283 (by first | decide | omega)]
      obtain ⟨u9, eu9⟩ : ∃ c : Int, c = s0 283 i5_16 := ⟨_, rfl⟩
      have A28 := hg.at_ (p := i5_16) (by omega) (by omega)
      rw [← eu9] at A28 V28
      have T28 : Unit → 10485760 ≤ u9 → (s_16 293 (i3_16 - 1) = 0 ∨ s_16 293 (i3_16 - 1) = 1) := fun _ e => by
        have q := v16_2.top hg (by omega) (by rw [← eu9]; exact e)
        rw [zl0_l _ (by omega)] at q
        have q2 := q.2
        rw [zl0_pop _ q.1] at q2
        exact q2
      have L28 : Unit → 1 ≤ i3_16 → zl0 (s_16 293) i3_16 = s_16 293 (i3_16 - 1) :: zl0 (s_16 293) (i3_16 - 1) := fun _ h => zl0_pop _ h
      refine lv_ldc (v := xJ 1048576) hx hb hown (hT _ wq1482) dX11_comesTo_29 ?_
      refine x_idiv hx hb rx4 (by decide) (by omega) (by decide) dX11_comesTo_31 ?_
      refine x_nm (fun x5 ex5 => ?_)
      refine lv_istore (lv' := [(6, .int (xJ x5)), (0, .ref (h0 + 268)), (2, .int (xJ b)), (3, .int (xJ i3_16)), (4, .int (xJ x1)), (5, .int (xJ i5_16))]) hx hb dX11_comesTo_32 hl (by decide) rfl (fun ls hl => ?_)
      refine x_aload_n hx hb hl 1 rfl dX11_comesTo_34 rfl ?_
      refine x_get (j := 24) (v := .ref (h0 + 283)) hx hb hown hT hE hW cls_X11 (Or.inl (by decide)) (so_268 h0 g _) (by decide) rfl wq1209 dX11_comesTo_35 ?_
      refine x_iload hx hb hl 5 rfl dX11_comesTo_38 ?_
      refine x_iald hx hb hE hW (Or.inl (by decide)) (sa_283 h0 g _) (by omega) (by decide) dX11_comesTo_40 ?_
      refine x_rd hW (fun x6 ex6 rx6 => ?_)
      have V40 : x6 = u9 := by rw [ex6, hF_16 283 (by first | decide | omega)]; exact eu9.symm
      refine lv_ldc (v := xJ 1048576) hx hb hown (hT _ wq1482) dX11_comesTo_41 ?_
      refine x_irem hx hb rx6 (by decide) (by omega) (by decide) dX11_comesTo_43 ?_
      refine x_nm (fun x7 ex7 => ?_)
      refine lv_istore (lv' := [(7, .int (xJ x7)), (6, .int (xJ x5)), (0, .ref (h0 + 268)), (2, .int (xJ b)), (3, .int (xJ i3_16)), (4, .int (xJ x1)), (5, .int (xJ i5_16))]) hx hb dX11_comesTo_44 hl (by decide) rfl (fun ls hl => ?_)
      refine x_iload hx hb hl 6 rfl dX11_comesTo_46 ?_
      refine x_iconst hx hb dX11_comesTo_48 ?_
      refine x_iadd hx hb dX11_comesTo_49 ?_
      refine x_nm (fun x8 ex8 => ?_)
      refine lv_istore (lv' := [(5, .int (xJ x8)), (7, .int (xJ x7)), (6, .int (xJ x5)), (0, .ref (h0 + 268)), (2, .int (xJ b)), (3, .int (xJ i3_16)), (4, .int (xJ x1))]) hx hb dX11_comesTo_50 hl (by decide) rfl (fun ls hl => ?_)
      refine x_iload hx hb hl 2 rfl dX11_comesTo_52 ?_
      refine x_if_eq (tgt := 63) hx hb (by omega) dX11_comesTo_54 (by decide) (fun c9 => ?_) (fun c9 => ?_)
      · skip
        refine x_aload_n hx hb hl 3 rfl dX11_comesTo_63 rfl ?_
        refine x_get (j := 38) (v := .ref (h0 + 293)) hx hb hown hT hE hW cls_X11 (Or.inl (by decide)) (so_268 h0 g _) (by decide) rfl wq1223 dX11_comesTo_64 ?_
        refine x_iload_n hx hb hl 5 rfl dX11_comesTo_67 rfl ?_
        refine x_iload hx hb hl 2 rfl dX11_comesTo_68 ?_
        refine x_if_ne (tgt := 78) hx hb (by omega) dX11_comesTo_70 (by decide) (fun c10 => ?_) (fun c10 => ?_)
        · skip
          refine x_aload_n hx hb hl 3 rfl dX11_comesTo_78 rfl ?_
          refine x_get (j := 39) (v := .ref (h0 + 294)) hx hb hown hT hE hW cls_X11 (Or.inl (by decide)) (so_268 h0 g _) (by decide) rfl wq1224 dX11_comesTo_79 ?_
          refine x_iload hx hb hl 1 rfl dX11_comesTo_82 ?_
          refine x_iald hx hb hE hW (Or.inl (by decide)) (sa_294 h0 g _) (by omega) (by decide) dX11_comesTo_84 ?_
          refine x_rd hW (fun x11 ex11 rx11 => ?_)
          have V84 : x11 = s0 294 x7 := by rw [ex11, hF_16 294 (by first | decide | omega)]
          refine x_iast hx hb hE hW (by decide) (fun σ => sa_293 h0 g σ) (by omega) (by decide) rx11 dX11_comesTo_85 (fun H locs s12 es12 hW => ?_)
          have q13 : IMn s12 := by rw [es12]; exact IMn_o (by unfold suIMn; first | decide | omega) q16_0
          have q14 : IMk s12 := by rw [es12]; exact IMk_o (by unfold suIMk; first | decide | omega) q16_1
          have q15 : IMo s12 := by rw [es12]; exact IMo_o (by unfold suIMo; first | decide | omega) q16_2
          have q16 : s12 268 8 = s0 268 8 := (show s12 268 8 = s_16 268 8 from by rw [es12, xU_k _ _ _ (by first | decide | omega)]).trans q16_3
          have q17 : s12 268 58 = s0 268 58 := (show s12 268 58 = s_16 268 58 from by rw [es12, xU_k _ _ _ (by first | decide | omega)]).trans q16_4
          have hF18 := hF_16.put es12 (by omega)
          have X85 : zl0 (s12 293) (i3_16 + 1) = x11 :: zl0 (s_16 293) i3_16 := by rw [es12, xU_xud]; exact zl0_push _ rfl rfl (by omega)
          refine x_iload_n hx hb hl 5 rfl dX11_comesTo_86 rfl ?_
          refine x_iconst hx hb dX11_comesTo_87 ?_
          refine x_iadd hx hb dX11_comesTo_88 ?_
          refine x_nm (fun x19 ex19 => ?_)
          refine lv_istore_n (lv' := [(3, .int (xJ x19)), (5, .int (xJ x8)), (7, .int (xJ x7)), (6, .int (xJ x5)), (0, .ref (h0 + 268)), (2, .int (xJ b)), (4, .int (xJ x1))]) hx hb dX11_comesTo_89 rfl hl (by decide) rfl (fun ls hl => ?_)
          refine lv_goto (tgt := 230) hx hb dX11_comesTo_90 (by decide) ?_
          refine lv_goto (tgt := 16) hx hb dX11_comesTo_230 (by decide) ?_
          exact ih16 x19 x8 s12 H locs ls (by omega) (by omega) hF18 q13 q14 q15 q16 q17 (by omega) (by omega) (by
            first
              | exact (by
                  have gg := V84
                  rw [show x19 = i3_16 + 1 from by omega, X85]
                  exact v16_2.let_ hg (by omega) (by rw [← eu9]; omega) (by rw [V84, ← eu9]; congr 1; omega) (by omega))
              | exact (by
                  have gg := X85
                  rw [show x19 = i3_16 + 1 from by omega, X85]
                  exact v16_2.num hg (by omega) (by rw [← eu9]; omega) (by rw [← eu9]; omega) (by omega))
              | exact (by
                  have gg := X117
                  have tp := T28 () (by omega)
                  rw [X117]
                  exact v16_2.not hg (by omega) (by rw [← eu9]; omega) (by rw [L28 () (by omega)]; show _ = 1 - s_16 293 (i3_16 - 1); omega) (by rw [L28 () (by omega)]; rfl) (by omega))
              | exact (by
                  have gg := X229
                  have e1 := L28 () (by omega)
                  have hh : zhd (zl0 (s_16 293) i3_16) = s_16 293 (i3_16 - 1) := by rw [e1]; rfl
                  have e2 := zl0_pop (s_16 293) (n := i3_16 - 1) (by omega)
                  rw [e2] at e1
                  rw [X229]
                  exact v16_2.op hg (by omega) (by rw [← eu9]; omega) (by rw [← eu9, hh]; omega) e1 (by rw [← eu9]; exact W229) (by omega))
              | exact (by
                  have hh : zhd (zl0 (s_16 293) i3_16) = s_16 293 (i3_16 - 1) := by rw [L28 () (by omega)]; rfl
                  rw [show x19 = i3_16 - 1 from by omega]
                  exact v16_2.stay hg (by omega) (by rw [← eu9, hh]; omega) (by rw [hh]; exact L28 () (by omega)) (by omega))
              | exact (by
                  have tp := T28 () (by omega)
                  have hh : zhd (zl0 (s_16 293) i3_16) = s_16 293 (i3_16 - 1) := by rw [L28 () (by omega)]; rfl
                  exact (v16_2.jmp hg (by omega) (by rw [← eu9, hh]; omega) (by rw [← eu9]; omega)).1)
              | (exfalso; omega)) (by have hm := hm_16 (); omega) hW (lv_sub hl [4, 5, 0, 6, 1] rfl)
        refine x_iload hx hb hl 1 rfl dX11_comesTo_73 ?_
        refine lv_goto (tgt := 85) hx hb dX11_comesTo_75 (by decide) ?_
        refine x_iast hx hb hE hW (by decide) (fun σ => sa_293 h0 g σ) (by omega) (by decide) (by omega) dX11_comesTo_85 (fun H locs s20 es20 hW => ?_)
        have q21 : IMn s20 := by rw [es20]; exact IMn_o (by unfold suIMn; first | decide | omega) q16_0
        have q22 : IMk s20 := by rw [es20]; exact IMk_o (by unfold suIMk; first | decide | omega) q16_1
        have q23 : IMo s20 := by rw [es20]; exact IMo_o (by unfold suIMo; first | decide | omega) q16_2
        have q24 : s20 268 8 = s0 268 8 := (show s20 268 8 = s_16 268 8 from by rw [es20, xU_k _ _ _ (by first | decide | omega)]).trans q16_3
        have q25 : s20 268 58 = s0 268 58 := (show s20 268 58 = s_16 268 58 from by rw [es20, xU_k _ _ _ (by first | decide | omega)]).trans q16_4
        have hF26 := hF_16.put es20 (by omega)
        have X85 : zl0 (s20 293) (i3_16 + 1) = x7 :: zl0 (s_16 293) i3_16 := by rw [es20, xU_xud]; exact zl0_push _ rfl rfl (by omega)
        refine x_iload_n hx hb hl 5 rfl dX11_comesTo_86 rfl ?_
        refine x_iconst hx hb dX11_comesTo_87 ?_
        refine x_iadd hx hb dX11_comesTo_88 ?_
        refine x_nm (fun x27 ex27 => ?_)
        refine lv_istore_n (lv' := [(3, .int (xJ x27)), (5, .int (xJ x8)), (7, .int (xJ x7)), (6, .int (xJ x5)), (0, .ref (h0 + 268)), (2, .int (xJ b)), (4, .int (xJ x1))]) hx hb dX11_comesTo_89 rfl hl (by decide) rfl (fun ls hl => ?_)
        refine lv_goto (tgt := 230) hx hb dX11_comesTo_90 (by decide) ?_
        refine lv_goto (tgt := 16) hx hb dX11_comesTo_230 (by decide) ?_
        exact ih16 x27 x8 s20 H locs ls (by omega) (by omega) hF26 q21 q22 q23 q24 q25 (by omega) (by omega) (by
            first
              | exact (by
                  have gg := V84
                  rw [show x27 = i3_16 + 1 from by omega, X85]
                  exact v16_2.let_ hg (by omega) (by rw [← eu9]; omega) (by rw [V84, ← eu9]; congr 1; omega) (by omega))
              | exact (by
                  have gg := X85
                  rw [show x27 = i3_16 + 1 from by omega, X85]
                  exact v16_2.num hg (by omega) (by rw [← eu9]; omega) (by rw [← eu9]; omega) (by omega))
              | exact (by
                  have gg := X117
                  have tp := T28 () (by omega)
                  rw [X117]
                  exact v16_2.not hg (by omega) (by rw [← eu9]; omega) (by rw [L28 () (by omega)]; show _ = 1 - s_16 293 (i3_16 - 1); omega) (by rw [L28 () (by omega)]; rfl) (by omega))
              | exact (by
                  have gg := X229
                  have e1 := L28 () (by omega)
                  have hh : zhd (zl0 (s_16 293) i3_16) = s_16 293 (i3_16 - 1) := by rw [e1]; rfl
                  have e2 := zl0_pop (s_16 293) (n := i3_16 - 1) (by omega)
                  rw [e2] at e1
                  rw [X229]
                  exact v16_2.op hg (by omega) (by rw [← eu9]; omega) (by rw [← eu9, hh]; omega) e1 (by rw [← eu9]; exact W229) (by omega))
              | exact (by
                  have hh : zhd (zl0 (s_16 293) i3_16) = s_16 293 (i3_16 - 1) := by rw [L28 () (by omega)]; rfl
                  rw [show x27 = i3_16 - 1 from by omega]
                  exact v16_2.stay hg (by omega) (by rw [← eu9, hh]; omega) (by rw [hh]; exact L28 () (by omega)) (by omega))
              | exact (by
                  have tp := T28 () (by omega)
                  have hh : zhd (zl0 (s_16 293) i3_16) = s_16 293 (i3_16 - 1) := by rw [L28 () (by omega)]; rfl
                  exact (v16_2.jmp hg (by omega) (by rw [← eu9, hh]; omega) (by rw [← eu9]; omega)).1)
              | (exfalso; omega)) (by have hm := hm_16 (); omega) hW (lv_sub hl [4, 5, 0, 6, 1] rfl)
      refine x_iload hx hb hl 2 rfl dX11_comesTo_57 ?_
      refine x_iconst hx hb dX11_comesTo_59 ?_
      refine x_icmp_ne (tgt := 93) hx hb (by omega) (by decide) dX11_comesTo_60 (by decide) (fun c28 => ?_) (fun c28 => ?_)
      · skip
        refine x_iload hx hb hl 2 rfl dX11_comesTo_93 ?_
        refine x_bipush hx hb dX11_comesTo_95 (by decide) ?_
        refine x_icmp_ne (tgt := 121) hx hb (by omega) (by decide) dX11_comesTo_97 (by decide) (fun c29 => ?_) (fun c29 => ?_)
        · skip
          refine x_iload hx hb hl 2 rfl dX11_comesTo_121 ?_
          refine x_bipush hx hb dX11_comesTo_123 (by decide) ?_
          refine x_icmp_eq (tgt := 135) hx hb (by omega) (by decide) dX11_comesTo_125 (by decide) (fun c30 => ?_) (fun c30 => ?_)
          · skip
            refine x_aload_n hx hb hl 3 rfl dX11_comesTo_135 rfl ?_
            refine x_get (j := 38) (v := .ref (h0 + 293)) hx hb hown hT hE hW cls_X11 (Or.inl (by decide)) (so_268 h0 g _) (by decide) rfl wq1223 dX11_comesTo_136 ?_
            refine x_iload_n hx hb hl 5 rfl dX11_comesTo_139 rfl ?_
            refine x_iconst hx hb dX11_comesTo_140 ?_
            refine x_isub hx hb dX11_comesTo_141 ?_
            refine x_iald hx hb hE hW (Or.inl (by decide)) (sa_293 h0 g _) (by omega) (by decide) dX11_comesTo_142 ?_
            refine x_rd hW (fun x31 ex31 rx31 => ?_)
            have V142 : x31 = s_16 293 (i3_16 - 1) := ex31
            refine x_iload hx hb hl 2 rfl dX11_comesTo_143 ?_
            refine x_bipush hx hb dX11_comesTo_145 (by decide) ?_
            refine x_icmp_ne (tgt := 154) hx hb (by omega) (by decide) dX11_comesTo_147 (by decide) (fun c32 => ?_) (fun c32 => ?_)
            · skip
              refine x_iconst hx hb dX11_comesTo_154 ?_
              refine x_icmp_ne (tgt := 168) hx hb rx31 (by decide) dX11_comesTo_155 (by decide) (fun c33 => ?_) (fun c33 => ?_)
              · skip
                refine x_iload_n hx hb hl 5 rfl dX11_comesTo_168 rfl ?_
                refine x_iconst hx hb dX11_comesTo_169 ?_
                refine x_isub hx hb dX11_comesTo_170 ?_
                refine x_nm (fun x34 ex34 => ?_)
                refine lv_istore_n (lv' := [(3, .int (xJ x34)), (5, .int (xJ x8)), (7, .int (xJ x7)), (6, .int (xJ x5)), (0, .ref (h0 + 268)), (2, .int (xJ b)), (4, .int (xJ x1))]) hx hb dX11_comesTo_171 rfl hl (by decide) rfl (fun ls hl => ?_)
                refine lv_goto (tgt := 230) hx hb dX11_comesTo_172 (by decide) ?_
                refine lv_goto (tgt := 16) hx hb dX11_comesTo_230 (by decide) ?_
                exact ih16 x34 x8 s_16 H locs ls (by omega) (by omega) hF_16 q16_0 q16_1 q16_2 q16_3 q16_4 (by omega) (by omega) (by
                    first
                      | exact (by
                          have gg := V84
                          rw [show x34 = i3_16 + 1 from by omega, X85]
                          exact v16_2.let_ hg (by omega) (by rw [← eu9]; omega) (by rw [V84, ← eu9]; congr 1; omega) (by omega))
                      | exact (by
                          have gg := X85
                          rw [show x34 = i3_16 + 1 from by omega, X85]
                          exact v16_2.num hg (by omega) (by rw [← eu9]; omega) (by rw [← eu9]; omega) (by omega))
                      | exact (by
                          have gg := X117
                          have tp := T28 () (by omega)
                          rw [X117]
                          exact v16_2.not hg (by omega) (by rw [← eu9]; omega) (by rw [L28 () (by omega)]; show _ = 1 - s_16 293 (i3_16 - 1); omega) (by rw [L28 () (by omega)]; rfl) (by omega))
                      | exact (by
                          have gg := X229
                          have e1 := L28 () (by omega)
                          have hh : zhd (zl0 (s_16 293) i3_16) = s_16 293 (i3_16 - 1) := by rw [e1]; rfl
                          have e2 := zl0_pop (s_16 293) (n := i3_16 - 1) (by omega)
                          rw [e2] at e1
                          rw [X229]
                          exact v16_2.op hg (by omega) (by rw [← eu9]; omega) (by rw [← eu9, hh]; omega) e1 (by rw [← eu9]; exact W229) (by omega))
                      | exact (by
                          have hh : zhd (zl0 (s_16 293) i3_16) = s_16 293 (i3_16 - 1) := by rw [L28 () (by omega)]; rfl
                          rw [show x34 = i3_16 - 1 from by omega]
                          exact v16_2.stay hg (by omega) (by rw [← eu9, hh]; omega) (by rw [hh]; exact L28 () (by omega)) (by omega))
                      | exact (by
                          have tp := T28 () (by omega)
                          have hh : zhd (zl0 (s_16 293) i3_16) = s_16 293 (i3_16 - 1) := by rw [L28 () (by omega)]; rfl
                          exact (v16_2.jmp hg (by omega) (by rw [← eu9, hh]; omega) (by rw [← eu9]; omega)).1)
                      | (exfalso; omega)) (by have hm := hm_16 (); omega) hW (lv_sub hl [4, 5, 0, 6, 1] rfl)
              refine x_iload hx hb hl 6 rfl dX11_comesTo_158 ?_
              refine x_iload hx hb hl 1 rfl dX11_comesTo_160 ?_
              refine x_iadd hx hb dX11_comesTo_162 ?_
              refine x_nm (fun x35 ex35 => ?_)
              refine lv_istore (lv' := [(5, .int (xJ x35)), (7, .int (xJ x7)), (6, .int (xJ x5)), (0, .ref (h0 + 268)), (2, .int (xJ b)), (3, .int (xJ i3_16)), (4, .int (xJ x1))]) hx hb dX11_comesTo_163 hl (by decide) rfl (fun ls hl => ?_)
              refine lv_goto (tgt := 230) hx hb dX11_comesTo_165 (by decide) ?_
              refine lv_goto (tgt := 16) hx hb dX11_comesTo_230 (by decide) ?_
              exact ih16 i3_16 x35 s_16 H locs ls ri3_16 (by omega) hF_16 q16_0 q16_1 q16_2 q16_3 q16_4 (by omega) (by omega) (by
                  first
                    | exact (by
                        have gg := V84
                        rw [show i3_16 = i3_16 + 1 from by omega, X85]
                        exact v16_2.let_ hg (by omega) (by rw [← eu9]; omega) (by rw [V84, ← eu9]; congr 1; omega) (by omega))
                    | exact (by
                        have gg := X85
                        rw [show i3_16 = i3_16 + 1 from by omega, X85]
                        exact v16_2.num hg (by omega) (by rw [← eu9]; omega) (by rw [← eu9]; omega) (by omega))
                    | exact (by
                        have gg := X117
                        have tp := T28 () (by omega)
                        rw [X117]
                        exact v16_2.not hg (by omega) (by rw [← eu9]; omega) (by rw [L28 () (by omega)]; show _ = 1 - s_16 293 (i3_16 - 1); omega) (by rw [L28 () (by omega)]; rfl) (by omega))
                    | exact (by
                        have gg := X229
                        have e1 := L28 () (by omega)
                        have hh : zhd (zl0 (s_16 293) i3_16) = s_16 293 (i3_16 - 1) := by rw [e1]; rfl
                        have e2 := zl0_pop (s_16 293) (n := i3_16 - 1) (by omega)
                        rw [e2] at e1
                        rw [X229]
                        exact v16_2.op hg (by omega) (by rw [← eu9]; omega) (by rw [← eu9, hh]; omega) e1 (by rw [← eu9]; exact W229) (by omega))
                    | exact (by
                        have hh : zhd (zl0 (s_16 293) i3_16) = s_16 293 (i3_16 - 1) := by rw [L28 () (by omega)]; rfl
                        rw [show i3_16 = i3_16 - 1 from by omega]
                        exact v16_2.stay hg (by omega) (by rw [← eu9, hh]; omega) (by rw [hh]; exact L28 () (by omega)) (by omega))
                    | exact (by
                        have tp := T28 () (by omega)
                        have hh : zhd (zl0 (s_16 293) i3_16) = s_16 293 (i3_16 - 1) := by rw [L28 () (by omega)]; rfl
                        exact (v16_2.jmp hg (by omega) (by rw [← eu9, hh]; omega) (by rw [← eu9]; omega)).1)
                    | (exfalso; omega)) (by have hm := hm_16 (); omega) hW (lv_sub hl [3, 4, 5, 6, 0] rfl)
            refine x_iconst hx hb dX11_comesTo_150 ?_
            refine lv_goto (tgt := 155) hx hb dX11_comesTo_151 (by decide) ?_
            refine x_icmp_ne (tgt := 168) hx hb rx31 (by decide) dX11_comesTo_155 (by decide) (fun c36 => ?_) (fun c36 => ?_)
            · skip
              refine x_iload_n hx hb hl 5 rfl dX11_comesTo_168 rfl ?_
              refine x_iconst hx hb dX11_comesTo_169 ?_
              refine x_isub hx hb dX11_comesTo_170 ?_
              refine x_nm (fun x37 ex37 => ?_)
              refine lv_istore_n (lv' := [(3, .int (xJ x37)), (5, .int (xJ x8)), (7, .int (xJ x7)), (6, .int (xJ x5)), (0, .ref (h0 + 268)), (2, .int (xJ b)), (4, .int (xJ x1))]) hx hb dX11_comesTo_171 rfl hl (by decide) rfl (fun ls hl => ?_)
              refine lv_goto (tgt := 230) hx hb dX11_comesTo_172 (by decide) ?_
              refine lv_goto (tgt := 16) hx hb dX11_comesTo_230 (by decide) ?_
              exact ih16 x37 x8 s_16 H locs ls (by omega) (by omega) hF_16 q16_0 q16_1 q16_2 q16_3 q16_4 (by omega) (by omega) (by
                  first
                    | exact (by
                        have gg := V84
                        rw [show x37 = i3_16 + 1 from by omega, X85]
                        exact v16_2.let_ hg (by omega) (by rw [← eu9]; omega) (by rw [V84, ← eu9]; congr 1; omega) (by omega))
                    | exact (by
                        have gg := X85
                        rw [show x37 = i3_16 + 1 from by omega, X85]
                        exact v16_2.num hg (by omega) (by rw [← eu9]; omega) (by rw [← eu9]; omega) (by omega))
                    | exact (by
                        have gg := X117
                        have tp := T28 () (by omega)
                        rw [X117]
                        exact v16_2.not hg (by omega) (by rw [← eu9]; omega) (by rw [L28 () (by omega)]; show _ = 1 - s_16 293 (i3_16 - 1); omega) (by rw [L28 () (by omega)]; rfl) (by omega))
                    | exact (by
                        have gg := X229
                        have e1 := L28 () (by omega)
                        have hh : zhd (zl0 (s_16 293) i3_16) = s_16 293 (i3_16 - 1) := by rw [e1]; rfl
                        have e2 := zl0_pop (s_16 293) (n := i3_16 - 1) (by omega)
                        rw [e2] at e1
                        rw [X229]
                        exact v16_2.op hg (by omega) (by rw [← eu9]; omega) (by rw [← eu9, hh]; omega) e1 (by rw [← eu9]; exact W229) (by omega))
                    | exact (by
                        have hh : zhd (zl0 (s_16 293) i3_16) = s_16 293 (i3_16 - 1) := by rw [L28 () (by omega)]; rfl
                        rw [show x37 = i3_16 - 1 from by omega]
                        exact v16_2.stay hg (by omega) (by rw [← eu9, hh]; omega) (by rw [hh]; exact L28 () (by omega)) (by omega))
                    | exact (by
                        have tp := T28 () (by omega)
                        have hh : zhd (zl0 (s_16 293) i3_16) = s_16 293 (i3_16 - 1) := by rw [L28 () (by omega)]; rfl
                        exact (v16_2.jmp hg (by omega) (by rw [← eu9, hh]; omega) (by rw [← eu9]; omega)).1)
                    | (exfalso; omega)) (by have hm := hm_16 (); omega) hW (lv_sub hl [4, 5, 0, 6, 1] rfl)
            refine x_iload hx hb hl 6 rfl dX11_comesTo_158 ?_
            refine x_iload hx hb hl 1 rfl dX11_comesTo_160 ?_
            refine x_iadd hx hb dX11_comesTo_162 ?_
            refine x_nm (fun x38 ex38 => ?_)
            refine lv_istore (lv' := [(5, .int (xJ x38)), (7, .int (xJ x7)), (6, .int (xJ x5)), (0, .ref (h0 + 268)), (2, .int (xJ b)), (3, .int (xJ i3_16)), (4, .int (xJ x1))]) hx hb dX11_comesTo_163 hl (by decide) rfl (fun ls hl => ?_)
            refine lv_goto (tgt := 230) hx hb dX11_comesTo_165 (by decide) ?_
            refine lv_goto (tgt := 16) hx hb dX11_comesTo_230 (by decide) ?_
            exact ih16 i3_16 x38 s_16 H locs ls ri3_16 (by omega) hF_16 q16_0 q16_1 q16_2 q16_3 q16_4 (by omega) (by omega) (by
                first
                  | exact (by
                      have gg := V84
                      rw [show i3_16 = i3_16 + 1 from by omega, X85]
                      exact v16_2.let_ hg (by omega) (by rw [← eu9]; omega) (by rw [V84, ← eu9]; congr 1; omega) (by omega))
                  | exact (by
                      have gg := X85
                      rw [show i3_16 = i3_16 + 1 from by omega, X85]
                      exact v16_2.num hg (by omega) (by rw [← eu9]; omega) (by rw [← eu9]; omega) (by omega))
                  | exact (by
                      have gg := X117
                      have tp := T28 () (by omega)
                      rw [X117]
                      exact v16_2.not hg (by omega) (by rw [← eu9]; omega) (by rw [L28 () (by omega)]; show _ = 1 - s_16 293 (i3_16 - 1); omega) (by rw [L28 () (by omega)]; rfl) (by omega))
                  | exact (by
                      have gg := X229
                      have e1 := L28 () (by omega)
                      have hh : zhd (zl0 (s_16 293) i3_16) = s_16 293 (i3_16 - 1) := by rw [e1]; rfl
                      have e2 := zl0_pop (s_16 293) (n := i3_16 - 1) (by omega)
                      rw [e2] at e1
                      rw [X229]
                      exact v16_2.op hg (by omega) (by rw [← eu9]; omega) (by rw [← eu9, hh]; omega) e1 (by rw [← eu9]; exact W229) (by omega))
                  | exact (by
                      have hh : zhd (zl0 (s_16 293) i3_16) = s_16 293 (i3_16 - 1) := by rw [L28 () (by omega)]; rfl
                      rw [show i3_16 = i3_16 - 1 from by omega]
                      exact v16_2.stay hg (by omega) (by rw [← eu9, hh]; omega) (by rw [hh]; exact L28 () (by omega)) (by omega))
                  | exact (by
                      have tp := T28 () (by omega)
                      have hh : zhd (zl0 (s_16 293) i3_16) = s_16 293 (i3_16 - 1) := by rw [L28 () (by omega)]; rfl
                      exact (v16_2.jmp hg (by omega) (by rw [← eu9, hh]; omega) (by rw [← eu9]; omega)).1)
                  | (exfalso; omega)) (by have hm := hm_16 (); omega) hW (lv_sub hl [3, 4, 5, 6, 0] rfl)
          refine x_iload hx hb hl 2 rfl dX11_comesTo_128 ?_
          refine x_bipush hx hb dX11_comesTo_130 (by decide) ?_
          refine x_icmp_ne (tgt := 175) hx hb (by omega) (by decide) dX11_comesTo_132 (by decide) (fun c39 => ?_) (fun c39 => ?_)
          · skip
            refine x_iload_n hx hb hl 5 rfl dX11_comesTo_175 rfl ?_
            refine x_iconst hx hb dX11_comesTo_176 ?_
            refine x_isub hx hb dX11_comesTo_177 ?_
            refine x_nm (fun x40 ex40 => ?_)
            refine lv_istore_n (lv' := [(3, .int (xJ x40)), (5, .int (xJ x8)), (7, .int (xJ x7)), (6, .int (xJ x5)), (0, .ref (h0 + 268)), (2, .int (xJ b)), (4, .int (xJ x1))]) hx hb dX11_comesTo_178 rfl hl (by decide) rfl (fun ls hl => ?_)
            refine x_iload hx hb hl 3 rfl dX11_comesTo_179 ?_
            refine x_iconst hx hb dX11_comesTo_181 ?_
            refine x_icmp_eq (tgt := 192) hx hb (by omega) (by decide) dX11_comesTo_182 (by decide) (fun c41 => ?_) (fun c41 => ?_)
            · skip
              refine x_aload_n hx hb hl 4 rfl dX11_comesTo_192 rfl ?_
              refine x_get (j := 38) (v := .ref (h0 + 293)) hx hb hown hT hE hW cls_X11 (Or.inl (by decide)) (so_268 h0 g _) (by decide) rfl wq1223 dX11_comesTo_193 ?_
              refine x_iload_n hx hb hl 0 rfl dX11_comesTo_196 rfl ?_
              refine x_iald hx hb hE hW (Or.inl (by decide)) (sa_293 h0 g _) (by omega) (by decide) dX11_comesTo_197 ?_
              refine x_rd hW (fun x42 ex42 rx42 => ?_)
              have V197 : x42 = s_16 293 (i3_16 - 1) := by rw [ex42, show x40 = i3_16 - 1 from by omega]
              refine x_if_ne (tgt := 203) hx hb rx42 dX11_comesTo_198 (by decide) (fun c43 => ?_) (fun c43 => ?_)
              · skip
                refine x_aload_n hx hb hl 4 rfl dX11_comesTo_203 rfl ?_
                refine x_get (j := 38) (v := .ref (h0 + 293)) hx hb hown hT hE hW cls_X11 (Or.inl (by decide)) (so_268 h0 g _) (by decide) rfl wq1223 dX11_comesTo_204 ?_
                refine x_iload_n hx hb hl 0 rfl dX11_comesTo_207 rfl ?_
                refine x_iconst hx hb dX11_comesTo_208 ?_
                refine x_isub hx hb dX11_comesTo_209 ?_
                refine x_iload hx hb hl 3 rfl dX11_comesTo_210 ?_
                refine x_aload_n hx hb hl 4 rfl dX11_comesTo_212 rfl ?_
                refine x_get (j := 38) (v := .ref (h0 + 293)) hx hb hown hT hE hW cls_X11 (Or.inl (by decide)) (so_268 h0 g _) (by decide) rfl wq1223 dX11_comesTo_213 ?_
                refine x_iload_n hx hb hl 0 rfl dX11_comesTo_216 rfl ?_
                refine x_iconst hx hb dX11_comesTo_217 ?_
                refine x_isub hx hb dX11_comesTo_218 ?_
                refine x_iald hx hb hE hW (Or.inl (by decide)) (sa_293 h0 g _) (by omega) (by decide) dX11_comesTo_219 ?_
                refine x_rd hW (fun x44 ex44 rx44 => ?_)
                have V219 : x44 = s_16 293 (i3_16 - 1 - 1) := by rw [ex44, show x40 = i3_16 - 1 from by omega]
                refine x_aload_n hx hb hl 4 rfl dX11_comesTo_220 rfl ?_
                refine x_get (j := 38) (v := .ref (h0 + 293)) hx hb hown hT hE hW cls_X11 (Or.inl (by decide)) (so_268 h0 g _) (by decide) rfl wq1223 dX11_comesTo_221 ?_
                refine x_iload_n hx hb hl 0 rfl dX11_comesTo_224 rfl ?_
                refine x_iald hx hb hE hW (Or.inl (by decide)) (sa_293 h0 g _) (by omega) (by decide) dX11_comesTo_225 ?_
                refine x_rd hW (fun x45 ex45 rx45 => ?_)
                have V225 : x45 = s_16 293 (i3_16 - 1) := by rw [ex45, show x40 = i3_16 - 1 from by omega]
                refine x_goi (x_runS (As := [.int (xJ x5), .int (xJ x44), .int (xJ x45)]) hx hb hml hown hT hE hW hl.1 cf_X11_reckon wq1584 wq1583 (c_X11_reckonV l D g T h0 s_16 hW.2.1 x5 (by omega) x44 rx44 x45 rx45 (⟨by omega, by omega, fun _ => by omega⟩)) ⟨rfl, rfl, ⟨by decide, by decide⟩, ⟨by decide, by decide⟩⟩ rfl rfl (Nat.le_of_ble_eq_true rfl) dX11_comesTo_226) hW (fun x46 s47 H locs rx46 hp48 hW => ?_)
                obtain ⟨es47, hp48⟩ := hp48
                subst es47
                have ghp48 := hp48
                have H226 := ghp48
                rw [show x5 = u9 / 1048576 from by omega, V219, V225] at H226
                refine x_iast hx hb hE hW (by decide) (fun σ => sa_293 h0 g σ) (by omega) (by decide) rx46 dX11_comesTo_229 (fun H locs s49 es49 hW => ?_)
                have q50 : IMn s49 := by rw [es49]; exact IMn_o (by unfold suIMn; first | decide | omega) q16_0
                have q51 : IMk s49 := by rw [es49]; exact IMk_o (by unfold suIMk; first | decide | omega) q16_1
                have q52 : IMo s49 := by rw [es49]; exact IMo_o (by unfold suIMo; first | decide | omega) q16_2
                have q53 : s49 268 8 = s0 268 8 := (show s49 268 8 = s_16 268 8 from by rw [es49, xU_k _ _ _ (by first | decide | omega)]).trans q16_3
                have q54 : s49 268 58 = s0 268 58 := (show s49 268 58 = s_16 268 58 from by rw [es49, xU_k _ _ _ (by first | decide | omega)]).trans q16_4
                have hF55 := hF_16.put es49 (by omega)
                have X229 : zl0 (s49 293) x40 = x46 :: zl0 (s_16 293) (i3_16 - 1 - 1) := by rw [es49, xU_xud, show x40 = i3_16 - 1 from by omega]; exact zl0_put _ rfl (by omega)
                have W229 := H226
                refine lv_goto (tgt := 16) hx hb dX11_comesTo_230 (by decide) ?_
                exact ih16 x40 x8 s49 H locs ls (by omega) (by omega) hF55 q50 q51 q52 q53 q54 (by omega) (by omega) (by
                    first
                      | exact (by
                          have gg := V84
                          rw [show x40 = i3_16 + 1 from by omega, X85]
                          exact v16_2.let_ hg (by omega) (by rw [← eu9]; omega) (by rw [V84, ← eu9]; congr 1; omega) (by omega))
                      | exact (by
                          have gg := X85
                          rw [show x40 = i3_16 + 1 from by omega, X85]
                          exact v16_2.num hg (by omega) (by rw [← eu9]; omega) (by rw [← eu9]; omega) (by omega))
                      | exact (by
                          have gg := X117
                          have tp := T28 () (by omega)
                          rw [X117]
                          exact v16_2.not hg (by omega) (by rw [← eu9]; omega) (by rw [L28 () (by omega)]; show _ = 1 - s_16 293 (i3_16 - 1); omega) (by rw [L28 () (by omega)]; rfl) (by omega))
                      | exact (by
                          have gg := X229
                          have e1 := L28 () (by omega)
                          have hh : zhd (zl0 (s_16 293) i3_16) = s_16 293 (i3_16 - 1) := by rw [e1]; rfl
                          have e2 := zl0_pop (s_16 293) (n := i3_16 - 1) (by omega)
                          rw [e2] at e1
                          rw [X229]
                          exact v16_2.op hg (by omega) (by rw [← eu9]; omega) (by rw [← eu9, hh]; omega) e1 (by rw [← eu9]; exact W229) (by omega))
                      | exact (by
                          have hh : zhd (zl0 (s_16 293) i3_16) = s_16 293 (i3_16 - 1) := by rw [L28 () (by omega)]; rfl
                          rw [show x40 = i3_16 - 1 from by omega]
                          exact v16_2.stay hg (by omega) (by rw [← eu9, hh]; omega) (by rw [hh]; exact L28 () (by omega)) (by omega))
                      | exact (by
                          have tp := T28 () (by omega)
                          have hh : zhd (zl0 (s_16 293) i3_16) = s_16 293 (i3_16 - 1) := by rw [L28 () (by omega)]; rfl
                          exact (v16_2.jmp hg (by omega) (by rw [← eu9, hh]; omega) (by rw [← eu9]; omega)).1)
                      | (exfalso; omega)) (by have hm := hm_16 (); omega) hW (lv_sub hl [4, 5, 0, 6, 1] rfl)
              refine x_iconst hx hb dX11_comesTo_201 ?_
              rw [eQ]
              exact x_iret hx hb hr hlk hW (by decide) ⟨hF_16, ⟨q16_0, q16_1, q16_2, trivial⟩, by
                  rw [← eV0]
                  have z := v16_2.zero (by omega) (by rw [← eu9]; omega) (by rw [L28 () (by omega)]; show s_16 293 (i3_16 - 1) = 0; omega)
                  omega⟩ dX11_comesTo_202
            refine x_iload hx hb hl 3 rfl dX11_comesTo_185 ?_
            refine x_bipush hx hb dX11_comesTo_187 (by decide) ?_
            refine x_icmp_ne (tgt := 203) hx hb (by omega) (by decide) dX11_comesTo_189 (by decide) (fun c56 => ?_) (fun c56 => ?_)
            · skip
              refine x_aload_n hx hb hl 4 rfl dX11_comesTo_203 rfl ?_
              refine x_get (j := 38) (v := .ref (h0 + 293)) hx hb hown hT hE hW cls_X11 (Or.inl (by decide)) (so_268 h0 g _) (by decide) rfl wq1223 dX11_comesTo_204 ?_
              refine x_iload_n hx hb hl 0 rfl dX11_comesTo_207 rfl ?_
              refine x_iconst hx hb dX11_comesTo_208 ?_
              refine x_isub hx hb dX11_comesTo_209 ?_
              refine x_iload hx hb hl 3 rfl dX11_comesTo_210 ?_
              refine x_aload_n hx hb hl 4 rfl dX11_comesTo_212 rfl ?_
              refine x_get (j := 38) (v := .ref (h0 + 293)) hx hb hown hT hE hW cls_X11 (Or.inl (by decide)) (so_268 h0 g _) (by decide) rfl wq1223 dX11_comesTo_213 ?_
              refine x_iload_n hx hb hl 0 rfl dX11_comesTo_216 rfl ?_
              refine x_iconst hx hb dX11_comesTo_217 ?_
              refine x_isub hx hb dX11_comesTo_218 ?_
              refine x_iald hx hb hE hW (Or.inl (by decide)) (sa_293 h0 g _) (by omega) (by decide) dX11_comesTo_219 ?_
              refine x_rd hW (fun x57 ex57 rx57 => ?_)
              have V219 : x57 = s_16 293 (i3_16 - 1 - 1) := by rw [ex57, show x40 = i3_16 - 1 from by omega]
              refine x_aload_n hx hb hl 4 rfl dX11_comesTo_220 rfl ?_
              refine x_get (j := 38) (v := .ref (h0 + 293)) hx hb hown hT hE hW cls_X11 (Or.inl (by decide)) (so_268 h0 g _) (by decide) rfl wq1223 dX11_comesTo_221 ?_
              refine x_iload_n hx hb hl 0 rfl dX11_comesTo_224 rfl ?_
              refine x_iald hx hb hE hW (Or.inl (by decide)) (sa_293 h0 g _) (by omega) (by decide) dX11_comesTo_225 ?_
              refine x_rd hW (fun x58 ex58 rx58 => ?_)
              have V225 : x58 = s_16 293 (i3_16 - 1) := by rw [ex58, show x40 = i3_16 - 1 from by omega]
              refine x_goi (x_runS (As := [.int (xJ x5), .int (xJ x57), .int (xJ x58)]) hx hb hml hown hT hE hW hl.1 cf_X11_reckon wq1584 wq1583 (c_X11_reckonV l D g T h0 s_16 hW.2.1 x5 (by omega) x57 rx57 x58 rx58 (⟨by omega, by omega, fun _ => by omega⟩)) ⟨rfl, rfl, ⟨by decide, by decide⟩, ⟨by decide, by decide⟩⟩ rfl rfl (Nat.le_of_ble_eq_true rfl) dX11_comesTo_226) hW (fun x59 s60 H locs rx59 hp61 hW => ?_)
              obtain ⟨es60, hp61⟩ := hp61
              subst es60
              have ghp61 := hp61
              have H226 := ghp61
              rw [show x5 = u9 / 1048576 from by omega, V219, V225] at H226
              refine x_iast hx hb hE hW (by decide) (fun σ => sa_293 h0 g σ) (by omega) (by decide) rx59 dX11_comesTo_229 (fun H locs s62 es62 hW => ?_)
              have q63 : IMn s62 := by rw [es62]; exact IMn_o (by unfold suIMn; first | decide | omega) q16_0
              have q64 : IMk s62 := by rw [es62]; exact IMk_o (by unfold suIMk; first | decide | omega) q16_1
              have q65 : IMo s62 := by rw [es62]; exact IMo_o (by unfold suIMo; first | decide | omega) q16_2
              have q66 : s62 268 8 = s0 268 8 := (show s62 268 8 = s_16 268 8 from by rw [es62, xU_k _ _ _ (by first | decide | omega)]).trans q16_3
              have q67 : s62 268 58 = s0 268 58 := (show s62 268 58 = s_16 268 58 from by rw [es62, xU_k _ _ _ (by first | decide | omega)]).trans q16_4
              have hF68 := hF_16.put es62 (by omega)
              have X229 : zl0 (s62 293) x40 = x59 :: zl0 (s_16 293) (i3_16 - 1 - 1) := by rw [es62, xU_xud, show x40 = i3_16 - 1 from by omega]; exact zl0_put _ rfl (by omega)
              have W229 := H226
              refine lv_goto (tgt := 16) hx hb dX11_comesTo_230 (by decide) ?_
              exact ih16 x40 x8 s62 H locs ls (by omega) (by omega) hF68 q63 q64 q65 q66 q67 (by omega) (by omega) (by
                  first
                    | exact (by
                        have gg := V84
                        rw [show x40 = i3_16 + 1 from by omega, X85]
                        exact v16_2.let_ hg (by omega) (by rw [← eu9]; omega) (by rw [V84, ← eu9]; congr 1; omega) (by omega))
                    | exact (by
                        have gg := X85
                        rw [show x40 = i3_16 + 1 from by omega, X85]
                        exact v16_2.num hg (by omega) (by rw [← eu9]; omega) (by rw [← eu9]; omega) (by omega))
                    | exact (by
                        have gg := X117
                        have tp := T28 () (by omega)
                        rw [X117]
                        exact v16_2.not hg (by omega) (by rw [← eu9]; omega) (by rw [L28 () (by omega)]; show _ = 1 - s_16 293 (i3_16 - 1); omega) (by rw [L28 () (by omega)]; rfl) (by omega))
                    | exact (by
                        have gg := X229
                        have e1 := L28 () (by omega)
                        have hh : zhd (zl0 (s_16 293) i3_16) = s_16 293 (i3_16 - 1) := by rw [e1]; rfl
                        have e2 := zl0_pop (s_16 293) (n := i3_16 - 1) (by omega)
                        rw [e2] at e1
                        rw [X229]
                        exact v16_2.op hg (by omega) (by rw [← eu9]; omega) (by rw [← eu9, hh]; omega) e1 (by rw [← eu9]; exact W229) (by omega))
                    | exact (by
                        have hh : zhd (zl0 (s_16 293) i3_16) = s_16 293 (i3_16 - 1) := by rw [L28 () (by omega)]; rfl
                        rw [show x40 = i3_16 - 1 from by omega]
                        exact v16_2.stay hg (by omega) (by rw [← eu9, hh]; omega) (by rw [hh]; exact L28 () (by omega)) (by omega))
                    | exact (by
                        have tp := T28 () (by omega)
                        have hh : zhd (zl0 (s_16 293) i3_16) = s_16 293 (i3_16 - 1) := by rw [L28 () (by omega)]; rfl
                        exact (v16_2.jmp hg (by omega) (by rw [← eu9, hh]; omega) (by rw [← eu9]; omega)).1)
                    | (exfalso; omega)) (by have hm := hm_16 (); omega) hW (lv_sub hl [4, 5, 0, 6, 1] rfl)
            refine x_aload_n hx hb hl 4 rfl dX11_comesTo_192 rfl ?_
            refine x_get (j := 38) (v := .ref (h0 + 293)) hx hb hown hT hE hW cls_X11 (Or.inl (by decide)) (so_268 h0 g _) (by decide) rfl wq1223 dX11_comesTo_193 ?_
            refine x_iload_n hx hb hl 0 rfl dX11_comesTo_196 rfl ?_
            refine x_iald hx hb hE hW (Or.inl (by decide)) (sa_293 h0 g _) (by omega) (by decide) dX11_comesTo_197 ?_
            refine x_rd hW (fun x69 ex69 rx69 => ?_)
            have V197 : x69 = s_16 293 (i3_16 - 1) := by rw [ex69, show x40 = i3_16 - 1 from by omega]
            refine x_if_ne (tgt := 203) hx hb rx69 dX11_comesTo_198 (by decide) (fun c70 => ?_) (fun c70 => ?_)
            · skip
              refine x_aload_n hx hb hl 4 rfl dX11_comesTo_203 rfl ?_
              refine x_get (j := 38) (v := .ref (h0 + 293)) hx hb hown hT hE hW cls_X11 (Or.inl (by decide)) (so_268 h0 g _) (by decide) rfl wq1223 dX11_comesTo_204 ?_
              refine x_iload_n hx hb hl 0 rfl dX11_comesTo_207 rfl ?_
              refine x_iconst hx hb dX11_comesTo_208 ?_
              refine x_isub hx hb dX11_comesTo_209 ?_
              refine x_iload hx hb hl 3 rfl dX11_comesTo_210 ?_
              refine x_aload_n hx hb hl 4 rfl dX11_comesTo_212 rfl ?_
              refine x_get (j := 38) (v := .ref (h0 + 293)) hx hb hown hT hE hW cls_X11 (Or.inl (by decide)) (so_268 h0 g _) (by decide) rfl wq1223 dX11_comesTo_213 ?_
              refine x_iload_n hx hb hl 0 rfl dX11_comesTo_216 rfl ?_
              refine x_iconst hx hb dX11_comesTo_217 ?_
              refine x_isub hx hb dX11_comesTo_218 ?_
              refine x_iald hx hb hE hW (Or.inl (by decide)) (sa_293 h0 g _) (by omega) (by decide) dX11_comesTo_219 ?_
              refine x_rd hW (fun x71 ex71 rx71 => ?_)
              have V219 : x71 = s_16 293 (i3_16 - 1 - 1) := by rw [ex71, show x40 = i3_16 - 1 from by omega]
              refine x_aload_n hx hb hl 4 rfl dX11_comesTo_220 rfl ?_
              refine x_get (j := 38) (v := .ref (h0 + 293)) hx hb hown hT hE hW cls_X11 (Or.inl (by decide)) (so_268 h0 g _) (by decide) rfl wq1223 dX11_comesTo_221 ?_
              refine x_iload_n hx hb hl 0 rfl dX11_comesTo_224 rfl ?_
              refine x_iald hx hb hE hW (Or.inl (by decide)) (sa_293 h0 g _) (by omega) (by decide) dX11_comesTo_225 ?_
              refine x_rd hW (fun x72 ex72 rx72 => ?_)
              have V225 : x72 = s_16 293 (i3_16 - 1) := by rw [ex72, show x40 = i3_16 - 1 from by omega]
              refine x_goi (x_runS (As := [.int (xJ x5), .int (xJ x71), .int (xJ x72)]) hx hb hml hown hT hE hW hl.1 cf_X11_reckon wq1584 wq1583 (c_X11_reckonV l D g T h0 s_16 hW.2.1 x5 (by omega) x71 rx71 x72 rx72 (⟨by omega, by omega, fun _ => by omega⟩)) ⟨rfl, rfl, ⟨by decide, by decide⟩, ⟨by decide, by decide⟩⟩ rfl rfl (Nat.le_of_ble_eq_true rfl) dX11_comesTo_226) hW (fun x73 s74 H locs rx73 hp75 hW => ?_)
              obtain ⟨es74, hp75⟩ := hp75
              subst es74
              have ghp75 := hp75
              have H226 := ghp75
              rw [show x5 = u9 / 1048576 from by omega, V219, V225] at H226
              refine x_iast hx hb hE hW (by decide) (fun σ => sa_293 h0 g σ) (by omega) (by decide) rx73 dX11_comesTo_229 (fun H locs s76 es76 hW => ?_)
              have q77 : IMn s76 := by rw [es76]; exact IMn_o (by unfold suIMn; first | decide | omega) q16_0
              have q78 : IMk s76 := by rw [es76]; exact IMk_o (by unfold suIMk; first | decide | omega) q16_1
              have q79 : IMo s76 := by rw [es76]; exact IMo_o (by unfold suIMo; first | decide | omega) q16_2
              have q80 : s76 268 8 = s0 268 8 := (show s76 268 8 = s_16 268 8 from by rw [es76, xU_k _ _ _ (by first | decide | omega)]).trans q16_3
              have q81 : s76 268 58 = s0 268 58 := (show s76 268 58 = s_16 268 58 from by rw [es76, xU_k _ _ _ (by first | decide | omega)]).trans q16_4
              have hF82 := hF_16.put es76 (by omega)
              have X229 : zl0 (s76 293) x40 = x73 :: zl0 (s_16 293) (i3_16 - 1 - 1) := by rw [es76, xU_xud, show x40 = i3_16 - 1 from by omega]; exact zl0_put _ rfl (by omega)
              have W229 := H226
              refine lv_goto (tgt := 16) hx hb dX11_comesTo_230 (by decide) ?_
              exact ih16 x40 x8 s76 H locs ls (by omega) (by omega) hF82 q77 q78 q79 q80 q81 (by omega) (by omega) (by
                  first
                    | exact (by
                        have gg := V84
                        rw [show x40 = i3_16 + 1 from by omega, X85]
                        exact v16_2.let_ hg (by omega) (by rw [← eu9]; omega) (by rw [V84, ← eu9]; congr 1; omega) (by omega))
                    | exact (by
                        have gg := X85
                        rw [show x40 = i3_16 + 1 from by omega, X85]
                        exact v16_2.num hg (by omega) (by rw [← eu9]; omega) (by rw [← eu9]; omega) (by omega))
                    | exact (by
                        have gg := X117
                        have tp := T28 () (by omega)
                        rw [X117]
                        exact v16_2.not hg (by omega) (by rw [← eu9]; omega) (by rw [L28 () (by omega)]; show _ = 1 - s_16 293 (i3_16 - 1); omega) (by rw [L28 () (by omega)]; rfl) (by omega))
                    | exact (by
                        have gg := X229
                        have e1 := L28 () (by omega)
                        have hh : zhd (zl0 (s_16 293) i3_16) = s_16 293 (i3_16 - 1) := by rw [e1]; rfl
                        have e2 := zl0_pop (s_16 293) (n := i3_16 - 1) (by omega)
                        rw [e2] at e1
                        rw [X229]
                        exact v16_2.op hg (by omega) (by rw [← eu9]; omega) (by rw [← eu9, hh]; omega) e1 (by rw [← eu9]; exact W229) (by omega))
                    | exact (by
                        have hh : zhd (zl0 (s_16 293) i3_16) = s_16 293 (i3_16 - 1) := by rw [L28 () (by omega)]; rfl
                        rw [show x40 = i3_16 - 1 from by omega]
                        exact v16_2.stay hg (by omega) (by rw [← eu9, hh]; omega) (by rw [hh]; exact L28 () (by omega)) (by omega))
                    | exact (by
                        have tp := T28 () (by omega)
                        have hh : zhd (zl0 (s_16 293) i3_16) = s_16 293 (i3_16 - 1) := by rw [L28 () (by omega)]; rfl
                        exact (v16_2.jmp hg (by omega) (by rw [← eu9, hh]; omega) (by rw [← eu9]; omega)).1)
                    | (exfalso; omega)) (by have hm := hm_16 (); omega) hW (lv_sub hl [4, 5, 0, 6, 1] rfl)
            refine x_iconst hx hb dX11_comesTo_201 ?_
            rw [eQ]
            exact x_iret hx hb hr hlk hW (by decide) ⟨hF_16, ⟨q16_0, q16_1, q16_2, trivial⟩, by
                rw [← eV0]
                have z := v16_2.zero (by omega) (by rw [← eu9]; omega) (by rw [L28 () (by omega)]; show s_16 293 (i3_16 - 1) = 0; omega)
                omega⟩ dX11_comesTo_202
          refine x_aload_n hx hb hl 3 rfl dX11_comesTo_135 rfl ?_
          refine x_get (j := 38) (v := .ref (h0 + 293)) hx hb hown hT hE hW cls_X11 (Or.inl (by decide)) (so_268 h0 g _) (by decide) rfl wq1223 dX11_comesTo_136 ?_
          refine x_iload_n hx hb hl 5 rfl dX11_comesTo_139 rfl ?_
          refine x_iconst hx hb dX11_comesTo_140 ?_
          refine x_isub hx hb dX11_comesTo_141 ?_
          refine x_iald hx hb hE hW (Or.inl (by decide)) (sa_293 h0 g _) (by omega) (by decide) dX11_comesTo_142 ?_
          refine x_rd hW (fun x83 ex83 rx83 => ?_)
          have V142 : x83 = s_16 293 (i3_16 - 1) := ex83
          refine x_iload hx hb hl 2 rfl dX11_comesTo_143 ?_
          refine x_bipush hx hb dX11_comesTo_145 (by decide) ?_
          refine x_icmp_ne (tgt := 154) hx hb (by omega) (by decide) dX11_comesTo_147 (by decide) (fun c84 => ?_) (fun c84 => ?_)
          · skip
            refine x_iconst hx hb dX11_comesTo_154 ?_
            refine x_icmp_ne (tgt := 168) hx hb rx83 (by decide) dX11_comesTo_155 (by decide) (fun c85 => ?_) (fun c85 => ?_)
            · skip
              refine x_iload_n hx hb hl 5 rfl dX11_comesTo_168 rfl ?_
              refine x_iconst hx hb dX11_comesTo_169 ?_
              refine x_isub hx hb dX11_comesTo_170 ?_
              refine x_nm (fun x86 ex86 => ?_)
              refine lv_istore_n (lv' := [(3, .int (xJ x86)), (5, .int (xJ x8)), (7, .int (xJ x7)), (6, .int (xJ x5)), (0, .ref (h0 + 268)), (2, .int (xJ b)), (4, .int (xJ x1))]) hx hb dX11_comesTo_171 rfl hl (by decide) rfl (fun ls hl => ?_)
              refine lv_goto (tgt := 230) hx hb dX11_comesTo_172 (by decide) ?_
              refine lv_goto (tgt := 16) hx hb dX11_comesTo_230 (by decide) ?_
              exact ih16 x86 x8 s_16 H locs ls (by omega) (by omega) hF_16 q16_0 q16_1 q16_2 q16_3 q16_4 (by omega) (by omega) (by
                  first
                    | exact (by
                        have gg := V84
                        rw [show x86 = i3_16 + 1 from by omega, X85]
                        exact v16_2.let_ hg (by omega) (by rw [← eu9]; omega) (by rw [V84, ← eu9]; congr 1; omega) (by omega))
                    | exact (by
                        have gg := X85
                        rw [show x86 = i3_16 + 1 from by omega, X85]
                        exact v16_2.num hg (by omega) (by rw [← eu9]; omega) (by rw [← eu9]; omega) (by omega))
                    | exact (by
                        have gg := X117
                        have tp := T28 () (by omega)
                        rw [X117]
                        exact v16_2.not hg (by omega) (by rw [← eu9]; omega) (by rw [L28 () (by omega)]; show _ = 1 - s_16 293 (i3_16 - 1); omega) (by rw [L28 () (by omega)]; rfl) (by omega))
                    | exact (by
                        have gg := X229
                        have e1 := L28 () (by omega)
                        have hh : zhd (zl0 (s_16 293) i3_16) = s_16 293 (i3_16 - 1) := by rw [e1]; rfl
                        have e2 := zl0_pop (s_16 293) (n := i3_16 - 1) (by omega)
                        rw [e2] at e1
                        rw [X229]
                        exact v16_2.op hg (by omega) (by rw [← eu9]; omega) (by rw [← eu9, hh]; omega) e1 (by rw [← eu9]; exact W229) (by omega))
                    | exact (by
                        have hh : zhd (zl0 (s_16 293) i3_16) = s_16 293 (i3_16 - 1) := by rw [L28 () (by omega)]; rfl
                        rw [show x86 = i3_16 - 1 from by omega]
                        exact v16_2.stay hg (by omega) (by rw [← eu9, hh]; omega) (by rw [hh]; exact L28 () (by omega)) (by omega))
                    | exact (by
                        have tp := T28 () (by omega)
                        have hh : zhd (zl0 (s_16 293) i3_16) = s_16 293 (i3_16 - 1) := by rw [L28 () (by omega)]; rfl
                        exact (v16_2.jmp hg (by omega) (by rw [← eu9, hh]; omega) (by rw [← eu9]; omega)).1)
                    | (exfalso; omega)) (by have hm := hm_16 (); omega) hW (lv_sub hl [4, 5, 0, 6, 1] rfl)
            refine x_iload hx hb hl 6 rfl dX11_comesTo_158 ?_
            refine x_iload hx hb hl 1 rfl dX11_comesTo_160 ?_
            refine x_iadd hx hb dX11_comesTo_162 ?_
            refine x_nm (fun x87 ex87 => ?_)
            refine lv_istore (lv' := [(5, .int (xJ x87)), (7, .int (xJ x7)), (6, .int (xJ x5)), (0, .ref (h0 + 268)), (2, .int (xJ b)), (3, .int (xJ i3_16)), (4, .int (xJ x1))]) hx hb dX11_comesTo_163 hl (by decide) rfl (fun ls hl => ?_)
            refine lv_goto (tgt := 230) hx hb dX11_comesTo_165 (by decide) ?_
            refine lv_goto (tgt := 16) hx hb dX11_comesTo_230 (by decide) ?_
            exact ih16 i3_16 x87 s_16 H locs ls ri3_16 (by omega) hF_16 q16_0 q16_1 q16_2 q16_3 q16_4 (by omega) (by omega) (by
                first
                  | exact (by
                      have gg := V84
                      rw [show i3_16 = i3_16 + 1 from by omega, X85]
                      exact v16_2.let_ hg (by omega) (by rw [← eu9]; omega) (by rw [V84, ← eu9]; congr 1; omega) (by omega))
                  | exact (by
                      have gg := X85
                      rw [show i3_16 = i3_16 + 1 from by omega, X85]
                      exact v16_2.num hg (by omega) (by rw [← eu9]; omega) (by rw [← eu9]; omega) (by omega))
                  | exact (by
                      have gg := X117
                      have tp := T28 () (by omega)
                      rw [X117]
                      exact v16_2.not hg (by omega) (by rw [← eu9]; omega) (by rw [L28 () (by omega)]; show _ = 1 - s_16 293 (i3_16 - 1); omega) (by rw [L28 () (by omega)]; rfl) (by omega))
                  | exact (by
                      have gg := X229
                      have e1 := L28 () (by omega)
                      have hh : zhd (zl0 (s_16 293) i3_16) = s_16 293 (i3_16 - 1) := by rw [e1]; rfl
                      have e2 := zl0_pop (s_16 293) (n := i3_16 - 1) (by omega)
                      rw [e2] at e1
                      rw [X229]
                      exact v16_2.op hg (by omega) (by rw [← eu9]; omega) (by rw [← eu9, hh]; omega) e1 (by rw [← eu9]; exact W229) (by omega))
                  | exact (by
                      have hh : zhd (zl0 (s_16 293) i3_16) = s_16 293 (i3_16 - 1) := by rw [L28 () (by omega)]; rfl
                      rw [show i3_16 = i3_16 - 1 from by omega]
                      exact v16_2.stay hg (by omega) (by rw [← eu9, hh]; omega) (by rw [hh]; exact L28 () (by omega)) (by omega))
                  | exact (by
                      have tp := T28 () (by omega)
                      have hh : zhd (zl0 (s_16 293) i3_16) = s_16 293 (i3_16 - 1) := by rw [L28 () (by omega)]; rfl
                      exact (v16_2.jmp hg (by omega) (by rw [← eu9, hh]; omega) (by rw [← eu9]; omega)).1)
                  | (exfalso; omega)) (by have hm := hm_16 (); omega) hW (lv_sub hl [3, 4, 5, 6, 0] rfl)
          refine x_iconst hx hb dX11_comesTo_150 ?_
          refine lv_goto (tgt := 155) hx hb dX11_comesTo_151 (by decide) ?_
          refine x_icmp_ne (tgt := 168) hx hb rx83 (by decide) dX11_comesTo_155 (by decide) (fun c88 => ?_) (fun c88 => ?_)
          · skip
            refine x_iload_n hx hb hl 5 rfl dX11_comesTo_168 rfl ?_
            refine x_iconst hx hb dX11_comesTo_169 ?_
            refine x_isub hx hb dX11_comesTo_170 ?_
            refine x_nm (fun x89 ex89 => ?_)
            refine lv_istore_n (lv' := [(3, .int (xJ x89)), (5, .int (xJ x8)), (7, .int (xJ x7)), (6, .int (xJ x5)), (0, .ref (h0 + 268)), (2, .int (xJ b)), (4, .int (xJ x1))]) hx hb dX11_comesTo_171 rfl hl (by decide) rfl (fun ls hl => ?_)
            refine lv_goto (tgt := 230) hx hb dX11_comesTo_172 (by decide) ?_
            refine lv_goto (tgt := 16) hx hb dX11_comesTo_230 (by decide) ?_
            exact ih16 x89 x8 s_16 H locs ls (by omega) (by omega) hF_16 q16_0 q16_1 q16_2 q16_3 q16_4 (by omega) (by omega) (by
                first
                  | exact (by
                      have gg := V84
                      rw [show x89 = i3_16 + 1 from by omega, X85]
                      exact v16_2.let_ hg (by omega) (by rw [← eu9]; omega) (by rw [V84, ← eu9]; congr 1; omega) (by omega))
                  | exact (by
                      have gg := X85
                      rw [show x89 = i3_16 + 1 from by omega, X85]
                      exact v16_2.num hg (by omega) (by rw [← eu9]; omega) (by rw [← eu9]; omega) (by omega))
                  | exact (by
                      have gg := X117
                      have tp := T28 () (by omega)
                      rw [X117]
                      exact v16_2.not hg (by omega) (by rw [← eu9]; omega) (by rw [L28 () (by omega)]; show _ = 1 - s_16 293 (i3_16 - 1); omega) (by rw [L28 () (by omega)]; rfl) (by omega))
                  | exact (by
                      have gg := X229
                      have e1 := L28 () (by omega)
                      have hh : zhd (zl0 (s_16 293) i3_16) = s_16 293 (i3_16 - 1) := by rw [e1]; rfl
                      have e2 := zl0_pop (s_16 293) (n := i3_16 - 1) (by omega)
                      rw [e2] at e1
                      rw [X229]
                      exact v16_2.op hg (by omega) (by rw [← eu9]; omega) (by rw [← eu9, hh]; omega) e1 (by rw [← eu9]; exact W229) (by omega))
                  | exact (by
                      have hh : zhd (zl0 (s_16 293) i3_16) = s_16 293 (i3_16 - 1) := by rw [L28 () (by omega)]; rfl
                      rw [show x89 = i3_16 - 1 from by omega]
                      exact v16_2.stay hg (by omega) (by rw [← eu9, hh]; omega) (by rw [hh]; exact L28 () (by omega)) (by omega))
                  | exact (by
                      have tp := T28 () (by omega)
                      have hh : zhd (zl0 (s_16 293) i3_16) = s_16 293 (i3_16 - 1) := by rw [L28 () (by omega)]; rfl
                      exact (v16_2.jmp hg (by omega) (by rw [← eu9, hh]; omega) (by rw [← eu9]; omega)).1)
                  | (exfalso; omega)) (by have hm := hm_16 (); omega) hW (lv_sub hl [4, 5, 0, 6, 1] rfl)
          refine x_iload hx hb hl 6 rfl dX11_comesTo_158 ?_
          refine x_iload hx hb hl 1 rfl dX11_comesTo_160 ?_
          refine x_iadd hx hb dX11_comesTo_162 ?_
          refine x_nm (fun x90 ex90 => ?_)
          refine lv_istore (lv' := [(5, .int (xJ x90)), (7, .int (xJ x7)), (6, .int (xJ x5)), (0, .ref (h0 + 268)), (2, .int (xJ b)), (3, .int (xJ i3_16)), (4, .int (xJ x1))]) hx hb dX11_comesTo_163 hl (by decide) rfl (fun ls hl => ?_)
          refine lv_goto (tgt := 230) hx hb dX11_comesTo_165 (by decide) ?_
          refine lv_goto (tgt := 16) hx hb dX11_comesTo_230 (by decide) ?_
          exact ih16 i3_16 x90 s_16 H locs ls ri3_16 (by omega) hF_16 q16_0 q16_1 q16_2 q16_3 q16_4 (by omega) (by omega) (by
            first
              | exact (by
                  have gg := V84
                  rw [show i3_16 = i3_16 + 1 from by omega, X85]
                  exact v16_2.let_ hg (by omega) (by rw [← eu9]; omega) (by rw [V84, ← eu9]; congr 1; omega) (by omega))
              | exact (by
                  have gg := X85
                  rw [show i3_16 = i3_16 + 1 from by omega, X85]
                  exact v16_2.num hg (by omega) (by rw [← eu9]; omega) (by rw [← eu9]; omega) (by omega))
              | exact (by
                  have gg := X117
                  have tp := T28 () (by omega)
                  rw [X117]
                  exact v16_2.not hg (by omega) (by rw [← eu9]; omega) (by rw [L28 () (by omega)]; show _ = 1 - s_16 293 (i3_16 - 1); omega) (by rw [L28 () (by omega)]; rfl) (by omega))
              | exact (by
                  have gg := X229
                  have e1 := L28 () (by omega)
                  have hh : zhd (zl0 (s_16 293) i3_16) = s_16 293 (i3_16 - 1) := by rw [e1]; rfl
                  have e2 := zl0_pop (s_16 293) (n := i3_16 - 1) (by omega)
                  rw [e2] at e1
                  rw [X229]
                  exact v16_2.op hg (by omega) (by rw [← eu9]; omega) (by rw [← eu9, hh]; omega) e1 (by rw [← eu9]; exact W229) (by omega))
              | exact (by
                  have hh : zhd (zl0 (s_16 293) i3_16) = s_16 293 (i3_16 - 1) := by rw [L28 () (by omega)]; rfl
                  rw [show i3_16 = i3_16 - 1 from by omega]
                  exact v16_2.stay hg (by omega) (by rw [← eu9, hh]; omega) (by rw [hh]; exact L28 () (by omega)) (by omega))
              | exact (by
                  have tp := T28 () (by omega)
                  have hh : zhd (zl0 (s_16 293) i3_16) = s_16 293 (i3_16 - 1) := by rw [L28 () (by omega)]; rfl
                  exact (v16_2.jmp hg (by omega) (by rw [← eu9, hh]; omega) (by rw [← eu9]; omega)).1)
              | (exfalso; omega)) (by have hm := hm_16 (); omega) hW (lv_sub hl [3, 4, 5, 6, 0] rfl)
        refine x_aload_n hx hb hl 3 rfl dX11_comesTo_100 rfl ?_
        refine x_get (j := 38) (v := .ref (h0 + 293)) hx hb hown hT hE hW cls_X11 (Or.inl (by decide)) (so_268 h0 g _) (by decide) rfl wq1223 dX11_comesTo_101 ?_
        refine x_iload_n hx hb hl 5 rfl dX11_comesTo_104 rfl ?_
        refine x_iconst hx hb dX11_comesTo_105 ?_
        refine x_isub hx hb dX11_comesTo_106 ?_
        refine x_iconst hx hb dX11_comesTo_107 ?_
        refine x_aload_n hx hb hl 3 rfl dX11_comesTo_108 rfl ?_
        refine x_get (j := 38) (v := .ref (h0 + 293)) hx hb hown hT hE hW cls_X11 (Or.inl (by decide)) (so_268 h0 g _) (by decide) rfl wq1223 dX11_comesTo_109 ?_
        refine x_iload_n hx hb hl 5 rfl dX11_comesTo_112 rfl ?_
        refine x_iconst hx hb dX11_comesTo_113 ?_
        refine x_isub hx hb dX11_comesTo_114 ?_
        refine x_iald hx hb hE hW (Or.inl (by decide)) (sa_293 h0 g _) (by omega) (by decide) dX11_comesTo_115 ?_
        refine x_rd hW (fun x91 ex91 rx91 => ?_)
        have V115 : x91 = s_16 293 (i3_16 - 1) := ex91
        have T115 := T28 () (by omega)
        refine x_isub hx hb dX11_comesTo_116 ?_
        refine x_iast hx hb hE hW (by decide) (fun σ => sa_293 h0 g σ) (by omega) (by decide) (by omega) dX11_comesTo_117 (fun H locs s92 es92 hW => ?_)
        have q93 : IMn s92 := by rw [es92]; exact IMn_o (by unfold suIMn; first | decide | omega) q16_0
        have q94 : IMk s92 := by rw [es92]; exact IMk_o (by unfold suIMk; first | decide | omega) q16_1
        have q95 : IMo s92 := by rw [es92]; exact IMo_o (by unfold suIMo; first | decide | omega) q16_2
        have q96 : s92 268 8 = s0 268 8 := (show s92 268 8 = s_16 268 8 from by rw [es92, xU_k _ _ _ (by first | decide | omega)]).trans q16_3
        have q97 : s92 268 58 = s0 268 58 := (show s92 268 58 = s_16 268 58 from by rw [es92, xU_k _ _ _ (by first | decide | omega)]).trans q16_4
        have hF98 := hF_16.put es92 (by omega)
        have X117 : zl0 (s92 293) i3_16 = (1 - x91) :: zl0 (s_16 293) (i3_16 - 1) := by rw [es92, xU_xud]; exact zl0_put _ rfl (by omega)
        refine lv_goto (tgt := 230) hx hb dX11_comesTo_118 (by decide) ?_
        refine lv_goto (tgt := 16) hx hb dX11_comesTo_230 (by decide) ?_
        exact ih16 i3_16 x8 s92 H locs ls ri3_16 (by omega) hF98 q93 q94 q95 q96 q97 (by omega) (by omega) (by
            first
              | exact (by
                  have gg := V84
                  rw [show i3_16 = i3_16 + 1 from by omega, X85]
                  exact v16_2.let_ hg (by omega) (by rw [← eu9]; omega) (by rw [V84, ← eu9]; congr 1; omega) (by omega))
              | exact (by
                  have gg := X85
                  rw [show i3_16 = i3_16 + 1 from by omega, X85]
                  exact v16_2.num hg (by omega) (by rw [← eu9]; omega) (by rw [← eu9]; omega) (by omega))
              | exact (by
                  have gg := X117
                  have tp := T28 () (by omega)
                  rw [X117]
                  exact v16_2.not hg (by omega) (by rw [← eu9]; omega) (by rw [L28 () (by omega)]; show _ = 1 - s_16 293 (i3_16 - 1); omega) (by rw [L28 () (by omega)]; rfl) (by omega))
              | exact (by
                  have gg := X229
                  have e1 := L28 () (by omega)
                  have hh : zhd (zl0 (s_16 293) i3_16) = s_16 293 (i3_16 - 1) := by rw [e1]; rfl
                  have e2 := zl0_pop (s_16 293) (n := i3_16 - 1) (by omega)
                  rw [e2] at e1
                  rw [X229]
                  exact v16_2.op hg (by omega) (by rw [← eu9]; omega) (by rw [← eu9, hh]; omega) e1 (by rw [← eu9]; exact W229) (by omega))
              | exact (by
                  have hh : zhd (zl0 (s_16 293) i3_16) = s_16 293 (i3_16 - 1) := by rw [L28 () (by omega)]; rfl
                  rw [show i3_16 = i3_16 - 1 from by omega]
                  exact v16_2.stay hg (by omega) (by rw [← eu9, hh]; omega) (by rw [hh]; exact L28 () (by omega)) (by omega))
              | exact (by
                  have tp := T28 () (by omega)
                  have hh : zhd (zl0 (s_16 293) i3_16) = s_16 293 (i3_16 - 1) := by rw [L28 () (by omega)]; rfl
                  exact (v16_2.jmp hg (by omega) (by rw [← eu9, hh]; omega) (by rw [← eu9]; omega)).1)
              | (exfalso; omega)) (by have hm := hm_16 (); omega) hW (lv_sub hl [3, 4, 5, 6, 0] rfl)
      refine x_aload_n hx hb hl 3 rfl dX11_comesTo_63 rfl ?_
      refine x_get (j := 38) (v := .ref (h0 + 293)) hx hb hown hT hE hW cls_X11 (Or.inl (by decide)) (so_268 h0 g _) (by decide) rfl wq1223 dX11_comesTo_64 ?_
      refine x_iload_n hx hb hl 5 rfl dX11_comesTo_67 rfl ?_
      refine x_iload hx hb hl 2 rfl dX11_comesTo_68 ?_
      refine x_if_ne (tgt := 78) hx hb (by omega) dX11_comesTo_70 (by decide) (fun c99 => ?_) (fun c99 => ?_)
      · skip
        refine x_aload_n hx hb hl 3 rfl dX11_comesTo_78 rfl ?_
        refine x_get (j := 39) (v := .ref (h0 + 294)) hx hb hown hT hE hW cls_X11 (Or.inl (by decide)) (so_268 h0 g _) (by decide) rfl wq1224 dX11_comesTo_79 ?_
        refine x_iload hx hb hl 1 rfl dX11_comesTo_82 ?_
        refine x_iald hx hb hE hW (Or.inl (by decide)) (sa_294 h0 g _) (by omega) (by decide) dX11_comesTo_84 ?_
        refine x_rd hW (fun x100 ex100 rx100 => ?_)
        have V84 : x100 = s0 294 x7 := by rw [ex100, hF_16 294 (by first | decide | omega)]
        refine x_iast hx hb hE hW (by decide) (fun σ => sa_293 h0 g σ) (by omega) (by decide) rx100 dX11_comesTo_85 (fun H locs s101 es101 hW => ?_)
        have q102 : IMn s101 := by rw [es101]; exact IMn_o (by unfold suIMn; first | decide | omega) q16_0
        have q103 : IMk s101 := by rw [es101]; exact IMk_o (by unfold suIMk; first | decide | omega) q16_1
        have q104 : IMo s101 := by rw [es101]; exact IMo_o (by unfold suIMo; first | decide | omega) q16_2
        have q105 : s101 268 8 = s0 268 8 := (show s101 268 8 = s_16 268 8 from by rw [es101, xU_k _ _ _ (by first | decide | omega)]).trans q16_3
        have q106 : s101 268 58 = s0 268 58 := (show s101 268 58 = s_16 268 58 from by rw [es101, xU_k _ _ _ (by first | decide | omega)]).trans q16_4
        have hF107 := hF_16.put es101 (by omega)
        have X85 : zl0 (s101 293) (i3_16 + 1) = x100 :: zl0 (s_16 293) i3_16 := by rw [es101, xU_xud]; exact zl0_push _ rfl rfl (by omega)
        refine x_iload_n hx hb hl 5 rfl dX11_comesTo_86 rfl ?_
        refine x_iconst hx hb dX11_comesTo_87 ?_
        refine x_iadd hx hb dX11_comesTo_88 ?_
        refine x_nm (fun x108 ex108 => ?_)
        refine lv_istore_n (lv' := [(3, .int (xJ x108)), (5, .int (xJ x8)), (7, .int (xJ x7)), (6, .int (xJ x5)), (0, .ref (h0 + 268)), (2, .int (xJ b)), (4, .int (xJ x1))]) hx hb dX11_comesTo_89 rfl hl (by decide) rfl (fun ls hl => ?_)
        refine lv_goto (tgt := 230) hx hb dX11_comesTo_90 (by decide) ?_
        refine lv_goto (tgt := 16) hx hb dX11_comesTo_230 (by decide) ?_
        exact ih16 x108 x8 s101 H locs ls (by omega) (by omega) hF107 q102 q103 q104 q105 q106 (by omega) (by omega) (by
            first
              | exact (by
                  have gg := V84
                  rw [show x108 = i3_16 + 1 from by omega, X85]
                  exact v16_2.let_ hg (by omega) (by rw [← eu9]; omega) (by rw [V84, ← eu9]; congr 1; omega) (by omega))
              | exact (by
                  have gg := X85
                  rw [show x108 = i3_16 + 1 from by omega, X85]
                  exact v16_2.num hg (by omega) (by rw [← eu9]; omega) (by rw [← eu9]; omega) (by omega))
              | exact (by
                  have gg := X117
                  have tp := T28 () (by omega)
                  rw [X117]
                  exact v16_2.not hg (by omega) (by rw [← eu9]; omega) (by rw [L28 () (by omega)]; show _ = 1 - s_16 293 (i3_16 - 1); omega) (by rw [L28 () (by omega)]; rfl) (by omega))
              | exact (by
                  have gg := X229
                  have e1 := L28 () (by omega)
                  have hh : zhd (zl0 (s_16 293) i3_16) = s_16 293 (i3_16 - 1) := by rw [e1]; rfl
                  have e2 := zl0_pop (s_16 293) (n := i3_16 - 1) (by omega)
                  rw [e2] at e1
                  rw [X229]
                  exact v16_2.op hg (by omega) (by rw [← eu9]; omega) (by rw [← eu9, hh]; omega) e1 (by rw [← eu9]; exact W229) (by omega))
              | exact (by
                  have hh : zhd (zl0 (s_16 293) i3_16) = s_16 293 (i3_16 - 1) := by rw [L28 () (by omega)]; rfl
                  rw [show x108 = i3_16 - 1 from by omega]
                  exact v16_2.stay hg (by omega) (by rw [← eu9, hh]; omega) (by rw [hh]; exact L28 () (by omega)) (by omega))
              | exact (by
                  have tp := T28 () (by omega)
                  have hh : zhd (zl0 (s_16 293) i3_16) = s_16 293 (i3_16 - 1) := by rw [L28 () (by omega)]; rfl
                  exact (v16_2.jmp hg (by omega) (by rw [← eu9, hh]; omega) (by rw [← eu9]; omega)).1)
              | (exfalso; omega)) (by have hm := hm_16 (); omega) hW (lv_sub hl [4, 5, 0, 6, 1] rfl)
      refine x_iload hx hb hl 1 rfl dX11_comesTo_73 ?_
      refine lv_goto (tgt := 85) hx hb dX11_comesTo_75 (by decide) ?_
      refine x_iast hx hb hE hW (by decide) (fun σ => sa_293 h0 g σ) (by omega) (by decide) (by omega) dX11_comesTo_85 (fun H locs s109 es109 hW => ?_)
      have q110 : IMn s109 := by rw [es109]; exact IMn_o (by unfold suIMn; first | decide | omega) q16_0
      have q111 : IMk s109 := by rw [es109]; exact IMk_o (by unfold suIMk; first | decide | omega) q16_1
      have q112 : IMo s109 := by rw [es109]; exact IMo_o (by unfold suIMo; first | decide | omega) q16_2
      have q113 : s109 268 8 = s0 268 8 := (show s109 268 8 = s_16 268 8 from by rw [es109, xU_k _ _ _ (by first | decide | omega)]).trans q16_3
      have q114 : s109 268 58 = s0 268 58 := (show s109 268 58 = s_16 268 58 from by rw [es109, xU_k _ _ _ (by first | decide | omega)]).trans q16_4
      have hF115 := hF_16.put es109 (by omega)
      have X85 : zl0 (s109 293) (i3_16 + 1) = x7 :: zl0 (s_16 293) i3_16 := by rw [es109, xU_xud]; exact zl0_push _ rfl rfl (by omega)
      refine x_iload_n hx hb hl 5 rfl dX11_comesTo_86 rfl ?_
      refine x_iconst hx hb dX11_comesTo_87 ?_
      refine x_iadd hx hb dX11_comesTo_88 ?_
      refine x_nm (fun x116 ex116 => ?_)
      refine lv_istore_n (lv' := [(3, .int (xJ x116)), (5, .int (xJ x8)), (7, .int (xJ x7)), (6, .int (xJ x5)), (0, .ref (h0 + 268)), (2, .int (xJ b)), (4, .int (xJ x1))]) hx hb dX11_comesTo_89 rfl hl (by decide) rfl (fun ls hl => ?_)
      refine lv_goto (tgt := 230) hx hb dX11_comesTo_90 (by decide) ?_
      refine lv_goto (tgt := 16) hx hb dX11_comesTo_230 (by decide) ?_
      exact ih16 x116 x8 s109 H locs ls (by omega) (by omega) hF115 q110 q111 q112 q113 q114 (by omega) (by omega) (by
            first
              | exact (by
                  have gg := V84
                  rw [show x116 = i3_16 + 1 from by omega, X85]
                  exact v16_2.let_ hg (by omega) (by rw [← eu9]; omega) (by rw [V84, ← eu9]; congr 1; omega) (by omega))
              | exact (by
                  have gg := X85
                  rw [show x116 = i3_16 + 1 from by omega, X85]
                  exact v16_2.num hg (by omega) (by rw [← eu9]; omega) (by rw [← eu9]; omega) (by omega))
              | exact (by
                  have gg := X117
                  have tp := T28 () (by omega)
                  rw [X117]
                  exact v16_2.not hg (by omega) (by rw [← eu9]; omega) (by rw [L28 () (by omega)]; show _ = 1 - s_16 293 (i3_16 - 1); omega) (by rw [L28 () (by omega)]; rfl) (by omega))
              | exact (by
                  have gg := X229
                  have e1 := L28 () (by omega)
                  have hh : zhd (zl0 (s_16 293) i3_16) = s_16 293 (i3_16 - 1) := by rw [e1]; rfl
                  have e2 := zl0_pop (s_16 293) (n := i3_16 - 1) (by omega)
                  rw [e2] at e1
                  rw [X229]
                  exact v16_2.op hg (by omega) (by rw [← eu9]; omega) (by rw [← eu9, hh]; omega) e1 (by rw [← eu9]; exact W229) (by omega))
              | exact (by
                  have hh : zhd (zl0 (s_16 293) i3_16) = s_16 293 (i3_16 - 1) := by rw [L28 () (by omega)]; rfl
                  rw [show x116 = i3_16 - 1 from by omega]
                  exact v16_2.stay hg (by omega) (by rw [← eu9, hh]; omega) (by rw [hh]; exact L28 () (by omega)) (by omega))
              | exact (by
                  have tp := T28 () (by omega)
                  have hh : zhd (zl0 (s_16 293) i3_16) = s_16 293 (i3_16 - 1) := by rw [L28 () (by omega)]; rfl
                  exact (v16_2.jmp hg (by omega) (by rw [← eu9, hh]; omega) (by rw [← eu9]; omega)).1)
              | (exfalso; omega)) (by have hm := hm_16 (); omega) hW (lv_sub hl [4, 5, 0, 6, 1] rfl)
  exact L16 ((b - a : Int).toNat + 1) 0 a s0 H locs ls (by decide) ra hF p0 p1 p2 k268_8 k268_58 (by omega) (by omega) (by rw [eV0, zl0_0 _ (by omega)]; exact zVS.new hg) (Nat.lt_succ_self _) hW (lv_sub hl [3, 5, 2, 1, 0] rfl)


