set_option maxHeartbeats 4000000 in
set_option maxRecDepth 100000 in
theorem c_X0_castF (l : Launch) (D : va_G) (g : xG) (T : Nat × Nat × Nat) (h0 : Nat) (s0 : xS) (hσ : xRR s0) (d : Nat) (hd : xDay d) (a : Int) (ra : xR a) (b : Int) (rb : xR b) (q9 : zLaw) (K9 : Int → Int) (l9 : Int → Int) (hok : zLok q9) (hlc : zLD s0 q9) (hK : ∀ t : Int, 0 ≤ t → t < 100 → s0 4 t = K9 t) (hlm : ∀ i : Int, 0 ≤ i → i < 4 → s0 129 i = l9 i ∧ (l9 i = -1 ∨ (0 ≤ l9 i ∧ l9 i < 100))) (hJ : ∀ j : Int, 0 ≤ j → j < 2 → s0 (d + 1) j = -1 ∨ (0 ≤ s0 (d + 1) j ∧ s0 (d + 1) j < 100)) (p0 : IC s0) (p1 : IS s0) : Met l yX0_cast (xws yX0_cast cX0_cast 6 none) { frames := 3, cells := 0, slots := 0, locals := 74 } (xP [.ref (h0 + 128), .ref (h0 + d), .int (xJ a), .int (xJ b)] D g T h0 s0) (xQv D g h0 (fun τ => xFr (fun k => k = 115 ∨ k = 116 ∨ k = 130 ∨ k = 131 ∨ k = 132 ∨ k = 133) s0 τ ∧ (((IC τ) ∧ (IS τ) ∧ True) ∧ (zSL (τ 131) (τ 132) (τ 130 3) ∧ (∀ t : Int, 0 ≤ t → t < 100 → τ 133 t = 0) ∧ ∀ t : Int, 0 ≤ t → t < 100 → τ 131 t = zLy K9 q9 l9 (s0 d 7) (s0 (d + 1)) a b t)))) 0 0 (xA h0) := by
  refine x_met hσ (by decide) (Nat.le_of_ble_eq_true rfl) ?_
  intro p e s m args below meth c hx hb hr hml hown hT hlk hnm hE hW ls hl
  have hl : lv_has ls 6 [(0, .ref (h0 + 128)), (1, .ref (h0 + d)), (2, .int (xJ a)), (3, .int (xJ b))] := hl
  obtain ⟨Q, eQ⟩ : ∃ Q, Q = MQ below (xQv D g h0 (fun τ => xFr (fun k => k = 115 ∨ k = 116 ∨ k = 130 ∨ k = 131 ∨ k = 132 ∨ k = 133) s0 τ ∧ (((IC τ) ∧ (IS τ) ∧ True) ∧ (zSL (τ 131) (τ 132) (τ 130 3) ∧ (∀ t : Int, 0 ≤ t → t < 100 → τ 133 t = 0) ∧ ∀ t : Int, 0 ≤ t → t < 100 → τ 131 t = zLy K9 q9 l9 (s0 d 7) (s0 (d + 1)) a b t)))) args s 0 0 (xA h0) := ⟨_, rfl⟩
  rw [← eQ]
  generalize hHe : ([] : List Loc) = locs at hW ⊢
  obtain ⟨H, eH⟩ : ∃ H, H = s.heap := ⟨_, rfl⟩
  rw [← eH] at hW ⊢
  have hF : xFr (fun k => k = 115 ∨ k = 116 ∨ k = 130 ∨ k = 131 ∨ k = 132 ∨ k = 133) s0 s0 := xFr.rf
  have hbd : (136 ≤ d ∧ d < 209) ∧ (d ≤ 146 ∨ 158 ≤ d) := by unfold xDay at hd; omega
  have k1_1 : s0 1 1 = s0 1 1 := rfl
  have kd_7 : s0 d 7 = s0 d 7 := rfl
  have kd_7 : s0 d 7 = s0 d 7 := rfl
  have hm7 := IC.m p0 hd
  refine x_aload_n hx hb hl 0 rfl dX0_cast_0 rfl ?_
  refine x_get (j := 3) (v := .ref (h0 + 130)) hx hb hown hT hE hW cls_X0 (Or.inl (by decide)) (so_128 h0 g _) (by decide) rfl wq357 dX0_cast_1 ?_
  refine x_gov (x_runVN (As := []) hx hb hml hown hT hE hW hl.1 (Or.inl (by decide)) (so_130 h0 g _) rfl cf_X7_clear wq828 wq47 wn826 (c_X7_clearF l D g T h0 s0 hW.2.1 p0 p1) ⟨rfl, rfl, ⟨by decide, by decide⟩, ⟨by decide, by decide⟩⟩ rfl rfl (Nat.le_of_ble_eq_true rfl) dX0_cast_4) hW (fun s2 H locs hp3 hW => ?_)
  obtain ⟨fs2, hp3⟩ := hp3
  have hF4 := hF.call fs2 (fun k h => by omega)
  have q5 : s2 1 1 = s0 1 1 := (congrFun (fs2 _ (by omega)) _).trans k1_1
  have q6 : s2 d 7 = s0 d 7 := (congrFun (fs2 _ (by omega)) _).trans kd_7
  have ghp3 := hp3.2
  have H4 := ghp3
  refine x_iconst hx hb dX0_cast_7 ?_
  refine lv_istore (lv' := [(4, .int (xJ 0)), (0, .ref (h0 + 128)), (1, .ref (h0 + d)), (2, .int (xJ a)), (3, .int (xJ b))]) hx hb dX0_cast_8 hl (by decide) rfl (fun ls hl => ?_)
  have L10 : ∀ (fu : Nat) (i4_10 : Int) (s_10 : xS) (H : Heap) (locs : List Loc) (ls : Array Slot), (xR i4_10) → (xFr (fun k => k = 115 ∨ k = 116 ∨ k = 130 ∨ k = 131 ∨ k = 132 ∨ k = 133) s0 s_10) → (s_10 1 1 = s0 1 1) → (s_10 d 7 = s0 d 7) → (IC s_10) → (0 ≤ i4_10 ∧ i4_10 ≤ 2) → (zSL (s_10 131) (s_10 132) (s_10 130 3)) → (∀ t : Int, 0 ≤ t → t < 100 → s_10 131 t = (if a ≠ 0 then zsu (zJL K9 q9 (s0 d 7) (s0 (d + 1)) t) (i4_10).toNat else 0)) → (∀ t : Int, 0 ≤ t → t < 100 → s_10 133 t = 0) → (2 - i4_10).toNat < fu → xW D g h0 s H locs s_10 → lv_has ls 6 [(0, .ref (h0 + 128)), (1, .ref (h0 + d)), (2, .int (xJ a)), (3, .int (xJ b)), (4, .int (xJ i4_10))] → W p l e { frames := 3, cells := 0, slots := 0, locals := 74 } s m args below meth c H locs 0 0 Q (F0 m 10 ls []) := by
    intro fu
    induction fu with
    | zero => intro i4_10 s_10 H locs ls ri4_10 hF_10 q10_0 q10_1 q10_2 v10_0 v10_1 v10_2 v10_3 hm; exact absurd hm (Nat.not_lt_zero _)
    | succ fu ih10 =>
      intro i4_10 s_10 H locs ls ri4_10 hF_10 q10_0 q10_1 q10_2 v10_0 v10_1 v10_2 v10_3 hm hW hl
      have hm_10 := fun (_ : Unit) => hm
      clear hm
      have B10 : ∀ t : Int, 0 ≤ t → t < 100 → 0 ≤ s_10 131 t ∧ s_10 131 t ≤ 1000 := fun t t1 t2 => by
          rw [v10_2 t t1 t2]
          have y := zsu_b (f := zJL K9 q9 (s0 d 7) (s0 (d + 1)) t) (b := 9) (n := (i4_10).toNat) (fun i _ _ => zJL_r K9 q9 (s0 d 7) (s0 (d + 1)) t i)
          split <;> omega
      refine x_iload hx hb hl 4 rfl dX0_cast_10 ?_
      refine x_iconst hx hb dX0_cast_12 ?_
      refine x_icmp_ge (tgt := 97) hx hb ri4_10 (by decide) dX0_cast_13 (by decide) (fun c7 => ?_) (fun c7 => ?_)
      · skip
        refine x_iconst hx hb dX0_cast_97 ?_
        refine lv_istore (lv' := [(4, .int (xJ 0)), (0, .ref (h0 + 128)), (1, .ref (h0 + d)), (2, .int (xJ a)), (3, .int (xJ b))]) hx hb dX0_cast_98 hl (by decide) rfl (fun ls hl => ?_)
        have L100 : ∀ (fu : Nat) (i4_100 : Int) (s_100 : xS) (H : Heap) (locs : List Loc) (ls : Array Slot), (xR i4_100) → (xFr (fun k => k = 115 ∨ k = 116 ∨ k = 130 ∨ k = 131 ∨ k = 132 ∨ k = 133) s0 s_100) → (s_100 1 1 = s0 1 1) → (s_100 d 7 = s0 d 7) → (IC s_100) → (0 ≤ i4_100 ∧ i4_100 ≤ 4) → (zSL (s_100 131) (s_100 132) (s_100 130 3)) → (∀ t : Int, 0 ≤ t → t < 100 → s_100 131 t = (if a ≠ 0 then zsu (zJL K9 q9 (s0 d 7) (s0 (d + 1)) t) 2 else 0) + (if b ≠ 0 then zsu (fun i => zLL K9 (s0 (d + 1)) (l9 i) t) (i4_100).toNat else 0)) → (∀ t : Int, 0 ≤ t → t < 100 → s_100 133 t = 0) → (4 - i4_100).toNat < fu → xW D g h0 s H locs s_100 → lv_has ls 6 [(0, .ref (h0 + 128)), (1, .ref (h0 + d)), (3, .int (xJ b)), (4, .int (xJ i4_100))] → W p l e { frames := 3, cells := 0, slots := 0, locals := 74 } s m args below meth c H locs 0 0 Q (F0 m 100 ls []) := by
          intro fu
          induction fu with
          | zero => intro i4_100 s_100 H locs ls ri4_100 hF_100 q100_0 q100_1 q100_2 v100_0 v100_1 v100_2 v100_3 hm; exact absurd hm (Nat.not_lt_zero _)
          | succ fu ih100 =>
            intro i4_100 s_100 H locs ls ri4_100 hF_100 q100_0 q100_1 q100_2 v100_0 v100_1 v100_2 v100_3 hm hW hl
            have hm_100 := fun (_ : Unit) => hm
            clear hm
            have B100 : ∀ t : Int, 0 ≤ t → t < 100 → 0 ≤ s_100 131 t ∧ s_100 131 t ≤ 800 := fun t t1 t2 => by
                rw [v100_2 t t1 t2]
                have y := zsu_b (f := zJL K9 q9 (s0 d 7) (s0 (d + 1)) t) (b := 9) (n := 2) (fun i _ _ => zJL_r K9 q9 (s0 d 7) (s0 (d + 1)) t i)
                have z := zsu_b (f := fun i => zLL K9 (s0 (d + 1)) (l9 i) t) (b := 64) (n := (i4_100).toNat) (fun i _ _ => zLL_r K9 (s0 (d + 1)) (l9 i) t)
                split <;> split <;> omega
            refine x_iload hx hb hl 3 rfl dX0_cast_100 ?_
            refine x_iconst hx hb dX0_cast_102 ?_
            refine x_icmp_ge (tgt := 128) hx hb ri4_100 (by decide) dX0_cast_103 (by decide) (fun c8 => ?_) (fun c8 => ?_)
            · skip
              rw [eQ]
              exact x_vret hx hb hr hlk hW ⟨hF_100, ⟨q100_2, (⟨v100_1, fun t t1 t2 c => absurd (v100_3 t t1 t2) c⟩), trivial⟩, ⟨v100_1, v100_3, fun t t1 t2 => by
                  rw [v100_2 t t1 t2]
                  unfold zLy
                  by_cases h : b ≠ 0
                  · rw [if_pos h, if_pos h, show (i4_100).toNat = 4 from by omega]
                  · rw [if_neg (c := b ≠ 0) h, if_neg (c := b ≠ 0) h]⟩⟩ dX0_cast_128
            refine x_iload_n hx hb hl 2 rfl dX0_cast_106 rfl ?_
            refine x_if_eq (tgt := 128) hx hb rb dX0_cast_107 (by decide) (fun c9 => ?_) (fun c9 => ?_)
            · skip
              rw [eQ]
              exact x_vret hx hb hr hlk hW ⟨hF_100, ⟨q100_2, (⟨v100_1, fun t t1 t2 c => absurd (v100_3 t t1 t2) c⟩), trivial⟩, ⟨v100_1, v100_3, fun t t1 t2 => by
                  rw [v100_2 t t1 t2]
                  unfold zLy
                  by_cases h : b ≠ 0
                  · rw [if_pos h, if_pos h, show (i4_100).toNat = 4 from by omega]
                  · rw [if_neg (c := b ≠ 0) h, if_neg (c := b ≠ 0) h]⟩⟩ dX0_cast_128
            refine x_aload_n hx hb hl 0 rfl dX0_cast_110 rfl ?_
            refine x_aload_n hx hb hl 1 rfl dX0_cast_111 rfl ?_
            refine x_aload_n hx hb hl 0 rfl dX0_cast_112 rfl ?_
            refine x_get (j := 2) (v := .ref (h0 + 129)) hx hb hown hT hE hW cls_X0 (Or.inl (by decide)) (so_128 h0 g _) (by decide) rfl wq355 dX0_cast_113 ?_
            refine x_iload hx hb hl 3 rfl dX0_cast_116 ?_
            refine x_iald hx hb hE hW (Or.inl (by decide)) (sa_129 h0 g _) (by omega) (by decide) dX0_cast_118 ?_
            refine x_rd hW (fun x10 ex10 rx10 => ?_)
            have V118 : x10 = s0 129 i4_100 := by rw [ex10, hF_100 129 (by first | decide | omega)]
            refine x_gov (x_runV (As := [.ref (h0 + d), .int (xJ x10)]) hx hb hml hown hT hE hW hl.1 (Or.inl (by decide)) (so_128 h0 g _) rfl cf_X0_castOfLamp wq845 wq50 wq843 (c_X0_castOfLampF l D g T h0 s_100 hW.2.1 d hd x10 rx10 K9 (by first | exact hK | exact fun t t1 t2 => by rw [hF_100 4 (by first | decide | omega)]; exact hK t t1 t2) (by have z := hlm i4_100 (by omega) (by omega); rw [V118]; omega) (v100_1) (B100) q100_2) ⟨rfl, rfl, ⟨by decide, by decide⟩, ⟨by decide, by decide⟩⟩ rfl rfl (Nat.le_of_ble_eq_true rfl) dX0_cast_119) hW (fun s12 H locs hp13 hW => ?_)
            obtain ⟨fs12, hp13⟩ := hp13
            have hF14 := hF_100.call fs12 (fun k h => by omega)
            have q15 : s12 1 1 = s0 1 1 := (congrFun (fs12 _ (by omega)) _).trans q100_0
            have q16 : s12 d 7 = s0 d 7 := (congrFun (fs12 _ (by omega)) _).trans q100_1
            have ghp13 := hp13.2
            have H119 := ghp13
            have J119 : s_100 (d + 1) = s0 (d + 1) := by first | exact hF_100 (d + 1) (by omega) | exact hF14 (d + 1) (by omega)
            refine x_iinc (lv' := [(4, .int (xJ (i4_100 + 1))), (0, .ref (h0 + 128)), (1, .ref (h0 + d)), (3, .int (xJ b))]) hx hb hl 3 rfl dX0_cast_122 (by decide) rfl (fun ls hl => ?_)
            refine lv_goto (tgt := 100) hx hb dX0_cast_125 (by decide) ?_
            exact ih100 (i4_100 + 1) s12 H locs ls (by omega) hF14 q15 q16 hp13.1.1 (by omega) (H119.1) (fun t t1 t2 => by
                have y := v100_2 t t1 t2
                rw [if_pos (c := b ≠ 0) (by omega)] at y ⊢
                rw [show (i4_100 + 1).toNat = i4_100.toNat + 1 from by omega, H119.2 t t1 t2, y]
                show _ = _ + (zsu (fun i => zLL K9 (s0 (d + 1)) (l9 i) t) i4_100.toNat + zLL K9 (s0 (d + 1)) (l9 ((i4_100.toNat : Nat) : Int)) t)
                rw [show ((i4_100.toNat : Nat) : Int) = i4_100 from by omega, V118, (hlm _ (by omega) (by omega)).1, J119]
                omega) (by rw [fs12 133 (by first | decide | omega)]; exact v100_3) (by have hm := hm_100 (); omega) hW (lv_sub hl [1, 2, 3, 0] rfl)
        exact L100 ((4 - 0 : Int).toNat + 1) 0 s_10 H locs ls (by decide) hF_10 q10_0 q10_1 q10_2 (by omega) (v10_1) (fun t t1 t2 => by
          rw [v10_2 t t1 t2]
          have e : (if b ≠ 0 then zsu (fun i => zLL K9 (s0 (d + 1)) (l9 i) t) (0 : Int).toNat else 0) = 0 := by
            split <;> rfl
          rw [e]
          by_cases h : a ≠ 0
          · rw [if_pos h, if_pos h, show (i4_10).toNat = 2 from by omega]; omega
          · rw [if_neg h, if_neg h]; rfl) (v10_3) (Nat.lt_succ_self _) hW (lv_sub hl [1, 2, 4, 0] rfl)
      refine x_iload_n hx hb hl 2 rfl dX0_cast_16 rfl ?_
      refine x_if_eq (tgt := 97) hx hb ra dX0_cast_17 (by decide) (fun c17 => ?_) (fun c17 => ?_)
      · skip
        refine x_iconst hx hb dX0_cast_97 ?_
        refine lv_istore (lv' := [(4, .int (xJ 0)), (0, .ref (h0 + 128)), (1, .ref (h0 + d)), (2, .int (xJ a)), (3, .int (xJ b))]) hx hb dX0_cast_98 hl (by decide) rfl (fun ls hl => ?_)
        have L100 : ∀ (fu : Nat) (i4_100 : Int) (s_100 : xS) (H : Heap) (locs : List Loc) (ls : Array Slot), (xR i4_100) → (xFr (fun k => k = 115 ∨ k = 116 ∨ k = 130 ∨ k = 131 ∨ k = 132 ∨ k = 133) s0 s_100) → (s_100 1 1 = s0 1 1) → (s_100 d 7 = s0 d 7) → (IC s_100) → (0 ≤ i4_100 ∧ i4_100 ≤ 4) → (zSL (s_100 131) (s_100 132) (s_100 130 3)) → (∀ t : Int, 0 ≤ t → t < 100 → s_100 131 t = (if a ≠ 0 then zsu (zJL K9 q9 (s0 d 7) (s0 (d + 1)) t) 2 else 0) + (if b ≠ 0 then zsu (fun i => zLL K9 (s0 (d + 1)) (l9 i) t) (i4_100).toNat else 0)) → (∀ t : Int, 0 ≤ t → t < 100 → s_100 133 t = 0) → (4 - i4_100).toNat < fu → xW D g h0 s H locs s_100 → lv_has ls 6 [(0, .ref (h0 + 128)), (1, .ref (h0 + d)), (3, .int (xJ b)), (4, .int (xJ i4_100))] → W p l e { frames := 3, cells := 0, slots := 0, locals := 74 } s m args below meth c H locs 0 0 Q (F0 m 100 ls []) := by
          intro fu
          induction fu with
          | zero => intro i4_100 s_100 H locs ls ri4_100 hF_100 q100_0 q100_1 q100_2 v100_0 v100_1 v100_2 v100_3 hm; exact absurd hm (Nat.not_lt_zero _)
          | succ fu ih100 =>
            intro i4_100 s_100 H locs ls ri4_100 hF_100 q100_0 q100_1 q100_2 v100_0 v100_1 v100_2 v100_3 hm hW hl
            have hm_100 := fun (_ : Unit) => hm
            clear hm
            have B100 : ∀ t : Int, 0 ≤ t → t < 100 → 0 ≤ s_100 131 t ∧ s_100 131 t ≤ 800 := fun t t1 t2 => by
                rw [v100_2 t t1 t2]
                have y := zsu_b (f := zJL K9 q9 (s0 d 7) (s0 (d + 1)) t) (b := 9) (n := 2) (fun i _ _ => zJL_r K9 q9 (s0 d 7) (s0 (d + 1)) t i)
                have z := zsu_b (f := fun i => zLL K9 (s0 (d + 1)) (l9 i) t) (b := 64) (n := (i4_100).toNat) (fun i _ _ => zLL_r K9 (s0 (d + 1)) (l9 i) t)
                split <;> split <;> omega
            refine x_iload hx hb hl 3 rfl dX0_cast_100 ?_
            refine x_iconst hx hb dX0_cast_102 ?_
            refine x_icmp_ge (tgt := 128) hx hb ri4_100 (by decide) dX0_cast_103 (by decide) (fun c18 => ?_) (fun c18 => ?_)
            · skip
              rw [eQ]
              exact x_vret hx hb hr hlk hW ⟨hF_100, ⟨q100_2, (⟨v100_1, fun t t1 t2 c => absurd (v100_3 t t1 t2) c⟩), trivial⟩, ⟨v100_1, v100_3, fun t t1 t2 => by
                  rw [v100_2 t t1 t2]
                  unfold zLy
                  by_cases h : b ≠ 0
                  · rw [if_pos h, if_pos h, show (i4_100).toNat = 4 from by omega]
                  · rw [if_neg (c := b ≠ 0) h, if_neg (c := b ≠ 0) h]⟩⟩ dX0_cast_128
            refine x_iload_n hx hb hl 2 rfl dX0_cast_106 rfl ?_
            refine x_if_eq (tgt := 128) hx hb rb dX0_cast_107 (by decide) (fun c19 => ?_) (fun c19 => ?_)
            · skip
              rw [eQ]
              exact x_vret hx hb hr hlk hW ⟨hF_100, ⟨q100_2, (⟨v100_1, fun t t1 t2 c => absurd (v100_3 t t1 t2) c⟩), trivial⟩, ⟨v100_1, v100_3, fun t t1 t2 => by
                  rw [v100_2 t t1 t2]
                  unfold zLy
                  by_cases h : b ≠ 0
                  · rw [if_pos h, if_pos h, show (i4_100).toNat = 4 from by omega]
                  · rw [if_neg (c := b ≠ 0) h, if_neg (c := b ≠ 0) h]⟩⟩ dX0_cast_128
            refine x_aload_n hx hb hl 0 rfl dX0_cast_110 rfl ?_
            refine x_aload_n hx hb hl 1 rfl dX0_cast_111 rfl ?_
            refine x_aload_n hx hb hl 0 rfl dX0_cast_112 rfl ?_
            refine x_get (j := 2) (v := .ref (h0 + 129)) hx hb hown hT hE hW cls_X0 (Or.inl (by decide)) (so_128 h0 g _) (by decide) rfl wq355 dX0_cast_113 ?_
            refine x_iload hx hb hl 3 rfl dX0_cast_116 ?_
            refine x_iald hx hb hE hW (Or.inl (by decide)) (sa_129 h0 g _) (by omega) (by decide) dX0_cast_118 ?_
            refine x_rd hW (fun x20 ex20 rx20 => ?_)
            have V118 : x20 = s0 129 i4_100 := by rw [ex20, hF_100 129 (by first | decide | omega)]
            refine x_gov (x_runV (As := [.ref (h0 + d), .int (xJ x20)]) hx hb hml hown hT hE hW hl.1 (Or.inl (by decide)) (so_128 h0 g _) rfl cf_X0_castOfLamp wq845 wq50 wq843 (c_X0_castOfLampF l D g T h0 s_100 hW.2.1 d hd x20 rx20 K9 (by first | exact hK | exact fun t t1 t2 => by rw [hF_100 4 (by first | decide | omega)]; exact hK t t1 t2) (by have z := hlm i4_100 (by omega) (by omega); rw [V118]; omega) (v100_1) (B100) q100_2) ⟨rfl, rfl, ⟨by decide, by decide⟩, ⟨by decide, by decide⟩⟩ rfl rfl (Nat.le_of_ble_eq_true rfl) dX0_cast_119) hW (fun s22 H locs hp23 hW => ?_)
            obtain ⟨fs22, hp23⟩ := hp23
            have hF24 := hF_100.call fs22 (fun k h => by omega)
            have q25 : s22 1 1 = s0 1 1 := (congrFun (fs22 _ (by omega)) _).trans q100_0
            have q26 : s22 d 7 = s0 d 7 := (congrFun (fs22 _ (by omega)) _).trans q100_1
            have ghp23 := hp23.2
            have H119 := ghp23
            have J119 : s_100 (d + 1) = s0 (d + 1) := by first | exact hF_100 (d + 1) (by omega) | exact hF24 (d + 1) (by omega)
            refine x_iinc (lv' := [(4, .int (xJ (i4_100 + 1))), (0, .ref (h0 + 128)), (1, .ref (h0 + d)), (3, .int (xJ b))]) hx hb hl 3 rfl dX0_cast_122 (by decide) rfl (fun ls hl => ?_)
            refine lv_goto (tgt := 100) hx hb dX0_cast_125 (by decide) ?_
            exact ih100 (i4_100 + 1) s22 H locs ls (by omega) hF24 q25 q26 hp23.1.1 (by omega) (H119.1) (fun t t1 t2 => by
                have y := v100_2 t t1 t2
                rw [if_pos (c := b ≠ 0) (by omega)] at y ⊢
                rw [show (i4_100 + 1).toNat = i4_100.toNat + 1 from by omega, H119.2 t t1 t2, y]
                show _ = _ + (zsu (fun i => zLL K9 (s0 (d + 1)) (l9 i) t) i4_100.toNat + zLL K9 (s0 (d + 1)) (l9 ((i4_100.toNat : Nat) : Int)) t)
                rw [show ((i4_100.toNat : Nat) : Int) = i4_100 from by omega, V118, (hlm _ (by omega) (by omega)).1, J119]
                omega) (by rw [fs22 133 (by first | decide | omega)]; exact v100_3) (by have hm := hm_100 (); omega) hW (lv_sub hl [1, 2, 3, 0] rfl)
        exact L100 ((4 - 0 : Int).toNat + 1) 0 s_10 H locs ls (by decide) hF_10 q10_0 q10_1 q10_2 (by omega) (v10_1) (fun t t1 t2 => by
          rw [v10_2 t t1 t2]
          have e : (if b ≠ 0 then zsu (fun i => zLL K9 (s0 (d + 1)) (l9 i) t) (0 : Int).toNat else 0) = 0 := by
            split <;> rfl
          rw [e]
          by_cases h : a ≠ 0
          · rw [if_pos h, if_pos h, show (i4_10).toNat = 2 from by omega]; omega
          · rw [if_neg h, if_neg h]; rfl) (v10_3) (Nat.lt_succ_self _) hW (lv_sub hl [1, 2, 4, 0] rfl)
      refine x_aload_n hx hb hl 1 rfl dX0_cast_20 rfl ?_
      refine x_iload hx hb hl 4 rfl dX0_cast_21 ?_
      refine x_goi (x_runVN (As := [.int (xJ i4_10)]) hx hb hml hown hT hE hW hl.1 (Or.inl (by omega)) (so_day0 h0 g hd _) rfl cf_X2_hasJudge wq773 wq37 wn771 (c_X2_hasJudgeJ l D g T h0 s_10 hW.2.1 d hd i4_10 ri4_10 q10_2) ⟨rfl, rfl, ⟨by decide, by decide⟩, ⟨by decide, by decide⟩⟩ rfl rfl (Nat.le_of_ble_eq_true rfl) dX0_cast_23) hW (fun x27 s28 H locs rx27 hp29 hW => ?_)
      obtain ⟨es28, hp29⟩ := hp29
      subst es28
      have ghp29 := hp29
      have H23 := ghp29
      rw [hF_10 (d + 1) (by omega)] at H23
      refine x_if_eq (tgt := 91) hx hb rx27 dX0_cast_26 (by decide) (fun c30 => ?_) (fun c30 => ?_)
      · skip
        refine x_iinc (lv' := [(4, .int (xJ (i4_10 + 1))), (0, .ref (h0 + 128)), (1, .ref (h0 + d)), (2, .int (xJ a)), (3, .int (xJ b))]) hx hb hl 4 rfl dX0_cast_91 (by decide) rfl (fun ls hl => ?_)
        refine lv_goto (tgt := 10) hx hb dX0_cast_94 (by decide) ?_
        exact ih10 (i4_10 + 1) s_10 H locs ls (by omega) hF_10 q10_0 q10_1 q10_2 (by omega) (by first | exact H88.1 | exact (by rw [N53.1, N53.2.1, N53.2.2.1]; exact v10_1) | exact v10_1) (fun t t1 t2 => by
            have y := v10_2 t t1 t2
            rw [if_pos (by omega)] at y ⊢
            rw [show (i4_10 + 1).toNat = i4_10.toNat + 1 from by omega]
            show _ = zsu (zJL K9 q9 (s0 d 7) (s0 (d + 1)) t) i4_10.toNat + zJL K9 q9 (s0 d 7) (s0 (d + 1)) t ((i4_10.toNat : Nat) : Int)
            rw [show ((i4_10.toNat : Nat) : Int) = i4_10 from by omega, ← y]
            unfold zJL
            first
              | (rw [if_neg (by omega), ← R50, ← R83, H88.2 t t1 t2, N86.1, V74])
              | (rw [if_neg (by omega), ← R50, Int.toNat_of_nonpos (by omega), N53.1]; show _ = _ + (0 : Int); omega)
              | (rw [if_pos (by omega)]; omega)) (by first | exact v10_3 | (rw [fs_10 133 (by omega), N86.2.2.2]; exact v10_3) | (rw [N53.2.2.2]; exact v10_3)) (by have hm := hm_10 (); omega) hW (lv_sub hl [1, 2, 3, 4, 0] rfl)
      refine x_aload_n hx hb hl 0 rfl dX0_cast_29 rfl ?_
      refine x_get (j := 1) (v := .ref (h0 + 109)) hx hb hown hT hE hW cls_X0 (Or.inl (by decide)) (so_128 h0 g _) (by decide) rfl wq354 dX0_cast_30 ?_
      refine x_aload_n hx hb hl 1 rfl dX0_cast_33 rfl ?_
      refine x_getN (j := 7) (v := .int (xJ (s_10 d 7))) hx hb hown hT hE hW cls_X2 (Or.inl (by omega)) (so_day0 h0 g hd _) (by decide) rfl wn402 dX0_cast_34 ?_
      refine x_rd hW (fun x31 ex31 rx31 => ?_)
      have bx31 : 0 ≤ x31 ∧ x31 ≤ 9999 := by rw [ex31]; exact IC.m q10_2 hd
      have fx31 : x31 = s0 d 7 := ex31.trans q10_1
      have V34 := fx31
      refine x_iload hx hb hl 4 rfl dX0_cast_37 ?_
      refine x_gov (x_runVN (As := [.int (xJ x31), .int (xJ i4_10)]) hx hb hml hown hT hE hW hl.1 (Or.inl (by decide)) (so_109 h0 g _) rfl cf_X4_tellJudge wq835 wq48 wn833 (c_X4_tellJudgeF l D g T h0 s_10 hW.2.1 x31 rx31 i4_10 ri4_10 (by omega) q10_2) ⟨rfl, rfl, ⟨by decide, by decide⟩, ⟨by decide, by decide⟩⟩ rfl rfl (Nat.le_of_ble_eq_true rfl) dX0_cast_39) hW (fun s33 H locs hp34 hW => ?_)
      obtain ⟨fs33, hp34⟩ := hp34
      have hF35 := hF_10.call fs33 (fun k h => by omega)
      have q36 : s33 1 1 = s0 1 1 := (congrFun (fs33 _ (by omega)) _).trans q10_0
      have q37 : s33 d 7 = s0 d 7 := (congrFun (fs33 _ (by omega)) _).trans q10_1
      have ghp34 := hp34.2
      have H39 := ghp34
      rw [V34] at H39
      have M39 := fs33
      refine x_aload_n hx hb hl 0 rfl dX0_cast_42 rfl ?_
      refine x_get (j := 1) (v := .ref (h0 + 109)) hx hb hown hT hE hW cls_X0 (Or.inl (by decide)) (so_128 h0 g _) (by decide) rfl wq354 dX0_cast_43 ?_
      refine x_bipush hx hb dX0_cast_46 (by decide) ?_
      refine x_bipush hx hb dX0_cast_48 (by decide) ?_
      refine x_goi (x_runVN (As := [.int (xJ 108), .int (xJ 9)]) hx hb hml hown hT hE hW hl.1 (Or.inl (by decide)) (so_109 h0 g _) rfl cf_X4_worthOf wq802 wq42 wn800 (c_X4_worthOfF l D g T h0 s33 hW.2.1 108 (by decide) 9 (by decide) q9 (zfJ (s0 d 7) i4_10) (hok) (by first | exact hlc | exact hlc.f (fun k hk => hF35 k (by omega))) (H39) (by decide) (by decide) hp34.1.1) ⟨rfl, rfl, ⟨by decide, by decide⟩, ⟨by decide, by decide⟩⟩ rfl rfl (Nat.le_of_ble_eq_true rfl) dX0_cast_50) hW (fun x38 s39 H locs rx38 hp40 hW => ?_)
      obtain ⟨fs39, hp40⟩ := hp40
      have hF41 := hF35.call fs39 (fun k h => by omega)
      have q42 : s39 1 1 = s0 1 1 := (congrFun (fs39 _ (by omega)) _).trans q36
      have q43 : s39 d 7 = s0 d 7 := (congrFun (fs39 _ (by omega)) _).trans q37
      have ghp40 := hp40.2
      have F50 := fs39 115 (by first | decide | omega)
      have R50 : x38 = zwo q9 108 9 (zfJ (s0 d 7) i4_10) := ghp40
      have N53 : s39 131 = s_10 131 ∧ s39 132 = s_10 132 ∧ s39 130 3 = s_10 130 3 ∧ s39 133 = s_10 133 := by rw [fs39 131 (by first | decide | omega), fs39 132 (by first | decide | omega), fs39 130 (by first | decide | omega), fs39 133 (by first | decide | omega), M39 131 (by omega), M39 132 (by omega), M39 130 (by omega), M39 133 (by omega)]; exact ⟨rfl, rfl, rfl, rfl⟩
      have B50 := zwo_r (q := q9) (kd := 108) (hi := 9) (F := zfJ (s0 d 7) i4_10) (by decide)
      refine lv_istore (lv' := [(5, .int (xJ x38)), (0, .ref (h0 + 128)), (1, .ref (h0 + d)), (2, .int (xJ a)), (3, .int (xJ b)), (4, .int (xJ i4_10))]) hx hb dX0_cast_53 hl (by decide) rfl (fun ls hl => ?_)
      refine x_iload hx hb hl 0 rfl dX0_cast_55 ?_
      refine x_if_le (tgt := 91) hx hb rx38 dX0_cast_57 (by decide) (fun c44 => ?_) (fun c44 => ?_)
      · skip
        refine x_iinc (lv' := [(4, .int (xJ (i4_10 + 1))), (5, .int (xJ x38)), (0, .ref (h0 + 128)), (1, .ref (h0 + d)), (2, .int (xJ a)), (3, .int (xJ b))]) hx hb hl 5 rfl dX0_cast_91 (by decide) rfl (fun ls hl => ?_)
        refine lv_goto (tgt := 10) hx hb dX0_cast_94 (by decide) ?_
        exact ih10 (i4_10 + 1) s39 H locs ls (by omega) hF41 q42 q43 hp40.1.1 (by omega) (by first | exact H88.1 | exact (by rw [N53.1, N53.2.1, N53.2.2.1]; exact v10_1) | exact v10_1) (fun t t1 t2 => by
            have y := v10_2 t t1 t2
            rw [if_pos (by omega)] at y ⊢
            rw [show (i4_10 + 1).toNat = i4_10.toNat + 1 from by omega]
            show _ = zsu (zJL K9 q9 (s0 d 7) (s0 (d + 1)) t) i4_10.toNat + zJL K9 q9 (s0 d 7) (s0 (d + 1)) t ((i4_10.toNat : Nat) : Int)
            rw [show ((i4_10.toNat : Nat) : Int) = i4_10 from by omega, ← y]
            unfold zJL
            first
              | (rw [if_neg (by omega), ← R50, ← R83, H88.2 t t1 t2, N86.1, V74])
              | (rw [if_neg (by omega), ← R50, Int.toNat_of_nonpos (by omega), N53.1]; show _ = _ + (0 : Int); omega)
              | (rw [if_pos (by omega)]; omega)) (by first | exact v10_3 | (rw [fs39 133 (by first | decide | omega), N86.2.2.2]; exact v10_3) | (rw [N53.2.2.2]; exact v10_3)) (by have hm := hm_10 (); omega) hW (lv_sub hl [2, 3, 4, 5, 0] rfl)
      refine x_aload_n hx hb hl 1 rfl dX0_cast_60 rfl ?_
      refine x_get (j := 3) (v := .ref (h0 + 130)) hx hb hown hT hE hW cls_X0 (Or.inl (by decide)) (so_128 h0 g _) (by decide) rfl wq357 dX0_cast_61 ?_
      refine x_aload_n hx hb hl 1 rfl dX0_cast_64 rfl ?_
      refine x_get (j := 0) (v := .ref (h0 + 3)) hx hb hown hT hE hW cls_X0 (Or.inl (by decide)) (so_128 h0 g _) (by decide) rfl wq351 dX0_cast_65 ?_
      refine x_aload_n hx hb hl 2 rfl dX0_cast_68 rfl ?_
      refine x_getN (j := 0) (v := .ref (h0 + (d + 1))) hx hb hown hT hE hW cls_X2 (Or.inl (by omega)) (so_day0 h0 g hd _) (by decide) rfl wn384 dX0_cast_69 ?_
      refine x_iload hx hb hl 5 rfl dX0_cast_72 ?_
      refine x_iald hx hb hE hW (Or.inl (by omega)) (sa_day1 h0 g hd _) (by omega) (by decide) dX0_cast_74 ?_
      refine x_rd hW (fun x45 ex45 rx45 => ?_)
      have V74 : x45 = s0 (d + 1) i4_10 := by rw [ex45, hF41 (d + 1) (by omega)]
      have J74 := hJ i4_10 (by omega) (by omega)
      refine x_aload_n hx hb hl 1 rfl dX0_cast_75 rfl ?_
      refine x_get (j := 1) (v := .ref (h0 + 109)) hx hb hown hT hE hW cls_X0 (Or.inl (by decide)) (so_128 h0 g _) (by decide) rfl wq354 dX0_cast_76 ?_
      refine x_bipush hx hb dX0_cast_79 (by decide) ?_
      refine x_bipush hx hb dX0_cast_81 (by decide) ?_
      refine x_goi (x_runVN (As := [.int (xJ 97), .int (xJ 7)]) hx hb hml hown hT hE hW hl.1 (Or.inl (by decide)) (so_109 h0 g _) rfl cf_X4_worthOf wq802 wq42 wn800 (c_X4_worthOfF l D g T h0 s39 hW.2.1 97 (by decide) 7 (by decide) q9 (zfJ (s0 d 7) i4_10) (hok) (by first | exact hlc | exact hlc.f (fun k hk => hF41 k (by omega))) (by rw [F50]; exact H39) (by decide) (by decide) hp40.1.1) ⟨rfl, rfl, ⟨by decide, by decide⟩, ⟨by decide, by decide⟩⟩ rfl rfl (Nat.le_of_ble_eq_true rfl) dX0_cast_83) hW (fun x46 s47 H locs rx46 hp48 hW => ?_)
      obtain ⟨fs47, hp48⟩ := hp48
      have hF49 := hF41.call fs47 (fun k h => by omega)
      have q50 : s47 1 1 = s0 1 1 := (congrFun (fs47 _ (by omega)) _).trans q42
      have q51 : s47 d 7 = s0 d 7 := (congrFun (fs47 _ (by omega)) _).trans q43
      have ghp48 := hp48.2
      have R83 : x46 = zwo q9 97 7 (zfJ (s0 d 7) i4_10) := ghp48
      have B83 := zwo_r (q := q9) (kd := 97) (hi := 7) (F := zfJ (s0 d 7) i4_10) (by decide)
      have N86 : s47 131 = s_10 131 ∧ s47 132 = s_10 132 ∧ s47 130 3 = s_10 130 3 ∧ s47 133 = s_10 133 := by rw [fs47 131 (by first | decide | omega), fs47 132 (by first | decide | omega), fs47 130 (by first | decide | omega), fs47 133 (by first | decide | omega)]; exact N53
      refine x_iload hx hb hl 0 rfl dX0_cast_86 ?_
      refine x_gov (x_runVN (As := [.ref (h0 + 3), .int (xJ x45), .int (xJ x46), .int (xJ x38)]) hx hb hml hown hT hE hW hl.1 (Or.inl (by decide)) (so_130 h0 g _) rfl cf_X7_fall wq839 wq49 wn837 (c_X7_fallF l D g T h0 s47 hW.2.1 x45 rx45 x46 rx46 x38 rx38 K9 (by first | exact hK | exact fun t t1 t2 => by rw [hF49 4 (by first | decide | omega)]; exact hK t t1 t2) (by omega) (by omega) (by omega) (by rw [N86.1, N86.2.1, N86.2.2.1]; exact v10_1) (by rw [N86.1]; exact B10) hp48.1.1) ⟨rfl, rfl, ⟨by decide, by decide⟩, ⟨by decide, by decide⟩⟩ rfl rfl (Nat.le_of_ble_eq_true rfl) dX0_cast_88) hW (fun s53 H locs hp54 hW => ?_)
      obtain ⟨fs53, hp54⟩ := hp54
      have hF55 := hF49.call fs53 (fun k h => by omega)
      have q56 : s53 1 1 = s0 1 1 := (congrFun (fs53 _ (by omega)) _).trans q50
      have q57 : s53 d 7 = s0 d 7 := (congrFun (fs53 _ (by omega)) _).trans q51
      have ghp54 := hp54.2
      have H88 := ghp54
      refine x_iinc (lv' := [(4, .int (xJ (i4_10 + 1))), (5, .int (xJ x38)), (0, .ref (h0 + 128)), (1, .ref (h0 + d)), (2, .int (xJ a)), (3, .int (xJ b))]) hx hb hl 5 rfl dX0_cast_91 (by decide) rfl (fun ls hl => ?_)
      refine lv_goto (tgt := 10) hx hb dX0_cast_94 (by decide) ?_
      exact ih10 (i4_10 + 1) s53 H locs ls (by omega) hF55 q56 q57 hp54.1.1 (by omega) (by first | exact H88.1 | exact (by rw [N53.1, N53.2.1, N53.2.2.1]; exact v10_1) | exact v10_1) (fun t t1 t2 => by
            have y := v10_2 t t1 t2
            rw [if_pos (by omega)] at y ⊢
            rw [show (i4_10 + 1).toNat = i4_10.toNat + 1 from by omega]
            show _ = zsu (zJL K9 q9 (s0 d 7) (s0 (d + 1)) t) i4_10.toNat + zJL K9 q9 (s0 d 7) (s0 (d + 1)) t ((i4_10.toNat : Nat) : Int)
            rw [show ((i4_10.toNat : Nat) : Int) = i4_10 from by omega, ← y]
            unfold zJL
            first
              | (rw [if_neg (by omega), ← R50, ← R83, H88.2 t t1 t2, N86.1, V74])
              | (rw [if_neg (by omega), ← R50, Int.toNat_of_nonpos (by omega), N53.1]; show _ = _ + (0 : Int); omega)
              | (rw [if_pos (by omega)]; omega)) (by first | exact v10_3 | (rw [fs53 133 (by first | decide | omega), N86.2.2.2]; exact v10_3) | (rw [N53.2.2.2]; exact v10_3)) (by have hm := hm_10 (); omega) hW (lv_sub hl [2, 3, 4, 5, 0] rfl)
  exact L10 ((2 - 0 : Int).toNat + 1) 0 s2 H locs ls (by decide) hF4 q5 q6 hp3.1.1 (by omega) (zSL.none H4.2.1 H4.1) (fun t t1 t2 => by
          rw [H4.2.1 t t1 t2]
          split <;> rfl) (H4.2.2) (Nat.lt_succ_self _) hW (lv_sub hl [1, 2, 3, 4, 0] rfl)
set_option maxHeartbeats 4000000 in
set_option maxRecDepth 100000 in
theorem c_X0_castCloudlessF (l : Launch) (D : va_G) (g : xG) (T : Nat × Nat × Nat) (h0 : Nat) (s0 : xS) (hσ : xRR s0) (d : Nat) (hd : xDay d) (q9 : zLaw) (K9 : Int → Int) (l9 : Int → Int) (hok : zLok q9) (hlc : zLD s0 q9) (hK : ∀ t : Int, 0 ≤ t → t < 100 → s0 4 t = K9 t) (hlm : ∀ i : Int, 0 ≤ i → i < 4 → s0 129 i = l9 i ∧ (l9 i = -1 ∨ (0 ≤ l9 i ∧ l9 i < 100))) (hJ : ∀ j : Int, 0 ≤ j → j < 2 → s0 (d + 1) j = -1 ∨ (0 ≤ s0 (d + 1) j ∧ s0 (d + 1) j < 100)) (p0 : IC s0) (p1 : IS s0) : Met l yX0_castCloudless (xws yX0_castCloudless cX0_castCloudless 2 none) { frames := 4, cells := 0, slots := 0, locals := 99 } (xP [.ref (h0 + 128), .ref (h0 + d)] D g T h0 s0) (xQv D g h0 (fun τ => xFr (fun k => k = 115 ∨ k = 116 ∨ k = 130 ∨ k = 131 ∨ k = 132 ∨ k = 133) s0 τ ∧ (((IC τ) ∧ (IS τ) ∧ True) ∧ (zSL (τ 131) (τ 132) (τ 130 3) ∧ (∀ t : Int, 0 ≤ t → t < 100 → τ 133 t = 0) ∧ ∀ t : Int, 0 ≤ t → t < 100 → τ 131 t = zLy K9 q9 l9 (s0 d 7) (s0 (d + 1)) 1 (zni q9 (s0 d 7)) t)))) 0 0 (xA h0) := by
  refine x_met hσ (by decide) (Nat.le_of_ble_eq_true rfl) ?_
  intro p e s m args below meth c hx hb hr hml hown hT hlk hnm hE hW ls hl
  have hl : lv_has ls 2 [(0, .ref (h0 + 128)), (1, .ref (h0 + d))] := hl
  obtain ⟨Q, eQ⟩ : ∃ Q, Q = MQ below (xQv D g h0 (fun τ => xFr (fun k => k = 115 ∨ k = 116 ∨ k = 130 ∨ k = 131 ∨ k = 132 ∨ k = 133) s0 τ ∧ (((IC τ) ∧ (IS τ) ∧ True) ∧ (zSL (τ 131) (τ 132) (τ 130 3) ∧ (∀ t : Int, 0 ≤ t → t < 100 → τ 133 t = 0) ∧ ∀ t : Int, 0 ≤ t → t < 100 → τ 131 t = zLy K9 q9 l9 (s0 d 7) (s0 (d + 1)) 1 (zni q9 (s0 d 7)) t)))) args s 0 0 (xA h0) := ⟨_, rfl⟩
  rw [← eQ]
  generalize hHe : ([] : List Loc) = locs at hW ⊢
  obtain ⟨H, eH⟩ : ∃ H, H = s.heap := ⟨_, rfl⟩
  rw [← eH] at hW ⊢
  have hF : xFr (fun k => k = 115 ∨ k = 116 ∨ k = 130 ∨ k = 131 ∨ k = 132 ∨ k = 133) s0 s0 := xFr.rf
  have hbd : (136 ≤ d ∧ d < 209) ∧ (d ≤ 146 ∨ 158 ≤ d) := by unfold xDay at hd; omega
  have k1_1 : s0 1 1 = s0 1 1 := rfl
  have kd_7 : s0 d 7 = s0 d 7 := rfl
  have kd_7 : s0 d 7 = s0 d 7 := rfl
  have hm7 := IC.m p0 hd
  refine x_aload_n hx hb hl 0 rfl dX0_castCloudless_0 rfl ?_
  refine x_aload_n hx hb hl 1 rfl dX0_castCloudless_1 rfl ?_
  refine x_iconst hx hb dX0_castCloudless_2 ?_
  refine x_aload_n hx hb hl 0 rfl dX0_castCloudless_3 rfl ?_
  refine x_get (j := 1) (v := .ref (h0 + 109)) hx hb hown hT hE hW cls_X0 (Or.inl (by decide)) (so_128 h0 g _) (by decide) rfl wq354 dX0_castCloudless_4 ?_
  refine x_aload_n hx hb hl 1 rfl dX0_castCloudless_7 rfl ?_
  refine x_getN (j := 7) (v := .int (xJ (s0 d 7))) hx hb hown hT hE hW cls_X2 (Or.inl (by omega)) (so_day0 h0 g hd _) (by decide) rfl wn402 dX0_castCloudless_8 ?_
  refine x_rd hW (fun x1 ex1 rx1 => ?_)
  have bx1 : 0 ≤ x1 ∧ x1 ≤ 9999 := by rw [ex1]; exact IC.m p0 hd
  have fx1 : x1 = s0 d 7 := ex1.trans kd_7
  refine x_goi (x_runVN (As := [.int (xJ x1)]) hx hb hml hown hT hE hW hl.1 (Or.inl (by decide)) (so_109 h0 g _) rfl cf_X4_isNight wq819 wq45 wn817 (c_X4_isNightF l D g T h0 s0 hW.2.1 x1 rx1 q9 (hok) (by first | exact hlc | exact hlc.f (fun k hk => hF k (by omega))) (by omega) p0) ⟨rfl, rfl, ⟨by decide, by decide⟩, ⟨by decide, by decide⟩⟩ rfl rfl (Nat.le_of_ble_eq_true rfl) dX0_castCloudless_11) hW (fun x2 s3 H locs rx2 hp4 hW => ?_)
  obtain ⟨fs3, hp4⟩ := hp4
  have hF5 := hF.call fs3 (fun k h => by omega)
  have q6 : IS s3 := IS_f (fun k hk => fs3 k (by unfold suIS at hk; omega)) p1
  have q7 : s3 1 1 = s0 1 1 := (congrFun (fs3 _ (by omega)) _).trans k1_1
  have q8 : s3 d 7 = s0 d 7 := (congrFun (fs3 _ (by omega)) _).trans kd_7
  have ghp4 := hp4.2
  have R11 := ghp4
  have e7 : s0 d 7 = s0 d 7 := rfl
  have J11 : s3 (d + 1) = s0 (d + 1) ∧ s3 d 7 = s0 d 7 := ⟨hF5 (d + 1) (by omega), by rw [hF5 d (by omega)]⟩
  refine x_gov (x_runV (As := [.ref (h0 + d), .int (xJ 1), .int (xJ x2)]) hx hb hml hown hT hE hW hl.1 (Or.inl (by decide)) (so_128 h0 g _) rfl cf_X0_cast wq824 wq46 wq822 (c_X0_castF l D g T h0 s3 hW.2.1 d hd 1 (by decide) x2 rx2 q9 K9 l9 (hok) (by first | exact hlc | exact hlc.f (fun k hk => hF5 k (by omega))) (by first | exact hK | exact fun t t1 t2 => by rw [hF5 4 (by first | decide | omega)]; exact hK t t1 t2) (by first | exact hlm | exact fun i i1 i2 => by rw [hF5 129 (by first | decide | omega)]; exact hlm i i1 i2) (by first | exact hJ | exact fun i i1 i2 => by rw [hF5 _ (by omega)]; exact hJ i i1 i2) hp4.1.1 q6) ⟨rfl, rfl, ⟨by decide, by decide⟩, ⟨by decide, by decide⟩⟩ rfl rfl (Nat.le_of_ble_eq_true rfl) dX0_castCloudless_14) hW (fun s10 H locs hp11 hW => ?_)
  obtain ⟨fs10, hp11⟩ := hp11
  have hF12 := hF5.call fs10 (fun k h => by omega)
  have q13 : s10 1 1 = s0 1 1 := (congrFun (fs10 _ (by omega)) _).trans q7
  have q14 : s10 d 7 = s0 d 7 := (congrFun (fs10 _ (by omega)) _).trans q8
  have ghp11 := hp11.2
  have H14 := ghp11
  rw [eQ]
  exact x_vret hx hb hr hlk hW ⟨hF12, ⟨hp11.1.1, hp11.1.2.1, trivial⟩, by
    rw [J11.1, J11.2] at H14
    have e : zni q9 (s0 d 7) = _ := (R11.trans (by congr 1)).symm
    rw [e]
    exact H14⟩ dX0_castCloudless_17
set_option maxHeartbeats 4000000 in
set_option maxRecDepth 100000 in
theorem c_X0_shadowsAtF (l : Launch) (D : va_G) (g : xG) (T : Nat × Nat × Nat) (h0 : Nat) (s0 : xS) (hσ : xRR s0) (d : Nat) (hd : xDay d) (x : Int) (rx : xR x) (q9 : zLaw) (K9 : Int → Int) (l9 : Int → Int) (hok : zLok q9) (hlc : zLD s0 q9) (hK : ∀ t : Int, 0 ≤ t → t < 100 → s0 4 t = K9 t) (hlm : ∀ i : Int, 0 ≤ i → i < 4 → s0 129 i = l9 i ∧ (l9 i = -1 ∨ (0 ≤ l9 i ∧ l9 i < 100))) (hJ : ∀ j : Int, 0 ≤ j → j < 2 → s0 (d + 1) j = -1 ∨ (0 ≤ s0 (d + 1) j ∧ s0 (d + 1) j < 100)) (p0 : IC s0) (p1 : IS s0) : Met l yX0_shadowsAt (xws yX0_shadowsAt cX0_shadowsAt 3 (some .int)) { frames := 5, cells := 0, slots := 0, locals := 120 } (xP [.ref (h0 + 128), .ref (h0 + d), .int (xJ x)] D g T h0 s0) (xQi D g h0 (fun r τ => xFr (fun k => k = 115 ∨ k = 116 ∨ k = 130 ∨ k = 131 ∨ k = 132 ∨ k = 133) s0 τ ∧ (((IC τ) ∧ (IS τ) ∧ True) ∧ ((0 ≤ x ∧ x < 100 ∧ r = zLy K9 q9 l9 (s0 d 7) (s0 (d + 1)) 1 (zni q9 (s0 d 7)) x) ∨ ((x < 0 ∨ 100 ≤ x) ∧ r = 0))))) 0 0 (xA h0) := by
  refine x_met hσ (by decide) (Nat.le_of_ble_eq_true rfl) ?_
  intro p e s m args below meth c hx hb hr hml hown hT hlk hnm hE hW ls hl
  have hl : lv_has ls 3 [(0, .ref (h0 + 128)), (1, .ref (h0 + d)), (2, .int (xJ x))] := hl
  obtain ⟨Q, eQ⟩ : ∃ Q, Q = MQ below (xQi D g h0 (fun r τ => xFr (fun k => k = 115 ∨ k = 116 ∨ k = 130 ∨ k = 131 ∨ k = 132 ∨ k = 133) s0 τ ∧ (((IC τ) ∧ (IS τ) ∧ True) ∧ ((0 ≤ x ∧ x < 100 ∧ r = zLy K9 q9 l9 (s0 d 7) (s0 (d + 1)) 1 (zni q9 (s0 d 7)) x) ∨ ((x < 0 ∨ 100 ≤ x) ∧ r = 0))))) args s 0 0 (xA h0) := ⟨_, rfl⟩
  rw [← eQ]
  generalize hHe : ([] : List Loc) = locs at hW ⊢
  obtain ⟨H, eH⟩ : ∃ H, H = s.heap := ⟨_, rfl⟩
  rw [← eH] at hW ⊢
  have hF : xFr (fun k => k = 115 ∨ k = 116 ∨ k = 130 ∨ k = 131 ∨ k = 132 ∨ k = 133) s0 s0 := xFr.rf
  have hbd : (136 ≤ d ∧ d < 209) ∧ (d ≤ 146 ∨ 158 ≤ d) := by unfold xDay at hd; omega
  have k1_1 : s0 1 1 = s0 1 1 := rfl
  have kd_7 : s0 d 7 = s0 d 7 := rfl
  have kd_7 : s0 d 7 = s0 d 7 := rfl
  refine x_aload_n hx hb hl 0 rfl dX0_shadowsAt_0 rfl ?_
  refine x_aload_n hx hb hl 1 rfl dX0_shadowsAt_1 rfl ?_
  refine x_gov (x_runV (As := [.ref (h0 + d)]) hx hb hml hown hT hE hW hl.1 (Or.inl (by decide)) (so_128 h0 g _) rfl cf_X0_castCloudless wq943 wq69 wq941 (c_X0_castCloudlessF l D g T h0 s0 hW.2.1 d hd q9 K9 l9 (hok) (by first | exact hlc | exact hlc.f (fun k hk => hF k (by omega))) (by first | exact hK | exact fun t t1 t2 => by rw [hF 4 (by omega)]; exact hK t t1 t2) (by first | exact hlm | exact fun i i1 i2 => by rw [hF 129 (by omega)]; exact hlm i i1 i2) (by first | exact hJ | exact fun i i1 i2 => by rw [hF _ (by omega)]; exact hJ i i1 i2) p0 p1) ⟨rfl, rfl, ⟨by decide, by decide⟩, ⟨by decide, by decide⟩⟩ rfl rfl (Nat.le_of_ble_eq_true rfl) dX0_shadowsAt_2) hW (fun s2 H locs hp3 hW => ?_)
  obtain ⟨fs2, hp3⟩ := hp3
  have hF4 := hF.call fs2 (fun k h => by omega)
  have q5 : s2 1 1 = s0 1 1 := (congrFun (fs2 _ (by omega)) _).trans k1_1
  have q6 : s2 d 7 = s0 d 7 := (congrFun (fs2 _ (by omega)) _).trans kd_7
  have ghp3 := hp3.2
  have H2 := ghp3
  refine x_aload_n hx hb hl 0 rfl dX0_shadowsAt_5 rfl ?_
  refine x_get (j := 3) (v := .ref (h0 + 130)) hx hb hown hT hE hW cls_X0 (Or.inl (by decide)) (so_128 h0 g _) (by decide) rfl wq357 dX0_shadowsAt_6 ?_
  refine x_iload_n hx hb hl 2 rfl dX0_shadowsAt_9 rfl ?_
  refine x_goi (x_runVN (As := [.int (xJ x)]) hx hb hml hown hT hE hW hl.1 (Or.inl (by decide)) (so_130 h0 g _) rfl cf_X7_layersAt wq899 wq61 wn897 (c_X7_layersAtF l D g T h0 s2 hW.2.1 x rx hp3.1.1) ⟨rfl, rfl, ⟨by decide, by decide⟩, ⟨by decide, by decide⟩⟩ rfl rfl (Nat.le_of_ble_eq_true rfl) dX0_shadowsAt_10) hW (fun x7 s8 H locs rx7 hp9 hW => ?_)
  obtain ⟨es8, hp9⟩ := hp9
  subst es8
  have ghp9 := hp9
  have H10 := ghp9
  rw [eQ]
  exact x_iret hx hb hr hlk hW rx7 ⟨hF4, ⟨hp3.1.1, hp3.1.2.1, trivial⟩, H10.imp (fun q => ⟨q.1, q.2.1, q.2.2.trans (H2.2.2 _ q.1 q.2.1)⟩) (fun q => q)⟩ dX0_shadowsAt_13
set_option maxHeartbeats 4000000 in
set_option maxRecDepth 100000 in
theorem c_X10_shadeF (l : Launch) (D : va_G) (g : xG) (T : Nat × Nat × Nat) (h0 : Nat) (s0 : xS) (hσ : xRR s0) (x : Int) (rx : xR x) (y : Int) (ry : xR y) (q9 : zLaw) (K9 : Int → Int) (l9 : Int → Int) (hok : zLok q9) (hlc : zLD s0 q9) (hK : ∀ t : Int, 0 ≤ t → t < 100 → s0 4 t = K9 t) (hlm : ∀ i : Int, 0 ≤ i → i < 4 → s0 129 i = l9 i ∧ (l9 i = -1 ∨ (0 ≤ l9 i ∧ l9 i < 100))) (hJ : ∀ j : Int, 0 ≤ j → j < 2 → s0 137 j = -1 ∨ (0 ≤ s0 137 j ∧ s0 137 j < 100)) (p0 : IC s0) (p1 : IS s0) : Met l yX10_shade (xws yX10_shade cX10_shade 4 (some .int)) { frames := 6, cells := 0, slots := 0, locals := 142 } (xP [.ref (h0 + 0), .int (xJ x), .int (xJ y)] D g T h0 s0) (xQi D g h0 (fun r τ => xFr (fun k => k = 115 ∨ k = 116 ∨ k = 130 ∨ k = 131 ∨ k = 132 ∨ k = 133) s0 τ ∧ (((IC τ) ∧ (IS τ) ∧ True) ∧ (((0 ≤ x ∧ x < 10 ∧ 0 ≤ y ∧ y < 10) ∧ r = zLy K9 q9 l9 (s0 136 7) (s0 137) 1 (zni q9 (s0 136 7)) (10 * y + x)) ∨ (¬ (0 ≤ x ∧ x < 10 ∧ 0 ≤ y ∧ y < 10) ∧ r = -1))))) 0 0 (xA h0) := by
  refine x_met hσ (by decide) (Nat.le_of_ble_eq_true rfl) ?_
  intro p e s m args below meth c hx hb hr hml hown hT hlk hnm hE hW ls hl
  have hl : lv_has ls 4 [(0, .ref (h0 + 0)), (1, .int (xJ x)), (2, .int (xJ y))] := hl
  obtain ⟨Q, eQ⟩ : ∃ Q, Q = MQ below (xQi D g h0 (fun r τ => xFr (fun k => k = 115 ∨ k = 116 ∨ k = 130 ∨ k = 131 ∨ k = 132 ∨ k = 133) s0 τ ∧ (((IC τ) ∧ (IS τ) ∧ True) ∧ (((0 ≤ x ∧ x < 10 ∧ 0 ≤ y ∧ y < 10) ∧ r = zLy K9 q9 l9 (s0 136 7) (s0 137) 1 (zni q9 (s0 136 7)) (10 * y + x)) ∨ (¬ (0 ≤ x ∧ x < 10 ∧ 0 ≤ y ∧ y < 10) ∧ r = -1))))) args s 0 0 (xA h0) := ⟨_, rfl⟩
  rw [← eQ]
  generalize hHe : ([] : List Loc) = locs at hW ⊢
  obtain ⟨H, eH⟩ : ∃ H, H = s.heap := ⟨_, rfl⟩
  rw [← eH] at hW ⊢
  have hF : xFr (fun k => k = 115 ∨ k = 116 ∨ k = 130 ∨ k = 131 ∨ k = 132 ∨ k = 133) s0 s0 := xFr.rf
  have k1_1 : s0 1 1 = s0 1 1 := rfl
  refine x_iload_n hx hb hl 1 rfl dX10_shade_0 rfl ?_
  refine x_iload_n hx hb hl 2 rfl dX10_shade_1 rfl ?_
  refine x_goi (x_runSN (As := [.int (xJ x), .int (xJ y)]) hx hb hml hown hT hE hW hl.1 cf_X6_spotAt wq708 wn949 (c_X6_spotAt l D g T h0 s0 hW.2.1 x rx y ry) ⟨rfl, rfl, ⟨by decide, by decide⟩, ⟨by decide, by decide⟩⟩ rfl rfl (Nat.le_of_ble_eq_true rfl) dX10_shade_2) hW (fun x1 s2 H locs rx1 hp3 hW => ?_)
  obtain ⟨es2, hp3⟩ := hp3
  subst es2
  have ghp3 := hp3
  refine lv_istore_n (lv' := [(3, .int (xJ x1)), (0, .ref (h0 + 0)), (1, .int (xJ x)), (2, .int (xJ y))]) hx hb dX10_shade_5 rfl hl (by decide) rfl (fun ls hl => ?_)
  refine x_iload_n hx hb hl 0 rfl dX10_shade_6 rfl ?_
  refine x_iconst hx hb dX10_shade_7 ?_
  refine x_icmp_ne (tgt := 15) hx hb rx1 (by decide) dX10_shade_8 (by decide) (fun c4 => ?_) (fun c4 => ?_)
  · skip
    refine x_aload_n hx hb hl 1 rfl dX10_shade_15 rfl ?_
    refine x_get (j := 5) (v := .ref (h0 + 128)) hx hb hown hT hE hW cls_X10 (Or.inl (by decide)) (so_0 h0 g _) (by decide) rfl wq517 dX10_shade_16 ?_
    refine x_aload_n hx hb hl 1 rfl dX10_shade_19 rfl ?_
    refine x_get (j := 8) (v := .ref (h0 + 136)) hx hb hown hT hE hW cls_X10 (Or.inl (by decide)) (so_0 h0 g _) (by decide) rfl wq520 dX10_shade_20 ?_
    refine x_iload_n hx hb hl 0 rfl dX10_shade_23 rfl ?_
    refine x_goi (x_runVN (As := [.ref (h0 + 136), .int (xJ x1)]) hx hb hml hown hT hE hW hl.1 (Or.inl (by decide)) (so_128 h0 g _) rfl cf_X0_shadowsAt wq939 wq68 wn937 (c_X0_shadowsAtF l D g T h0 s0 hW.2.1 136 xd_136 x1 rx1 q9 K9 l9 (hok) (by first | exact hlc | exact hlc.f (fun k hk => hF k (by omega))) (by first | exact hK | exact fun t t1 t2 => by rw [hF 4 (by omega)]; exact hK t t1 t2) (by first | exact hlm | exact fun i i1 i2 => by rw [hF 129 (by omega)]; exact hlm i i1 i2) (by first | exact hJ | exact fun i i1 i2 => by rw [hF _ (by omega)]; exact hJ i i1 i2) p0 p1) ⟨rfl, rfl, ⟨by decide, by decide⟩, ⟨by decide, by decide⟩⟩ rfl rfl (Nat.le_of_ble_eq_true rfl) dX10_shade_24) hW (fun x5 s6 H locs rx5 hp7 hW => ?_)
    obtain ⟨fs6, hp7⟩ := hp7
    have hF8 := hF.call fs6 (fun k h => by omega)
    have q10 : s6 1 1 = s0 1 1 := (congrFun (fs6 _ (by omega)) _).trans k1_1
    have ghp7 := hp7.2
    have H24 := ghp7
    rw [eQ]
    exact x_iret hx hb hr hlk hW rx5 ⟨hF8, ⟨hp7.1.1, hp7.1.2.1, trivial⟩, by first | exact Or.inr ⟨by omega, by omega⟩ | exact Or.inl ⟨by omega, by rw [show 10 * y + x = x1 from by omega]; exact (H24.resolve_right (fun q => by omega)).2.2⟩⟩ dX10_shade_27
  refine x_iconst hx hb dX10_shade_11 ?_
  refine lv_goto (tgt := 27) hx hb dX10_shade_12 (by decide) ?_
  rw [eQ]
  exact x_iret hx hb hr hlk hW (by decide) ⟨hF, ⟨p0, p1, trivial⟩, by first | exact Or.inr ⟨by omega, by omega⟩ | exact Or.inl ⟨by omega, by rw [show 10 * y + x = x1 from by omega]; exact (H24.resolve_right (fun q => by omega)).2.2⟩⟩ dX10_shade_27

set_option maxHeartbeats 4000000 in
set_option maxRecDepth 100000 in
theorem c_X11_feelsF (l : Launch) (D : va_G) (g : xG) (T : Nat × Nat × Nat) (h0 : Nat) (s0 : xS) (hσ : xRR s0) (t : Int) (rt : xR t) (ht : 0 ≤ t ∧ t ≤ 9999) (p0 : IMn s0) (p1 : IMk s0) (p2 : IMo s0) : Met l yX11_feels (xws yX11_feels cX11_feels 3 none) { frames := 0, cells := 0, slots := 0, locals := 0 } (xP [.ref (h0 + 268), .int (xJ t)] D g T h0 s0) (xQv D g h0 (fun τ => xFr (fun k => k = 294) s0 τ ∧ (((IMn τ) ∧ (IMk τ) ∧ (IMo τ) ∧ True) ∧ (∀ k : Int, 0 ≤ k → k < 7 → τ 294 k = zf0 t k)))) 0 0 (xA h0) := by
  refine x_met hσ (by decide) (Nat.le_of_ble_eq_true rfl) ?_
  intro p e s m args below meth c hx hb hr hml hown hT hlk hnm hE hW ls hl
  have hl : lv_has ls 3 [(0, .ref (h0 + 268)), (1, .int (xJ t))] := hl
  obtain ⟨Q, eQ⟩ : ∃ Q, Q = MQ below (xQv D g h0 (fun τ => xFr (fun k => k = 294) s0 τ ∧ (((IMn τ) ∧ (IMk τ) ∧ (IMo τ) ∧ True) ∧ (∀ k : Int, 0 ≤ k → k < 7 → τ 294 k = zf0 t k)))) args s 0 0 (xA h0) := ⟨_, rfl⟩
  rw [← eQ]
  generalize hHe : ([] : List Loc) = locs at hW ⊢
  obtain ⟨H, eH⟩ : ∃ H, H = s.heap := ⟨_, rfl⟩
  rw [← eH] at hW ⊢
  have hF : xFr (fun k => k = 294) s0 s0 := xFr.rf
  have k268_8 : s0 268 8 = s0 268 8 := rfl
  have k268_58 : s0 268 58 = s0 268 58 := rfl
  have k268_17 : s0 268 17 = s0 268 17 := rfl
  have k268_48 : s0 268 48 = s0 268 48 := rfl
  refine x_iconst hx hb dX11_feels_0 ?_
  refine lv_istore_n (lv' := [(2, .int (xJ 0)), (0, .ref (h0 + 268)), (1, .int (xJ t))]) hx hb dX11_feels_1 rfl hl (by decide) rfl (fun ls hl => ?_)
  have L2 : ∀ (fu : Nat) (i2_2 : Int) (s_2 : xS) (H : Heap) (locs : List Loc) (ls : Array Slot), (xR i2_2) → (xFr (fun k => k = 294) s0 s_2) → (IMn s_2) → (IMk s_2) → (IMo s_2) → (s_2 268 8 = s0 268 8) → (s_2 268 58 = s0 268 58) → (s_2 268 17 = s0 268 17) → (s_2 268 48 = s0 268 48) → (0 ≤ i2_2 ∧ i2_2 ≤ 7) → (∀ k : Int, 0 ≤ k → k < i2_2 → s_2 294 k = 0) → (7 - i2_2).toNat < fu → xW D g h0 s H locs s_2 → lv_has ls 3 [(0, .ref (h0 + 268)), (1, .int (xJ t)), (2, .int (xJ i2_2))] → W p l e { frames := 0, cells := 0, slots := 0, locals := 0 } s m args below meth c H locs 0 0 Q (F0 m 2 ls []) := by
    intro fu
    induction fu with
    | zero => intro i2_2 s_2 H locs ls ri2_2 hF_2 q2_0 q2_1 q2_2 q2_3 q2_4 q2_5 q2_6 v2_0 v2_1 hm; exact absurd hm (Nat.not_lt_zero _)
    | succ fu ih2 =>
      intro i2_2 s_2 H locs ls ri2_2 hF_2 q2_0 q2_1 q2_2 q2_3 q2_4 q2_5 q2_6 v2_0 v2_1 hm hW hl
      have hm_2 := fun (_ : Unit) => hm
      clear hm
      refine x_iload_n hx hb hl 2 rfl dX11_feels_2 rfl ?_
      refine x_bipush hx hb dX11_feels_3 (by decide) ?_
      refine x_icmp_ge (tgt := 21) hx hb ri2_2 (by decide) dX11_feels_5 (by decide) (fun c1 => ?_) (fun c1 => ?_)
      · skip
        refine x_aload_n hx hb hl 0 rfl dX11_feels_21 rfl ?_
        refine x_get (j := 39) (v := .ref (h0 + 294)) hx hb hown hT hE hW cls_X11 (Or.inl (by decide)) (so_268 h0 g _) (by decide) rfl wq1224 dX11_feels_22 ?_
        refine x_iconst hx hb dX11_feels_25 ?_
        refine x_iload_n hx hb hl 1 rfl dX11_feels_26 rfl ?_
        refine x_iast hx hb hE hW (by decide) (fun σ => sa_294 h0 g σ) ⟨by decide, by decide⟩ (by decide) rt dX11_feels_27 (fun H locs s2 es2 hW => ?_)
        have q3 : IMn s2 := by rw [es2]; exact IMn_o (by unfold suIMn; first | decide | omega) q2_0
        have q4 : IMk s2 := by rw [es2]; exact IMk_o (by unfold suIMk; first | decide | omega) q2_1
        have q5 : IMo s2 := by rw [es2]; exact IMo_o (by unfold suIMo; first | decide | omega) q2_2
        have q6 : s2 268 8 = s0 268 8 := (show s2 268 8 = s_2 268 8 from by rw [es2, xU_k _ _ _ (by first | decide | omega)]).trans q2_3
        have q7 : s2 268 58 = s0 268 58 := (show s2 268 58 = s_2 268 58 from by rw [es2, xU_k _ _ _ (by first | decide | omega)]).trans q2_4
        have q8 : s2 268 17 = s0 268 17 := (show s2 268 17 = s_2 268 17 from by rw [es2, xU_k _ _ _ (by first | decide | omega)]).trans q2_5
        have q9 : s2 268 48 = s0 268 48 := (show s2 268 48 = s_2 268 48 from by rw [es2, xU_k _ _ _ (by first | decide | omega)]).trans q2_6
        have hF10 := hF_2.put es2 (by omega)
        have E27 := es2
        refine x_aload_n hx hb hl 0 rfl dX11_feels_28 rfl ?_
        refine x_get (j := 39) (v := .ref (h0 + 294)) hx hb hown hT hE hW cls_X11 (Or.inl (by decide)) (so_268 h0 g _) (by decide) rfl wq1224 dX11_feels_29 ?_
        refine x_iconst hx hb dX11_feels_32 ?_
        refine x_iload_n hx hb hl 1 rfl dX11_feels_33 rfl ?_
        refine x_bipush hx hb dX11_feels_34 (by decide) ?_
        refine x_idiv hx hb rt (by decide) (by omega) (by decide) dX11_feels_36 ?_
        refine x_bipush hx hb dX11_feels_37 (by decide) ?_
        refine x_irem hx hb (by omega) (by decide) (by omega) (by decide) dX11_feels_39 ?_
        refine x_iast hx hb hE hW (by decide) (fun σ => sa_294 h0 g σ) ⟨by decide, by decide⟩ (by decide) (by omega) dX11_feels_40 (fun H locs s11 es11 hW => ?_)
        have q12 : IMn s11 := by rw [es11]; exact IMn_o (by unfold suIMn; first | decide | omega) q3
        have q13 : IMk s11 := by rw [es11]; exact IMk_o (by unfold suIMk; first | decide | omega) q4
        have q14 : IMo s11 := by rw [es11]; exact IMo_o (by unfold suIMo; first | decide | omega) q5
        have q15 : s11 268 8 = s0 268 8 := (show s11 268 8 = s2 268 8 from by rw [es11, xU_k _ _ _ (by first | decide | omega)]).trans q6
        have q16 : s11 268 58 = s0 268 58 := (show s11 268 58 = s2 268 58 from by rw [es11, xU_k _ _ _ (by first | decide | omega)]).trans q7
        have q17 : s11 268 17 = s0 268 17 := (show s11 268 17 = s2 268 17 from by rw [es11, xU_k _ _ _ (by first | decide | omega)]).trans q8
        have q18 : s11 268 48 = s0 268 48 := (show s11 268 48 = s2 268 48 from by rw [es11, xU_k _ _ _ (by first | decide | omega)]).trans q9
        have hF19 := hF10.put es11 (by omega)
        have E40 := es11
        rw [eQ]
        exact x_vret hx hb hr hlk hW ⟨hF19, ⟨q12, q13, q14, trivial⟩, fun k k1 k2 => by
            rw [E40, xU_xud, E27, xU_xud]
            refine zf0_i (fun h => ?_) (fun h => ?_) (fun h h2 => ?_)
            · subst h; rw [xud_o _ _ (by decide), xud_s]
            · subst h; rw [xud_s]
            · rw [xud_o _ _ h2, xud_o _ _ h]; exact v2_1 k (by omega) (by omega)⟩ dX11_feels_41
      refine x_aload_n hx hb hl 0 rfl dX11_feels_8 rfl ?_
      refine x_get (j := 39) (v := .ref (h0 + 294)) hx hb hown hT hE hW cls_X11 (Or.inl (by decide)) (so_268 h0 g _) (by decide) rfl wq1224 dX11_feels_9 ?_
      refine x_iload_n hx hb hl 2 rfl dX11_feels_12 rfl ?_
      refine x_iconst hx hb dX11_feels_13 ?_
      refine x_iast hx hb hE hW (by decide) (fun σ => sa_294 h0 g σ) (by omega) (by decide) (by decide) dX11_feels_14 (fun H locs s20 es20 hW => ?_)
      have q21 : IMn s20 := by rw [es20]; exact IMn_o (by unfold suIMn; first | decide | omega) q2_0
      have q22 : IMk s20 := by rw [es20]; exact IMk_o (by unfold suIMk; first | decide | omega) q2_1
      have q23 : IMo s20 := by rw [es20]; exact IMo_o (by unfold suIMo; first | decide | omega) q2_2
      have q24 : s20 268 8 = s0 268 8 := (show s20 268 8 = s_2 268 8 from by rw [es20, xU_k _ _ _ (by first | decide | omega)]).trans q2_3
      have q25 : s20 268 58 = s0 268 58 := (show s20 268 58 = s_2 268 58 from by rw [es20, xU_k _ _ _ (by first | decide | omega)]).trans q2_4
      have q26 : s20 268 17 = s0 268 17 := (show s20 268 17 = s_2 268 17 from by rw [es20, xU_k _ _ _ (by first | decide | omega)]).trans q2_5
      have q27 : s20 268 48 = s0 268 48 := (show s20 268 48 = s_2 268 48 from by rw [es20, xU_k _ _ _ (by first | decide | omega)]).trans q2_6
      have hF28 := hF_2.put es20 (by omega)
      have E14 := es20
      refine x_iinc (lv' := [(2, .int (xJ (i2_2 + 1))), (0, .ref (h0 + 268)), (1, .int (xJ t))]) hx hb hl 2 rfl dX11_feels_15 (by decide) rfl (fun ls hl => ?_)
      refine lv_goto (tgt := 2) hx hb dX11_feels_18 (by decide) ?_
      exact ih2 (i2_2 + 1) s20 H locs ls (by omega) hF28 q21 q22 q23 q24 q25 q26 q27 (by omega) (fun k k1 k2 => by
            rw [E14, xU_xud]
            by_cases h : k = i2_2
            · subst h; rw [xud_s]
            · rw [xud_o _ _ h]; exact v2_1 k k1 (by omega)) (by have hm := hm_2 (); omega) hW (lv_sub hl [1, 2, 0] rfl)
  exact L2 ((7 - 0 : Int).toNat + 1) 0 s0 H locs ls (by decide) hF p0 p1 p2 k268_8 k268_58 k268_17 k268_48 (by omega) (fun k k1 k2 => absurd k2 (by omega)) (Nat.lt_succ_self _) hW (lv_sub hl [1, 2, 0] rfl)
set_option maxHeartbeats 4000000 in
set_option maxRecDepth 100000 in
theorem c_X11_byLawF (l : Launch) (D : va_G) (g : xG) (T : Nat × Nat × Nat) (h0 : Nat) (s0 : xS) (hσ : xRR s0) (q : Int) (rq : xR q) (w : Int) (rw : xR w) (q9 : zLaw) (F9 : Int → Int) (hok : zLok q9) (hlr : zLR s0 q9) (hF9 : ∀ k : Int, 0 ≤ k → k < 7 → s0 294 k = F9 k) (hkd : q ≠ 110) (hw0 : 0 ≤ w) (p0 : IMn s0) (p1 : IMk s0) (p2 : IMo s0) : Met l yX11_byLaw (xws yX11_byLaw cX11_byLaw 5 (some .int)) { frames := 2, cells := 0, slots := 0, locals := 49 } (xP [.ref (h0 + 268), .int (xJ q), .int (xJ w)] D g T h0 s0) (xQi D g h0 (fun r τ => xFr (fun k => k = 293) s0 τ ∧ (((IMn τ) ∧ (IMk τ) ∧ (IMo τ) ∧ True) ∧ (r = zwo q9 q w F9)))) 0 0 (xA h0) := by
  refine x_met hσ (by decide) (Nat.le_of_ble_eq_true rfl) ?_
  intro p e s m args below meth c hx hb hr hml hown hT hlk hnm hE hW ls hl
  have hl : lv_has ls 5 [(0, .ref (h0 + 268)), (1, .int (xJ q)), (2, .int (xJ w))] := hl
  obtain ⟨Q, eQ⟩ : ∃ Q, Q = MQ below (xQi D g h0 (fun r τ => xFr (fun k => k = 293) s0 τ ∧ (((IMn τ) ∧ (IMk τ) ∧ (IMo τ) ∧ True) ∧ (r = zwo q9 q w F9)))) args s 0 0 (xA h0) := ⟨_, rfl⟩
  rw [← eQ]
  generalize hHe : ([] : List Loc) = locs at hW ⊢
  obtain ⟨H, eH⟩ : ∃ H, H = s.heap := ⟨_, rfl⟩
  rw [← eH] at hW ⊢
  have hF : xFr (fun k => k = 293) s0 s0 := xFr.rf
  have k268_8 : s0 268 8 = s0 268 8 := rfl
  have k268_58 : s0 268 58 = s0 268 58 := rfl
  have k268_48 : s0 268 48 = s0 268 48 := rfl
  have k268_17 : s0 268 17 = s0 268 17 := rfl
  have hM := hok.1
  have hm6 := hlr.2.2.2.2.2
  obtain ⟨V0, eV0⟩ : ∃ v : Int, v = zwo q9 q w F9 := ⟨_, rfl⟩
  refine x_iconst hx hb dX11_byLaw_0 ?_
  refine lv_istore_n (lv' := [(3, .int (xJ 0)), (0, .ref (h0 + 268)), (1, .int (xJ q)), (2, .int (xJ w))]) hx hb dX11_byLaw_1 rfl hl (by decide) rfl (fun ls hl => ?_)
  have L2 : ∀ (fu : Nat) (i3_2 : Int) (s_2 : xS) (H : Heap) (locs : List Loc) (ls : Array Slot), (xR i3_2) → (xFr (fun k => k = 293) s0 s_2) → (IMn s_2) → (IMk s_2) → (IMo s_2) → (s_2 268 8 = s0 268 8) → (s_2 268 58 = s0 268 58) → (s_2 268 48 = s0 268 48) → (s_2 268 17 = s0 268 17) → (0 ≤ i3_2 ∧ i3_2 ≤ s0 268 17) → (V0 = zwoN q9 q w F9 (s0 268 17 - i3_2).toNat i3_2) → (17 - i3_2).toNat < fu → xW D g h0 s H locs s_2 → lv_has ls 5 [(0, .ref (h0 + 268)), (1, .int (xJ q)), (2, .int (xJ w)), (3, .int (xJ i3_2))] → W p l e { frames := 2, cells := 0, slots := 0, locals := 49 } s m args below meth c H locs 0 0 Q (F0 m 2 ls []) := by
    intro fu
    induction fu with
    | zero => intro i3_2 s_2 H locs ls ri3_2 hF_2 q2_0 q2_1 q2_2 q2_3 q2_4 q2_5 q2_6 v2_0 v2_1 hm; exact absurd hm (Nat.not_lt_zero _)
    | succ fu ih2 =>
      intro i3_2 s_2 H locs ls ri3_2 hF_2 q2_0 q2_1 q2_2 q2_3 q2_4 q2_5 q2_6 v2_0 v2_1 hm hW hl
      have hm_2 := fun (_ : Unit) => hm
      clear hm
      refine x_iload_n hx hb hl 3 rfl dX11_byLaw_2 rfl ?_
      refine x_aload_n hx hb hl 0 rfl dX11_byLaw_3 rfl ?_
      refine x_get (j := 17) (v := .int (xJ (s_2 268 17))) hx hb hown hT hE hW cls_X11 (Or.inl (by decide)) (so_268 h0 g _) (by decide) rfl wq1202 dX11_byLaw_4 ?_
      refine x_rd hW (fun x1 ex1 rx1 => ?_)
      have bx1 : 0 ≤ x1 ∧ x1 ≤ 16 := by rw [ex1]; exact IMk.c q2_1
      have fx1 : x1 = s0 268 17 := ex1.trans q2_6
      refine x_icmp_ge (tgt := 89) hx hb ri3_2 rx1 dX11_byLaw_7 (by decide) (fun c2 => ?_) (fun c2 => ?_)
      · skip
        refine x_iconst hx hb dX11_byLaw_89 ?_
        rw [eQ]
        exact x_iret hx hb hr hlk hW (by decide) ⟨hF_2, ⟨q2_0, q2_1, q2_2, trivial⟩, by
            rw [← eV0, v2_1, show (s0 268 17 - i3_2).toNat = 0 from by omega]
            rfl⟩ dX11_byLaw_90
      refine x_aload_n hx hb hl 0 rfl dX11_byLaw_10 rfl ?_
      refine x_get (j := 25) (v := .ref (h0 + 284)) hx hb hown hT hE hW cls_X11 (Or.inl (by decide)) (so_268 h0 g _) (by decide) rfl wq1210 dX11_byLaw_11 ?_
      refine x_iload_n hx hb hl 3 rfl dX11_byLaw_14 rfl ?_
      refine x_iald hx hb hE hW (Or.inl (by decide)) (sa_284 h0 g _) (by omega) (by decide) dX11_byLaw_15 ?_
      refine x_rd hW (fun x3 ex3 rx3 => ?_)
      have l15 := hlr.g (fun k hk => hF_2 k (by omega))
      have V15 : x3 = q9.2.1 i3_2 := by rw [ex3, l15.2.1]
      refine x_iload_n hx hb hl 1 rfl dX11_byLaw_16 rfl ?_
      refine x_icmp_ne (tgt := 83) hx hb rx3 rq dX11_byLaw_17 (by decide) (fun c4 => ?_) (fun c4 => ?_)
      · skip
        refine x_iinc (lv' := [(3, .int (xJ (i3_2 + 1))), (0, .ref (h0 + 268)), (1, .int (xJ q)), (2, .int (xJ w))]) hx hb hl 3 rfl dX11_byLaw_83 (by decide) rfl (fun ls hl => ?_)
        refine lv_goto (tgt := 2) hx hb dX11_byLaw_86 (by decide) ?_
        exact ih2 (i3_2 + 1) s_2 H locs ls (by omega) hF_2 q2_0 q2_1 q2_2 q2_3 q2_4 q2_5 q2_6 (by omega) (by
            rw [show (s0 268 17 - i3_2).toNat = (s0 268 17 - (i3_2 + 1)).toNat + 1 from by omega] at v2_1
            exact v2_1.trans (if_neg (by first | exact (fun c => absurd (V15.trans c.1) (by omega)) | exact (fun c => absurd R33 (by have y := c.2; have z := zEV_b (F := F9) hd9; omega))))) (by have hm := hm_2 (); omega) hW (lv_sub hl [1, 2, 3, 0] rfl)
      refine x_aload_n hx hb hl 0 rfl dX11_byLaw_20 rfl ?_
      refine x_aload_n hx hb hl 0 rfl dX11_byLaw_21 rfl ?_
      refine x_get (j := 27) (v := .ref (h0 + 286)) hx hb hown hT hE hW cls_X11 (Or.inl (by decide)) (so_268 h0 g _) (by decide) rfl wq1212 dX11_byLaw_22 ?_
      refine x_iload_n hx hb hl 3 rfl dX11_byLaw_25 rfl ?_
      refine x_iald hx hb hE hW (Or.inl (by decide)) (sa_286 h0 g _) (by omega) (by decide) dX11_byLaw_26 ?_
      refine x_rd hW (fun x5 ex5 rx5 => ?_)
      have A25 : x5 = q9.2.2.2.1 i3_2 := by rw [ex5, (hlr.g (fun k hk => hF_2 k (by omega))).2.2.2.1]
      refine x_aload_n hx hb hl 0 rfl dX11_byLaw_27 rfl ?_
      refine x_get (j := 28) (v := .ref (h0 + 287)) hx hb hown hT hE hW cls_X11 (Or.inl (by decide)) (so_268 h0 g _) (by decide) rfl wq1213 dX11_byLaw_28 ?_
      refine x_iload_n hx hb hl 3 rfl dX11_byLaw_31 rfl ?_
      refine x_iald hx hb hE hW (Or.inl (by decide)) (sa_287 h0 g _) (by omega) (by decide) dX11_byLaw_32 ?_
      refine x_rd hW (fun x6 ex6 rx6 => ?_)
      have A32 : x6 = q9.2.2.2.2.1 i3_2 := by rw [ex6, (hlr.g (fun k hk => hF_2 k (by omega))).2.2.2.2]
      have G32 : s_2 283 = q9.1 := (hlr.g (fun k hk => hF_2 k (by omega))).1
      obtain ⟨d9, hd9⟩ := (hok.2 i3_2 (by omega) (by omega)).2
      have F32 : s_2 294 = s0 294 := hF_2 294 (by first | decide | omega)
      refine x_goi (x_runV (As := [.int (xJ x5), .int (xJ x6)]) hx hb hml hown hT hE hW hl.1 (Or.inl (by decide)) (so_268 h0 g _) rfl cf_X11_comesTo wq1581 wq138 wq1579 (c_X11_comesToV l D g T h0 s_2 hW.2.1 x5 rx5 x6 rx6 true d9 (by rw [G32, A25, A32]; exact hd9) q2_0 q2_1 q2_2) ⟨rfl, rfl, ⟨by decide, by decide⟩, ⟨by decide, by decide⟩⟩ rfl rfl (Nat.le_of_ble_eq_true rfl) dX11_byLaw_33) hW (fun x7 s8 H locs rx7 hp9 hW => ?_)
      obtain ⟨fs8, hp9⟩ := hp9
      have hF10 := hF_2.call fs8 (fun k h => by omega)
      have q11 : s8 268 8 = s0 268 8 := (congrFun (fs8 _ (by omega)) _).trans q2_3
      have q12 : s8 268 58 = s0 268 58 := (congrFun (fs8 _ (by omega)) _).trans q2_4
      have q13 : s8 268 48 = s0 268 48 := (congrFun (fs8 _ (by omega)) _).trans q2_5
      have q14 : s8 268 17 = s0 268 17 := (congrFun (fs8 _ (by omega)) _).trans q2_6
      have ghp9 := hp9.2
      have R33 : x7 = zEV q9.1 F9 (q9.2.2.2.1 i3_2) (q9.2.2.2.2.1 i3_2) := by
        have e := ghp9
        rw [G32, A25, A32, F32] at e
        exact e.trans (zEV_F hd9 hF9)
      refine x_iconst hx hb dX11_byLaw_36 ?_
      refine x_icmp_eq (tgt := 43) hx hb rx7 (by decide) dX11_byLaw_37 (by decide) (fun c15 => ?_) (fun c15 => ?_)
      · skip
        refine x_aload_n hx hb hl 0 rfl dX11_byLaw_43 rfl ?_
        refine x_aload_n hx hb hl 0 rfl dX11_byLaw_44 rfl ?_
        refine x_get (j := 26) (v := .ref (h0 + 285)) hx hb hown hT hE hW cls_X11 (Or.inl (by decide)) (so_268 h0 g _) (by decide) rfl wq1211 dX11_byLaw_45 ?_
        refine x_iload_n hx hb hl 3 rfl dX11_byLaw_48 rfl ?_
        refine x_iald hx hb hE hW (Or.inl (by decide)) (sa_285 h0 g _) (by omega) (by decide) dX11_byLaw_49 ?_
        refine x_rd hW (fun x16 ex16 rx16 => ?_)
        have A48 : x16 = q9.2.2.1 i3_2 := by rw [ex16, (hlr.g (fun k hk => hF10 k (by omega))).2.2.1]
        refine x_aload_n hx hb hl 0 rfl dX11_byLaw_50 rfl ?_
        refine x_get (j := 27) (v := .ref (h0 + 286)) hx hb hown hT hE hW cls_X11 (Or.inl (by decide)) (so_268 h0 g _) (by decide) rfl wq1212 dX11_byLaw_51 ?_
        refine x_iload_n hx hb hl 3 rfl dX11_byLaw_54 rfl ?_
        refine x_iald hx hb hE hW (Or.inl (by decide)) (sa_286 h0 g _) (by omega) (by decide) dX11_byLaw_55 ?_
        refine x_rd hW (fun x17 ex17 rx17 => ?_)
        have A55 : x17 = q9.2.2.2.1 i3_2 := by rw [ex17, (hlr.g (fun k hk => hF10 k (by omega))).2.2.2.1]
        have G55 : s8 283 = q9.1 := (hlr.g (fun k hk => hF10 k (by omega))).1
        obtain ⟨e9, he9⟩ := (hok.2 i3_2 (by omega) (by omega)).1 (fun c => hkd (by omega))
        have F55 : s8 294 = s0 294 := hF10 294 (by first | decide | omega)
        refine x_goi (x_runV (As := [.int (xJ x16), .int (xJ x17)]) hx hb hml hown hT hE hW hl.1 (Or.inl (by decide)) (so_268 h0 g _) rfl cf_X11_comesTo wq1581 wq138 wq1579 (c_X11_comesToV l D g T h0 s8 hW.2.1 x16 rx16 x17 rx17 false e9 (by rw [G55, A48, A55]; exact he9) hp9.1.1 hp9.1.2.1 hp9.1.2.2.1) ⟨rfl, rfl, ⟨by decide, by decide⟩, ⟨by decide, by decide⟩⟩ rfl rfl (Nat.le_of_ble_eq_true rfl) dX11_byLaw_56) hW (fun x18 s19 H locs rx18 hp20 hW => ?_)
        obtain ⟨fs19, hp20⟩ := hp20
        have hF21 := hF10.call fs19 (fun k h => by omega)
        have q22 : s19 268 8 = s0 268 8 := (congrFun (fs19 _ (by omega)) _).trans q11
        have q23 : s19 268 58 = s0 268 58 := (congrFun (fs19 _ (by omega)) _).trans q12
        have q24 : s19 268 48 = s0 268 48 := (congrFun (fs19 _ (by omega)) _).trans q13
        have q25 : s19 268 17 = s0 268 17 := (congrFun (fs19 _ (by omega)) _).trans q14
        have ghp20 := hp20.2
        have R56 : x18 = zEV q9.1 F9 (q9.2.2.1 i3_2) (q9.2.2.2.1 i3_2) := by
          have e := ghp20
          rw [G55, A48, A55, F55] at e
          exact e.trans (zEV_F he9 hF9)
        have Z56 : V0 = zclp w x18 := by
          rw [show (s0 268 17 - i3_2).toNat = (s0 268 17 - (i3_2 + 1)).toNat + 1 from by omega] at v2_1
          rw [R56]
          exact v2_1.trans (if_pos ⟨by omega, by omega⟩)
        refine lv_istore (lv' := [(4, .int (xJ x18)), (0, .ref (h0 + 268)), (1, .int (xJ q)), (2, .int (xJ w)), (3, .int (xJ i3_2))]) hx hb dX11_byLaw_59 hl (by decide) rfl (fun ls hl => ?_)
        refine x_iload hx hb hl 0 rfl dX11_byLaw_61 ?_
        refine x_if_ge (tgt := 70) hx hb rx18 dX11_byLaw_63 (by decide) (fun c26 => ?_) (fun c26 => ?_)
        · skip
          refine x_iload hx hb hl 0 rfl dX11_byLaw_70 ?_
          refine x_iload_n hx hb hl 3 rfl dX11_byLaw_72 rfl ?_
          refine x_icmp_le (tgt := 80) hx hb rx18 rw dX11_byLaw_73 (by decide) (fun c27 => ?_) (fun c27 => ?_)
          · skip
            refine x_iload hx hb hl 0 rfl dX11_byLaw_80 ?_
            rw [eQ]
            exact x_iret hx hb hr hlk hW rx18 ⟨hF21, ⟨hp20.1.1, hp20.1.2.1, hp20.1.2.2.1, trivial⟩, by
                rw [← eV0, Z56]
                unfold zclp
                (repeat' split) <;> omega⟩ dX11_byLaw_82
          refine x_iload_n hx hb hl 3 rfl dX11_byLaw_76 rfl ?_
          refine lv_goto (tgt := 82) hx hb dX11_byLaw_77 (by decide) ?_
          rw [eQ]
          exact x_iret hx hb hr hlk hW rw ⟨hF21, ⟨hp20.1.1, hp20.1.2.1, hp20.1.2.2.1, trivial⟩, by
              rw [← eV0, Z56]
              unfold zclp
              (repeat' split) <;> omega⟩ dX11_byLaw_82
        refine x_iconst hx hb dX11_byLaw_66 ?_
        refine lv_goto (tgt := 82) hx hb dX11_byLaw_67 (by decide) ?_
        rw [eQ]
        exact x_iret hx hb hr hlk hW (by decide) ⟨hF21, ⟨hp20.1.1, hp20.1.2.1, hp20.1.2.2.1, trivial⟩, by
            rw [← eV0, Z56]
            unfold zclp
            (repeat' split) <;> omega⟩ dX11_byLaw_82
      refine lv_goto (tgt := 83) hx hb dX11_byLaw_40 (by decide) ?_
      refine x_iinc (lv' := [(3, .int (xJ (i3_2 + 1))), (0, .ref (h0 + 268)), (1, .int (xJ q)), (2, .int (xJ w))]) hx hb hl 3 rfl dX11_byLaw_83 (by decide) rfl (fun ls hl => ?_)
      refine lv_goto (tgt := 2) hx hb dX11_byLaw_86 (by decide) ?_
      exact ih2 (i3_2 + 1) s8 H locs ls (by omega) hF10 hp9.1.1 hp9.1.2.1 hp9.1.2.2.1 q11 q12 q13 q14 (by omega) (by
            rw [show (s0 268 17 - i3_2).toNat = (s0 268 17 - (i3_2 + 1)).toNat + 1 from by omega] at v2_1
            exact v2_1.trans (if_neg (by first | exact (fun c => absurd (V15.trans c.1) (by omega)) | exact (fun c => absurd R33 (by have y := c.2; have z := zEV_b (F := F9) hd9; omega))))) (by have hm := hm_2 (); omega) hW (lv_sub hl [1, 2, 3, 0] rfl)
  exact L2 ((17 - 0 : Int).toNat + 1) 0 s0 H locs ls (by decide) hF p0 p1 p2 k268_8 k268_58 k268_48 k268_17 (by omega) (by rw [eV0, hm6, Int.sub_zero]; rfl) (Nat.lt_succ_self _) hW (lv_sub hl [1, 2, 3, 0] rfl)
set_option maxHeartbeats 4000000 in
set_option maxRecDepth 100000 in
theorem c_X11_isNightF (l : Launch) (D : va_G) (g : xG) (T : Nat × Nat × Nat) (h0 : Nat) (s0 : xS) (hσ : xRR s0) (t : Int) (rt : xR t) (q9 : zLaw) (hok : zLok q9) (hlr : zLR s0 q9) (ht : 0 ≤ t ∧ t ≤ 9999) (p0 : IMn s0) (p1 : IMk s0) (p2 : IMo s0) : Met l yX11_isNight (xws yX11_isNight cX11_isNight 3 (some .boolean)) { frames := 2, cells := 0, slots := 0, locals := 49 } (xP [.ref (h0 + 268), .int (xJ t)] D g T h0 s0) (xQi D g h0 (fun r τ => xFr (fun k => k = 293 ∨ k = 294) s0 τ ∧ (((IMn τ) ∧ (IMk τ) ∧ (IMo τ) ∧ True) ∧ (r = zni q9 t)))) 0 0 (xA h0) := by
  refine x_met hσ (by decide) (Nat.le_of_ble_eq_true rfl) ?_
  intro p e s m args below meth c hx hb hr hml hown hT hlk hnm hE hW ls hl
  have hl : lv_has ls 3 [(0, .ref (h0 + 268)), (1, .int (xJ t))] := hl
  obtain ⟨Q, eQ⟩ : ∃ Q, Q = MQ below (xQi D g h0 (fun r τ => xFr (fun k => k = 293 ∨ k = 294) s0 τ ∧ (((IMn τ) ∧ (IMk τ) ∧ (IMo τ) ∧ True) ∧ (r = zni q9 t)))) args s 0 0 (xA h0) := ⟨_, rfl⟩
  rw [← eQ]
  generalize hHe : ([] : List Loc) = locs at hW ⊢
  obtain ⟨H, eH⟩ : ∃ H, H = s.heap := ⟨_, rfl⟩
  rw [← eH] at hW ⊢
  have hF : xFr (fun k => k = 293 ∨ k = 294) s0 s0 := xFr.rf
  have k268_8 : s0 268 8 = s0 268 8 := rfl
  have k268_58 : s0 268 58 = s0 268 58 := rfl
  have k268_48 : s0 268 48 = s0 268 48 := rfl
  have k268_17 : s0 268 17 = s0 268 17 := rfl
  have hM := hok.1
  have hm6 := hlr.2.2.2.2.2
  obtain ⟨V0, eV0⟩ : ∃ v : Int, v = zni q9 t := ⟨_, rfl⟩
  refine x_aload_n hx hb hl 0 rfl dX11_isNight_0 rfl ?_
  refine x_iload_n hx hb hl 1 rfl dX11_isNight_1 rfl ?_
  refine x_gov (x_runV (As := [.int (xJ t)]) hx hb hml hown hT hE hW hl.1 (Or.inl (by decide)) (so_268 h0 g _) rfl cf_X11_feels wq1573 wq136 wq1571 (c_X11_feelsF l D g T h0 s0 hW.2.1 t rt (by omega) p0 p1 p2) ⟨rfl, rfl, ⟨by decide, by decide⟩, ⟨by decide, by decide⟩⟩ rfl rfl (Nat.le_of_ble_eq_true rfl) dX11_isNight_2) hW (fun s2 H locs hp3 hW => ?_)
  obtain ⟨fs2, hp3⟩ := hp3
  have hF4 := hF.call fs2 (fun k h => by omega)
  have q5 : s2 268 8 = s0 268 8 := (congrFun (fs2 _ (by omega)) _).trans k268_8
  have q6 : s2 268 58 = s0 268 58 := (congrFun (fs2 _ (by omega)) _).trans k268_58
  have q7 : s2 268 48 = s0 268 48 := (congrFun (fs2 _ (by omega)) _).trans k268_48
  have q8 : s2 268 17 = s0 268 17 := (congrFun (fs2 _ (by omega)) _).trans k268_17
  have ghp3 := hp3.2
  have H2 := ghp3
  refine x_iconst hx hb dX11_isNight_5 ?_
  refine lv_istore_n (lv' := [(2, .int (xJ 0)), (0, .ref (h0 + 268)), (1, .int (xJ t))]) hx hb dX11_isNight_6 rfl hl (by decide) rfl (fun ls hl => ?_)
  have L7 : ∀ (fu : Nat) (i2_7 : Int) (s_7 : xS) (H : Heap) (locs : List Loc) (ls : Array Slot), (xR i2_7) → (xFr (fun k => k = 293 ∨ k = 294) s0 s_7) → (s_7 268 8 = s0 268 8) → (s_7 268 58 = s0 268 58) → (s_7 268 48 = s0 268 48) → (s_7 268 17 = s0 268 17) → (IMn s_7) → (IMk s_7) → (IMo s_7) → (0 ≤ i2_7 ∧ i2_7 ≤ s0 268 17) → (V0 = zniN q9 (zf0 t) (s0 268 17 - i2_7).toNat i2_7) → (∀ k : Int, 0 ≤ k → k < 7 → s_7 294 k = zf0 t k) → (17 - i2_7).toNat < fu → xW D g h0 s H locs s_7 → lv_has ls 3 [(0, .ref (h0 + 268)), (2, .int (xJ i2_7))] → W p l e { frames := 2, cells := 0, slots := 0, locals := 49 } s m args below meth c H locs 0 0 Q (F0 m 7 ls []) := by
    intro fu
    induction fu with
    | zero => intro i2_7 s_7 H locs ls ri2_7 hF_7 q7_0 q7_1 q7_2 q7_3 q7_4 q7_5 q7_6 v7_0 v7_1 v7_2 hm; exact absurd hm (Nat.not_lt_zero _)
    | succ fu ih7 =>
      intro i2_7 s_7 H locs ls ri2_7 hF_7 q7_0 q7_1 q7_2 q7_3 q7_4 q7_5 q7_6 v7_0 v7_1 v7_2 hm hW hl
      have hm_7 := fun (_ : Unit) => hm
      clear hm
      refine x_iload_n hx hb hl 1 rfl dX11_isNight_7 rfl ?_
      refine x_aload_n hx hb hl 0 rfl dX11_isNight_8 rfl ?_
      refine x_get (j := 17) (v := .int (xJ (s_7 268 17))) hx hb hown hT hE hW cls_X11 (Or.inl (by decide)) (so_268 h0 g _) (by decide) rfl wq1202 dX11_isNight_9 ?_
      refine x_rd hW (fun x9 ex9 rx9 => ?_)
      have bx9 : 0 ≤ x9 ∧ x9 ≤ 16 := by rw [ex9]; exact IMk.c q7_5
      have fx9 : x9 = s0 268 17 := ex9.trans q7_3
      refine x_icmp_ge (tgt := 54) hx hb ri2_7 rx9 dX11_isNight_12 (by decide) (fun c10 => ?_) (fun c10 => ?_)
      · skip
        refine x_iconst hx hb dX11_isNight_54 ?_
        rw [eQ]
        exact x_zret hx hb hr hlk hW (by omega) ⟨hF_7, ⟨q7_4, q7_5, q7_6, trivial⟩, by
            rw [← eV0, v7_1, show (s0 268 17 - i2_7).toNat = 0 from by omega]
            rfl⟩ dX11_isNight_55
      refine x_aload_n hx hb hl 0 rfl dX11_isNight_15 rfl ?_
      refine x_get (j := 25) (v := .ref (h0 + 284)) hx hb hown hT hE hW cls_X11 (Or.inl (by decide)) (so_268 h0 g _) (by decide) rfl wq1210 dX11_isNight_16 ?_
      refine x_iload_n hx hb hl 1 rfl dX11_isNight_19 rfl ?_
      refine x_iald hx hb hE hW (Or.inl (by decide)) (sa_284 h0 g _) (by omega) (by decide) dX11_isNight_20 ?_
      refine x_rd hW (fun x11 ex11 rx11 => ?_)
      have V20 : x11 = q9.2.1 i2_7 := by rw [ex11, (hlr.g (fun k hk => hF_7 k (by omega))).2.1]
      refine x_bipush hx hb dX11_isNight_21 (by decide) ?_
      refine x_icmp_ne (tgt := 48) hx hb rx11 (by decide) dX11_isNight_23 (by decide) (fun c12 => ?_) (fun c12 => ?_)
      · skip
        refine x_iinc (lv' := [(2, .int (xJ (i2_7 + 1))), (0, .ref (h0 + 268))]) hx hb hl 1 rfl dX11_isNight_48 (by decide) rfl (fun ls hl => ?_)
        refine lv_goto (tgt := 7) hx hb dX11_isNight_51 (by decide) ?_
        exact ih7 (i2_7 + 1) s_7 H locs ls (by omega) hF_7 q7_0 q7_1 q7_2 q7_3 q7_4 q7_5 q7_6 (by omega) (by
            rw [show (s0 268 17 - i2_7).toNat = (s0 268 17 - (i2_7 + 1)).toNat + 1 from by omega] at v7_1
            exact v7_1.trans (if_neg (by first | exact (fun c => absurd (V20.trans c.1) (by omega)) | exact (fun c => absurd R39 (by have y := c.2; have z := zEV_b (F := zf0 t) hd9; omega))))) (by first | exact v7_2 | (rw [fs_7 294 (by omega)]; exact v7_2)) (by have hm := hm_7 (); omega) hW (lv_sub hl [1, 0] rfl)
      refine x_aload_n hx hb hl 0 rfl dX11_isNight_26 rfl ?_
      refine x_aload_n hx hb hl 0 rfl dX11_isNight_27 rfl ?_
      refine x_get (j := 27) (v := .ref (h0 + 286)) hx hb hown hT hE hW cls_X11 (Or.inl (by decide)) (so_268 h0 g _) (by decide) rfl wq1212 dX11_isNight_28 ?_
      refine x_iload_n hx hb hl 1 rfl dX11_isNight_31 rfl ?_
      refine x_iald hx hb hE hW (Or.inl (by decide)) (sa_286 h0 g _) (by omega) (by decide) dX11_isNight_32 ?_
      refine x_rd hW (fun x13 ex13 rx13 => ?_)
      have A31 : x13 = q9.2.2.2.1 i2_7 := by rw [ex13, (hlr.g (fun k hk => hF_7 k (by omega))).2.2.2.1]
      refine x_aload_n hx hb hl 0 rfl dX11_isNight_33 rfl ?_
      refine x_get (j := 28) (v := .ref (h0 + 287)) hx hb hown hT hE hW cls_X11 (Or.inl (by decide)) (so_268 h0 g _) (by decide) rfl wq1213 dX11_isNight_34 ?_
      refine x_iload_n hx hb hl 1 rfl dX11_isNight_37 rfl ?_
      refine x_iald hx hb hE hW (Or.inl (by decide)) (sa_287 h0 g _) (by omega) (by decide) dX11_isNight_38 ?_
      refine x_rd hW (fun x14 ex14 rx14 => ?_)
      have A38 : x14 = q9.2.2.2.2.1 i2_7 := by rw [ex14, (hlr.g (fun k hk => hF_7 k (by omega))).2.2.2.2]
      have G38 : s_7 283 = q9.1 := (hlr.g (fun k hk => hF_7 k (by omega))).1
      obtain ⟨d9, hd9⟩ := (hok.2 i2_7 (by omega) (by omega)).2
      refine x_goi (x_runV (As := [.int (xJ x13), .int (xJ x14)]) hx hb hml hown hT hE hW hl.1 (Or.inl (by decide)) (so_268 h0 g _) rfl cf_X11_comesTo wq1581 wq138 wq1579 (c_X11_comesToV l D g T h0 s_7 hW.2.1 x13 rx13 x14 rx14 true d9 (by rw [G38, A31, A38]; exact hd9) q7_4 q7_5 q7_6) ⟨rfl, rfl, ⟨by decide, by decide⟩, ⟨by decide, by decide⟩⟩ rfl rfl (Nat.le_of_ble_eq_true rfl) dX11_isNight_39) hW (fun x15 s16 H locs rx15 hp17 hW => ?_)
      obtain ⟨fs16, hp17⟩ := hp17
      have hF18 := hF_7.call fs16 (fun k h => by omega)
      have q19 : s16 268 8 = s0 268 8 := (congrFun (fs16 _ (by omega)) _).trans q7_0
      have q20 : s16 268 58 = s0 268 58 := (congrFun (fs16 _ (by omega)) _).trans q7_1
      have q21 : s16 268 48 = s0 268 48 := (congrFun (fs16 _ (by omega)) _).trans q7_2
      have q22 : s16 268 17 = s0 268 17 := (congrFun (fs16 _ (by omega)) _).trans q7_3
      have ghp17 := hp17.2
      have R39 : x15 = zEV q9.1 (zf0 t) (q9.2.2.2.1 i2_7) (q9.2.2.2.2.1 i2_7) := by
        have e := ghp17
        rw [G38, A31, A38] at e
        exact e.trans (zEV_F hd9 v7_2)
      refine x_iconst hx hb dX11_isNight_42 ?_
      refine x_icmp_ne (tgt := 48) hx hb rx15 (by decide) dX11_isNight_43 (by decide) (fun c23 => ?_) (fun c23 => ?_)
      · skip
        refine x_iinc (lv' := [(2, .int (xJ (i2_7 + 1))), (0, .ref (h0 + 268))]) hx hb hl 1 rfl dX11_isNight_48 (by decide) rfl (fun ls hl => ?_)
        refine lv_goto (tgt := 7) hx hb dX11_isNight_51 (by decide) ?_
        exact ih7 (i2_7 + 1) s16 H locs ls (by omega) hF18 q19 q20 q21 q22 hp17.1.1 hp17.1.2.1 hp17.1.2.2.1 (by omega) (by
            rw [show (s0 268 17 - i2_7).toNat = (s0 268 17 - (i2_7 + 1)).toNat + 1 from by omega] at v7_1
            exact v7_1.trans (if_neg (by first | exact (fun c => absurd (V20.trans c.1) (by omega)) | exact (fun c => absurd R39 (by have y := c.2; have z := zEV_b (F := zf0 t) hd9; omega))))) (by first | exact v7_2 | (rw [fs16 294 (by first | decide | omega)]; exact v7_2)) (by have hm := hm_7 (); omega) hW (lv_sub hl [1, 0] rfl)
      refine x_iconst hx hb dX11_isNight_46 ?_
      rw [eQ]
      exact x_zret hx hb hr hlk hW (by omega) ⟨hF18, ⟨hp17.1.1, hp17.1.2.1, hp17.1.2.2.1, trivial⟩, by
          rw [← eV0]
          rw [show (s0 268 17 - i2_7).toNat = (s0 268 17 - (i2_7 + 1)).toNat + 1 from by omega] at v7_1
          exact (v7_1.trans (if_pos ⟨by omega, by omega⟩)).symm⟩ dX11_isNight_47
  exact L7 ((17 - 0 : Int).toNat + 1) 0 s2 H locs ls (by decide) hF4 q5 q6 q7 q8 hp3.1.1 hp3.1.2.1 hp3.1.2.2.1 (by omega) (by rw [eV0, hm6, Int.sub_zero]; rfl) (H2) (Nat.lt_succ_self _) hW (lv_sub hl [1, 0] rfl)
set_option maxHeartbeats 4000000 in
set_option maxRecDepth 100000 in
theorem c_X11_baresF (l : Launch) (D : va_G) (g : xG) (T : Nat × Nat × Nat) (h0 : Nat) (s0 : xS) (hσ : xRR s0) (p0 : IMn s0) (p1 : IMk s0) (p2 : IMo s0) : Met l yX11_bares (xws yX11_bares cX11_bares 2 none) { frames := 0, cells := 0, slots := 0, locals := 0 } (xP [.ref (h0 + 268)] D g T h0 s0) (xQv D g h0 (fun τ => xFr (fun k => k = 295) s0 τ ∧ (((IMn τ) ∧ (IMk τ) ∧ (IMo τ) ∧ True) ∧ (∀ t : Int, 0 ≤ t → t < 100 → τ 295 t = 0)))) 0 0 (xA h0) := by
  refine x_met hσ (by decide) (Nat.le_of_ble_eq_true rfl) ?_
  intro p e s m args below meth c hx hb hr hml hown hT hlk hnm hE hW ls hl
  have hl : lv_has ls 2 [(0, .ref (h0 + 268))] := hl
  obtain ⟨Q, eQ⟩ : ∃ Q, Q = MQ below (xQv D g h0 (fun τ => xFr (fun k => k = 295) s0 τ ∧ (((IMn τ) ∧ (IMk τ) ∧ (IMo τ) ∧ True) ∧ (∀ t : Int, 0 ≤ t → t < 100 → τ 295 t = 0)))) args s 0 0 (xA h0) := ⟨_, rfl⟩
  rw [← eQ]
  generalize hHe : ([] : List Loc) = locs at hW ⊢
  obtain ⟨H, eH⟩ : ∃ H, H = s.heap := ⟨_, rfl⟩
  rw [← eH] at hW ⊢
  have hF : xFr (fun k => k = 295) s0 s0 := xFr.rf
  have k268_8 : s0 268 8 = s0 268 8 := rfl
  have k268_58 : s0 268 58 = s0 268 58 := rfl
  have k268_17 : s0 268 17 = s0 268 17 := rfl
  have k268_48 : s0 268 48 = s0 268 48 := rfl
  refine x_iconst hx hb dX11_bares_0 ?_
  refine lv_istore_n (lv' := [(1, .int (xJ 0)), (0, .ref (h0 + 268))]) hx hb dX11_bares_1 rfl hl (by decide) rfl (fun ls hl => ?_)
  have L2 : ∀ (fu : Nat) (i1_2 : Int) (s_2 : xS) (H : Heap) (locs : List Loc) (ls : Array Slot), (xR i1_2) → (xFr (fun k => k = 295) s0 s_2) → (IMn s_2) → (IMk s_2) → (IMo s_2) → (s_2 268 8 = s0 268 8) → (s_2 268 58 = s0 268 58) → (s_2 268 17 = s0 268 17) → (s_2 268 48 = s0 268 48) → (0 ≤ i1_2 ∧ i1_2 ≤ 100) → (∀ t : Int, 0 ≤ t → t < i1_2 → s_2 295 t = 0) → (100 - i1_2).toNat < fu → xW D g h0 s H locs s_2 → lv_has ls 2 [(0, .ref (h0 + 268)), (1, .int (xJ i1_2))] → W p l e { frames := 0, cells := 0, slots := 0, locals := 0 } s m args below meth c H locs 0 0 Q (F0 m 2 ls []) := by
    intro fu
    induction fu with
    | zero => intro i1_2 s_2 H locs ls ri1_2 hF_2 q2_0 q2_1 q2_2 q2_3 q2_4 q2_5 q2_6 v2_0 v2_1 hm; exact absurd hm (Nat.not_lt_zero _)
    | succ fu ih2 =>
      intro i1_2 s_2 H locs ls ri1_2 hF_2 q2_0 q2_1 q2_2 q2_3 q2_4 q2_5 q2_6 v2_0 v2_1 hm hW hl
      have hm_2 := fun (_ : Unit) => hm
      clear hm
      refine x_iload_n hx hb hl 1 rfl dX11_bares_2 rfl ?_
      refine x_bipush hx hb dX11_bares_3 (by decide) ?_
      refine x_icmp_ge (tgt := 21) hx hb ri1_2 (by decide) dX11_bares_5 (by decide) (fun c1 => ?_) (fun c1 => ?_)
      · skip
        rw [eQ]
        exact x_vret hx hb hr hlk hW ⟨hF_2, ⟨q2_0, q2_1, q2_2, trivial⟩, fun t t1 t2 => v2_1 t t1 (by omega)⟩ dX11_bares_21
      refine x_aload_n hx hb hl 0 rfl dX11_bares_8 rfl ?_
      refine x_get (j := 40) (v := .ref (h0 + 295)) hx hb hown hT hE hW cls_X11 (Or.inl (by decide)) (so_268 h0 g _) (by decide) rfl wq1225 dX11_bares_9 ?_
      refine x_iload_n hx hb hl 1 rfl dX11_bares_12 rfl ?_
      refine x_iconst hx hb dX11_bares_13 ?_
      refine x_iast hx hb hE hW (by decide) (fun σ => sa_295 h0 g σ) (by omega) (by decide) (by decide) dX11_bares_14 (fun H locs s2 es2 hW => ?_)
      have q3 : IMn s2 := by rw [es2]; exact IMn_o (by unfold suIMn; first | decide | omega) q2_0
      have q4 : IMk s2 := by rw [es2]; exact IMk_o (by unfold suIMk; first | decide | omega) q2_1
      have q5 : IMo s2 := by rw [es2]; exact IMo_o (by unfold suIMo; first | decide | omega) q2_2
      have q6 : s2 268 8 = s0 268 8 := (show s2 268 8 = s_2 268 8 from by rw [es2, xU_k _ _ _ (by first | decide | omega)]).trans q2_3
      have q7 : s2 268 58 = s0 268 58 := (show s2 268 58 = s_2 268 58 from by rw [es2, xU_k _ _ _ (by first | decide | omega)]).trans q2_4
      have q8 : s2 268 17 = s0 268 17 := (show s2 268 17 = s_2 268 17 from by rw [es2, xU_k _ _ _ (by first | decide | omega)]).trans q2_5
      have q9 : s2 268 48 = s0 268 48 := (show s2 268 48 = s_2 268 48 from by rw [es2, xU_k _ _ _ (by first | decide | omega)]).trans q2_6
      have hF10 := hF_2.put es2 (by omega)
      have E14 := es2
      refine x_iinc (lv' := [(1, .int (xJ (i1_2 + 1))), (0, .ref (h0 + 268))]) hx hb hl 1 rfl dX11_bares_15 (by decide) rfl (fun ls hl => ?_)
      refine lv_goto (tgt := 2) hx hb dX11_bares_18 (by decide) ?_
      exact ih2 (i1_2 + 1) s2 H locs ls (by omega) hF10 q3 q4 q5 q6 q7 q8 q9 (by omega) (fun k k1 k2 => by
            rw [E14, xU_xud]
            by_cases h : k = i1_2
            · subst h; rw [xud_s]
            · rw [xud_o _ _ h]; exact v2_1 k k1 (by omega)) (by have hm := hm_2 (); omega) hW (lv_sub hl [1, 0] rfl)
  exact L2 ((100 - 0 : Int).toNat + 1) 0 s0 H locs ls (by decide) hF p0 p1 p2 k268_8 k268_58 k268_17 k268_48 (by omega) (fun k k1 k2 => absurd k2 (by omega)) (Nat.lt_succ_self _) hW (lv_sub hl [1, 0] rfl)

set_option maxHeartbeats 4000000 in
set_option maxRecDepth 100000 in
theorem c_X11_fallsF (l : Launch) (D : va_G) (g : xG) (T : Nat × Nat × Nat) (h0 : Nat) (s0 : xS) (hσ : xRR s0) (x : Int) (rx : xR x) (w : Int) (rw : xR w) (n : Int) (rn : xR n) (K9 : Int → Int) (hK : ∀ t : Int, 0 ≤ t → t < 100 → s0 272 t = K9 t ∧ 0 ≤ K9 t ∧ K9 t ≤ 3) (hx0 : 0 ≤ x ∧ x < 100) (hn : 0 ≤ n ∧ n ≤ 9) (hL : ∀ t : Int, 0 ≤ t → t < 100 → 0 ≤ s0 295 t ∧ s0 295 t ≤ 1000) (p0 : IMn s0) (p1 : IMk s0) (p2 : IMo s0) : Met l yX11_falls (xws yX11_falls cX11_falls 6 none) { frames := 3, cells := 0, slots := 0, locals := 66 } (xP [.ref (h0 + 268), .int (xJ x), .int (xJ w), .int (xJ n)] D g T h0 s0) (xQv D g h0 (fun τ => xFr (fun k => k = 295) s0 τ ∧ (((IMn τ) ∧ (IMk τ) ∧ (IMo τ) ∧ True) ∧ (∀ t : Int, 0 ≤ t → t < 100 → τ 295 t = s0 295 t + zpc K9 n.toNat x w t)))) 0 0 (xA h0) := by
  refine x_met hσ (by decide) (Nat.le_of_ble_eq_true rfl) ?_
  intro p e s m args below meth c hx hb hr hml hown hT hlk hnm hE hW ls hl
  have hl : lv_has ls 6 [(0, .ref (h0 + 268)), (1, .int (xJ x)), (2, .int (xJ w)), (3, .int (xJ n))] := hl
  obtain ⟨Q, eQ⟩ : ∃ Q, Q = MQ below (xQv D g h0 (fun τ => xFr (fun k => k = 295) s0 τ ∧ (((IMn τ) ∧ (IMk τ) ∧ (IMo τ) ∧ True) ∧ (∀ t : Int, 0 ≤ t → t < 100 → τ 295 t = s0 295 t + zpc K9 n.toNat x w t)))) args s 0 0 (xA h0) := ⟨_, rfl⟩
  rw [← eQ]
  generalize hHe : ([] : List Loc) = locs at hW ⊢
  obtain ⟨H, eH⟩ : ∃ H, H = s.heap := ⟨_, rfl⟩
  rw [← eH] at hW ⊢
  have hF : xFr (fun k => k = 295) s0 s0 := xFr.rf
  have k268_8 : s0 268 8 = s0 268 8 := rfl
  have k268_58 : s0 268 58 = s0 268 58 := rfl
  have k268_17 : s0 268 17 = s0 268 17 := rfl
  have k268_48 : s0 268 48 = s0 268 48 := rfl
  refine x_iload_n hx hb hl 1 rfl dX11_falls_0 rfl ?_
  refine x_iload_n hx hb hl 2 rfl dX11_falls_1 rfl ?_
  refine x_goi (x_runS (As := [.int (xJ x), .int (xJ w)]) hx hb hml hown hT hE hW hl.1 cf_X11_beside wq1554 wq1553 (c_X11_besideJ l D g T h0 s0 hW.2.1 x rx w rw (by omega)) ⟨rfl, rfl, ⟨by decide, by decide⟩, ⟨by decide, by decide⟩⟩ rfl rfl (Nat.le_of_ble_eq_true rfl) dX11_falls_2) hW (fun x1 s2 H locs rx1 hp3 hW => ?_)
  obtain ⟨es2, hp3⟩ := hp3
  subst es2
  have ghp3 := hp3
  have H2 := ghp3
  have R2 := zbe_r x w
  rw [← H2] at R2
  refine lv_istore (lv' := [(4, .int (xJ x1)), (0, .ref (h0 + 268)), (1, .int (xJ x)), (2, .int (xJ w)), (3, .int (xJ n))]) hx hb dX11_falls_5 hl (by decide) rfl (fun ls hl => ?_)
  refine x_iconst hx hb dX11_falls_7 ?_
  refine lv_istore (lv' := [(5, .int (xJ 0)), (4, .int (xJ x1)), (0, .ref (h0 + 268)), (1, .int (xJ x)), (2, .int (xJ w)), (3, .int (xJ n))]) hx hb dX11_falls_8 hl (by decide) rfl (fun ls hl => ?_)
  have L10 : ∀ (fu : Nat) (i4_10 : Int) (i5_10 : Int) (s_10 : xS) (H : Heap) (locs : List Loc) (ls : Array Slot), (xR i4_10) → (xR i5_10) → (xFr (fun k => k = 295) s0 s_10) → (IMn s_10) → (IMk s_10) → (IMo s_10) → (s_10 268 8 = s0 268 8) → (s_10 268 58 = s0 268 58) → (s_10 268 17 = s0 268 17) → (s_10 268 48 = s0 268 48) → (0 ≤ i5_10 ∧ i5_10 ≤ n) → (i4_10 = -1 ∨ (0 ≤ i4_10 ∧ i4_10 < 100)) → (∃ p : Int, i4_10 = zbe p w ∧ ∀ t : Int, 0 ≤ t → t < 100 → s_10 295 t + zpc K9 (n - i5_10).toNat p w t = s0 295 t + zpc K9 n.toNat x w t) → (∀ t : Int, 0 ≤ t → t < 100 → s0 295 t ≤ s_10 295 t) → (n - i5_10).toNat < fu → xW D g h0 s H locs s_10 → lv_has ls 6 [(0, .ref (h0 + 268)), (2, .int (xJ w)), (3, .int (xJ n)), (4, .int (xJ i4_10)), (5, .int (xJ i5_10))] → W p l e { frames := 3, cells := 0, slots := 0, locals := 66 } s m args below meth c H locs 0 0 Q (F0 m 10 ls []) := by
    intro fu
    induction fu with
    | zero => intro i4_10 i5_10 s_10 H locs ls ri4_10 ri5_10 hF_10 q10_0 q10_1 q10_2 q10_3 q10_4 q10_5 q10_6 v10_0 v10_1 v10_2 v10_3 hm; exact absurd hm (Nat.not_lt_zero _)
    | succ fu ih10 =>
      intro i4_10 i5_10 s_10 H locs ls ri4_10 ri5_10 hF_10 q10_0 q10_1 q10_2 q10_3 q10_4 q10_5 q10_6 v10_0 v10_1 v10_2 v10_3 hm hW hl
      have hm_10 := fun (_ : Unit) => hm
      clear hm
      obtain ⟨p, p9, w9⟩ := v10_2
      refine x_iload hx hb hl 4 rfl dX11_falls_10 ?_
      refine x_iload_n hx hb hl 2 rfl dX11_falls_12 rfl ?_
      refine x_icmp_ge (tgt := 63) hx hb ri5_10 rn dX11_falls_13 (by decide) (fun c4 => ?_) (fun c4 => ?_)
      · skip
        rw [eQ]
        exact x_vret hx hb hr hlk hW ⟨hF_10, ⟨q10_0, q10_1, q10_2, trivial⟩, zpc_end w9 (by first | exact Or.inl (by omega) | exact Or.inr (by rw [← p9]; omega))⟩ dX11_falls_63
      refine x_iload hx hb hl 3 rfl dX11_falls_16 ?_
      refine x_iconst hx hb dX11_falls_18 ?_
      refine x_icmp_eq (tgt := 63) hx hb ri4_10 (by decide) dX11_falls_19 (by decide) (fun c5 => ?_) (fun c5 => ?_)
      · skip
        rw [eQ]
        exact x_vret hx hb hr hlk hW ⟨hF_10, ⟨q10_0, q10_1, q10_2, trivial⟩, zpc_end w9 (by first | exact Or.inl (by omega) | exact Or.inr (by rw [← p9]; omega))⟩ dX11_falls_63
      refine x_aload_n hx hb hl 0 rfl dX11_falls_22 rfl ?_
      refine x_get (j := 3) (v := .ref (h0 + 272)) hx hb hown hT hE hW cls_X11 (Or.inl (by decide)) (so_268 h0 g _) (by decide) rfl wq1188 dX11_falls_23 ?_
      refine x_iload hx hb hl 3 rfl dX11_falls_26 ?_
      refine x_iald hx hb hE hW (Or.inl (by decide)) (sa_272 h0 g _) (by omega) (by decide) dX11_falls_28 ?_
      refine x_rd hW (fun x6 ex6 rx6 => ?_)
      have V28 : x6 = K9 i4_10 := by
        rw [ex6, hF_10 272 (by first | decide | omega)]
        exact (hK _ (by omega) (by omega)).1
      refine x_iconst hx hb dX11_falls_29 ?_
      refine x_icmp_eq (tgt := 63) hx hb rx6 (by decide) dX11_falls_30 (by decide) (fun c7 => ?_) (fun c7 => ?_)
      · skip
        rw [eQ]
        exact x_vret hx hb hr hlk hW ⟨hF_10, ⟨q10_0, q10_1, q10_2, trivial⟩, zpc_end w9 (by first | exact Or.inl (by omega) | exact Or.inr (by rw [← p9]; omega))⟩ dX11_falls_63
      refine x_aload_n hx hb hl 0 rfl dX11_falls_33 rfl ?_
      refine x_get (j := 40) (v := .ref (h0 + 295)) hx hb hown hT hE hW cls_X11 (Or.inl (by decide)) (so_268 h0 g _) (by decide) rfl wq1225 dX11_falls_34 ?_
      refine x_iload hx hb hl 3 rfl dX11_falls_37 ?_
      refine x_aload_n hx hb hl 0 rfl dX11_falls_39 rfl ?_
      refine x_get (j := 40) (v := .ref (h0 + 295)) hx hb hown hT hE hW cls_X11 (Or.inl (by decide)) (so_268 h0 g _) (by decide) rfl wq1225 dX11_falls_40 ?_
      refine x_iload hx hb hl 3 rfl dX11_falls_43 ?_
      refine x_iald hx hb hE hW (Or.inl (by decide)) (sa_295 h0 g _) (by omega) (by decide) dX11_falls_45 ?_
      refine x_rd hW (fun x8 ex8 rx8 => ?_)
      have V45 : x8 = s_10 295 i4_10 := ex8
      have B45 : 0 ≤ x8 ∧ x8 ≤ 1009 := by
        rw [V45]
        have y1 := v10_3 i4_10 (by omega) (by omega)
        have y2 := w9 i4_10 (by omega) (by omega)
        have y3 := hL i4_10 (by omega) (by omega)
        have y4 := zpc_le K9 n.toNat x w i4_10
        have y5 := zpc_n K9 (n - i5_10).toNat p w i4_10
        omega
      refine x_iconst hx hb dX11_falls_46 ?_
      refine x_iadd hx hb dX11_falls_47 ?_
      refine x_iast hx hb hE hW (by decide) (fun σ => sa_295 h0 g σ) (by omega) (by decide) (by omega) dX11_falls_48 (fun H locs s9 es9 hW => ?_)
      have q10 : IMn s9 := by rw [es9]; exact IMn_o (by unfold suIMn; first | decide | omega) q10_0
      have q11 : IMk s9 := by rw [es9]; exact IMk_o (by unfold suIMk; first | decide | omega) q10_1
      have q12 : IMo s9 := by rw [es9]; exact IMo_o (by unfold suIMo; first | decide | omega) q10_2
      have q13 : s9 268 8 = s0 268 8 := (show s9 268 8 = s_10 268 8 from by rw [es9, xU_k _ _ _ (by first | decide | omega)]).trans q10_3
      have q14 : s9 268 58 = s0 268 58 := (show s9 268 58 = s_10 268 58 from by rw [es9, xU_k _ _ _ (by first | decide | omega)]).trans q10_4
      have q15 : s9 268 17 = s0 268 17 := (show s9 268 17 = s_10 268 17 from by rw [es9, xU_k _ _ _ (by first | decide | omega)]).trans q10_5
      have q16 : s9 268 48 = s0 268 48 := (show s9 268 48 = s_10 268 48 from by rw [es9, xU_k _ _ _ (by first | decide | omega)]).trans q10_6
      have hF17 := hF_10.put es9 (by omega)
      have L48 : s9 295 = xud (s_10 295) i4_10 (s_10 295 i4_10 + 1) := by rw [es9, xU_xud, V45]
      refine x_iload hx hb hl 3 rfl dX11_falls_49 ?_
      refine x_iload_n hx hb hl 1 rfl dX11_falls_51 rfl ?_
      refine x_goi (x_runS (As := [.int (xJ i4_10), .int (xJ w)]) hx hb hml hown hT hE hW hl.1 cf_X11_beside wq1554 wq1553 (c_X11_besideJ l D g T h0 s9 hW.2.1 i4_10 ri4_10 w rw (by omega)) ⟨rfl, rfl, ⟨by decide, by decide⟩, ⟨by decide, by decide⟩⟩ rfl rfl (Nat.le_of_ble_eq_true rfl) dX11_falls_52) hW (fun x18 s19 H locs rx18 hp20 hW => ?_)
      obtain ⟨es19, hp20⟩ := hp20
      subst es19
      have ghp20 := hp20
      have H52 := ghp20
      have R52 := zbe_r i4_10 w
      rw [← H52] at R52
      refine lv_istore (lv' := [(4, .int (xJ x18)), (0, .ref (h0 + 268)), (2, .int (xJ w)), (3, .int (xJ n)), (5, .int (xJ i5_10))]) hx hb dX11_falls_55 hl (by decide) rfl (fun ls hl => ?_)
      refine x_iinc (lv' := [(5, .int (xJ (i5_10 + 1))), (4, .int (xJ x18)), (0, .ref (h0 + 268)), (2, .int (xJ w)), (3, .int (xJ n))]) hx hb hl 4 rfl dX11_falls_57 (by decide) rfl (fun ls hl => ?_)
      refine lv_goto (tgt := 10) hx hb dX11_falls_60 (by decide) ?_
      exact ih10 x18 (i5_10 + 1) s9 H locs ls rx18 (by omega) hF17 q10 q11 q12 q13 q14 q15 q16 (by omega) (by omega) (⟨i4_10, H52, zpc_put w9 (by omega) p9 (by omega) (by omega) L48⟩) (fun t t1 t2 => by
            rw [L48]
            have y := v10_3 t t1 t2
            by_cases h : t = i4_10
            · subst h; rw [xud_s]; omega
            · rw [xud_o _ _ h]; exact y) (by have hm := hm_10 (); omega) hW (lv_sub hl [2, 3, 4, 1, 0] rfl)
  exact L10 ((n - 0 : Int).toNat + 1) x1 0 s0 H locs ls rx1 (by decide) hF p0 p1 p2 k268_8 k268_58 k268_17 k268_48 (by omega) (by omega) (⟨x, H2, fun t t1 t2 => by rw [Int.sub_zero]⟩) (fun t t1 t2 => Int.le_refl _) (Nat.lt_succ_self _) hW (lv_sub hl [2, 4, 5, 1, 0] rfl)
set_option maxHeartbeats 4000000 in
set_option maxRecDepth 100000 in
theorem c_X11_fallsOfF (l : Launch) (D : va_G) (g : xG) (T : Nat × Nat × Nat) (h0 : Nat) (s0 : xS) (hσ : xRR s0) (j : Int) (rj : xR j) (t : Int) (rt : xR t) (q9 : zLaw) (K9 : Int → Int) (hok : zLok q9) (hlr : zLR s0 q9) (hK : ∀ t : Int, 0 ≤ t → t < 100 → s0 272 t = K9 t ∧ 0 ≤ K9 t ∧ K9 t ≤ 3) (hj : 0 ≤ j ∧ j < 2) (ht : 0 ≤ t ∧ t ≤ 9999) (hL : ∀ t : Int, 0 ≤ t → t < 100 → 0 ≤ s0 295 t ∧ s0 295 t ≤ 500) (p0 : IMn s0) (p1 : IMk s0) (p2 : IMo s0) : Met l yX11_fallsOf (xws yX11_fallsOf cX11_fallsOf 4 none) { frames := 4, cells := 0, slots := 0, locals := 91 } (xP [.ref (h0 + 268), .int (xJ j), .int (xJ t)] D g T h0 s0) (xQv D g h0 (fun τ => xFr (fun k => k = 293 ∨ k = 294 ∨ k = 295) s0 τ ∧ (((IMn τ) ∧ (IMk τ) ∧ (IMo τ) ∧ True) ∧ (∀ x : Int, 0 ≤ x → x < 100 → τ 295 x = s0 295 x + zpc K9 (zwo q9 108 9 (zfJ t j)).toNat (s0 269 j) (zwo q9 97 7 (zfJ t j)) x)))) 0 0 (xA h0) := by
  refine x_met hσ (by decide) (Nat.le_of_ble_eq_true rfl) ?_
  intro p e s m args below meth c hx hb hr hml hown hT hlk hnm hE hW ls hl
  have hl : lv_has ls 4 [(0, .ref (h0 + 268)), (1, .int (xJ j)), (2, .int (xJ t))] := hl
  obtain ⟨Q, eQ⟩ : ∃ Q, Q = MQ below (xQv D g h0 (fun τ => xFr (fun k => k = 293 ∨ k = 294 ∨ k = 295) s0 τ ∧ (((IMn τ) ∧ (IMk τ) ∧ (IMo τ) ∧ True) ∧ (∀ x : Int, 0 ≤ x → x < 100 → τ 295 x = s0 295 x + zpc K9 (zwo q9 108 9 (zfJ t j)).toNat (s0 269 j) (zwo q9 97 7 (zfJ t j)) x)))) args s 0 0 (xA h0) := ⟨_, rfl⟩
  rw [← eQ]
  generalize hHe : ([] : List Loc) = locs at hW ⊢
  obtain ⟨H, eH⟩ : ∃ H, H = s.heap := ⟨_, rfl⟩
  rw [← eH] at hW ⊢
  have hF : xFr (fun k => k = 293 ∨ k = 294 ∨ k = 295) s0 s0 := xFr.rf
  have k268_8 : s0 268 8 = s0 268 8 := rfl
  have k268_58 : s0 268 58 = s0 268 58 := rfl
  have k268_17 : s0 268 17 = s0 268 17 := rfl
  have k268_48 : s0 268 48 = s0 268 48 := rfl
  have hn1 := (IMn.n1 p0).1 j hj.1 hj.2
  refine x_aload_n hx hb hl 0 rfl dX11_fallsOf_0 rfl ?_
  refine x_iload_n hx hb hl 2 rfl dX11_fallsOf_1 rfl ?_
  refine x_gov (x_runV (As := [.int (xJ t)]) hx hb hml hown hT hE hW hl.1 (Or.inl (by decide)) (so_268 h0 g _) rfl cf_X11_feels wq1573 wq136 wq1571 (c_X11_feelsF l D g T h0 s0 hW.2.1 t rt (by omega) p0 p1 p2) ⟨rfl, rfl, ⟨by decide, by decide⟩, ⟨by decide, by decide⟩⟩ rfl rfl (Nat.le_of_ble_eq_true rfl) dX11_fallsOf_2) hW (fun s2 H locs hp3 hW => ?_)
  obtain ⟨fs2, hp3⟩ := hp3
  have hF4 := hF.call fs2 (fun k h => by omega)
  have q5 : s2 268 8 = s0 268 8 := (congrFun (fs2 _ (by omega)) _).trans k268_8
  have q6 : s2 268 58 = s0 268 58 := (congrFun (fs2 _ (by omega)) _).trans k268_58
  have q7 : s2 268 17 = s0 268 17 := (congrFun (fs2 _ (by omega)) _).trans k268_17
  have q8 : s2 268 48 = s0 268 48 := (congrFun (fs2 _ (by omega)) _).trans k268_48
  have ghp3 := hp3.2
  have H2 := ghp3
  have W2 : s2 295 = s0 295 := fs2 295 (by first | decide | omega)
  refine x_aload_n hx hb hl 0 rfl dX11_fallsOf_5 rfl ?_
  refine x_get (j := 39) (v := .ref (h0 + 294)) hx hb hown hT hE hW cls_X11 (Or.inl (by decide)) (so_268 h0 g _) (by decide) rfl wq1224 dX11_fallsOf_6 ?_
  refine x_iconst hx hb dX11_fallsOf_9 ?_
  refine x_iload_n hx hb hl 1 rfl dX11_fallsOf_10 rfl ?_
  refine x_iast hx hb hE hW (by decide) (fun σ => sa_294 h0 g σ) ⟨by decide, by decide⟩ (by decide) rj dX11_fallsOf_11 (fun H locs s9 es9 hW => ?_)
  have q10 : s9 268 8 = s0 268 8 := (show s9 268 8 = s2 268 8 from by rw [es9, xU_k _ _ _ (by first | decide | omega)]).trans q5
  have q11 : s9 268 58 = s0 268 58 := (show s9 268 58 = s2 268 58 from by rw [es9, xU_k _ _ _ (by first | decide | omega)]).trans q6
  have q12 : s9 268 17 = s0 268 17 := (show s9 268 17 = s2 268 17 from by rw [es9, xU_k _ _ _ (by first | decide | omega)]).trans q7
  have q13 : s9 268 48 = s0 268 48 := (show s9 268 48 = s2 268 48 from by rw [es9, xU_k _ _ _ (by first | decide | omega)]).trans q8
  have q14 : IMn s9 := by rw [es9]; exact IMn_o (by unfold suIMn; first | decide | omega) hp3.1.1
  have q15 : IMk s9 := by rw [es9]; exact IMk_o (by unfold suIMk; first | decide | omega) hp3.1.2.1
  have q16 : IMo s9 := by rw [es9]; exact IMo_o (by unfold suIMo; first | decide | omega) hp3.1.2.2.1
  have hF17 := hF4.put es9 (by omega)
  have W11 : s9 295 = s0 295 := by rw [es9, xU_k _ _ _ (by first | decide | omega)]; exact W2
  have L10 : ∀ k : Int, 0 ≤ k → k < 7 → s9 294 k = zfJ t j k := fun k k1 k2 => by rw [es9, xU_xud]; exact zud_c (fun _ => H2 k k1 k2)
  refine x_aload_n hx hb hl 0 rfl dX11_fallsOf_12 rfl ?_
  refine x_bipush hx hb dX11_fallsOf_13 (by decide) ?_
  refine x_bipush hx hb dX11_fallsOf_15 (by decide) ?_
  refine x_goi (x_runV (As := [.int (xJ 97), .int (xJ 7)]) hx hb hml hown hT hE hW hl.1 (Or.inl (by decide)) (so_268 h0 g _) rfl cf_X11_byLaw wq1577 wq137 wq1575 (c_X11_byLawF l D g T h0 s9 hW.2.1 97 (by decide) 7 (by decide) q9 (zfJ t j) (hok) (by first | exact hlr | exact hlr.f (fun k hk => hF17 k (by omega)) (by omega)) (L10) (by decide) (by decide) q14 q15 q16) ⟨rfl, rfl, ⟨by decide, by decide⟩, ⟨by decide, by decide⟩⟩ rfl rfl (Nat.le_of_ble_eq_true rfl) dX11_fallsOf_17) hW (fun x18 s19 H locs rx18 hp20 hW => ?_)
  obtain ⟨fs19, hp20⟩ := hp20
  have hF21 := hF17.call fs19 (fun k h => by omega)
  have q22 : s19 268 8 = s0 268 8 := (congrFun (fs19 _ (by omega)) _).trans q10
  have q23 : s19 268 58 = s0 268 58 := (congrFun (fs19 _ (by omega)) _).trans q11
  have q24 : s19 268 17 = s0 268 17 := (congrFun (fs19 _ (by omega)) _).trans q12
  have q25 : s19 268 48 = s0 268 48 := (congrFun (fs19 _ (by omega)) _).trans q13
  have ghp20 := hp20.2
  have R17 := ghp20
  have W17 : s19 295 = s0 295 := (fs19 295 (by first | decide | omega)).trans W11
  have F17 := fs19 294 (by first | decide | omega)
  have B17 := zwo_r (q := q9) (kd := 97) (hi := 7) (F := zfJ t j) (by decide)
  refine lv_istore_n (lv' := [(3, .int (xJ x18)), (0, .ref (h0 + 268)), (1, .int (xJ j)), (2, .int (xJ t))]) hx hb dX11_fallsOf_20 rfl hl (by decide) rfl (fun ls hl => ?_)
  refine x_aload_n hx hb hl 1 rfl dX11_fallsOf_21 rfl ?_
  refine x_aload_n hx hb hl 1 rfl dX11_fallsOf_22 rfl ?_
  refine x_get (j := 0) (v := .ref (h0 + 269)) hx hb hown hT hE hW cls_X11 (Or.inl (by decide)) (so_268 h0 g _) (by decide) rfl wq1185 dX11_fallsOf_23 ?_
  refine x_iconst hx hb dX11_fallsOf_26 ?_
  refine x_iload_n hx hb hl 2 rfl dX11_fallsOf_27 rfl ?_
  refine x_iadd hx hb dX11_fallsOf_28 ?_
  refine x_iald hx hb hE hW (Or.inl (by decide)) (sa_269 h0 g _) (by omega) (by decide) dX11_fallsOf_29 ?_
  refine x_rd hW (fun x26 ex26 rx26 => ?_)
  have bx26 : 0 ≤ x26 ∧ x26 ≤ 99 := by rw [ex26]; exact (IMn.n1 hp20.1.1).1 _ (by omega) (by omega)
  have V29 : x26 = s0 269 j := by rw [ex26, hF21 269 (by first | decide | omega)]; exact congrArg (s0 269) (by omega)
  refine x_iload_n hx hb hl 0 rfl dX11_fallsOf_30 rfl ?_
  refine x_aload_n hx hb hl 1 rfl dX11_fallsOf_31 rfl ?_
  refine x_bipush hx hb dX11_fallsOf_32 (by decide) ?_
  refine x_bipush hx hb dX11_fallsOf_34 (by decide) ?_
  refine x_goi (x_runV (As := [.int (xJ 108), .int (xJ 9)]) hx hb hml hown hT hE hW hl.1 (Or.inl (by decide)) (so_268 h0 g _) rfl cf_X11_byLaw wq1577 wq137 wq1575 (c_X11_byLawF l D g T h0 s19 hW.2.1 108 (by decide) 9 (by decide) q9 (zfJ t j) (hok) (by first | exact hlr | exact hlr.f (fun k hk => hF21 k (by omega)) (by omega)) (by rw [F17]; exact L10) (by decide) (by decide) hp20.1.1 hp20.1.2.1 hp20.1.2.2.1) ⟨rfl, rfl, ⟨by decide, by decide⟩, ⟨by decide, by decide⟩⟩ rfl rfl (Nat.le_of_ble_eq_true rfl) dX11_fallsOf_36) hW (fun x27 s28 H locs rx27 hp29 hW => ?_)
  obtain ⟨fs28, hp29⟩ := hp29
  have hF30 := hF21.call fs28 (fun k h => by omega)
  have q31 : s28 268 8 = s0 268 8 := (congrFun (fs28 _ (by omega)) _).trans q22
  have q32 : s28 268 58 = s0 268 58 := (congrFun (fs28 _ (by omega)) _).trans q23
  have q33 : s28 268 17 = s0 268 17 := (congrFun (fs28 _ (by omega)) _).trans q24
  have q34 : s28 268 48 = s0 268 48 := (congrFun (fs28 _ (by omega)) _).trans q25
  have ghp29 := hp29.2
  have R36 := ghp29
  have F36 : s28 295 = s0 295 := (fs28 295 (by first | decide | omega)).trans W17
  have B36 := zwo_r (q := q9) (kd := 108) (hi := 9) (F := zfJ t j) (by decide)
  refine x_gov (x_runV (As := [.int (xJ x26), .int (xJ x18), .int (xJ x27)]) hx hb hml hown hT hE hW hl.1 (Or.inl (by decide)) (so_268 h0 g _) rfl cf_X11_falls wq1600 wq142 wq1598 (c_X11_fallsF l D g T h0 s28 hW.2.1 x26 rx26 x18 rx18 x27 rx27 K9 (by first | exact hK | exact fun t t1 t2 => by rw [hF30 272 (by first | decide | omega)]; exact hK t t1 t2) (by omega) (by omega) (by rw [F36]; exact fun x x1 x2 => by have := hL x x1 x2; omega) hp29.1.1 hp29.1.2.1 hp29.1.2.2.1) ⟨rfl, rfl, ⟨by decide, by decide⟩, ⟨by decide, by decide⟩⟩ rfl rfl (Nat.le_of_ble_eq_true rfl) dX11_fallsOf_39) hW (fun s36 H locs hp37 hW => ?_)
  obtain ⟨fs36, hp37⟩ := hp37
  have hF38 := hF30.call fs36 (fun k h => by omega)
  have q39 : s36 268 8 = s0 268 8 := (congrFun (fs36 _ (by omega)) _).trans q31
  have q40 : s36 268 58 = s0 268 58 := (congrFun (fs36 _ (by omega)) _).trans q32
  have q41 : s36 268 17 = s0 268 17 := (congrFun (fs36 _ (by omega)) _).trans q33
  have q42 : s36 268 48 = s0 268 48 := (congrFun (fs36 _ (by omega)) _).trans q34
  have ghp37 := hp37.2
  have H39 := ghp37
  rw [eQ]
  exact x_vret hx hb hr hlk hW ⟨hF38, ⟨hp37.1.1, hp37.1.2.1, hp37.1.2.2.1, trivial⟩, fun x x1 x2 => by
    have y := H39 x x1 x2
    rw [F36, R36, V29] at y
    rw [y, ← R17]⟩ dX11_fallsOf_42
set_option maxHeartbeats 4000000 in
set_option maxRecDepth 100000 in
theorem c_X11_fallsBehindF (l : Launch) (D : va_G) (g : xG) (T : Nat × Nat × Nat) (h0 : Nat) (s0 : xS) (hσ : xRR s0) (x : Int) (rx : xR x) (j : Int) (rj : xR j) (K9 : Int → Int) (hK : ∀ t : Int, 0 ≤ t → t < 100 → s0 272 t = K9 t ∧ 0 ≤ K9 t ∧ K9 t ≤ 3) (hx0 : 0 ≤ x ∧ x < 100) (hj : 0 ≤ j ∧ j < 2) (hG : K9 (s0 269 j) ≠ 1) (hL : ∀ t : Int, 0 ≤ t → t < 100 → 0 ≤ s0 295 t ∧ s0 295 t ≤ 900) (p0 : IMn s0) (p1 : IMk s0) (p2 : IMo s0) : Met l yX11_fallsBehind (xws yX11_fallsBehind cX11_fallsBehind 7 none) { frames := 4, cells := 0, slots := 0, locals := 91 } (xP [.ref (h0 + 268), .int (xJ x), .int (xJ j)] D g T h0 s0) (xQv D g h0 (fun τ => xFr (fun k => k = 295) s0 τ ∧ (((IMn τ) ∧ (IMk τ) ∧ (IMo τ) ∧ True) ∧ (∀ t : Int, 0 ≤ t → t < 100 → τ 295 t = s0 295 t + zsu (fun w => if zvi K9 4 x w (s0 269 j) = true then zpc K9 2 (s0 269 j) w t else 0) 8)))) 0 0 (xA h0) := by
  refine x_met hσ (by decide) (Nat.le_of_ble_eq_true rfl) ?_
  intro p e s m args below meth c hx hb hr hml hown hT hlk hnm hE hW ls hl
  have hl : lv_has ls 7 [(0, .ref (h0 + 268)), (1, .int (xJ x)), (2, .int (xJ j))] := hl
  obtain ⟨Q, eQ⟩ : ∃ Q, Q = MQ below (xQv D g h0 (fun τ => xFr (fun k => k = 295) s0 τ ∧ (((IMn τ) ∧ (IMk τ) ∧ (IMo τ) ∧ True) ∧ (∀ t : Int, 0 ≤ t → t < 100 → τ 295 t = s0 295 t + zsu (fun w => if zvi K9 4 x w (s0 269 j) = true then zpc K9 2 (s0 269 j) w t else 0) 8)))) args s 0 0 (xA h0) := ⟨_, rfl⟩
  rw [← eQ]
  generalize hHe : ([] : List Loc) = locs at hW ⊢
  obtain ⟨H, eH⟩ : ∃ H, H = s.heap := ⟨_, rfl⟩
  rw [← eH] at hW ⊢
  have hF : xFr (fun k => k = 295) s0 s0 := xFr.rf
  have k268_8 : s0 268 8 = s0 268 8 := rfl
  have k268_58 : s0 268 58 = s0 268 58 := rfl
  have k268_17 : s0 268 17 = s0 268 17 := rfl
  have k268_48 : s0 268 48 = s0 268 48 := rfl
  have hn1 := (IMn.n1 p0).1 j hj.1 hj.2
  refine x_aload_n hx hb hl 0 rfl dX11_fallsBehind_0 rfl ?_
  refine x_get (j := 0) (v := .ref (h0 + 269)) hx hb hown hT hE hW cls_X11 (Or.inl (by decide)) (so_268 h0 g _) (by decide) rfl wq1185 dX11_fallsBehind_1 ?_
  refine x_iconst hx hb dX11_fallsBehind_4 ?_
  refine x_iload_n hx hb hl 2 rfl dX11_fallsBehind_5 rfl ?_
  refine x_iadd hx hb dX11_fallsBehind_6 ?_
  refine x_iald hx hb hE hW (Or.inl (by decide)) (sa_269 h0 g _) (by omega) (by decide) dX11_fallsBehind_7 ?_
  refine x_rd hW (fun x1 ex1 rx1 => ?_)
  have bx1 : 0 ≤ x1 ∧ x1 ≤ 99 := by rw [ex1]; exact (IMn.n1 p0).1 _ (by omega) (by omega)
  have V7 : x1 = s0 269 j := ex1.trans (congrArg (s0 269) (by omega))
  refine lv_istore_n (lv' := [(3, .int (xJ x1)), (0, .ref (h0 + 268)), (1, .int (xJ x)), (2, .int (xJ j))]) hx hb dX11_fallsBehind_8 rfl hl (by decide) rfl (fun ls hl => ?_)
  refine x_iconst hx hb dX11_fallsBehind_9 ?_
  refine lv_istore (lv' := [(4, .int (xJ 0)), (3, .int (xJ x1)), (0, .ref (h0 + 268)), (1, .int (xJ x)), (2, .int (xJ j))]) hx hb dX11_fallsBehind_10 hl (by decide) rfl (fun ls hl => ?_)
  have L12 : ∀ (fu : Nat) (i4_12 : Int) (s_12 : xS) (H : Heap) (locs : List Loc) (ls : Array Slot), (xR i4_12) → (xFr (fun k => k = 295) s0 s_12) → (IMn s_12) → (IMk s_12) → (IMo s_12) → (s_12 268 8 = s0 268 8) → (s_12 268 58 = s0 268 58) → (s_12 268 17 = s0 268 17) → (s_12 268 48 = s0 268 48) → (0 ≤ i4_12 ∧ i4_12 ≤ 8) → (∀ t : Int, 0 ≤ t → t < 100 → s_12 295 t = s0 295 t + zsu (fun w => if zvi K9 4 x w (s0 269 j) = true then zpc K9 2 (s0 269 j) w t else 0) (i4_12).toNat) → (8 - i4_12).toNat < fu → xW D g h0 s H locs s_12 → lv_has ls 7 [(0, .ref (h0 + 268)), (1, .int (xJ x)), (3, .int (xJ x1)), (4, .int (xJ i4_12))] → W p l e { frames := 4, cells := 0, slots := 0, locals := 91 } s m args below meth c H locs 0 0 Q (F0 m 12 ls []) := by
    intro fu
    induction fu with
    | zero => intro i4_12 s_12 H locs ls ri4_12 hF_12 q12_0 q12_1 q12_2 q12_3 q12_4 q12_5 q12_6 v12_0 v12_1 hm; exact absurd hm (Nat.not_lt_zero _)
    | succ fu ih12 =>
      intro i4_12 s_12 H locs ls ri4_12 hF_12 q12_0 q12_1 q12_2 q12_3 q12_4 q12_5 q12_6 v12_0 v12_1 hm hW hl
      have hm_12 := fun (_ : Unit) => hm
      clear hm
      have B12 : ∀ t : Int, 0 ≤ t → t < 100 → 0 ≤ s_12 295 t ∧ s_12 295 t ≤ 1000 := fun t t1 t2 => by
          rw [v12_1 t t1 t2]
          have y := hL t t1 t2
          have z := zsu_b (f := fun w => if zvi K9 4 x w (s0 269 j) = true then zpc K9 2 (s0 269 j) w t else 0) (b := 2) (n := (i4_12).toNat) (fun i _ _ => by
            have a1 := zpc_n K9 2 (s0 269 j) i t
            have a2 := zpc_le K9 2 (s0 269 j) i t
            show 0 ≤ (if zvi K9 4 x i (s0 269 j) = true then zpc K9 2 (s0 269 j) i t else 0) ∧ (if zvi K9 4 x i (s0 269 j) = true then zpc K9 2 (s0 269 j) i t else 0) ≤ 2
            split <;> omega)
          omega
      refine x_iload hx hb hl 3 rfl dX11_fallsBehind_12 ?_
      refine x_bipush hx hb dX11_fallsBehind_14 (by decide) ?_
      refine x_icmp_ge (tgt := 102) hx hb ri4_12 (by decide) dX11_fallsBehind_16 (by decide) (fun c2 => ?_) (fun c2 => ?_)
      · skip
        rw [eQ]
        exact x_vret hx hb hr hlk hW ⟨hF_12, ⟨q12_0, q12_1, q12_2, trivial⟩, fun t t1 t2 => by rw [v12_1 t t1 t2, show (i4_12).toNat = 8 from by omega]⟩ dX11_fallsBehind_102
      refine x_iload_n hx hb hl 1 rfl dX11_fallsBehind_19 rfl ?_
      refine x_iload hx hb hl 3 rfl dX11_fallsBehind_20 ?_
      refine x_goi (x_runS (As := [.int (xJ x), .int (xJ i4_12)]) hx hb hml hown hT hE hW hl.1 cf_X11_beside wq1554 wq1553 (c_X11_besideJ l D g T h0 s_12 hW.2.1 x rx i4_12 ri4_12 (by omega)) ⟨rfl, rfl, ⟨by decide, by decide⟩, ⟨by decide, by decide⟩⟩ rfl rfl (Nat.le_of_ble_eq_true rfl) dX11_fallsBehind_22) hW (fun x3 s4 H locs rx3 hp5 hW => ?_)
      obtain ⟨es4, hp5⟩ := hp5
      subst es4
      have ghp5 := hp5
      have H22 := ghp5
      have R22 := zbe_r x i4_12
      rw [← H22] at R22
      refine lv_istore (lv' := [(5, .int (xJ x3)), (0, .ref (h0 + 268)), (1, .int (xJ x)), (3, .int (xJ x1)), (4, .int (xJ i4_12))]) hx hb dX11_fallsBehind_25 hl (by decide) rfl (fun ls hl => ?_)
      refine x_iconst hx hb dX11_fallsBehind_27 ?_
      refine lv_istore (lv' := [(6, .int (xJ 1)), (5, .int (xJ x3)), (0, .ref (h0 + 268)), (1, .int (xJ x)), (3, .int (xJ x1)), (4, .int (xJ i4_12))]) hx hb dX11_fallsBehind_28 hl (by decide) rfl (fun ls hl => ?_)
      have L30 : ∀ (fu : Nat) (i5_30 : Int) (i6_30 : Int) (H : Heap) (locs : List Loc) (ls : Array Slot), (xR i5_30) → (xR i6_30) → (1 ≤ i6_30 ∧ i6_30 ≤ 4) → (i5_30 = -1 ∨ (0 ≤ i5_30 ∧ i5_30 < 100)) → (zvi K9 4 x i4_12 x1 = zvh K9 (4 - i6_30).toNat i5_30 i4_12 x1) → (4 - i6_30).toNat < fu → xW D g h0 s H locs s_12 → lv_has ls 7 [(0, .ref (h0 + 268)), (1, .int (xJ x)), (3, .int (xJ x1)), (4, .int (xJ i4_12)), (5, .int (xJ i5_30)), (6, .int (xJ i6_30))] → W p l e { frames := 4, cells := 0, slots := 0, locals := 91 } s m args below meth c H locs 0 0 Q (F0 m 30 ls []) := by
        intro fu
        induction fu with
        | zero => intro i5_30 i6_30 H locs ls ri5_30 ri6_30 v30_0 v30_1 v30_2 hm; exact absurd hm (Nat.not_lt_zero _)
        | succ fu ih30 =>
          intro i5_30 i6_30 H locs ls ri5_30 ri6_30 v30_0 v30_1 v30_2 hm hW hl
          have hm_30 := fun (_ : Unit) => hm
          clear hm
          refine x_iload hx hb hl 5 rfl dX11_fallsBehind_30 ?_
          refine x_iconst hx hb dX11_fallsBehind_32 ?_
          have J77 : ∀ (ls : Array Slot), (i5_30 = -1 ∨ (0 ≤ i5_30 ∧ i5_30 < 100)) → ((i5_30 = x1 ∧ zvi K9 4 x i4_12 x1 = true) ∨ (i5_30 ≠ x1 ∧ zvi K9 4 x i4_12 x1 = false)) → lv_has ls 7 [(0, .ref (h0 + 268)), (1, .int (xJ x)), (3, .int (xJ x1)), (4, .int (xJ i4_12)), (5, .int (xJ i5_30))] → W p l e { frames := 4, cells := 0, slots := 0, locals := 91 } s m args below meth c H locs 0 0 Q (F0 m 77 ls []) := by
            intro ls v77_0 v77_1  hl
            refine x_iload hx hb hl 4 rfl dX11_fallsBehind_77 ?_
            refine x_iload_n hx hb hl 2 rfl dX11_fallsBehind_79 rfl ?_
            refine x_icmp_ne (tgt := 96) hx hb ri5_30 rx1 dX11_fallsBehind_80 (by decide) (fun c6 => ?_) (fun c6 => ?_)
            · skip
              refine x_iinc (lv' := [(4, .int (xJ (i4_12 + 1))), (0, .ref (h0 + 268)), (1, .int (xJ x)), (3, .int (xJ x1)), (5, .int (xJ i5_30))]) hx hb hl 3 rfl dX11_fallsBehind_96 (by decide) rfl (fun ls hl => ?_)
              refine lv_goto (tgt := 12) hx hb dX11_fallsBehind_99 (by decide) ?_
              exact ih12 (i4_12 + 1) s_12 H locs ls (by omega) hF_12 q12_0 q12_1 q12_2 q12_3 q12_4 q12_5 q12_6 (by omega) (fun t t1 t2 => by
                  rw [show (i4_12 + 1).toNat = i4_12.toNat + 1 from by omega]
                  show _ = _ + (zsu (fun w => if zvi K9 4 x w (s0 269 j) = true then zpc K9 2 (s0 269 j) w t else 0) i4_12.toNat + (if zvi K9 4 x ((i4_12.toNat : Nat) : Int) (s0 269 j) = true then zpc K9 2 (s0 269 j) ((i4_12.toNat : Nat) : Int) t else 0))
                  rw [show ((i4_12.toNat : Nat) : Int) = i4_12 from by omega]
                  have y := v12_1 t t1 t2
                  rw [V7] at v77_1
                  first
                    | (have z := (v77_1.resolve_right (fun q => by omega)).2
                       rw [if_pos z, H93 t t1 t2, V7]
                       show _ + zpc K9 2 (s0 269 j) i4_12 t = _
                       omega)
                    | (have z := (v77_1.resolve_left (fun q => by omega)).2
                       rw [z, if_neg (by decide)]
                       omega)
                    | (have z := zvi_ah (K := K9) (t := s0 269 j) (w := i4_12) (by omega) 4 x (by rw [show x = s0 269 j from by omega]; exact zah_0 _ _)
                       rw [z, if_neg (by decide)]
                       omega)) (by have hm := hm_12 (); omega) hW (lv_sub hl [1, 2, 3, 0] rfl)
            refine x_iload_n hx hb hl 1 rfl dX11_fallsBehind_83 rfl ?_
            refine x_iload_n hx hb hl 2 rfl dX11_fallsBehind_84 rfl ?_
            refine x_icmp_eq (tgt := 96) hx hb rx rx1 dX11_fallsBehind_85 (by decide) (fun c7 => ?_) (fun c7 => ?_)
            · skip
              refine x_iinc (lv' := [(4, .int (xJ (i4_12 + 1))), (0, .ref (h0 + 268)), (1, .int (xJ x)), (3, .int (xJ x1)), (5, .int (xJ i5_30))]) hx hb hl 3 rfl dX11_fallsBehind_96 (by decide) rfl (fun ls hl => ?_)
              refine lv_goto (tgt := 12) hx hb dX11_fallsBehind_99 (by decide) ?_
              exact ih12 (i4_12 + 1) s_12 H locs ls (by omega) hF_12 q12_0 q12_1 q12_2 q12_3 q12_4 q12_5 q12_6 (by omega) (fun t t1 t2 => by
                  rw [show (i4_12 + 1).toNat = i4_12.toNat + 1 from by omega]
                  show _ = _ + (zsu (fun w => if zvi K9 4 x w (s0 269 j) = true then zpc K9 2 (s0 269 j) w t else 0) i4_12.toNat + (if zvi K9 4 x ((i4_12.toNat : Nat) : Int) (s0 269 j) = true then zpc K9 2 (s0 269 j) ((i4_12.toNat : Nat) : Int) t else 0))
                  rw [show ((i4_12.toNat : Nat) : Int) = i4_12 from by omega]
                  have y := v12_1 t t1 t2
                  rw [V7] at v77_1
                  first
                    | (have z := (v77_1.resolve_right (fun q => by omega)).2
                       rw [if_pos z, H93 t t1 t2, V7]
                       show _ + zpc K9 2 (s0 269 j) i4_12 t = _
                       omega)
                    | (have z := (v77_1.resolve_left (fun q => by omega)).2
                       rw [z, if_neg (by decide)]
                       omega)
                    | (have z := zvi_ah (K := K9) (t := s0 269 j) (w := i4_12) (by omega) 4 x (by rw [show x = s0 269 j from by omega]; exact zah_0 _ _)
                       rw [z, if_neg (by decide)]
                       omega)) (by have hm := hm_12 (); omega) hW (lv_sub hl [1, 2, 3, 0] rfl)
            refine x_aload_n hx hb hl 0 rfl dX11_fallsBehind_88 rfl ?_
            refine x_iload_n hx hb hl 2 rfl dX11_fallsBehind_89 rfl ?_
            refine x_iload hx hb hl 3 rfl dX11_fallsBehind_90 ?_
            refine x_iconst hx hb dX11_fallsBehind_92 ?_
            refine x_gov (x_runV (As := [.int (xJ x1), .int (xJ i4_12), .int (xJ 2)]) hx hb hml hown hT hE hW hl.1 (Or.inl (by decide)) (so_268 h0 g _) rfl cf_X11_falls wq1600 wq142 wq1598 (c_X11_fallsF l D g T h0 s_12 hW.2.1 x1 rx1 i4_12 ri4_12 2 (by decide) K9 (by first | exact hK | exact fun t t1 t2 => by rw [hF_12 272 (by first | decide | omega)]; exact hK t t1 t2) (by omega) (by omega) (B12) q12_0 q12_1 q12_2) ⟨rfl, rfl, ⟨by decide, by decide⟩, ⟨by decide, by decide⟩⟩ rfl rfl (Nat.le_of_ble_eq_true rfl) dX11_fallsBehind_93) hW (fun s9 H locs hp10 hW => ?_)
            obtain ⟨fs9, hp10⟩ := hp10
            have hF11 := hF_12.call fs9 (fun k h => by omega)
            have q12 : s9 268 8 = s0 268 8 := (congrFun (fs9 _ (by omega)) _).trans q12_3
            have q13 : s9 268 58 = s0 268 58 := (congrFun (fs9 _ (by omega)) _).trans q12_4
            have q14 : s9 268 17 = s0 268 17 := (congrFun (fs9 _ (by omega)) _).trans q12_5
            have q15 : s9 268 48 = s0 268 48 := (congrFun (fs9 _ (by omega)) _).trans q12_6
            have ghp10 := hp10.2
            have H93 := ghp10
            refine x_iinc (lv' := [(4, .int (xJ (i4_12 + 1))), (0, .ref (h0 + 268)), (1, .int (xJ x)), (3, .int (xJ x1)), (5, .int (xJ i5_30))]) hx hb hl 3 rfl dX11_fallsBehind_96 (by decide) rfl (fun ls hl => ?_)
            refine lv_goto (tgt := 12) hx hb dX11_fallsBehind_99 (by decide) ?_
            exact ih12 (i4_12 + 1) s9 H locs ls (by omega) hF11 hp10.1.1 hp10.1.2.1 hp10.1.2.2.1 q12 q13 q14 q15 (by omega) (fun t t1 t2 => by
                rw [show (i4_12 + 1).toNat = i4_12.toNat + 1 from by omega]
                show _ = _ + (zsu (fun w => if zvi K9 4 x w (s0 269 j) = true then zpc K9 2 (s0 269 j) w t else 0) i4_12.toNat + (if zvi K9 4 x ((i4_12.toNat : Nat) : Int) (s0 269 j) = true then zpc K9 2 (s0 269 j) ((i4_12.toNat : Nat) : Int) t else 0))
                rw [show ((i4_12.toNat : Nat) : Int) = i4_12 from by omega]
                have y := v12_1 t t1 t2
                rw [V7] at v77_1
                first
                  | (have z := (v77_1.resolve_right (fun q => by omega)).2
                     rw [if_pos z, H93 t t1 t2, V7]
                     show _ + zpc K9 2 (s0 269 j) i4_12 t = _
                     omega)
                  | (have z := (v77_1.resolve_left (fun q => by omega)).2
                     rw [z, if_neg (by decide)]
                     omega)
                  | (have z := zvi_ah (K := K9) (t := s0 269 j) (w := i4_12) (by omega) 4 x (by rw [show x = s0 269 j from by omega]; exact zah_0 _ _)
                     rw [z, if_neg (by decide)]
                     omega)) (by have hm := hm_12 (); omega) hW (lv_sub hl [1, 2, 3, 0] rfl)
          refine x_icmp_ge (tgt := 77) hx hb ri6_30 (by decide) dX11_fallsBehind_33 (by decide) (fun c16 => ?_) (fun c16 => ?_)
          · skip
            exact J77 ls (by omega) (by
                rw [v30_2]
                exact zvh_end (by omega) (by rw [V7]; exact hG) (by omega))  (lv_sub hl [0, 1, 2, 3, 4] rfl)
          refine x_iload hx hb hl 4 rfl dX11_fallsBehind_36 ?_
          refine x_iconst hx hb dX11_fallsBehind_38 ?_
          refine x_icmp_eq (tgt := 77) hx hb ri5_30 (by decide) dX11_fallsBehind_39 (by decide) (fun c17 => ?_) (fun c17 => ?_)
          · skip
            exact J77 ls (by omega) (by
                rw [v30_2]
                exact zvh_end (by omega) (by rw [V7]; exact hG) (by omega))  (lv_sub hl [0, 1, 2, 3, 4] rfl)
          refine x_iload hx hb hl 4 rfl dX11_fallsBehind_42 ?_
          refine x_iload_n hx hb hl 2 rfl dX11_fallsBehind_44 rfl ?_
          refine x_icmp_eq (tgt := 77) hx hb ri5_30 rx1 dX11_fallsBehind_45 (by decide) (fun c18 => ?_) (fun c18 => ?_)
          · skip
            exact J77 ls (by omega) (by
                rw [v30_2]
                exact zvh_end (by omega) (by rw [V7]; exact hG) (by omega))  (lv_sub hl [0, 1, 2, 3, 4] rfl)
          refine x_aload_n hx hb hl 0 rfl dX11_fallsBehind_48 rfl ?_
          refine x_get (j := 3) (v := .ref (h0 + 272)) hx hb hown hT hE hW cls_X11 (Or.inl (by decide)) (so_268 h0 g _) (by decide) rfl wq1188 dX11_fallsBehind_49 ?_
          refine x_iload hx hb hl 4 rfl dX11_fallsBehind_52 ?_
          refine x_iald hx hb hE hW (Or.inl (by decide)) (sa_272 h0 g _) (by omega) (by decide) dX11_fallsBehind_54 ?_
          refine x_rd hW (fun x19 ex19 rx19 => ?_)
          have V54 : x19 = K9 i5_30 := by
            rw [ex19, hF_12 272 (by first | decide | omega)]
            exact (hK _ (by omega) (by omega)).1
          refine x_iconst hx hb dX11_fallsBehind_55 ?_
          refine x_icmp_eq (tgt := 77) hx hb rx19 (by decide) dX11_fallsBehind_56 (by decide) (fun c20 => ?_) (fun c20 => ?_)
          · skip
            exact J77 ls (by omega) (by
                rw [v30_2]
                exact zvh_end (by omega) (by rw [V7]; exact hG) (by omega))  (lv_sub hl [0, 1, 2, 3, 4] rfl)
          refine x_iload hx hb hl 4 rfl dX11_fallsBehind_59 ?_
          refine x_iload hx hb hl 3 rfl dX11_fallsBehind_61 ?_
          refine x_goi (x_runS (As := [.int (xJ i5_30), .int (xJ i4_12)]) hx hb hml hown hT hE hW hl.1 cf_X11_beside wq1554 wq1553 (c_X11_besideJ l D g T h0 s_12 hW.2.1 i5_30 ri5_30 i4_12 ri4_12 (by omega)) ⟨rfl, rfl, ⟨by decide, by decide⟩, ⟨by decide, by decide⟩⟩ rfl rfl (Nat.le_of_ble_eq_true rfl) dX11_fallsBehind_63) hW (fun x21 s22 H locs rx21 hp23 hW => ?_)
          obtain ⟨es22, hp23⟩ := hp23
          subst es22
          have ghp23 := hp23
          have H63 := ghp23
          have R63 := zbe_r i5_30 i4_12
          rw [← H63] at R63
          refine lv_istore (lv' := [(5, .int (xJ x21)), (0, .ref (h0 + 268)), (1, .int (xJ x)), (3, .int (xJ x1)), (4, .int (xJ i4_12)), (6, .int (xJ i6_30))]) hx hb dX11_fallsBehind_66 hl (by decide) rfl (fun ls hl => ?_)
          refine x_iload hx hb hl 5 rfl dX11_fallsBehind_68 ?_
          refine x_iconst hx hb dX11_fallsBehind_70 ?_
          refine x_iadd hx hb dX11_fallsBehind_71 ?_
          refine x_nm (fun x24 ex24 => ?_)
          refine lv_istore (lv' := [(6, .int (xJ x24)), (5, .int (xJ x21)), (0, .ref (h0 + 268)), (1, .int (xJ x)), (3, .int (xJ x1)), (4, .int (xJ i4_12))]) hx hb dX11_fallsBehind_72 hl (by decide) rfl (fun ls hl => ?_)
          refine lv_goto (tgt := 30) hx hb dX11_fallsBehind_74 (by decide) ?_
          exact ih30 x21 x24 H locs ls rx21 (by omega) (by omega) (by omega) (by rw [v30_2, H63, show x24 = i6_30 + 1 from by omega]; exact zvh_s (by omega) (by omega) (by omega)) (by have hm := hm_30 (); omega) hW (lv_sub hl [2, 3, 4, 5, 1, 0] rfl)
      exact L30 ((4 - 1 : Int).toNat + 1) x3 1 H locs ls rx3 (by decide) (by omega) (by omega) (by rw [H22]; rfl) (Nat.lt_succ_self _) hW (lv_sub hl [2, 3, 4, 5, 1, 0] rfl)
  exact L12 ((8 - 0 : Int).toNat + 1) 0 s0 H locs ls (by decide) hF p0 p1 p2 k268_8 k268_58 k268_17 k268_48 (by omega) (fun t t1 t2 => by show _ = _ + (0 : Int); omega) (Nat.lt_succ_self _) hW (lv_sub hl [2, 3, 1, 0] rfl)

set_option maxHeartbeats 4000000 in
set_option maxRecDepth 100000 in
theorem c_X11_fallsByLampsF (l : Launch) (D : va_G) (g : xG) (T : Nat × Nat × Nat) (h0 : Nat) (s0 : xS) (hσ : xRR s0) (K9 : Int → Int) (l9 : Int → Int) (hK : ∀ t : Int, 0 ≤ t → t < 100 → s0 272 t = K9 t ∧ 0 ≤ K9 t ∧ K9 t ≤ 3) (hlm : ∀ i : Int, 0 ≤ i → i < 4 → s0 273 i = l9 i) (hG : ∀ j : Int, 0 ≤ j → j < 2 → xsh (s0 269 34) j % 2 = 1 → K9 (s0 269 j) ≠ 1) (hN : zrj (s0 269) 0 ≠ zrj (s0 269) 1 ∨ zrj (s0 269) 0 = -1) (hL : ∀ t : Int, 0 ≤ t → t < 100 → 0 ≤ s0 295 t ∧ s0 295 t ≤ 100) (p0 : IMn s0) (p1 : IMk s0) (p2 : IMo s0) : Met l yX11_fallsByLamps (xws yX11_fallsByLamps cX11_fallsByLamps 3 none) { frames := 5, cells := 0, slots := 0, locals := 117 } (xP [.ref (h0 + 268)] D g T h0 s0) (xQv D g h0 (fun τ => xFr (fun k => k = 295) s0 τ ∧ (((IMn τ) ∧ (IMk τ) ∧ (IMo τ) ∧ True) ∧ (∀ t : Int, 0 ≤ t → t < 100 → τ 295 t = s0 295 t + zsu (fun i => zLL K9 (zrj (s0 269)) (l9 i) t) 4)))) 0 0 (xA h0) := by
  refine x_met hσ (by decide) (Nat.le_of_ble_eq_true rfl) ?_
  intro p e s m args below meth c hx hb hr hml hown hT hlk hnm hE hW ls hl
  have hl : lv_has ls 3 [(0, .ref (h0 + 268))] := hl
  obtain ⟨Q, eQ⟩ : ∃ Q, Q = MQ below (xQv D g h0 (fun τ => xFr (fun k => k = 295) s0 τ ∧ (((IMn τ) ∧ (IMk τ) ∧ (IMo τ) ∧ True) ∧ (∀ t : Int, 0 ≤ t → t < 100 → τ 295 t = s0 295 t + zsu (fun i => zLL K9 (zrj (s0 269)) (l9 i) t) 4)))) args s 0 0 (xA h0) := ⟨_, rfl⟩
  rw [← eQ]
  generalize hHe : ([] : List Loc) = locs at hW ⊢
  obtain ⟨H, eH⟩ : ∃ H, H = s.heap := ⟨_, rfl⟩
  rw [← eH] at hW ⊢
  have hF : xFr (fun k => k = 295) s0 s0 := xFr.rf
  have k268_8 : s0 268 8 = s0 268 8 := rfl
  have k268_58 : s0 268 58 = s0 268 58 := rfl
  have k268_17 : s0 268 17 = s0 268 17 := rfl
  have k268_48 : s0 268 48 = s0 268 48 := rfl
  have n9 : s0 269 0 ≠ -1 ∧ s0 269 1 ≠ -1 := by
    have a := (IMn.n1 p0).1 0 (by omega) (by omega)
    have b := (IMn.n1 p0).1 1 (by omega) (by omega)
    omega
  refine x_iconst hx hb dX11_fallsByLamps_0 ?_
  refine lv_istore_n (lv' := [(1, .int (xJ 0)), (0, .ref (h0 + 268))]) hx hb dX11_fallsByLamps_1 rfl hl (by decide) rfl (fun ls hl => ?_)
  have L2 : ∀ (fu : Nat) (i1_2 : Int) (s_2 : xS) (H : Heap) (locs : List Loc) (ls : Array Slot), (xR i1_2) → (xFr (fun k => k = 295) s0 s_2) → (IMn s_2) → (IMk s_2) → (IMo s_2) → (s_2 268 8 = s0 268 8) → (s_2 268 58 = s0 268 58) → (s_2 268 17 = s0 268 17) → (s_2 268 48 = s0 268 48) → (0 ≤ i1_2 ∧ i1_2 ≤ 4) → (∀ t : Int, 0 ≤ t → t < 100 → s_2 295 t = s0 295 t + zsu (fun i => zLL K9 (zrj (s0 269)) (l9 i) t) (i1_2).toNat) → (4 - i1_2).toNat < fu → xW D g h0 s H locs s_2 → lv_has ls 3 [(0, .ref (h0 + 268)), (1, .int (xJ i1_2))] → W p l e { frames := 5, cells := 0, slots := 0, locals := 117 } s m args below meth c H locs 0 0 Q (F0 m 2 ls []) := by
    intro fu
    induction fu with
    | zero => intro i1_2 s_2 H locs ls ri1_2 hF_2 q2_0 q2_1 q2_2 q2_3 q2_4 q2_5 q2_6 v2_0 v2_1 hm; exact absurd hm (Nat.not_lt_zero _)
    | succ fu ih2 =>
      intro i1_2 s_2 H locs ls ri1_2 hF_2 q2_0 q2_1 q2_2 q2_3 q2_4 q2_5 q2_6 v2_0 v2_1 hm hW hl
      have hm_2 := fun (_ : Unit) => hm
      clear hm
      refine x_iload_n hx hb hl 1 rfl dX11_fallsByLamps_2 rfl ?_
      refine x_iconst hx hb dX11_fallsByLamps_3 ?_
      refine x_icmp_ge (tgt := 55) hx hb ri1_2 (by decide) dX11_fallsByLamps_4 (by decide) (fun c1 => ?_) (fun c1 => ?_)
      · skip
        rw [eQ]
        exact x_vret hx hb hr hlk hW ⟨hF_2, ⟨q2_0, q2_1, q2_2, trivial⟩, fun t t1 t2 => by rw [v2_1 t t1 t2, show (i1_2).toNat = 4 from by omega]⟩ dX11_fallsByLamps_55
      refine x_iconst hx hb dX11_fallsByLamps_7 ?_
      refine lv_istore_n (lv' := [(2, .int (xJ 0)), (0, .ref (h0 + 268)), (1, .int (xJ i1_2))]) hx hb dX11_fallsByLamps_8 rfl hl (by decide) rfl (fun ls hl => ?_)
      have L9 : ∀ (fu : Nat) (i2_9 : Int) (s_9 : xS) (H : Heap) (locs : List Loc) (ls : Array Slot), (xR i2_9) → (xFr (fun k => k = 295) s0 s_9) → (IMn s_9) → (IMk s_9) → (IMo s_9) → (s_9 268 8 = s0 268 8) → (s_9 268 58 = s0 268 58) → (s_9 268 17 = s0 268 17) → (s_9 268 48 = s0 268 48) → (0 ≤ i2_9 ∧ i2_9 ≤ 2) → (∀ t : Int, 0 ≤ t → t < 100 → s_9 295 t = s_2 295 t + zsu (fun j => zbh K9 (s0 269) (l9 i1_2) t j) (i2_9).toNat) → (2 - i2_9).toNat < fu → xW D g h0 s H locs s_9 → lv_has ls 3 [(0, .ref (h0 + 268)), (1, .int (xJ i1_2)), (2, .int (xJ i2_9))] → W p l e { frames := 5, cells := 0, slots := 0, locals := 117 } s m args below meth c H locs 0 0 Q (F0 m 9 ls []) := by
        intro fu
        induction fu with
        | zero => intro i2_9 s_9 H locs ls ri2_9 hF_9 q9_0 q9_1 q9_2 q9_3 q9_4 q9_5 q9_6 v9_0 v9_1 hm; exact absurd hm (Nat.not_lt_zero _)
        | succ fu ih9 =>
          intro i2_9 s_9 H locs ls ri2_9 hF_9 q9_0 q9_1 q9_2 q9_3 q9_4 q9_5 q9_6 v9_0 v9_1 hm hW hl
          have hm_9 := fun (_ : Unit) => hm
          clear hm
          have B9 : ∀ t : Int, 0 ≤ t → t < 100 → 0 ≤ s_9 295 t ∧ s_9 295 t ≤ 900 := fun t t1 t2 => by
              rw [v9_1 t t1 t2, v2_1 t t1 t2]
              have y := hL t t1 t2
              have z := zsu_b (f := fun i => zLL K9 (zrj (s0 269)) (l9 i) t) (b := 64) (n := (i1_2).toNat) (fun i _ _ => zLL_r K9 (zrj (s0 269)) (l9 i) t)
              have z2 := zsu_b (f := fun j => zbh K9 (s0 269) (l9 i1_2) t j) (b := 16) (n := (i2_9).toNat) (fun i _ _ => zbh_r K9 (s0 269) (l9 i1_2) t i)
              omega
          refine x_iload_n hx hb hl 2 rfl dX11_fallsByLamps_9 rfl ?_
          refine x_iconst hx hb dX11_fallsByLamps_10 ?_
          refine x_icmp_ge (tgt := 49) hx hb ri2_9 (by decide) dX11_fallsByLamps_11 (by decide) (fun c2 => ?_) (fun c2 => ?_)
          · skip
            refine x_iinc (lv' := [(1, .int (xJ (i1_2 + 1))), (0, .ref (h0 + 268)), (2, .int (xJ i2_9))]) hx hb hl 1 rfl dX11_fallsByLamps_49 (by decide) rfl (fun ls hl => ?_)
            refine lv_goto (tgt := 2) hx hb dX11_fallsByLamps_52 (by decide) ?_
            exact ih2 (i1_2 + 1) s_9 H locs ls (by omega) hF_9 q9_0 q9_1 q9_2 q9_3 q9_4 q9_5 q9_6 (by omega) (fun t t1 t2 => by
                rw [show (i1_2 + 1).toNat = i1_2.toNat + 1 from by omega]
                show _ = _ + (zsu (fun i => zLL K9 (zrj (s0 269)) (l9 i) t) i1_2.toNat + zLL K9 (zrj (s0 269)) (l9 ((i1_2.toNat : Nat) : Int)) t)
                rw [show ((i1_2.toNat : Nat) : Int) = i1_2 from by omega, v9_1 t t1 t2, v2_1 t t1 t2, show (i2_9).toNat = 2 from by omega, zbh_LL hN n9.1 n9.2]
                omega) (by have hm := hm_2 (); omega) hW (lv_sub hl [1, 0] rfl)
          refine x_aload_n hx hb hl 0 rfl dX11_fallsByLamps_14 rfl ?_
          refine x_get (j := 4) (v := .ref (h0 + 273)) hx hb hown hT hE hW cls_X11 (Or.inl (by decide)) (so_268 h0 g _) (by decide) rfl wq1189 dX11_fallsByLamps_15 ?_
          refine x_iload_n hx hb hl 1 rfl dX11_fallsByLamps_18 rfl ?_
          refine x_iald hx hb hE hW (Or.inl (by decide)) (sa_273 h0 g _) (by omega) (by decide) dX11_fallsByLamps_19 ?_
          refine x_rd hW (fun x3 ex3 rx3 => ?_)
          have bx3 : -1 ≤ x3 ∧ x3 ≤ 99 := by rw [ex3]; exact IMn.l q9_0 _ (by omega) (by omega)
          have V19 : x3 = l9 i1_2 := by rw [ex3, hF_9 273 (by first | decide | omega)]; exact hlm _ (by omega) (by omega)
          refine x_iconst hx hb dX11_fallsByLamps_20 ?_
          refine x_icmp_eq (tgt := 43) hx hb rx3 (by decide) dX11_fallsByLamps_21 (by decide) (fun c4 => ?_) (fun c4 => ?_)
          · skip
            refine x_iinc (lv' := [(2, .int (xJ (i2_9 + 1))), (0, .ref (h0 + 268)), (1, .int (xJ i1_2))]) hx hb hl 2 rfl dX11_fallsByLamps_43 (by decide) rfl (fun ls hl => ?_)
            refine lv_goto (tgt := 9) hx hb dX11_fallsByLamps_46 (by decide) ?_
            exact ih9 (i2_9 + 1) s_9 H locs ls (by omega) hF_9 q9_0 q9_1 q9_2 q9_3 q9_4 q9_5 q9_6 (by omega) (fun t t1 t2 => by
                rw [show (i2_9 + 1).toNat = i2_9.toNat + 1 from by omega]
                show _ = _ + (zsu (fun j => zbh K9 (s0 269) (l9 i1_2) t j) i2_9.toNat + zbh K9 (s0 269) (l9 i1_2) t ((i2_9.toNat : Nat) : Int))
                rw [show ((i2_9.toNat : Nat) : Int) = i2_9 from by omega]
                have y := v9_1 t t1 t2
                first
                  | (rw [zbh_0 (Or.inl (by omega))]; omega)
                  | (rw [zbh_0 (Or.inr (by omega))]; omega)
                  | (rw [zbh_1 (by omega) (by omega), X40 t t1 t2, y]; omega)) (by have hm := hm_9 (); omega) hW (lv_sub hl [1, 2, 0] rfl)
          refine x_aload_n hx hb hl 0 rfl dX11_fallsByLamps_24 rfl ?_
          refine x_iload_n hx hb hl 2 rfl dX11_fallsByLamps_25 rfl ?_
          refine x_goi (x_runV (As := [.int (xJ i2_9)]) hx hb hml hown hT hE hW hl.1 (Or.inl (by decide)) (so_268 h0 g _) rfl cf_X11_isJudge wq1409 wq109 wq1407 (c_X11_isJudgeJ l D g T h0 s_9 hW.2.1 i2_9 ri2_9 q9_0 q9_1 q9_2) ⟨rfl, rfl, ⟨by decide, by decide⟩, ⟨by decide, by decide⟩⟩ rfl rfl (Nat.le_of_ble_eq_true rfl) dX11_fallsByLamps_26) hW (fun x5 s6 H locs rx5 hp7 hW => ?_)
          obtain ⟨es6, hp7⟩ := hp7
          subst es6
          have ghp7 := hp7
          have H26 := ghp7
          rw [hF_9 269 (by first | decide | omega)] at H26
          refine x_if_eq (tgt := 43) hx hb rx5 dX11_fallsByLamps_29 (by decide) (fun c8 => ?_) (fun c8 => ?_)
          · skip
            refine x_iinc (lv' := [(2, .int (xJ (i2_9 + 1))), (0, .ref (h0 + 268)), (1, .int (xJ i1_2))]) hx hb hl 2 rfl dX11_fallsByLamps_43 (by decide) rfl (fun ls hl => ?_)
            refine lv_goto (tgt := 9) hx hb dX11_fallsByLamps_46 (by decide) ?_
            exact ih9 (i2_9 + 1) s_9 H locs ls (by omega) hF_9 q9_0 q9_1 q9_2 q9_3 q9_4 q9_5 q9_6 (by omega) (fun t t1 t2 => by
                rw [show (i2_9 + 1).toNat = i2_9.toNat + 1 from by omega]
                show _ = _ + (zsu (fun j => zbh K9 (s0 269) (l9 i1_2) t j) i2_9.toNat + zbh K9 (s0 269) (l9 i1_2) t ((i2_9.toNat : Nat) : Int))
                rw [show ((i2_9.toNat : Nat) : Int) = i2_9 from by omega]
                have y := v9_1 t t1 t2
                first
                  | (rw [zbh_0 (Or.inl (by omega))]; omega)
                  | (rw [zbh_0 (Or.inr (by omega))]; omega)
                  | (rw [zbh_1 (by omega) (by omega), X40 t t1 t2, y]; omega)) (by have hm := hm_9 (); omega) hW (lv_sub hl [1, 2, 0] rfl)
          refine x_aload_n hx hb hl 0 rfl dX11_fallsByLamps_32 rfl ?_
          refine x_aload_n hx hb hl 0 rfl dX11_fallsByLamps_33 rfl ?_
          refine x_get (j := 4) (v := .ref (h0 + 273)) hx hb hown hT hE hW cls_X11 (Or.inl (by decide)) (so_268 h0 g _) (by decide) rfl wq1189 dX11_fallsByLamps_34 ?_
          refine x_iload_n hx hb hl 1 rfl dX11_fallsByLamps_37 rfl ?_
          refine x_iald hx hb hE hW (Or.inl (by decide)) (sa_273 h0 g _) (by omega) (by decide) dX11_fallsByLamps_38 ?_
          refine x_rd hW (fun x9 ex9 rx9 => ?_)
          have bx9 : -1 ≤ x9 ∧ x9 ≤ 99 := by rw [ex9]; exact IMn.l q9_0 _ (by omega) (by omega)
          have V38 : x9 = l9 i1_2 := by rw [ex9, hF_9 273 (by first | decide | omega)]; exact hlm _ (by omega) (by omega)
          have A38 : x9 = -1 ∨ (0 ≤ x9 ∧ x9 < 100) := by have z := IMn.l p0 i1_2 (by omega) (by omega); have y := hlm i1_2 (by omega) (by omega); omega
          have E38 : s_9 269 = s0 269 := hF_9 269 (by first | decide | omega)
          refine x_iload_n hx hb hl 2 rfl dX11_fallsByLamps_39 rfl ?_
          refine x_gov (x_runV (As := [.int (xJ x9), .int (xJ i2_9)]) hx hb hml hown hT hE hW hl.1 (Or.inl (by decide)) (so_268 h0 g _) rfl cf_X11_fallsBehind wq1612 wq145 wq1610 (c_X11_fallsBehindF l D g T h0 s_9 hW.2.1 x9 rx9 i2_9 ri2_9 K9 (by first | exact hK | exact fun t t1 t2 => by rw [hF_9 272 (by first | decide | omega)]; exact hK t t1 t2) (by omega) (by omega) (by rw [hF_9 269 (by first | decide | omega)]; exact hG _ (by omega) (by omega) (by omega)) (B9) q9_0 q9_1 q9_2) ⟨rfl, rfl, ⟨by decide, by decide⟩, ⟨by decide, by decide⟩⟩ rfl rfl (Nat.le_of_ble_eq_true rfl) dX11_fallsByLamps_40) hW (fun s11 H locs hp12 hW => ?_)
          obtain ⟨fs11, hp12⟩ := hp12
          have hF13 := hF_9.call fs11 (fun k h => by omega)
          have q14 : s11 268 8 = s0 268 8 := (congrFun (fs11 _ (by omega)) _).trans q9_3
          have q15 : s11 268 58 = s0 268 58 := (congrFun (fs11 _ (by omega)) _).trans q9_4
          have q16 : s11 268 17 = s0 268 17 := (congrFun (fs11 _ (by omega)) _).trans q9_5
          have q17 : s11 268 48 = s0 268 48 := (congrFun (fs11 _ (by omega)) _).trans q9_6
          have ghp12 := hp12.2
          have X40 := ghp12
          rw [E38, V38] at X40
          refine x_iinc (lv' := [(2, .int (xJ (i2_9 + 1))), (0, .ref (h0 + 268)), (1, .int (xJ i1_2))]) hx hb hl 2 rfl dX11_fallsByLamps_43 (by decide) rfl (fun ls hl => ?_)
          refine lv_goto (tgt := 9) hx hb dX11_fallsByLamps_46 (by decide) ?_
          exact ih9 (i2_9 + 1) s11 H locs ls (by omega) hF13 hp12.1.1 hp12.1.2.1 hp12.1.2.2.1 q14 q15 q16 q17 (by omega) (fun t t1 t2 => by
            rw [show (i2_9 + 1).toNat = i2_9.toNat + 1 from by omega]
            show _ = _ + (zsu (fun j => zbh K9 (s0 269) (l9 i1_2) t j) i2_9.toNat + zbh K9 (s0 269) (l9 i1_2) t ((i2_9.toNat : Nat) : Int))
            rw [show ((i2_9.toNat : Nat) : Int) = i2_9 from by omega]
            have y := v9_1 t t1 t2
            first
              | (rw [zbh_0 (Or.inl (by omega))]; omega)
              | (rw [zbh_0 (Or.inr (by omega))]; omega)
              | (rw [zbh_1 (by omega) (by omega), X40 t t1 t2, y]; omega)) (by have hm := hm_9 (); omega) hW (lv_sub hl [1, 2, 0] rfl)
      exact L9 ((2 - 0 : Int).toNat + 1) 0 s_2 H locs ls (by decide) hF_2 q2_0 q2_1 q2_2 q2_3 q2_4 q2_5 q2_6 (by omega) (fun t t1 t2 => by show _ = _ + (0 : Int); omega) (Nat.lt_succ_self _) hW (lv_sub hl [1, 2, 0] rfl)
  exact L2 ((4 - 0 : Int).toNat + 1) 0 s0 H locs ls (by decide) hF p0 p1 p2 k268_8 k268_58 k268_17 k268_48 (by omega) (fun t t1 t2 => by show _ = _ + (0 : Int); omega) (Nat.lt_succ_self _) hW (lv_sub hl [1, 0] rfl)
set_option maxHeartbeats 4000000 in
set_option maxRecDepth 100000 in
theorem c_X11_laysShadesF (l : Launch) (D : va_G) (g : xG) (T : Nat × Nat × Nat) (h0 : Nat) (s0 : xS) (hσ : xRR s0) (t : Int) (rt : xR t) (b : Int) (rb : xR b) (q9 : zLaw) (K9 : Int → Int) (l9 : Int → Int) (hok : zLok q9) (hlr : zLR s0 q9) (hK : ∀ t : Int, 0 ≤ t → t < 100 → s0 272 t = K9 t ∧ 0 ≤ K9 t ∧ K9 t ≤ 3) (hlm : ∀ i : Int, 0 ≤ i → i < 4 → s0 273 i = l9 i) (hG : ∀ j : Int, 0 ≤ j → j < 2 → xsh (s0 269 34) j % 2 = 1 → K9 (s0 269 j) ≠ 1) (hN : zrj (s0 269) 0 ≠ zrj (s0 269) 1 ∨ zrj (s0 269) 0 = -1) (ht : 0 ≤ t ∧ t ≤ 9999) (p0 : IMn s0) (p1 : IMk s0) (p2 : IMo s0) : Met l yX11_laysShades (xws yX11_laysShades cX11_laysShades 4 none) { frames := 6, cells := 0, slots := 0, locals := 139 } (xP [.ref (h0 + 268), .int (xJ t), .int (xJ b)] D g T h0 s0) (xQv D g h0 (fun τ => xFr (fun k => k = 293 ∨ k = 294 ∨ k = 295) s0 τ ∧ (((IMn τ) ∧ (IMk τ) ∧ (IMo τ) ∧ True) ∧ (∀ x : Int, 0 ≤ x → x < 100 → τ 295 x = zLy K9 q9 l9 t (zrj (s0 269)) (if b = 0 then 1 else 0) (zni q9 t) x)))) 0 0 (xA h0) := by
  refine x_met hσ (by decide) (Nat.le_of_ble_eq_true rfl) ?_
  intro p e s m args below meth c hx hb hr hml hown hT hlk hnm hE hW ls hl
  have hl : lv_has ls 4 [(0, .ref (h0 + 268)), (1, .int (xJ t)), (2, .int (xJ b))] := hl
  obtain ⟨Q, eQ⟩ : ∃ Q, Q = MQ below (xQv D g h0 (fun τ => xFr (fun k => k = 293 ∨ k = 294 ∨ k = 295) s0 τ ∧ (((IMn τ) ∧ (IMk τ) ∧ (IMo τ) ∧ True) ∧ (∀ x : Int, 0 ≤ x → x < 100 → τ 295 x = zLy K9 q9 l9 t (zrj (s0 269)) (if b = 0 then 1 else 0) (zni q9 t) x)))) args s 0 0 (xA h0) := ⟨_, rfl⟩
  rw [← eQ]
  generalize hHe : ([] : List Loc) = locs at hW ⊢
  obtain ⟨H, eH⟩ : ∃ H, H = s.heap := ⟨_, rfl⟩
  rw [← eH] at hW ⊢
  have hF : xFr (fun k => k = 293 ∨ k = 294 ∨ k = 295) s0 s0 := xFr.rf
  have k268_8 : s0 268 8 = s0 268 8 := rfl
  have k268_58 : s0 268 58 = s0 268 58 := rfl
  have k268_17 : s0 268 17 = s0 268 17 := rfl
  have k268_48 : s0 268 48 = s0 268 48 := rfl
  refine x_aload_n hx hb hl 0 rfl dX11_laysShades_0 rfl ?_
  refine x_gov (x_runV (As := []) hx hb hml hown hT hE hW hl.1 (Or.inl (by decide)) (so_268 h0 g _) rfl cf_X11_bares wq1592 wq140 wq1590 (c_X11_baresF l D g T h0 s0 hW.2.1 p0 p1 p2) ⟨rfl, rfl, ⟨by decide, by decide⟩, ⟨by decide, by decide⟩⟩ rfl rfl (Nat.le_of_ble_eq_true rfl) dX11_laysShades_1) hW (fun s2 H locs hp3 hW => ?_)
  obtain ⟨fs2, hp3⟩ := hp3
  have hF4 := hF.call fs2 (fun k h => by omega)
  have q5 : s2 268 8 = s0 268 8 := (congrFun (fs2 _ (by omega)) _).trans k268_8
  have q6 : s2 268 58 = s0 268 58 := (congrFun (fs2 _ (by omega)) _).trans k268_58
  have q7 : s2 268 17 = s0 268 17 := (congrFun (fs2 _ (by omega)) _).trans k268_17
  have q8 : s2 268 48 = s0 268 48 := (congrFun (fs2 _ (by omega)) _).trans k268_48
  have ghp3 := hp3.2
  have H1 := ghp3
  refine x_iconst hx hb dX11_laysShades_4 ?_
  refine lv_istore_n (lv' := [(3, .int (xJ 0)), (0, .ref (h0 + 268)), (1, .int (xJ t)), (2, .int (xJ b))]) hx hb dX11_laysShades_5 rfl hl (by decide) rfl (fun ls hl => ?_)
  have L6 : ∀ (fu : Nat) (i3_6 : Int) (s_6 : xS) (H : Heap) (locs : List Loc) (ls : Array Slot), (xR i3_6) → (xFr (fun k => k = 293 ∨ k = 294 ∨ k = 295) s0 s_6) → (s_6 268 8 = s0 268 8) → (s_6 268 58 = s0 268 58) → (s_6 268 17 = s0 268 17) → (s_6 268 48 = s0 268 48) → (IMn s_6) → (IMk s_6) → (IMo s_6) → (0 ≤ i3_6 ∧ i3_6 ≤ 2) → (∀ x : Int, 0 ≤ x → x < 100 → s_6 295 x = (if b = 0 then zsu (zJL K9 q9 t (zrj (s0 269)) x) (i3_6).toNat else 0)) → (2 - i3_6).toNat < fu → xW D g h0 s H locs s_6 → lv_has ls 4 [(0, .ref (h0 + 268)), (1, .int (xJ t)), (2, .int (xJ b)), (3, .int (xJ i3_6))] → W p l e { frames := 6, cells := 0, slots := 0, locals := 139 } s m args below meth c H locs 0 0 Q (F0 m 6 ls []) := by
    intro fu
    induction fu with
    | zero => intro i3_6 s_6 H locs ls ri3_6 hF_6 q6_0 q6_1 q6_2 q6_3 q6_4 q6_5 q6_6 v6_0 v6_1 hm; exact absurd hm (Nat.not_lt_zero _)
    | succ fu ih6 =>
      intro i3_6 s_6 H locs ls ri3_6 hF_6 q6_0 q6_1 q6_2 q6_3 q6_4 q6_5 q6_6 v6_0 v6_1 hm hW hl
      have hm_6 := fun (_ : Unit) => hm
      clear hm
      have B6 : ∀ t : Int, 0 ≤ t → t < 100 → 0 ≤ s_6 295 t ∧ s_6 295 t ≤ 500 := fun x x1 x2 => by
          rw [v6_1 x x1 x2]
          have z := zsu_b (f := zJL K9 q9 t (zrj (s0 269)) x) (b := 9) (n := (i3_6).toNat) (fun i _ _ => zJL_r K9 q9 t (zrj (s0 269)) x i)
          split <;> omega
      refine x_iload_n hx hb hl 3 rfl dX11_laysShades_6 rfl ?_
      refine x_iconst hx hb dX11_laysShades_7 ?_
      refine x_icmp_ge (tgt := 35) hx hb ri3_6 (by decide) dX11_laysShades_8 (by decide) (fun c9 => ?_) (fun c9 => ?_)
      · skip
        refine x_aload_n hx hb hl 0 rfl dX11_laysShades_35 rfl ?_
        refine x_iload_n hx hb hl 1 rfl dX11_laysShades_36 rfl ?_
        refine x_goi (x_runV (As := [.int (xJ t)]) hx hb hml hown hT hE hW hl.1 (Or.inl (by decide)) (so_268 h0 g _) rfl cf_X11_isNight wq1604 wq143 wq1602 (c_X11_isNightF l D g T h0 s_6 hW.2.1 t rt q9 (hok) (by first | exact hlr | exact hlr.f (fun k hk => hF_6 k (by omega)) (by omega)) (by omega) q6_4 q6_5 q6_6) ⟨rfl, rfl, ⟨by decide, by decide⟩, ⟨by decide, by decide⟩⟩ rfl rfl (Nat.le_of_ble_eq_true rfl) dX11_laysShades_37) hW (fun x10 s11 H locs rx10 hp12 hW => ?_)
        obtain ⟨fs11, hp12⟩ := hp12
        have hF13 := hF_6.call fs11 (fun k h => by omega)
        have q14 : s11 268 8 = s0 268 8 := (congrFun (fs11 _ (by omega)) _).trans q6_0
        have q15 : s11 268 58 = s0 268 58 := (congrFun (fs11 _ (by omega)) _).trans q6_1
        have q16 : s11 268 17 = s0 268 17 := (congrFun (fs11 _ (by omega)) _).trans q6_2
        have q17 : s11 268 48 = s0 268 48 := (congrFun (fs11 _ (by omega)) _).trans q6_3
        have ghp12 := hp12.2
        have R37 := ghp12
        have F37 := fs11 295 (by first | decide | omega)
        have B37 : ∀ t : Int, 0 ≤ t → t < 100 → 0 ≤ s11 295 t ∧ s11 295 t ≤ 100 := fun x x1 x2 => by
          rw [F37, v6_1 x x1 x2]
          have z := zsu_b (f := zJL K9 q9 t (zrj (s0 269)) x) (b := 9) (n := (i3_6).toNat) (fun i _ _ => zJL_r K9 q9 t (zrj (s0 269)) x i)
          split <;> omega
        have G37 : s11 269 = s0 269 := hF13 269 (by first | decide | omega)
        refine x_if_eq (tgt := 47) hx hb rx10 dX11_laysShades_40 (by decide) (fun c18 => ?_) (fun c18 => ?_)
        · skip
          rw [eQ]
          exact x_vret hx hb hr hlk hW ⟨hF13, ⟨hp12.1.1, hp12.1.2.1, hp12.1.2.2.1, trivial⟩, fun x x1 x2 => by
              have y := v6_1 x x1 x2
              have e2 : (i3_6).toNat = 2 := by omega
              unfold zLy
              rw [e2] at y
              first
                | (rw [H44 x x1 x2, F37, y, if_pos (c := zni q9 t ≠ 0) (by omega)]
                   congr 1
                   by_cases hbq : b = 0
                   · rw [if_pos hbq, if_pos (by omega)]
                   · rw [if_neg hbq, if_neg (by omega)])
                | (rw [F37, y, if_neg (c := zni q9 t ≠ 0) (by omega), Int.add_zero]
                   by_cases hbq : b = 0
                   · rw [if_pos hbq, if_pos (by omega)]
                   · rw [if_neg hbq, if_neg (by omega)])⟩ dX11_laysShades_47
        refine x_aload_n hx hb hl 0 rfl dX11_laysShades_43 rfl ?_
        refine x_gov (x_runV (As := []) hx hb hml hown hT hE hW hl.1 (Or.inl (by decide)) (so_268 h0 g _) rfl cf_X11_fallsByLamps wq1608 wq144 wq1606 (c_X11_fallsByLampsF l D g T h0 s11 hW.2.1 K9 l9 (by first | exact hK | exact fun t t1 t2 => by rw [hF13 272 (by first | decide | omega)]; exact hK t t1 t2) (by first | exact hlm | exact fun i i1 i2 => by rw [hF13 273 (by first | decide | omega)]; exact hlm i i1 i2) (by first | exact hG | (rw [hF13 269 (by first | decide | omega)]; exact hG)) (by first | exact hN | (rw [hF13 269 (by first | decide | omega)]; exact hN)) (B37) hp12.1.1 hp12.1.2.1 hp12.1.2.2.1) ⟨rfl, rfl, ⟨by decide, by decide⟩, ⟨by decide, by decide⟩⟩ rfl rfl (Nat.le_of_ble_eq_true rfl) dX11_laysShades_44) hW (fun s20 H locs hp21 hW => ?_)
        obtain ⟨fs20, hp21⟩ := hp21
        have hF22 := hF13.call fs20 (fun k h => by omega)
        have q23 : s20 268 8 = s0 268 8 := (congrFun (fs20 _ (by omega)) _).trans q14
        have q24 : s20 268 58 = s0 268 58 := (congrFun (fs20 _ (by omega)) _).trans q15
        have q25 : s20 268 17 = s0 268 17 := (congrFun (fs20 _ (by omega)) _).trans q16
        have q26 : s20 268 48 = s0 268 48 := (congrFun (fs20 _ (by omega)) _).trans q17
        have ghp21 := hp21.2
        have H44 := ghp21
        rw [G37] at H44
        rw [eQ]
        exact x_vret hx hb hr hlk hW ⟨hF22, ⟨hp21.1.1, hp21.1.2.1, hp21.1.2.2.1, trivial⟩, fun x x1 x2 => by
            have y := v6_1 x x1 x2
            have e2 : (i3_6).toNat = 2 := by omega
            unfold zLy
            rw [e2] at y
            first
              | (rw [H44 x x1 x2, F37, y, if_pos (c := zni q9 t ≠ 0) (by omega)]
                 congr 1
                 by_cases hbq : b = 0
                 · rw [if_pos hbq, if_pos (by omega)]
                 · rw [if_neg hbq, if_neg (by omega)])
              | (rw [F37, y, if_neg (c := zni q9 t ≠ 0) (by omega), Int.add_zero]
                 by_cases hbq : b = 0
                 · rw [if_pos hbq, if_pos (by omega)]
                 · rw [if_neg hbq, if_neg (by omega)])⟩ dX11_laysShades_47
      refine x_aload_n hx hb hl 0 rfl dX11_laysShades_11 rfl ?_
      refine x_iload_n hx hb hl 3 rfl dX11_laysShades_12 rfl ?_
      refine x_goi (x_runV (As := [.int (xJ i3_6)]) hx hb hml hown hT hE hW hl.1 (Or.inl (by decide)) (so_268 h0 g _) rfl cf_X11_isJudge wq1409 wq109 wq1407 (c_X11_isJudgeJ l D g T h0 s_6 hW.2.1 i3_6 ri3_6 q6_4 q6_5 q6_6) ⟨rfl, rfl, ⟨by decide, by decide⟩, ⟨by decide, by decide⟩⟩ rfl rfl (Nat.le_of_ble_eq_true rfl) dX11_laysShades_13) hW (fun x27 s28 H locs rx27 hp29 hW => ?_)
      obtain ⟨es28, hp29⟩ := hp29
      subst es28
      have ghp29 := hp29
      have H13 := ghp29
      rw [hF_6 269 (by first | decide | omega)] at H13
      refine x_if_eq (tgt := 29) hx hb rx27 dX11_laysShades_16 (by decide) (fun c30 => ?_) (fun c30 => ?_)
      · skip
        refine x_iinc (lv' := [(3, .int (xJ (i3_6 + 1))), (0, .ref (h0 + 268)), (1, .int (xJ t)), (2, .int (xJ b))]) hx hb hl 3 rfl dX11_laysShades_29 (by decide) rfl (fun ls hl => ?_)
        refine lv_goto (tgt := 6) hx hb dX11_laysShades_32 (by decide) ?_
        exact ih6 (i3_6 + 1) s_6 H locs ls (by omega) hF_6 q6_0 q6_1 q6_2 q6_3 q6_4 q6_5 q6_6 (by omega) (fun x x1 x2 => by
            have y := v6_1 x x1 x2
            rw [show (i3_6 + 1).toNat = i3_6.toNat + 1 from by omega]
            by_cases hbq : b = 0
            · rw [if_pos hbq] at y ⊢
              show _ = zsu (zJL K9 q9 t (zrj (s0 269)) x) i3_6.toNat + zJL K9 q9 t (zrj (s0 269)) x ((i3_6.toNat : Nat) : Int)
              rw [show ((i3_6.toNat : Nat) : Int) = i3_6 from by omega, ← y]
              unfold zJL
              first
                | (have z := IMn.n1 p0; have z1 := z.1 i3_6 (by omega) (by omega); rw [if_neg (by rw [zrj_p (by omega)]; omega), zrj_p (by omega), H26 x x1 x2, F26])
                | (rw [if_pos (zrj_n (by omega))]; omega)
                | (exfalso; omega)
            · rw [if_neg hbq] at y ⊢
              first
                | (exfalso; omega)
                | exact y) (by have hm := hm_6 (); omega) hW (lv_sub hl [1, 2, 3, 0] rfl)
      refine x_iload_n hx hb hl 2 rfl dX11_laysShades_19 rfl ?_
      refine x_if_ne (tgt := 29) hx hb rb dX11_laysShades_20 (by decide) (fun c31 => ?_) (fun c31 => ?_)
      · skip
        refine x_iinc (lv' := [(3, .int (xJ (i3_6 + 1))), (0, .ref (h0 + 268)), (1, .int (xJ t)), (2, .int (xJ b))]) hx hb hl 3 rfl dX11_laysShades_29 (by decide) rfl (fun ls hl => ?_)
        refine lv_goto (tgt := 6) hx hb dX11_laysShades_32 (by decide) ?_
        exact ih6 (i3_6 + 1) s_6 H locs ls (by omega) hF_6 q6_0 q6_1 q6_2 q6_3 q6_4 q6_5 q6_6 (by omega) (fun x x1 x2 => by
            have y := v6_1 x x1 x2
            rw [show (i3_6 + 1).toNat = i3_6.toNat + 1 from by omega]
            by_cases hbq : b = 0
            · rw [if_pos hbq] at y ⊢
              show _ = zsu (zJL K9 q9 t (zrj (s0 269)) x) i3_6.toNat + zJL K9 q9 t (zrj (s0 269)) x ((i3_6.toNat : Nat) : Int)
              rw [show ((i3_6.toNat : Nat) : Int) = i3_6 from by omega, ← y]
              unfold zJL
              first
                | (have z := IMn.n1 p0; have z1 := z.1 i3_6 (by omega) (by omega); rw [if_neg (by rw [zrj_p (by omega)]; omega), zrj_p (by omega), H26 x x1 x2, F26])
                | (rw [if_pos (zrj_n (by omega))]; omega)
                | (exfalso; omega)
            · rw [if_neg hbq] at y ⊢
              first
                | (exfalso; omega)
                | exact y) (by have hm := hm_6 (); omega) hW (lv_sub hl [1, 2, 3, 0] rfl)
      refine x_aload_n hx hb hl 0 rfl dX11_laysShades_23 rfl ?_
      refine x_iload_n hx hb hl 3 rfl dX11_laysShades_24 rfl ?_
      refine x_iload_n hx hb hl 1 rfl dX11_laysShades_25 rfl ?_
      have F26 : s_6 269 = s0 269 := hF_6 269 (by first | decide | omega)
      refine x_gov (x_runV (As := [.int (xJ i3_6), .int (xJ t)]) hx hb hml hown hT hE hW hl.1 (Or.inl (by decide)) (so_268 h0 g _) rfl cf_X11_fallsOf wq1596 wq141 wq1594 (c_X11_fallsOfF l D g T h0 s_6 hW.2.1 i3_6 ri3_6 t rt q9 K9 (hok) (by first | exact hlr | exact hlr.f (fun k hk => hF_6 k (by omega)) (by omega)) (by first | exact hK | exact fun t t1 t2 => by rw [hF_6 272 (by first | decide | omega)]; exact hK t t1 t2) (by omega) (by omega) (B6) q6_4 q6_5 q6_6) ⟨rfl, rfl, ⟨by decide, by decide⟩, ⟨by decide, by decide⟩⟩ rfl rfl (Nat.le_of_ble_eq_true rfl) dX11_laysShades_26) hW (fun s33 H locs hp34 hW => ?_)
      obtain ⟨fs33, hp34⟩ := hp34
      have hF35 := hF_6.call fs33 (fun k h => by omega)
      have q36 : s33 268 8 = s0 268 8 := (congrFun (fs33 _ (by omega)) _).trans q6_0
      have q37 : s33 268 58 = s0 268 58 := (congrFun (fs33 _ (by omega)) _).trans q6_1
      have q38 : s33 268 17 = s0 268 17 := (congrFun (fs33 _ (by omega)) _).trans q6_2
      have q39 : s33 268 48 = s0 268 48 := (congrFun (fs33 _ (by omega)) _).trans q6_3
      have ghp34 := hp34.2
      have H26 := ghp34
      refine x_iinc (lv' := [(3, .int (xJ (i3_6 + 1))), (0, .ref (h0 + 268)), (1, .int (xJ t)), (2, .int (xJ b))]) hx hb hl 3 rfl dX11_laysShades_29 (by decide) rfl (fun ls hl => ?_)
      refine lv_goto (tgt := 6) hx hb dX11_laysShades_32 (by decide) ?_
      exact ih6 (i3_6 + 1) s33 H locs ls (by omega) hF35 q36 q37 q38 q39 hp34.1.1 hp34.1.2.1 hp34.1.2.2.1 (by omega) (fun x x1 x2 => by
            have y := v6_1 x x1 x2
            rw [show (i3_6 + 1).toNat = i3_6.toNat + 1 from by omega]
            by_cases hbq : b = 0
            · rw [if_pos hbq] at y ⊢
              show _ = zsu (zJL K9 q9 t (zrj (s0 269)) x) i3_6.toNat + zJL K9 q9 t (zrj (s0 269)) x ((i3_6.toNat : Nat) : Int)
              rw [show ((i3_6.toNat : Nat) : Int) = i3_6 from by omega, ← y]
              unfold zJL
              first
                | (have z := IMn.n1 p0; have z1 := z.1 i3_6 (by omega) (by omega); rw [if_neg (by rw [zrj_p (by omega)]; omega), zrj_p (by omega), H26 x x1 x2, F26])
                | (rw [if_pos (zrj_n (by omega))]; omega)
                | (exfalso; omega)
            · rw [if_neg hbq] at y ⊢
              first
                | (exfalso; omega)
                | exact y) (by have hm := hm_6 (); omega) hW (lv_sub hl [1, 2, 3, 0] rfl)
  exact L6 ((2 - 0 : Int).toNat + 1) 0 s2 H locs ls (by decide) hF4 q5 q6 q7 q8 hp3.1.1 hp3.1.2.1 hp3.1.2.2.1 (by omega) (fun x x1 x2 => by
          rw [H1 x x1 x2]
          split <;> rfl) (Nat.lt_succ_self _) hW (lv_sub hl [1, 2, 3, 0] rfl)
set_option maxHeartbeats 4000000 in
set_option maxRecDepth 100000 in
theorem c_X11_shadeF (l : Launch) (D : va_G) (g : xG) (T : Nat × Nat × Nat) (h0 : Nat) (s0 : xS) (hσ : xRR s0) (x : Int) (rx : xR x) (y : Int) (ry : xR y) (q9 : zLaw) (K9 : Int → Int) (l9 : Int → Int) (hok : zLok q9) (hlr : zLR s0 q9) (hK : ∀ t : Int, 0 ≤ t → t < 100 → s0 272 t = K9 t ∧ 0 ≤ K9 t ∧ K9 t ≤ 3) (hlm : ∀ i : Int, 0 ≤ i → i < 4 → s0 273 i = l9 i) (hG : ∀ j : Int, 0 ≤ j → j < 2 → xsh (s0 269 34) j % 2 = 1 → K9 (s0 269 j) ≠ 1) (hN : zrj (s0 269) 0 ≠ zrj (s0 269) 1 ∨ zrj (s0 269) 0 = -1) (p0 : IMn s0) (p1 : IMk s0) (p2 : IMo s0) : Met l yX11_shade (xws yX11_shade cX11_shade 3 (some .int)) { frames := 7, cells := 0, slots := 0, locals := 162 } (xP [.ref (h0 + 268), .int (xJ x), .int (xJ y)] D g T h0 s0) (xQi D g h0 (fun r τ => xFr (fun k => k = 293 ∨ k = 294 ∨ k = 295) s0 τ ∧ (((IMn τ) ∧ (IMk τ) ∧ (IMo τ) ∧ True) ∧ (((0 ≤ x ∧ x < 10 ∧ 0 ≤ y ∧ y < 10) ∧ r = zLy K9 q9 l9 (s0 269 37) (zrj (s0 269)) 1 (zni q9 (s0 269 37)) (10 * y + x)) ∨ (¬ (0 ≤ x ∧ x < 10 ∧ 0 ≤ y ∧ y < 10) ∧ r = -1))))) 0 0 (xA h0) := by
  refine x_met hσ (by decide) (Nat.le_of_ble_eq_true rfl) ?_
  intro p e s m args below meth c hx hb hr hml hown hT hlk hnm hE hW ls hl
  have hl : lv_has ls 3 [(0, .ref (h0 + 268)), (1, .int (xJ x)), (2, .int (xJ y))] := hl
  obtain ⟨Q, eQ⟩ : ∃ Q, Q = MQ below (xQi D g h0 (fun r τ => xFr (fun k => k = 293 ∨ k = 294 ∨ k = 295) s0 τ ∧ (((IMn τ) ∧ (IMk τ) ∧ (IMo τ) ∧ True) ∧ (((0 ≤ x ∧ x < 10 ∧ 0 ≤ y ∧ y < 10) ∧ r = zLy K9 q9 l9 (s0 269 37) (zrj (s0 269)) 1 (zni q9 (s0 269 37)) (10 * y + x)) ∨ (¬ (0 ≤ x ∧ x < 10 ∧ 0 ≤ y ∧ y < 10) ∧ r = -1))))) args s 0 0 (xA h0) := ⟨_, rfl⟩
  rw [← eQ]
  generalize hHe : ([] : List Loc) = locs at hW ⊢
  obtain ⟨H, eH⟩ : ∃ H, H = s.heap := ⟨_, rfl⟩
  rw [← eH] at hW ⊢
  have hF : xFr (fun k => k = 293 ∨ k = 294 ∨ k = 295) s0 s0 := xFr.rf
  have k268_8 : s0 268 8 = s0 268 8 := rfl
  have k268_58 : s0 268 58 = s0 268 58 := rfl
  have k268_17 : s0 268 17 = s0 268 17 := rfl
  have k268_48 : s0 268 48 = s0 268 48 := rfl
  have hm7 := (IMn.n1 p0).2.2.2.1
  refine x_iload_n hx hb hl 1 rfl dX11_shade_0 rfl ?_
  refine x_iload_n hx hb hl 2 rfl dX11_shade_1 rfl ?_
  refine x_goi (x_runS (As := [.int (xJ x), .int (xJ y)]) hx hb hml hown hT hE hW hl.1 cf_X11_isOn wq1430 wq1429 (c_X11_isOn l D g T h0 s0 hW.2.1 x rx y ry) ⟨rfl, rfl, ⟨by decide, by decide⟩, ⟨by decide, by decide⟩⟩ rfl rfl (Nat.le_of_ble_eq_true rfl) dX11_shade_2) hW (fun x1 s2 H locs rx1 hp3 hW => ?_)
  obtain ⟨es2, hp3⟩ := hp3
  subst es2
  have ghp3 := hp3
  refine x_if_ne (tgt := 10) hx hb rx1 dX11_shade_5 (by decide) (fun c4 => ?_) (fun c4 => ?_)
  · skip
    refine x_aload_n hx hb hl 0 rfl dX11_shade_10 rfl ?_
    refine x_aload_n hx hb hl 0 rfl dX11_shade_11 rfl ?_
    refine x_get (j := 0) (v := .ref (h0 + 269)) hx hb hown hT hE hW cls_X11 (Or.inl (by decide)) (so_268 h0 g _) (by decide) rfl wq1185 dX11_shade_12 ?_
    refine x_bipush hx hb dX11_shade_15 (by decide) ?_
    refine x_iald hx hb hE hW (Or.inl (by decide)) (sa_269 h0 g _) ⟨by decide, by decide⟩ (by decide) dX11_shade_17 ?_
    refine x_rd hW (fun x5 ex5 rx5 => ?_)
    have bx5 : 0 ≤ x5 ∧ x5 ≤ 9999 := by rw [ex5]; exact (IMn.n1 p0).2.2.2.1
    have V17 := ex5
    refine x_iconst hx hb dX11_shade_18 ?_
    refine x_gov (x_runV (As := [.int (xJ x5), .int (xJ 0)]) hx hb hml hown hT hE hW hl.1 (Or.inl (by decide)) (so_268 h0 g _) rfl cf_X11_laysShades wq1588 wq139 wq1586 (c_X11_laysShadesF l D g T h0 s0 hW.2.1 x5 rx5 0 (by decide) q9 K9 l9 (hok) (by first | exact hlr | exact hlr.f (fun k hk => hF k (by omega)) (by omega)) (by first | exact hK | exact fun t t1 t2 => by rw [hF 272 (by omega)]; exact hK t t1 t2) (by first | exact hlm | exact fun i i1 i2 => by rw [hF 273 (by omega)]; exact hlm i i1 i2) (by first | exact hG | (rw [hF 269 (by omega)]; exact hG)) (by first | exact hN | (rw [hF 269 (by omega)]; exact hN)) (by omega) p0 p1 p2) ⟨rfl, rfl, ⟨by decide, by decide⟩, ⟨by decide, by decide⟩⟩ rfl rfl (Nat.le_of_ble_eq_true rfl) dX11_shade_19) hW (fun s7 H locs hp8 hW => ?_)
    obtain ⟨fs7, hp8⟩ := hp8
    have hF9 := hF.call fs7 (fun k h => by omega)
    have q10 : s7 268 8 = s0 268 8 := (congrFun (fs7 _ (by omega)) _).trans k268_8
    have q11 : s7 268 58 = s0 268 58 := (congrFun (fs7 _ (by omega)) _).trans k268_58
    have q12 : s7 268 17 = s0 268 17 := (congrFun (fs7 _ (by omega)) _).trans k268_17
    have q13 : s7 268 48 = s0 268 48 := (congrFun (fs7 _ (by omega)) _).trans k268_48
    have ghp8 := hp8.2
    have H19 := ghp8
    refine x_aload_n hx hb hl 0 rfl dX11_shade_22 rfl ?_
    refine x_get (j := 40) (v := .ref (h0 + 295)) hx hb hown hT hE hW cls_X11 (Or.inl (by decide)) (so_268 h0 g _) (by decide) rfl wq1225 dX11_shade_23 ?_
    refine x_bipush hx hb dX11_shade_26 (by decide) ?_
    refine x_iload_n hx hb hl 2 rfl dX11_shade_28 rfl ?_
    refine x_imul hx hb dX11_shade_29 ?_
    refine x_iload_n hx hb hl 1 rfl dX11_shade_30 rfl ?_
    refine x_iadd hx hb dX11_shade_31 ?_
    refine x_iald hx hb hE hW (Or.inl (by decide)) (sa_295 h0 g _) (by omega) (by decide) dX11_shade_32 ?_
    refine x_rd hW (fun x14 ex14 rx14 => ?_)
    have V32 := ex14
    rw [eQ]
    exact x_iret hx hb hr hlk hW rx14 ⟨hF9, ⟨hp8.1.1, hp8.1.2.1, hp8.1.2.2.1, trivial⟩, Or.inl ⟨by omega, by rw [V32, H19 _ (by omega) (by omega), V17]; rfl⟩⟩ dX11_shade_33
  refine x_iconst hx hb dX11_shade_8 ?_
  rw [eQ]
  exact x_iret hx hb hr hlk hW (by decide) ⟨hF, ⟨p0, p1, p2, trivial⟩, Or.inr ⟨by omega, by omega⟩⟩ dX11_shade_9


