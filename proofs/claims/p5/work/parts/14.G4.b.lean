set_option maxHeartbeats 4000000 in
set_option maxRecDepth 100000 in
theorem c_X2_copyFrom (l : Launch) (D : va_G) (g : xG) (T : Nat × Nat × Nat) (h0 : Nat) (s0 : xS) (hσ : xRR s0) (d : Nat) (hd : xDay d) (d2 : Nat) (hd2 : xDay d2) (p0 : IC s0) : Met l yX2_copyFrom (xws yX2_copyFrom cX2_copyFrom 3 none) { frames := 0, cells := 0, slots := 0, locals := 0 } (xP [.ref (h0 + d), .ref (h0 + d2)] D g T h0 s0) (xQv D g h0 (fun τ => xFr (fun k => k = d ∨ k = d + 1 ∨ k = d + 2 ∨ k = d + 5 ∨ k = d + 6 ∨ k = d + 7 ∨ k = d + 8 ∨ k = d + 9) s0 τ ∧ (((IC τ) ∧ True) ∧ (True)))) 0 0 (xA h0) := by
  refine x_met hσ (by decide) (Nat.le_of_ble_eq_true rfl) ?_
  intro p e s m args below meth c hx hb hr hml hown hT hlk hnm hE hW ls hl
  have hl : lv_has ls 3 [(0, .ref (h0 + d)), (1, .ref (h0 + d2))] := hl
  obtain ⟨Q, eQ⟩ : ∃ Q, Q = MQ below (xQv D g h0 (fun τ => xFr (fun k => k = d ∨ k = d + 1 ∨ k = d + 2 ∨ k = d + 5 ∨ k = d + 6 ∨ k = d + 7 ∨ k = d + 8 ∨ k = d + 9) s0 τ ∧ (((IC τ) ∧ True) ∧ (True)))) args s 0 0 (xA h0) := ⟨_, rfl⟩
  rw [← eQ]
  generalize hHe : ([] : List Loc) = locs at hW ⊢
  obtain ⟨H, eH⟩ : ∃ H, H = s.heap := ⟨_, rfl⟩
  rw [← eH] at hW ⊢
  have hF : xFr (fun k => k = d ∨ k = d + 1 ∨ k = d + 2 ∨ k = d + 5 ∨ k = d + 6 ∨ k = d + 7 ∨ k = d + 8 ∨ k = d + 9) s0 s0 := xFr.rf
  have hbd : (136 ≤ d ∧ d < 209) ∧ (d ≤ 146 ∨ 158 ≤ d) := by unfold xDay at hd; omega
  have hbd2 : (136 ≤ d2 ∧ d2 < 209) ∧ (d2 ≤ 146 ∨ 158 ≤ d2) := by unfold xDay at hd2; omega
  have k1_1 : s0 1 1 = s0 1 1 := rfl
  refine x_iconst hx hb dX2_copyFrom_0 ?_
  refine lv_istore_n (lv' := [(2, .int (xJ 0)), (0, .ref (h0 + d)), (1, .ref (h0 + d2))]) hx hb dX2_copyFrom_1 rfl hl (by decide) rfl (fun ls hl => ?_)
  have L2 : ∀ (fu : Nat) (i2_2 : Int) (s_2 : xS) (H : Heap) (locs : List Loc) (ls : Array Slot), (xR i2_2) → (xFr (fun k => k = d ∨ k = d + 1 ∨ k = d + 2 ∨ k = d + 5 ∨ k = d + 6 ∨ k = d + 7 ∨ k = d + 8 ∨ k = d + 9) s0 s_2) → (IC s_2) → (s_2 1 1 = s0 1 1) → (0 ≤ i2_2) → (i2_2 ≤ 2) → (2 + 1 - i2_2).toNat < fu → xW D g h0 s H locs s_2 → lv_has ls 3 [(0, .ref (h0 + d)), (1, .ref (h0 + d2)), (2, .int (xJ i2_2))] → W p l e { frames := 0, cells := 0, slots := 0, locals := 0 } s m args below meth c H locs 0 0 Q (F0 m 2 ls []) := by
    intro fu
    induction fu with
    | zero => intro i2_2 s_2 H locs ls ri2_2 hF_2 q2_0 q2_1 v2_0 v2_1 hm; exact absurd hm (Nat.not_lt_zero _)
    | succ fu ih2 =>
      intro i2_2 s_2 H locs ls ri2_2 hF_2 q2_0 q2_1 v2_0 v2_1 hm hW hl
      refine x_iload_n hx hb hl 2 rfl dX2_copyFrom_2 rfl ?_
      refine x_iconst hx hb dX2_copyFrom_3 ?_
      refine x_icmp_ge (tgt := 49) hx hb ri2_2 (by decide) dX2_copyFrom_4 (by decide) (fun c1 => ?_) (fun c1 => ?_)
      · skip
        refine x_iconst hx hb dX2_copyFrom_49 ?_
        refine lv_istore_n (lv' := [(2, .int (xJ 0)), (0, .ref (h0 + d)), (1, .ref (h0 + d2))]) hx hb dX2_copyFrom_50 rfl hl (by decide) rfl (fun ls hl => ?_)
        have L51 : ∀ (fu : Nat) (i2_51 : Int) (s_51 : xS) (H : Heap) (locs : List Loc) (ls : Array Slot), (xR i2_51) → (xFr (fun k => k = d ∨ k = d + 1 ∨ k = d + 2 ∨ k = d + 5 ∨ k = d + 6 ∨ k = d + 7 ∨ k = d + 8 ∨ k = d + 9) s0 s_51) → (IC s_51) → (s_51 1 1 = s0 1 1) → (0 ≤ i2_51) → (i2_51 ≤ 10) → (10 + 1 - i2_51).toNat < fu → xW D g h0 s H locs s_51 → lv_has ls 3 [(0, .ref (h0 + d)), (1, .ref (h0 + d2)), (2, .int (xJ i2_51))] → W p l e { frames := 0, cells := 0, slots := 0, locals := 0 } s m args below meth c H locs 0 0 Q (F0 m 51 ls []) := by
          intro fu
          induction fu with
          | zero => intro i2_51 s_51 H locs ls ri2_51 hF_51 q51_0 q51_1 v51_0 v51_1 hm; exact absurd hm (Nat.not_lt_zero _)
          | succ fu ih51 =>
            intro i2_51 s_51 H locs ls ri2_51 hF_51 q51_0 q51_1 v51_0 v51_1 hm hW hl
            refine x_iload_n hx hb hl 2 rfl dX2_copyFrom_51 rfl ?_
            refine x_bipush hx hb dX2_copyFrom_52 (by decide) ?_
            refine x_icmp_ge (tgt := 111) hx hb ri2_51 (by decide) dX2_copyFrom_54 (by decide) (fun c2 => ?_) (fun c2 => ?_)
            · skip
              refine x_aload_n hx hb hl 0 rfl dX2_copyFrom_111 rfl ?_
              refine x_aload_n hx hb hl 1 rfl dX2_copyFrom_112 rfl ?_
              refine x_get (j := 7) (v := .int (xJ (s_51 d2 7))) hx hb hown hT hE hW cls_X2 (Or.inl (by omega)) (so_day0 h0 g hd2 _) (by decide) rfl wq401 dX2_copyFrom_113 ?_
              refine x_rd hW (fun x3 ex3 rx3 => ?_)
              have bx3 : 0 ≤ x3 ∧ x3 ≤ 9999 := by rw [ex3]; exact IC.m q51_0 hd2
              refine x_put (j := 7) hx hb hown hT hE hW cls_X2 (by omega) (fun σ => so_day0 h0 g hd σ) (by decide) (st_X2_7 h0 s_51 d x3) (ln_X2_7 h0 _ _) wq401 rfl rfl rfl rx3 dX2_copyFrom_116 (fun H locs s4 es4 hW => ?_)
              have q5 : IC s4 := by rw [es4]; exact IC_d hd q51_0 (by omega)
              have q6 : s4 1 1 = s0 1 1 := (show s4 1 1 = s_51 1 1 from by rw [es4, xU_k _ _ _ (by omega)]).trans q51_1
              have hF7 := hF_51.put es4 (by omega)
              refine x_aload_n hx hb hl 0 rfl dX2_copyFrom_119 rfl ?_
              refine x_aload_n hx hb hl 1 rfl dX2_copyFrom_120 rfl ?_
              refine x_get (j := 8) (v := .int (xJ (s4 d2 8))) hx hb hown hT hE hW cls_X2 (Or.inl (by omega)) (so_day0 h0 g hd2 _) (by decide) rfl wq404 dX2_copyFrom_121 ?_
              refine x_rd hW (fun x8 ex8 rx8 => ?_)
              have bx8 : 0 ≤ x8 ∧ x8 ≤ 65535 := by rw [ex8]; exact IC.x q5 hd2
              refine x_put (j := 8) hx hb hown hT hE hW cls_X2 (by omega) (fun σ => so_day0 h0 g hd σ) (by decide) (st_X2_8 h0 s4 d x8) (ln_X2_8 h0 _ _) wq404 rfl rfl rfl rx8 dX2_copyFrom_124 (fun H locs s9 es9 hW => ?_)
              have q10 : IC s9 := by rw [es9]; exact IC_d hd q5 (by omega)
              have q11 : s9 1 1 = s0 1 1 := (show s9 1 1 = s4 1 1 from by rw [es9, xU_k _ _ _ (by omega)]).trans q6
              have hF12 := hF7.put es9 (by omega)
              refine x_aload_n hx hb hl 0 rfl dX2_copyFrom_127 rfl ?_
              refine x_aload_n hx hb hl 1 rfl dX2_copyFrom_128 rfl ?_
              refine x_get (j := 9) (v := .int (xJ (s9 d2 9))) hx hb hown hT hE hW cls_X2 (Or.inl (by omega)) (so_day0 h0 g hd2 _) (by decide) rfl wq406 dX2_copyFrom_129 ?_
              refine x_rd hW (fun x13 ex13 rx13 => ?_)
              refine x_put (j := 9) hx hb hown hT hE hW cls_X2 (by omega) (fun σ => so_day0 h0 g hd σ) (by decide) (st_X2_9 h0 s9 d x13) (ln_X2_9 h0 _ _) wq406 rfl rfl rfl rx13 dX2_copyFrom_132 (fun H locs s14 es14 hW => ?_)
              have q15 : IC s14 := by rw [es14]; exact IC_d hd q10 (by omega)
              have q16 : s14 1 1 = s0 1 1 := (show s14 1 1 = s9 1 1 from by rw [es14, xU_k _ _ _ (by omega)]).trans q11
              have hF17 := hF12.put es14 (by omega)
              refine x_aload_n hx hb hl 0 rfl dX2_copyFrom_135 rfl ?_
              refine x_aload_n hx hb hl 1 rfl dX2_copyFrom_136 rfl ?_
              refine x_get (j := 10) (v := .int (xJ (s14 d2 10))) hx hb hown hT hE hW cls_X2 (Or.inl (by omega)) (so_day0 h0 g hd2 _) (by decide) rfl wq409 dX2_copyFrom_137 ?_
              refine x_rd hW (fun x18 ex18 rx18 => ?_)
              refine x_put (j := 10) hx hb hown hT hE hW cls_X2 (by omega) (fun σ => so_day0 h0 g hd σ) (by decide) (st_X2_10 h0 s14 d x18) (ln_X2_10 h0 _ _) wq409 rfl rfl rfl rx18 dX2_copyFrom_140 (fun H locs s19 es19 hW => ?_)
              have q20 : IC s19 := by rw [es19]; exact IC_d hd q15 (by omega)
              have q21 : s19 1 1 = s0 1 1 := (show s19 1 1 = s14 1 1 from by rw [es19, xU_k _ _ _ (by omega)]).trans q16
              have hF22 := hF17.put es19 (by omega)
              refine x_aload_n hx hb hl 0 rfl dX2_copyFrom_143 rfl ?_
              refine x_aload_n hx hb hl 1 rfl dX2_copyFrom_144 rfl ?_
              refine x_get (j := 11) (v := .int (xJ (s19 d2 11))) hx hb hown hT hE hW cls_X2 (Or.inl (by omega)) (so_day0 h0 g hd2 _) (by decide) rfl wq412 dX2_copyFrom_145 ?_
              refine x_rd hW (fun x23 ex23 rx23 => ?_)
              refine x_put (j := 11) hx hb hown hT hE hW cls_X2 (by omega) (fun σ => so_day0 h0 g hd σ) (by decide) (st_X2_11 h0 s19 d x23) (ln_X2_11 h0 _ _) wq412 rfl rfl rfl rx23 dX2_copyFrom_148 (fun H locs s24 es24 hW => ?_)
              have q25 : IC s24 := by rw [es24]; exact IC_d hd q20 (by omega)
              have q26 : s24 1 1 = s0 1 1 := (show s24 1 1 = s19 1 1 from by rw [es24, xU_k _ _ _ (by omega)]).trans q21
              have hF27 := hF22.put es24 (by omega)
              rw [eQ]
              exact x_vret hx hb hr hlk hW ⟨hF27, ⟨q25, trivial⟩, trivial⟩ dX2_copyFrom_151
            refine x_aload_n hx hb hl 0 rfl dX2_copyFrom_57 rfl ?_
            refine x_get (j := 3) (v := .ref (h0 + (d + 6))) hx hb hown hT hE hW cls_X2 (Or.inl (by omega)) (so_day0 h0 g hd _) (by decide) rfl wq388 dX2_copyFrom_58 ?_
            refine x_iload_n hx hb hl 2 rfl dX2_copyFrom_61 rfl ?_
            refine x_aload_n hx hb hl 1 rfl dX2_copyFrom_62 rfl ?_
            refine x_get (j := 3) (v := .ref (h0 + (d2 + 6))) hx hb hown hT hE hW cls_X2 (Or.inl (by omega)) (so_day0 h0 g hd2 _) (by decide) rfl wq388 dX2_copyFrom_63 ?_
            refine x_iload_n hx hb hl 2 rfl dX2_copyFrom_66 rfl ?_
            refine x_iald hx hb hE hW (Or.inl (by omega)) (sa_day6 h0 g hd2 _) (by omega) (by decide) dX2_copyFrom_67 ?_
            refine x_rd hW (fun x28 ex28 rx28 => ?_)
            refine x_iast hx hb hE hW (by omega) (fun σ => sa_day6 h0 g hd σ) (by omega) (by decide) rx28 dX2_copyFrom_68 (fun H locs s29 es29 hW => ?_)
            have q30 : IC s29 := by rw [es29]; exact IC_o (nsC_d hd (by decide)) q51_0
            have q31 : s29 1 1 = s0 1 1 := (show s29 1 1 = s_51 1 1 from by rw [es29, xU_k _ _ _ (by omega)]).trans q51_1
            have hF32 := hF_51.put es29 (by omega)
            refine x_aload_n hx hb hl 0 rfl dX2_copyFrom_69 rfl ?_
            refine x_get (j := 4) (v := .ref (h0 + (d + 7))) hx hb hown hT hE hW cls_X2 (Or.inl (by omega)) (so_day0 h0 g hd _) (by decide) rfl wq392 dX2_copyFrom_70 ?_
            refine x_iload_n hx hb hl 2 rfl dX2_copyFrom_73 rfl ?_
            refine x_aload_n hx hb hl 1 rfl dX2_copyFrom_74 rfl ?_
            refine x_get (j := 4) (v := .ref (h0 + (d2 + 7))) hx hb hown hT hE hW cls_X2 (Or.inl (by omega)) (so_day0 h0 g hd2 _) (by decide) rfl wq392 dX2_copyFrom_75 ?_
            refine x_iload_n hx hb hl 2 rfl dX2_copyFrom_78 rfl ?_
            refine x_iald hx hb hE hW (Or.inl (by omega)) (sa_day7 h0 g hd2 _) (by omega) (by decide) dX2_copyFrom_79 ?_
            refine x_rd hW (fun x33 ex33 rx33 => ?_)
            refine x_iast hx hb hE hW (by omega) (fun σ => sa_day7 h0 g hd σ) (by omega) (by decide) rx33 dX2_copyFrom_80 (fun H locs s34 es34 hW => ?_)
            have q35 : IC s34 := by rw [es34]; exact IC_o (nsC_d hd (by decide)) q30
            have q36 : s34 1 1 = s0 1 1 := (show s34 1 1 = s29 1 1 from by rw [es34, xU_k _ _ _ (by omega)]).trans q31
            have hF37 := hF32.put es34 (by omega)
            refine x_aload_n hx hb hl 0 rfl dX2_copyFrom_81 rfl ?_
            refine x_get (j := 5) (v := .ref (h0 + (d + 8))) hx hb hown hT hE hW cls_X2 (Or.inl (by omega)) (so_day0 h0 g hd _) (by decide) rfl wq395 dX2_copyFrom_82 ?_
            refine x_iload_n hx hb hl 2 rfl dX2_copyFrom_85 rfl ?_
            refine x_aload_n hx hb hl 1 rfl dX2_copyFrom_86 rfl ?_
            refine x_get (j := 5) (v := .ref (h0 + (d2 + 8))) hx hb hown hT hE hW cls_X2 (Or.inl (by omega)) (so_day0 h0 g hd2 _) (by decide) rfl wq395 dX2_copyFrom_87 ?_
            refine x_iload_n hx hb hl 2 rfl dX2_copyFrom_90 rfl ?_
            refine x_iald hx hb hE hW (Or.inl (by omega)) (sa_day8 h0 g hd2 _) (by omega) (by decide) dX2_copyFrom_91 ?_
            refine x_rd hW (fun x38 ex38 rx38 => ?_)
            refine x_iast hx hb hE hW (by omega) (fun σ => sa_day8 h0 g hd σ) (by omega) (by decide) rx38 dX2_copyFrom_92 (fun H locs s39 es39 hW => ?_)
            have q40 : IC s39 := by rw [es39]; exact IC_o (nsC_d hd (by decide)) q35
            have q41 : s39 1 1 = s0 1 1 := (show s39 1 1 = s34 1 1 from by rw [es39, xU_k _ _ _ (by omega)]).trans q36
            have hF42 := hF37.put es39 (by omega)
            refine x_aload_n hx hb hl 0 rfl dX2_copyFrom_93 rfl ?_
            refine x_get (j := 6) (v := .ref (h0 + (d + 9))) hx hb hown hT hE hW cls_X2 (Or.inl (by omega)) (so_day0 h0 g hd _) (by decide) rfl wq398 dX2_copyFrom_94 ?_
            refine x_iload_n hx hb hl 2 rfl dX2_copyFrom_97 rfl ?_
            refine x_aload_n hx hb hl 1 rfl dX2_copyFrom_98 rfl ?_
            refine x_get (j := 6) (v := .ref (h0 + (d2 + 9))) hx hb hown hT hE hW cls_X2 (Or.inl (by omega)) (so_day0 h0 g hd2 _) (by decide) rfl wq398 dX2_copyFrom_99 ?_
            refine x_iload_n hx hb hl 2 rfl dX2_copyFrom_102 rfl ?_
            refine x_zald hx hb hE hW (Or.inl (by omega)) (sa_day9 h0 g hd2 _) (by omega) (by decide) dX2_copyFrom_103 ?_
            refine x_rd hW (fun x43 ex43 rx43 => ?_)
            have bx43 : x43 = 0 ∨ x43 = 1 := by rw [ex43]; exact IC.b q40 hd2 _ (by omega) (by omega)
            refine x_zast hx hb hE hW (by omega) (fun σ => sa_day9 h0 g hd σ) (by omega) (by decide) (by omega) dX2_copyFrom_104 (fun H locs s44 es44 hW => ?_)
            have q45 : IC s44 := by rw [es44]; exact IC_z hd q40 (by omega)
            have q46 : s44 1 1 = s0 1 1 := (show s44 1 1 = s39 1 1 from by rw [es44, xU_k _ _ _ (by omega)]).trans q41
            have hF47 := hF42.put es44 (by omega)
            refine x_iinc (lv' := [(2, .int (xJ (i2_51 + 1))), (0, .ref (h0 + d)), (1, .ref (h0 + d2))]) hx hb hl 2 rfl dX2_copyFrom_105 (by decide) rfl (fun ls hl => ?_)
            refine lv_goto (tgt := 51) hx hb dX2_copyFrom_108 (by decide) ?_
            exact ih51 (i2_51 + 1) s44 H locs ls (by omega) hF47 q45 q46 (by omega) (by omega) (by omega) hW (lv_sub hl [1, 2, 0] rfl)
        exact L51 ((10 + 1 - 0 : Int).toNat + 1) 0 s_2 H locs ls (by decide) hF_2 q2_0 q2_1 (by omega) (by omega) (Nat.lt_succ_self _) hW (lv_sub hl [1, 2, 0] rfl)
      refine x_aload_n hx hb hl 0 rfl dX2_copyFrom_7 rfl ?_
      refine x_get (j := 0) (v := .ref (h0 + (d + 1))) hx hb hown hT hE hW cls_X2 (Or.inl (by omega)) (so_day0 h0 g hd _) (by decide) rfl wq383 dX2_copyFrom_8 ?_
      refine x_iload_n hx hb hl 2 rfl dX2_copyFrom_11 rfl ?_
      refine x_aload_n hx hb hl 1 rfl dX2_copyFrom_12 rfl ?_
      refine x_get (j := 0) (v := .ref (h0 + (d2 + 1))) hx hb hown hT hE hW cls_X2 (Or.inl (by omega)) (so_day0 h0 g hd2 _) (by decide) rfl wq383 dX2_copyFrom_13 ?_
      refine x_iload_n hx hb hl 2 rfl dX2_copyFrom_16 rfl ?_
      refine x_iald hx hb hE hW (Or.inl (by omega)) (sa_day1 h0 g hd2 _) (by omega) (by decide) dX2_copyFrom_17 ?_
      refine x_rd hW (fun x48 ex48 rx48 => ?_)
      refine x_iast hx hb hE hW (by omega) (fun σ => sa_day1 h0 g hd σ) (by omega) (by decide) rx48 dX2_copyFrom_18 (fun H locs s49 es49 hW => ?_)
      have q50 : IC s49 := by rw [es49]; exact IC_o (nsC_d hd (by decide)) q2_0
      have q51 : s49 1 1 = s0 1 1 := (show s49 1 1 = s_2 1 1 from by rw [es49, xU_k _ _ _ (by omega)]).trans q2_1
      have hF52 := hF_2.put es49 (by omega)
      refine x_aload_n hx hb hl 0 rfl dX2_copyFrom_19 rfl ?_
      refine x_get (j := 1) (v := .ref (h0 + (d + 2))) hx hb hown hT hE hW cls_X2 (Or.inl (by omega)) (so_day0 h0 g hd _) (by decide) rfl wq386 dX2_copyFrom_20 ?_
      refine x_iload_n hx hb hl 2 rfl dX2_copyFrom_23 rfl ?_
      refine x_aload_n hx hb hl 1 rfl dX2_copyFrom_24 rfl ?_
      refine x_get (j := 1) (v := .ref (h0 + (d2 + 2))) hx hb hown hT hE hW cls_X2 (Or.inl (by omega)) (so_day0 h0 g hd2 _) (by decide) rfl wq386 dX2_copyFrom_25 ?_
      refine x_iload_n hx hb hl 2 rfl dX2_copyFrom_28 rfl ?_
      refine x_aaldR (t0 := 3) (n := 2) (r := (s49 (d2 + 2) i2_2).toNat) hx hb hE hW (by omega) rfl rfl (sg_day2 h0 g hd2 _) (by omega) (by decide) (by rw [xrow_day hd2, Int.toNat_of_nonneg (by omega)]) dX2_copyFrom_29 ?_
      obtain ⟨v53, ev53, rv53⟩ : ∃ v : Int, v = s49 (d2 + 2) i2_2 ∧ xR v := ⟨_, rfl, hW.2.1 _ _⟩
      have zv53 : (xlen s49 v53.toNat : Int) = xlen s49 (s49 (d2 + 2) i2_2).toNat := by rw [ev53]
      have yv53 := xlen_le hW.2.1 v53.toNat
      rw [← ev53]
      refine x_aastR (v := v53) hx hb hE hW (by omega) (fun σ => sg_day2 h0 g hd σ) (xrow_day hd) (by omega) (by decide) (by rw [ev53]; exact IC.w q50 hd2 _ (by omega) (by omega)) rv53 dX2_copyFrom_30 (fun H locs s54 es54 hW => ?_)
      have q55 : IC s54 := by rw [es54]; exact IC_w hd q50 (by rw [ev53]; exact IC.w q50 hd2 _ (by omega) (by omega))
      have q56 : s54 1 1 = s0 1 1 := (show s54 1 1 = s49 1 1 from by rw [es54, xU_k _ _ _ (by omega)]).trans q51
      have hF57 := hF52.put es54 (by omega)
      refine x_aload_n hx hb hl 0 rfl dX2_copyFrom_31 rfl ?_
      refine x_get (j := 2) (v := .ref (h0 + (d + 5))) hx hb hown hT hE hW cls_X2 (Or.inl (by omega)) (so_day0 h0 g hd _) (by decide) rfl wq387 dX2_copyFrom_32 ?_
      refine x_iload_n hx hb hl 2 rfl dX2_copyFrom_35 rfl ?_
      refine x_aload_n hx hb hl 1 rfl dX2_copyFrom_36 rfl ?_
      refine x_get (j := 2) (v := .ref (h0 + (d2 + 5))) hx hb hown hT hE hW cls_X2 (Or.inl (by omega)) (so_day0 h0 g hd2 _) (by decide) rfl wq387 dX2_copyFrom_37 ?_
      refine x_iload_n hx hb hl 2 rfl dX2_copyFrom_40 rfl ?_
      refine x_iald hx hb hE hW (Or.inl (by omega)) (sa_day5 h0 g hd2 _) (by omega) (by decide) dX2_copyFrom_41 ?_
      refine x_rd hW (fun x58 ex58 rx58 => ?_)
      have bx58 : 0 ≤ x58 := by rw [ex58]; exact IC.p q55 hd2 _ (by omega) (by omega)
      refine x_iast hx hb hE hW (by omega) (fun σ => sa_day5 h0 g hd σ) (by omega) (by decide) rx58 dX2_copyFrom_42 (fun H locs s59 es59 hW => ?_)
      have q60 : IC s59 := by rw [es59]; exact IC_p hd q55 (by omega)
      have q61 : s59 1 1 = s0 1 1 := (show s59 1 1 = s54 1 1 from by rw [es59, xU_k _ _ _ (by omega)]).trans q56
      have hF62 := hF57.put es59 (by omega)
      refine x_iinc (lv' := [(2, .int (xJ (i2_2 + 1))), (0, .ref (h0 + d)), (1, .ref (h0 + d2))]) hx hb hl 2 rfl dX2_copyFrom_43 (by decide) rfl (fun ls hl => ?_)
      refine lv_goto (tgt := 2) hx hb dX2_copyFrom_46 (by decide) ?_
      exact ih2 (i2_2 + 1) s59 H locs ls (by omega) hF62 q60 q61 (by omega) (by omega) (by omega) hW (lv_sub hl [1, 2, 0] rfl)
  exact L2 ((2 + 1 - 0 : Int).toNat + 1) 0 s0 H locs ls (by decide) hF p0 k1_1 (by omega) (by omega) (Nat.lt_succ_self _) hW (lv_sub hl [1, 2, 0] rfl)
set_option maxHeartbeats 4000000 in
set_option maxRecDepth 100000 in
theorem c_X2_clearCounts (l : Launch) (D : va_G) (g : xG) (T : Nat × Nat × Nat) (h0 : Nat) (s0 : xS) (hσ : xRR s0) (d : Nat) (hd : xDay d) (p0 : IC s0) : Met l yX2_clearCounts (xws yX2_clearCounts cX2_clearCounts 1 none) { frames := 0, cells := 0, slots := 0, locals := 0 } (xP [.ref (h0 + d)] D g T h0 s0) (xQv D g h0 (fun τ => xFr (fun k => k = d) s0 τ ∧ (((IC τ) ∧ (τ d 7 = s0 d 7) ∧ True) ∧ (True)))) 0 0 (xA h0) := by
  refine x_met hσ (by decide) (Nat.le_of_ble_eq_true rfl) ?_
  intro p e s m args below meth c hx hb hr hml hown hT hlk hnm hE hW ls hl
  have hl : lv_has ls 1 [(0, .ref (h0 + d))] := hl
  obtain ⟨Q, eQ⟩ : ∃ Q, Q = MQ below (xQv D g h0 (fun τ => xFr (fun k => k = d) s0 τ ∧ (((IC τ) ∧ (τ d 7 = s0 d 7) ∧ True) ∧ (True)))) args s 0 0 (xA h0) := ⟨_, rfl⟩
  rw [← eQ]
  generalize hHe : ([] : List Loc) = locs at hW ⊢
  obtain ⟨H, eH⟩ : ∃ H, H = s.heap := ⟨_, rfl⟩
  rw [← eH] at hW ⊢
  have hF : xFr (fun k => k = d) s0 s0 := xFr.rf
  have hbd : (136 ≤ d ∧ d < 209) ∧ (d ≤ 146 ∨ 158 ≤ d) := by unfold xDay at hd; omega
  have k1_1 : s0 1 1 = s0 1 1 := rfl
  have kd_7 : s0 d 7 = s0 d 7 := rfl
  refine x_aload_n hx hb hl 0 rfl dX2_clearCounts_0 rfl ?_
  refine x_iconst hx hb dX2_clearCounts_1 ?_
  refine x_put (j := 9) hx hb hown hT hE hW cls_X2 (by omega) (fun σ => so_day0 h0 g hd σ) (by decide) (st_X2_9 h0 s0 d 0) (ln_X2_9 h0 _ _) wq406 rfl rfl rfl (by decide) dX2_clearCounts_2 (fun H locs s1 es1 hW => ?_)
  have q2 : IC s1 := by rw [es1]; exact IC_d hd p0 (by omega)
  have q3 : s1 1 1 = s0 1 1 := (show s1 1 1 = s0 1 1 from by rw [es1, xU_k _ _ _ (by omega)]).trans k1_1
  have q4 : s1 d 7 = s0 d 7 := (show s1 d 7 = s0 d 7 from by rw [es1, xU_j _ _ (by decide)]).trans kd_7
  have hF5 := hF.put es1 (by omega)
  refine x_aload_n hx hb hl 0 rfl dX2_clearCounts_5 rfl ?_
  refine x_iconst hx hb dX2_clearCounts_6 ?_
  refine x_put (j := 10) hx hb hown hT hE hW cls_X2 (by omega) (fun σ => so_day0 h0 g hd σ) (by decide) (st_X2_10 h0 s1 d 0) (ln_X2_10 h0 _ _) wq409 rfl rfl rfl (by decide) dX2_clearCounts_7 (fun H locs s6 es6 hW => ?_)
  have q7 : IC s6 := by rw [es6]; exact IC_d hd q2 (by omega)
  have q8 : s6 1 1 = s0 1 1 := (show s6 1 1 = s1 1 1 from by rw [es6, xU_k _ _ _ (by omega)]).trans q3
  have q9 : s6 d 7 = s0 d 7 := (show s6 d 7 = s1 d 7 from by rw [es6, xU_j _ _ (by decide)]).trans q4
  have hF10 := hF5.put es6 (by omega)
  refine x_aload_n hx hb hl 0 rfl dX2_clearCounts_10 rfl ?_
  refine x_iconst hx hb dX2_clearCounts_11 ?_
  refine x_put (j := 11) hx hb hown hT hE hW cls_X2 (by omega) (fun σ => so_day0 h0 g hd σ) (by decide) (st_X2_11 h0 s6 d 0) (ln_X2_11 h0 _ _) wq412 rfl rfl rfl (by decide) dX2_clearCounts_12 (fun H locs s11 es11 hW => ?_)
  have q12 : IC s11 := by rw [es11]; exact IC_d hd q7 (by omega)
  have q13 : s11 1 1 = s0 1 1 := (show s11 1 1 = s6 1 1 from by rw [es11, xU_k _ _ _ (by omega)]).trans q8
  have q14 : s11 d 7 = s0 d 7 := (show s11 d 7 = s6 d 7 from by rw [es11, xU_j _ _ (by decide)]).trans q9
  have hF15 := hF10.put es11 (by omega)
  rw [eQ]
  exact x_vret hx hb hr hlk hW ⟨hF15, ⟨q12, q14, trivial⟩, trivial⟩ dX2_clearCounts_15
set_option maxHeartbeats 4000000 in
set_option maxRecDepth 100000 in
theorem c_X2_setWalk (l : Launch) (D : va_G) (g : xG) (T : Nat × Nat × Nat) (h0 : Nat) (s0 : xS) (hσ : xRR s0) (d : Nat) (hd : xDay d) (j : Int) (rj : xR j) (v : Int) (rv : xR v) (hv : xAr s0 v.toNat) (p0 : IC s0) : Met l yX2_setWalk (xws yX2_setWalk cX2_setWalk 3 none) { frames := 0, cells := 0, slots := 0, locals := 0 } (xP [.ref (h0 + d), .int (xJ j), .ref (h0 + v.toNat)] D g T h0 s0) (xQv D g h0 (fun τ => xFr (fun k => k = d + 2 ∨ k = d + 5) s0 τ ∧ (((IC τ) ∧ True) ∧ (True)))) 0 0 (xA h0) := by
  refine x_met hσ (by decide) (Nat.le_of_ble_eq_true rfl) ?_
  intro p e s m args below meth c hx hb hr hml hown hT hlk hnm hE hW ls hl
  have hl : lv_has ls 3 [(0, .ref (h0 + d)), (1, .int (xJ j)), (2, .ref (h0 + v.toNat))] := hl
  obtain ⟨Q, eQ⟩ : ∃ Q, Q = MQ below (xQv D g h0 (fun τ => xFr (fun k => k = d + 2 ∨ k = d + 5) s0 τ ∧ (((IC τ) ∧ True) ∧ (True)))) args s 0 0 (xA h0) := ⟨_, rfl⟩
  rw [← eQ]
  generalize hHe : ([] : List Loc) = locs at hW ⊢
  obtain ⟨H, eH⟩ : ∃ H, H = s.heap := ⟨_, rfl⟩
  rw [← eH] at hW ⊢
  have hF : xFr (fun k => k = d + 2 ∨ k = d + 5) s0 s0 := xFr.rf
  have hbd : (136 ≤ d ∧ d < 209) ∧ (d ≤ 146 ∨ 158 ≤ d) := by unfold xDay at hd; omega
  have k1_1 : s0 1 1 = s0 1 1 := rfl
  have kd_7 : s0 d 7 = s0 d 7 := rfl
  refine x_iload_n hx hb hl 1 rfl dX2_setWalk_0 rfl ?_
  refine x_if_lt (tgt := 27) hx hb rj dX2_setWalk_1 (by decide) (fun c1 => ?_) (fun c1 => ?_)
  · skip
    rw [eQ]
    exact x_vret hx hb hr hlk hW ⟨hF, ⟨p0, trivial⟩, trivial⟩ dX2_setWalk_27
  refine x_iload_n hx hb hl 1 rfl dX2_setWalk_4 rfl ?_
  refine x_iconst hx hb dX2_setWalk_5 ?_
  refine x_icmp_ge (tgt := 27) hx hb rj (by decide) dX2_setWalk_6 (by decide) (fun c2 => ?_) (fun c2 => ?_)
  · skip
    rw [eQ]
    exact x_vret hx hb hr hlk hW ⟨hF, ⟨p0, trivial⟩, trivial⟩ dX2_setWalk_27
  refine x_aload_n hx hb hl 2 rfl dX2_setWalk_9 rfl ?_
  refine lv_ifnull hx hb dX2_setWalk_10 ?_
  refine x_aload_n hx hb hl 0 rfl dX2_setWalk_13 rfl ?_
  refine x_get (j := 1) (v := .ref (h0 + (d + 2))) hx hb hown hT hE hW cls_X2 (Or.inl (by omega)) (so_day0 h0 g hd _) (by decide) rfl wq386 dX2_setWalk_14 ?_
  refine x_iload_n hx hb hl 1 rfl dX2_setWalk_17 rfl ?_
  refine x_aload_n hx hb hl 2 rfl dX2_setWalk_18 rfl ?_
  refine x_aastR (v := v) hx hb hE hW (by omega) (fun σ => sg_day2 h0 g hd σ) (xrow_day hd) (by omega) (by decide) (hv) rv dX2_setWalk_19 (fun H locs s3 es3 hW => ?_)
  have q4 : IC s3 := by rw [es3]; exact IC_w hd p0 (hv)
  have q5 : s3 1 1 = s0 1 1 := (show s3 1 1 = s0 1 1 from by rw [es3, xU_k _ _ _ (by omega)]).trans k1_1
  have q6 : s3 d 7 = s0 d 7 := (show s3 d 7 = s0 d 7 from by rw [es3, xU_k _ _ _ (by omega)]).trans kd_7
  have hF7 := hF.put es3 (by omega)
  refine x_aload_n hx hb hl 0 rfl dX2_setWalk_20 rfl ?_
  refine x_get (j := 2) (v := .ref (h0 + (d + 5))) hx hb hown hT hE hW cls_X2 (Or.inl (by omega)) (so_day0 h0 g hd _) (by decide) rfl wq387 dX2_setWalk_21 ?_
  refine x_iload_n hx hb hl 1 rfl dX2_setWalk_24 rfl ?_
  refine x_iconst hx hb dX2_setWalk_25 ?_
  refine x_iast hx hb hE hW (by omega) (fun σ => sa_day5 h0 g hd σ) (by omega) (by decide) (by decide) dX2_setWalk_26 (fun H locs s8 es8 hW => ?_)
  have q9 : IC s8 := by rw [es8]; exact IC_p hd q4 (by omega)
  have q10 : s8 1 1 = s0 1 1 := (show s8 1 1 = s3 1 1 from by rw [es8, xU_k _ _ _ (by omega)]).trans q5
  have q11 : s8 d 7 = s0 d 7 := (show s8 d 7 = s3 d 7 from by rw [es8, xU_k _ _ _ (by omega)]).trans q6
  have hF12 := hF7.put es8 (by omega)
  rw [eQ]
  exact x_vret hx hb hr hlk hW ⟨hF12, ⟨q9, trivial⟩, trivial⟩ dX2_setWalk_27
set_option maxHeartbeats 4000000 in
set_option maxRecDepth 100000 in
theorem c_X2_setFelon (l : Launch) (D : va_G) (g : xG) (T : Nat × Nat × Nat) (h0 : Nat) (s0 : xS) (hσ : xRR s0) (d : Nat) (hd : xDay d) (f : Int) (rf : xR f) (x : Int) (rx : xR x) (w : Int) (rw : xR w) (p0 : IC s0) : Met l yX2_setFelon (xws yX2_setFelon cX2_setFelon 4 none) { frames := 0, cells := 0, slots := 0, locals := 0 } (xP [.ref (h0 + d), .int (xJ f), .int (xJ x), .int (xJ w)] D g T h0 s0) (xQv D g h0 (fun τ => xFr (fun k => k = d + 6 ∨ k = d + 7 ∨ k = d + 8 ∨ k = d + 9) s0 τ ∧ (((IC τ) ∧ True) ∧ (True)))) 0 0 (xA h0) := by
  refine x_met hσ (by decide) (Nat.le_of_ble_eq_true rfl) ?_
  intro p e s m args below meth c hx hb hr hml hown hT hlk hnm hE hW ls hl
  have hl : lv_has ls 4 [(0, .ref (h0 + d)), (1, .int (xJ f)), (2, .int (xJ x)), (3, .int (xJ w))] := hl
  obtain ⟨Q, eQ⟩ : ∃ Q, Q = MQ below (xQv D g h0 (fun τ => xFr (fun k => k = d + 6 ∨ k = d + 7 ∨ k = d + 8 ∨ k = d + 9) s0 τ ∧ (((IC τ) ∧ True) ∧ (True)))) args s 0 0 (xA h0) := ⟨_, rfl⟩
  rw [← eQ]
  generalize hHe : ([] : List Loc) = locs at hW ⊢
  obtain ⟨H, eH⟩ : ∃ H, H = s.heap := ⟨_, rfl⟩
  rw [← eH] at hW ⊢
  have hF : xFr (fun k => k = d + 6 ∨ k = d + 7 ∨ k = d + 8 ∨ k = d + 9) s0 s0 := xFr.rf
  have hbd : (136 ≤ d ∧ d < 209) ∧ (d ≤ 146 ∨ 158 ≤ d) := by unfold xDay at hd; omega
  have k1_1 : s0 1 1 = s0 1 1 := rfl
  have kd_7 : s0 d 7 = s0 d 7 := rfl
  refine x_iload_n hx hb hl 1 rfl dX2_setFelon_0 rfl ?_
  refine x_if_lt (tgt := 38) hx hb rf dX2_setFelon_1 (by decide) (fun c1 => ?_) (fun c1 => ?_)
  · skip
    rw [eQ]
    exact x_vret hx hb hr hlk hW ⟨hF, ⟨p0, trivial⟩, trivial⟩ dX2_setFelon_38
  refine x_iload_n hx hb hl 1 rfl dX2_setFelon_4 rfl ?_
  refine x_bipush hx hb dX2_setFelon_5 (by decide) ?_
  refine x_icmp_ge (tgt := 38) hx hb rf (by decide) dX2_setFelon_7 (by decide) (fun c2 => ?_) (fun c2 => ?_)
  · skip
    rw [eQ]
    exact x_vret hx hb hr hlk hW ⟨hF, ⟨p0, trivial⟩, trivial⟩ dX2_setFelon_38
  refine x_aload_n hx hb hl 0 rfl dX2_setFelon_10 rfl ?_
  refine x_get (j := 3) (v := .ref (h0 + (d + 6))) hx hb hown hT hE hW cls_X2 (Or.inl (by omega)) (so_day0 h0 g hd _) (by decide) rfl wq388 dX2_setFelon_11 ?_
  refine x_iload_n hx hb hl 1 rfl dX2_setFelon_14 rfl ?_
  refine x_iload_n hx hb hl 2 rfl dX2_setFelon_15 rfl ?_
  refine x_iast hx hb hE hW (by omega) (fun σ => sa_day6 h0 g hd σ) (by omega) (by decide) rx dX2_setFelon_16 (fun H locs s3 es3 hW => ?_)
  have q4 : IC s3 := by rw [es3]; exact IC_o (nsC_d hd (by decide)) p0
  have q5 : s3 1 1 = s0 1 1 := (show s3 1 1 = s0 1 1 from by rw [es3, xU_k _ _ _ (by omega)]).trans k1_1
  have q6 : s3 d 7 = s0 d 7 := (show s3 d 7 = s0 d 7 from by rw [es3, xU_k _ _ _ (by omega)]).trans kd_7
  have hF7 := hF.put es3 (by omega)
  refine x_aload_n hx hb hl 0 rfl dX2_setFelon_17 rfl ?_
  refine x_get (j := 4) (v := .ref (h0 + (d + 7))) hx hb hown hT hE hW cls_X2 (Or.inl (by omega)) (so_day0 h0 g hd _) (by decide) rfl wq392 dX2_setFelon_18 ?_
  refine x_iload_n hx hb hl 1 rfl dX2_setFelon_21 rfl ?_
  refine x_iload_n hx hb hl 3 rfl dX2_setFelon_22 rfl ?_
  refine x_iast hx hb hE hW (by omega) (fun σ => sa_day7 h0 g hd σ) (by omega) (by decide) rw dX2_setFelon_23 (fun H locs s8 es8 hW => ?_)
  have q9 : IC s8 := by rw [es8]; exact IC_o (nsC_d hd (by decide)) q4
  have q10 : s8 1 1 = s0 1 1 := (show s8 1 1 = s3 1 1 from by rw [es8, xU_k _ _ _ (by omega)]).trans q5
  have q11 : s8 d 7 = s0 d 7 := (show s8 d 7 = s3 d 7 from by rw [es8, xU_k _ _ _ (by omega)]).trans q6
  have hF12 := hF7.put es8 (by omega)
  refine x_aload_n hx hb hl 0 rfl dX2_setFelon_24 rfl ?_
  refine x_get (j := 5) (v := .ref (h0 + (d + 8))) hx hb hown hT hE hW cls_X2 (Or.inl (by omega)) (so_day0 h0 g hd _) (by decide) rfl wq395 dX2_setFelon_25 ?_
  refine x_iload_n hx hb hl 1 rfl dX2_setFelon_28 rfl ?_
  refine x_iconst hx hb dX2_setFelon_29 ?_
  refine x_iast hx hb hE hW (by omega) (fun σ => sa_day8 h0 g hd σ) (by omega) (by decide) (by decide) dX2_setFelon_30 (fun H locs s13 es13 hW => ?_)
  have q14 : IC s13 := by rw [es13]; exact IC_o (nsC_d hd (by decide)) q9
  have q15 : s13 1 1 = s0 1 1 := (show s13 1 1 = s8 1 1 from by rw [es13, xU_k _ _ _ (by omega)]).trans q10
  have q16 : s13 d 7 = s0 d 7 := (show s13 d 7 = s8 d 7 from by rw [es13, xU_k _ _ _ (by omega)]).trans q11
  have hF17 := hF12.put es13 (by omega)
  refine x_aload_n hx hb hl 0 rfl dX2_setFelon_31 rfl ?_
  refine x_get (j := 6) (v := .ref (h0 + (d + 9))) hx hb hown hT hE hW cls_X2 (Or.inl (by omega)) (so_day0 h0 g hd _) (by decide) rfl wq398 dX2_setFelon_32 ?_
  refine x_iload_n hx hb hl 1 rfl dX2_setFelon_35 rfl ?_
  refine x_iconst hx hb dX2_setFelon_36 ?_
  refine x_zast hx hb hE hW (by omega) (fun σ => sa_day9 h0 g hd σ) (by omega) (by decide) (by omega) dX2_setFelon_37 (fun H locs s18 es18 hW => ?_)
  have q19 : IC s18 := by rw [es18]; exact IC_z hd q14 (by omega)
  have q20 : s18 1 1 = s0 1 1 := (show s18 1 1 = s13 1 1 from by rw [es18, xU_k _ _ _ (by omega)]).trans q15
  have q21 : s18 d 7 = s0 d 7 := (show s18 d 7 = s13 d 7 from by rw [es18, xU_k _ _ _ (by omega)]).trans q16
  have hF22 := hF17.put es18 (by omega)
  rw [eQ]
  exact x_vret hx hb hr hlk hW ⟨hF22, ⟨q19, trivial⟩, trivial⟩ dX2_setFelon_38
set_option maxHeartbeats 4000000 in
set_option maxRecDepth 100000 in
theorem c_X2_hasJudge (l : Launch) (D : va_G) (g : xG) (T : Nat × Nat × Nat) (h0 : Nat) (s0 : xS) (hσ : xRR s0) (d : Nat) (hd : xDay d) (j : Int) (rj : xR j) (p0 : IC s0) : Met l yX2_hasJudge (xws yX2_hasJudge cX2_hasJudge 2 (some .boolean)) { frames := 0, cells := 0, slots := 0, locals := 0 } (xP [.ref (h0 + d), .int (xJ j)] D g T h0 s0) (xQi D g h0 (fun r τ => s0 = τ ∧ (r = 0 ∨ (r = 1 ∧ 0 ≤ j ∧ j < 2)))) 0 0 (xA h0) := by
  refine x_met hσ (by decide) (Nat.le_of_ble_eq_true rfl) ?_
  intro p e s m args below meth c hx hb hr hml hown hT hlk hnm hE hW ls hl
  have hl : lv_has ls 2 [(0, .ref (h0 + d)), (1, .int (xJ j))] := hl
  obtain ⟨Q, eQ⟩ : ∃ Q, Q = MQ below (xQi D g h0 (fun r τ => s0 = τ ∧ (r = 0 ∨ (r = 1 ∧ 0 ≤ j ∧ j < 2)))) args s 0 0 (xA h0) := ⟨_, rfl⟩
  rw [← eQ]
  generalize hHe : ([] : List Loc) = locs at hW ⊢
  obtain ⟨H, eH⟩ : ∃ H, H = s.heap := ⟨_, rfl⟩
  rw [← eH] at hW ⊢
  have hbd : (136 ≤ d ∧ d < 209) ∧ (d ≤ 146 ∨ 158 ≤ d) := by unfold xDay at hd; omega
  have k1_1 : s0 1 1 = s0 1 1 := rfl
  refine x_iload_n hx hb hl 1 rfl dX2_hasJudge_0 rfl ?_
  refine x_if_lt (tgt := 23) hx hb rj dX2_hasJudge_1 (by decide) (fun c1 => ?_) (fun c1 => ?_)
  · skip
    refine x_iconst hx hb dX2_hasJudge_23 ?_
    rw [eQ]
    exact x_zret hx hb hr hlk hW (by omega) ⟨rfl, by omega⟩ dX2_hasJudge_24
  refine x_iload_n hx hb hl 1 rfl dX2_hasJudge_4 rfl ?_
  refine x_iconst hx hb dX2_hasJudge_5 ?_
  refine x_icmp_ge (tgt := 23) hx hb rj (by decide) dX2_hasJudge_6 (by decide) (fun c2 => ?_) (fun c2 => ?_)
  · skip
    refine x_iconst hx hb dX2_hasJudge_23 ?_
    rw [eQ]
    exact x_zret hx hb hr hlk hW (by omega) ⟨rfl, by omega⟩ dX2_hasJudge_24
  refine x_aload_n hx hb hl 0 rfl dX2_hasJudge_9 rfl ?_
  refine x_get (j := 0) (v := .ref (h0 + (d + 1))) hx hb hown hT hE hW cls_X2 (Or.inl (by omega)) (so_day0 h0 g hd _) (by decide) rfl wq383 dX2_hasJudge_10 ?_
  refine x_iload_n hx hb hl 1 rfl dX2_hasJudge_13 rfl ?_
  refine x_iald hx hb hE hW (Or.inl (by omega)) (sa_day1 h0 g hd _) (by omega) (by decide) dX2_hasJudge_14 ?_
  refine x_rd hW (fun x3 ex3 rx3 => ?_)
  refine x_iconst hx hb dX2_hasJudge_15 ?_
  refine x_icmp_eq (tgt := 23) hx hb rx3 (by decide) dX2_hasJudge_16 (by decide) (fun c4 => ?_) (fun c4 => ?_)
  · skip
    refine x_iconst hx hb dX2_hasJudge_23 ?_
    rw [eQ]
    exact x_zret hx hb hr hlk hW (by omega) ⟨rfl, by omega⟩ dX2_hasJudge_24
  refine x_iconst hx hb dX2_hasJudge_19 ?_
  refine lv_goto (tgt := 24) hx hb dX2_hasJudge_20 (by decide) ?_
  rw [eQ]
  exact x_zret hx hb hr hlk hW (by omega) ⟨rfl, by omega⟩ dX2_hasJudge_24
set_option maxHeartbeats 4000000 in
set_option maxRecDepth 100000 in
theorem c_X2_hasFelon (l : Launch) (D : va_G) (g : xG) (T : Nat × Nat × Nat) (h0 : Nat) (s0 : xS) (hσ : xRR s0) (d : Nat) (hd : xDay d) (f : Int) (rf : xR f) (p0 : IC s0) : Met l yX2_hasFelon (xws yX2_hasFelon cX2_hasFelon 2 (some .boolean)) { frames := 0, cells := 0, slots := 0, locals := 0 } (xP [.ref (h0 + d), .int (xJ f)] D g T h0 s0) (xQi D g h0 (fun r τ => s0 = τ ∧ (r = 0 ∨ (r = 1 ∧ 0 ≤ f ∧ f < 10)))) 0 0 (xA h0) := by
  refine x_met hσ (by decide) (Nat.le_of_ble_eq_true rfl) ?_
  intro p e s m args below meth c hx hb hr hml hown hT hlk hnm hE hW ls hl
  have hl : lv_has ls 2 [(0, .ref (h0 + d)), (1, .int (xJ f))] := hl
  obtain ⟨Q, eQ⟩ : ∃ Q, Q = MQ below (xQi D g h0 (fun r τ => s0 = τ ∧ (r = 0 ∨ (r = 1 ∧ 0 ≤ f ∧ f < 10)))) args s 0 0 (xA h0) := ⟨_, rfl⟩
  rw [← eQ]
  generalize hHe : ([] : List Loc) = locs at hW ⊢
  obtain ⟨H, eH⟩ : ∃ H, H = s.heap := ⟨_, rfl⟩
  rw [← eH] at hW ⊢
  have hbd : (136 ≤ d ∧ d < 209) ∧ (d ≤ 146 ∨ 158 ≤ d) := by unfold xDay at hd; omega
  have k1_1 : s0 1 1 = s0 1 1 := rfl
  refine x_iload_n hx hb hl 1 rfl dX2_hasFelon_0 rfl ?_
  refine x_if_lt (tgt := 24) hx hb rf dX2_hasFelon_1 (by decide) (fun c1 => ?_) (fun c1 => ?_)
  · skip
    refine x_iconst hx hb dX2_hasFelon_24 ?_
    rw [eQ]
    exact x_zret hx hb hr hlk hW (by omega) ⟨rfl, by omega⟩ dX2_hasFelon_25
  refine x_iload_n hx hb hl 1 rfl dX2_hasFelon_4 rfl ?_
  refine x_bipush hx hb dX2_hasFelon_5 (by decide) ?_
  refine x_icmp_ge (tgt := 24) hx hb rf (by decide) dX2_hasFelon_7 (by decide) (fun c2 => ?_) (fun c2 => ?_)
  · skip
    refine x_iconst hx hb dX2_hasFelon_24 ?_
    rw [eQ]
    exact x_zret hx hb hr hlk hW (by omega) ⟨rfl, by omega⟩ dX2_hasFelon_25
  refine x_aload_n hx hb hl 0 rfl dX2_hasFelon_10 rfl ?_
  refine x_get (j := 3) (v := .ref (h0 + (d + 6))) hx hb hown hT hE hW cls_X2 (Or.inl (by omega)) (so_day0 h0 g hd _) (by decide) rfl wq388 dX2_hasFelon_11 ?_
  refine x_iload_n hx hb hl 1 rfl dX2_hasFelon_14 rfl ?_
  refine x_iald hx hb hE hW (Or.inl (by omega)) (sa_day6 h0 g hd _) (by omega) (by decide) dX2_hasFelon_15 ?_
  refine x_rd hW (fun x3 ex3 rx3 => ?_)
  refine x_iconst hx hb dX2_hasFelon_16 ?_
  refine x_icmp_eq (tgt := 24) hx hb rx3 (by decide) dX2_hasFelon_17 (by decide) (fun c4 => ?_) (fun c4 => ?_)
  · skip
    refine x_iconst hx hb dX2_hasFelon_24 ?_
    rw [eQ]
    exact x_zret hx hb hr hlk hW (by omega) ⟨rfl, by omega⟩ dX2_hasFelon_25
  refine x_iconst hx hb dX2_hasFelon_20 ?_
  refine lv_goto (tgt := 25) hx hb dX2_hasFelon_21 (by decide) ?_
  rw [eQ]
  exact x_zret hx hb hr hlk hW (by omega) ⟨rfl, by omega⟩ dX2_hasFelon_25
set_option maxHeartbeats 4000000 in
set_option maxRecDepth 100000 in
theorem c_X2_mustServe (l : Launch) (D : va_G) (g : xG) (T : Nat × Nat × Nat) (h0 : Nat) (s0 : xS) (hσ : xRR s0) (d : Nat) (hd : xDay d) (f : Int) (rf : xR f) (p0 : IC s0) : Met l yX2_mustServe (xws yX2_mustServe cX2_mustServe 2 (some .boolean)) { frames := 1, cells := 0, slots := 0, locals := 21 } (xP [.ref (h0 + d), .int (xJ f)] D g T h0 s0) (xQi D g h0 (fun r τ => s0 = τ ∧ (r = 0 ∨ (r = 1 ∧ 0 ≤ f ∧ f < 10)))) 0 0 (xA h0) := by
  refine x_met hσ (by decide) (Nat.le_of_ble_eq_true rfl) ?_
  intro p e s m args below meth c hx hb hr hml hown hT hlk hnm hE hW ls hl
  have hl : lv_has ls 2 [(0, .ref (h0 + d)), (1, .int (xJ f))] := hl
  obtain ⟨Q, eQ⟩ : ∃ Q, Q = MQ below (xQi D g h0 (fun r τ => s0 = τ ∧ (r = 0 ∨ (r = 1 ∧ 0 ≤ f ∧ f < 10)))) args s 0 0 (xA h0) := ⟨_, rfl⟩
  rw [← eQ]
  generalize hHe : ([] : List Loc) = locs at hW ⊢
  obtain ⟨H, eH⟩ : ∃ H, H = s.heap := ⟨_, rfl⟩
  rw [← eH] at hW ⊢
  have hbd : (136 ≤ d ∧ d < 209) ∧ (d ≤ 146 ∨ 158 ≤ d) := by unfold xDay at hd; omega
  have k1_1 : s0 1 1 = s0 1 1 := rfl
  refine x_aload_n hx hb hl 0 rfl dX2_mustServe_0 rfl ?_
  refine x_iload_n hx hb hl 1 rfl dX2_mustServe_1 rfl ?_
  refine x_goi (x_runV (As := [.int (xJ f)]) hx hb hml hown hT hE hW hl.1 (Or.inl (by omega)) (so_day0 h0 g hd _) rfl cf_X2_hasFelon wq862 wq53 wq860 (c_X2_hasFelon l D g T h0 s0 hW.2.1 d hd f rf p0) ⟨rfl, rfl, ⟨by decide, by decide⟩, ⟨by decide, by decide⟩⟩ rfl rfl (Nat.le_of_ble_eq_true rfl) dX2_mustServe_2) hW (fun x1 s2 H locs rx1 hp3 hW => ?_)
  obtain ⟨es2, hp3⟩ := hp3
  subst es2
  have ghp3 := hp3
  refine x_if_eq (tgt := 30) hx hb rx1 dX2_mustServe_5 (by decide) (fun c4 => ?_) (fun c4 => ?_)
  · skip
    refine x_iconst hx hb dX2_mustServe_30 ?_
    rw [eQ]
    exact x_zret hx hb hr hlk hW (by omega) ⟨rfl, by omega⟩ dX2_mustServe_31
  refine x_aload_n hx hb hl 0 rfl dX2_mustServe_8 rfl ?_
  refine x_get (j := 4) (v := .ref (h0 + (d + 7))) hx hb hown hT hE hW cls_X2 (Or.inl (by omega)) (so_day0 h0 g hd _) (by decide) rfl wq392 dX2_mustServe_9 ?_
  refine x_iload_n hx hb hl 1 rfl dX2_mustServe_12 rfl ?_
  refine x_iald hx hb hE hW (Or.inl (by omega)) (sa_day7 h0 g hd _) (by omega) (by decide) dX2_mustServe_13 ?_
  refine x_rd hW (fun x5 ex5 rx5 => ?_)
  refine x_if_le (tgt := 30) hx hb rx5 dX2_mustServe_14 (by decide) (fun c6 => ?_) (fun c6 => ?_)
  · skip
    refine x_iconst hx hb dX2_mustServe_30 ?_
    rw [eQ]
    exact x_zret hx hb hr hlk hW (by omega) ⟨rfl, by omega⟩ dX2_mustServe_31
  refine x_aload_n hx hb hl 0 rfl dX2_mustServe_17 rfl ?_
  refine x_get (j := 6) (v := .ref (h0 + (d + 9))) hx hb hown hT hE hW cls_X2 (Or.inl (by omega)) (so_day0 h0 g hd _) (by decide) rfl wq398 dX2_mustServe_18 ?_
  refine x_iload_n hx hb hl 1 rfl dX2_mustServe_21 rfl ?_
  refine x_zald hx hb hE hW (Or.inl (by omega)) (sa_day9 h0 g hd _) (by omega) (by decide) dX2_mustServe_22 ?_
  refine x_rd hW (fun x7 ex7 rx7 => ?_)
  have bx7 : x7 = 0 ∨ x7 = 1 := by rw [ex7]; exact IC.b p0 hd _ (by omega) (by omega)
  refine x_if_ne (tgt := 30) hx hb rx7 dX2_mustServe_23 (by decide) (fun c8 => ?_) (fun c8 => ?_)
  · skip
    refine x_iconst hx hb dX2_mustServe_30 ?_
    rw [eQ]
    exact x_zret hx hb hr hlk hW (by omega) ⟨rfl, by omega⟩ dX2_mustServe_31
  refine x_iconst hx hb dX2_mustServe_26 ?_
  refine lv_goto (tgt := 31) hx hb dX2_mustServe_27 (by decide) ?_
  rw [eQ]
  exact x_zret hx hb hr hlk hW (by omega) ⟨rfl, by omega⟩ dX2_mustServe_31
set_option maxHeartbeats 4000000 in
set_option maxRecDepth 100000 in
theorem c_X2_stepsLeft (l : Launch) (D : va_G) (g : xG) (T : Nat × Nat × Nat) (h0 : Nat) (s0 : xS) (hσ : xRR s0) (d : Nat) (hd : xDay d) (j : Int) (rj : xR j) (p0 : IC s0) : Met l yX2_stepsLeft (xws yX2_stepsLeft cX2_stepsLeft 2 (some .int)) { frames := 0, cells := 0, slots := 0, locals := 0 } (xP [.ref (h0 + d), .int (xJ j)] D g T h0 s0) (xQi D g h0 (fun r τ => s0 = τ ∧ ((0 ≤ j ∧ j < 2 ∧ r = (xlen s0 (s0 (d + 2) j).toNat : Int) - s0 (d + 5) j) ∨ ((j < 0 ∨ 2 ≤ j) ∧ r = 0)))) 0 0 (xA h0) := by
  refine x_met hσ (by decide) (Nat.le_of_ble_eq_true rfl) ?_
  intro p e s m args below meth c hx hb hr hml hown hT hlk hnm hE hW ls hl
  have hl : lv_has ls 2 [(0, .ref (h0 + d)), (1, .int (xJ j))] := hl
  obtain ⟨Q, eQ⟩ : ∃ Q, Q = MQ below (xQi D g h0 (fun r τ => s0 = τ ∧ ((0 ≤ j ∧ j < 2 ∧ r = (xlen s0 (s0 (d + 2) j).toNat : Int) - s0 (d + 5) j) ∨ ((j < 0 ∨ 2 ≤ j) ∧ r = 0)))) args s 0 0 (xA h0) := ⟨_, rfl⟩
  rw [← eQ]
  generalize hHe : ([] : List Loc) = locs at hW ⊢
  obtain ⟨H, eH⟩ : ∃ H, H = s.heap := ⟨_, rfl⟩
  rw [← eH] at hW ⊢
  have hbd : (136 ≤ d ∧ d < 209) ∧ (d ≤ 146 ∨ 158 ≤ d) := by unfold xDay at hd; omega
  have k1_1 : s0 1 1 = s0 1 1 := rfl
  refine x_iload_n hx hb hl 1 rfl dX2_stepsLeft_0 rfl ?_
  refine x_if_lt (tgt := 26) hx hb rj dX2_stepsLeft_1 (by decide) (fun c1 => ?_) (fun c1 => ?_)
  · skip
    refine x_iconst hx hb dX2_stepsLeft_26 ?_
    rw [eQ]
    exact x_iret hx hb hr hlk hW (by decide) ⟨rfl, by omega⟩ dX2_stepsLeft_27
  refine x_iload_n hx hb hl 1 rfl dX2_stepsLeft_4 rfl ?_
  refine x_iconst hx hb dX2_stepsLeft_5 ?_
  refine x_icmp_ge (tgt := 26) hx hb rj (by decide) dX2_stepsLeft_6 (by decide) (fun c2 => ?_) (fun c2 => ?_)
  · skip
    refine x_iconst hx hb dX2_stepsLeft_26 ?_
    rw [eQ]
    exact x_iret hx hb hr hlk hW (by decide) ⟨rfl, by omega⟩ dX2_stepsLeft_27
  refine x_aload_n hx hb hl 0 rfl dX2_stepsLeft_9 rfl ?_
  refine x_get (j := 1) (v := .ref (h0 + (d + 2))) hx hb hown hT hE hW cls_X2 (Or.inl (by omega)) (so_day0 h0 g hd _) (by decide) rfl wq386 dX2_stepsLeft_10 ?_
  refine x_iload_n hx hb hl 1 rfl dX2_stepsLeft_13 rfl ?_
  refine x_aaldR (t0 := 3) (n := 2) (r := (s0 (d + 2) j).toNat) hx hb hE hW (by omega) rfl rfl (sg_day2 h0 g hd _) (by omega) (by decide) (by rw [xrow_day hd, Int.toNat_of_nonneg (by omega)]) dX2_stepsLeft_14 ?_
  obtain ⟨v3, ev3, rv3⟩ : ∃ v : Int, v = s0 (d + 2) j ∧ xR v := ⟨_, rfl, hW.2.1 _ _⟩
  have zv3 : (xlen s0 v3.toNat : Int) = xlen s0 (s0 (d + 2) j).toNat := by rw [ev3]
  have yv3 := xlen_le hW.2.1 v3.toNat
  rw [← ev3]
  refine x_alenW hx hb hE hW (by rw [ev3]; exact IC.w p0 hd _ (by omega) (by omega)) dX2_stepsLeft_15 (fun x4 ex4 bx4 => ?_)
  refine x_aload_n hx hb hl 0 rfl dX2_stepsLeft_16 rfl ?_
  refine x_get (j := 2) (v := .ref (h0 + (d + 5))) hx hb hown hT hE hW cls_X2 (Or.inl (by omega)) (so_day0 h0 g hd _) (by decide) rfl wq387 dX2_stepsLeft_17 ?_
  refine x_iload_n hx hb hl 1 rfl dX2_stepsLeft_20 rfl ?_
  refine x_iald hx hb hE hW (Or.inl (by omega)) (sa_day5 h0 g hd _) (by omega) (by decide) dX2_stepsLeft_21 ?_
  refine x_rd hW (fun x5 ex5 rx5 => ?_)
  have bx5 : 0 ≤ x5 := by rw [ex5]; exact IC.p p0 hd _ (by omega) (by omega)
  refine x_isub hx hb dX2_stepsLeft_22 ?_
  refine lv_goto (tgt := 27) hx hb dX2_stepsLeft_23 (by decide) ?_
  rw [eQ]
  exact x_iret hx hb hr hlk hW (by omega) ⟨rfl, by omega⟩ dX2_stepsLeft_27
set_option maxHeartbeats 4000000 in
set_option maxRecDepth 100000 in
theorem c_X2_takeStep (l : Launch) (D : va_G) (g : xG) (T : Nat × Nat × Nat) (h0 : Nat) (s0 : xS) (hσ : xRR s0) (d : Nat) (hd : xDay d) (j : Int) (rj : xR j) (p0 : IC s0) : Met l yX2_takeStep (xws yX2_takeStep cX2_takeStep 3 (some .int)) { frames := 1, cells := 0, slots := 0, locals := 21 } (xP [.ref (h0 + d), .int (xJ j)] D g T h0 s0) (xQi D g h0 (fun r τ => xFr (fun k => k = d + 5) s0 τ ∧ (((IC τ) ∧ True) ∧ (True)))) 0 0 (xA h0) := by
  refine x_met hσ (by decide) (Nat.le_of_ble_eq_true rfl) ?_
  intro p e s m args below meth c hx hb hr hml hown hT hlk hnm hE hW ls hl
  have hl : lv_has ls 3 [(0, .ref (h0 + d)), (1, .int (xJ j))] := hl
  obtain ⟨Q, eQ⟩ : ∃ Q, Q = MQ below (xQi D g h0 (fun r τ => xFr (fun k => k = d + 5) s0 τ ∧ (((IC τ) ∧ True) ∧ (True)))) args s 0 0 (xA h0) := ⟨_, rfl⟩
  rw [← eQ]
  generalize hHe : ([] : List Loc) = locs at hW ⊢
  obtain ⟨H, eH⟩ : ∃ H, H = s.heap := ⟨_, rfl⟩
  rw [← eH] at hW ⊢
  have hF : xFr (fun k => k = d + 5) s0 s0 := xFr.rf
  have hbd : (136 ≤ d ∧ d < 209) ∧ (d ≤ 146 ∨ 158 ≤ d) := by unfold xDay at hd; omega
  have k1_1 : s0 1 1 = s0 1 1 := rfl
  have kd_7 : s0 d 7 = s0 d 7 := rfl
  refine x_aload_n hx hb hl 0 rfl dX2_takeStep_0 rfl ?_
  refine x_iload_n hx hb hl 1 rfl dX2_takeStep_1 rfl ?_
  refine x_goi (x_runV (As := [.int (xJ j)]) hx hb hml hown hT hE hW hl.1 (Or.inl (by omega)) (so_day0 h0 g hd _) rfl cf_X2_stepsLeft wq781 wq39 wq779 (c_X2_stepsLeft l D g T h0 s0 hW.2.1 d hd j rj p0) ⟨rfl, rfl, ⟨by decide, by decide⟩, ⟨by decide, by decide⟩⟩ rfl rfl (Nat.le_of_ble_eq_true rfl) dX2_takeStep_2) hW (fun x1 s2 H locs rx1 hp3 hW => ?_)
  obtain ⟨es2, hp3⟩ := hp3
  subst es2
  have ghp3 := hp3
  refine x_if_le (tgt := 17) hx hb rx1 dX2_takeStep_5 (by decide) (fun c4 => ?_) (fun c4 => ?_)
  · skip
    refine x_iconst hx hb dX2_takeStep_17 ?_
    rw [eQ]
    exact x_iret hx hb hr hlk hW (by decide) ⟨hF, ⟨p0, trivial⟩, trivial⟩ dX2_takeStep_18
  refine x_aload_n hx hb hl 0 rfl dX2_takeStep_8 rfl ?_
  refine x_get (j := 2) (v := .ref (h0 + (d + 5))) hx hb hown hT hE hW cls_X2 (Or.inl (by omega)) (so_day0 h0 g hd _) (by decide) rfl wq387 dX2_takeStep_9 ?_
  refine x_iload_n hx hb hl 1 rfl dX2_takeStep_12 rfl ?_
  refine x_iald hx hb hE hW (Or.inl (by omega)) (sa_day5 h0 g hd _) (by omega) (by decide) dX2_takeStep_13 ?_
  refine x_rd hW (fun x5 ex5 rx5 => ?_)
  have bx5 : 0 ≤ x5 := by rw [ex5]; exact IC.p p0 hd _ (by omega) (by omega)
  refine x_if_ge (tgt := 19) hx hb rx5 dX2_takeStep_14 (by decide) (fun c6 => ?_) (fun c6 => ?_)
  · skip
    refine x_aload_n hx hb hl 0 rfl dX2_takeStep_19 rfl ?_
    refine x_get (j := 1) (v := .ref (h0 + (d + 2))) hx hb hown hT hE hW cls_X2 (Or.inl (by omega)) (so_day0 h0 g hd _) (by decide) rfl wq386 dX2_takeStep_20 ?_
    refine x_iload_n hx hb hl 1 rfl dX2_takeStep_23 rfl ?_
    refine x_aaldR (t0 := 3) (n := 2) (r := (s0 (d + 2) j).toNat) hx hb hE hW (by omega) rfl rfl (sg_day2 h0 g hd _) (by omega) (by decide) (by rw [xrow_day hd, Int.toNat_of_nonneg (by omega)]) dX2_takeStep_24 ?_
    obtain ⟨v7, ev7, rv7⟩ : ∃ v : Int, v = s0 (d + 2) j ∧ xR v := ⟨_, rfl, hW.2.1 _ _⟩
    have zv7 : (xlen s0 v7.toNat : Int) = xlen s0 (s0 (d + 2) j).toNat := by rw [ev7]
    have yv7 := xlen_le hW.2.1 v7.toNat
    rw [← ev7]
    refine x_aload_n hx hb hl 0 rfl dX2_takeStep_25 rfl ?_
    refine x_get (j := 2) (v := .ref (h0 + (d + 5))) hx hb hown hT hE hW cls_X2 (Or.inl (by omega)) (so_day0 h0 g hd _) (by decide) rfl wq387 dX2_takeStep_26 ?_
    refine x_iload_n hx hb hl 1 rfl dX2_takeStep_29 rfl ?_
    refine x_iald hx hb hE hW (Or.inl (by omega)) (sa_day5 h0 g hd _) (by omega) (by decide) dX2_takeStep_30 ?_
    refine x_rd hW (fun x8 ex8 rx8 => ?_)
    have bx8 : 0 ≤ x8 := by rw [ex8]; exact IC.p p0 hd _ (by omega) (by omega)
    refine x_ialdW hx hb hE hW (by rw [ev7]; exact IC.w p0 hd _ (by omega) (by omega)) (by omega) dX2_takeStep_31 (fun x9 rx9 => ?_)
    refine lv_istore_n (lv' := [(2, .int (xJ x9)), (0, .ref (h0 + d)), (1, .int (xJ j))]) hx hb dX2_takeStep_32 rfl hl (by decide) rfl (fun ls hl => ?_)
    refine x_aload_n hx hb hl 1 rfl dX2_takeStep_33 rfl ?_
    refine x_get (j := 2) (v := .ref (h0 + (d + 5))) hx hb hown hT hE hW cls_X2 (Or.inl (by omega)) (so_day0 h0 g hd _) (by decide) rfl wq387 dX2_takeStep_34 ?_
    refine x_iload_n hx hb hl 2 rfl dX2_takeStep_37 rfl ?_
    refine lv_dup2_11 hx hb dX2_takeStep_38 rfl rfl ?_
    refine x_iald hx hb hE hW (Or.inl (by omega)) (sa_day5 h0 g hd _) (by omega) (by decide) dX2_takeStep_39 ?_
    refine x_rd hW (fun x10 ex10 rx10 => ?_)
    have bx10 : 0 ≤ x10 := by rw [ex10]; exact IC.p p0 hd _ (by omega) (by omega)
    refine x_iconst hx hb dX2_takeStep_40 ?_
    refine x_iadd hx hb dX2_takeStep_41 ?_
    refine x_iast hx hb hE hW (by omega) (fun σ => sa_day5 h0 g hd σ) (by omega) (by decide) (by omega) dX2_takeStep_42 (fun H locs s11 es11 hW => ?_)
    have q12 : IC s11 := by rw [es11]; exact IC_p hd p0 (by omega)
    have q13 : s11 1 1 = s0 1 1 := (show s11 1 1 = s0 1 1 from by rw [es11, xU_k _ _ _ (by omega)]).trans k1_1
    have q14 : s11 d 7 = s0 d 7 := (show s11 d 7 = s0 d 7 from by rw [es11, xU_k _ _ _ (by omega)]).trans kd_7
    have hF15 := hF.put es11 (by omega)
    refine x_iload_n hx hb hl 0 rfl dX2_takeStep_43 rfl ?_
    rw [eQ]
    exact x_iret hx hb hr hlk hW rx9 ⟨hF15, ⟨q12, trivial⟩, trivial⟩ dX2_takeStep_44
  refine x_iconst hx hb dX2_takeStep_17 ?_
  rw [eQ]
  exact x_iret hx hb hr hlk hW (by decide) ⟨hF, ⟨p0, trivial⟩, trivial⟩ dX2_takeStep_18
set_option maxHeartbeats 4000000 in
set_option maxRecDepth 100000 in
theorem c_X2_draw (l : Launch) (D : va_G) (g : xG) (T : Nat × Nat × Nat) (h0 : Nat) (s0 : xS) (hσ : xRR s0) (d : Nat) (hd : xDay d) (p0 : IC s0) : Met l yX2_draw (xws yX2_draw cX2_draw 1 (some .int)) { frames := 0, cells := 0, slots := 0, locals := 0 } (xP [.ref (h0 + d)] D g T h0 s0) (xQi D g h0 (fun r τ => xFr (fun k => k = d) s0 τ ∧ (((IC τ) ∧ (τ d 7 = s0 d 7) ∧ True) ∧ (0 ≤ r ∧ r < 10)))) 0 0 (xA h0) := by
  refine x_met hσ (by decide) (Nat.le_of_ble_eq_true rfl) ?_
  intro p e s m args below meth c hx hb hr hml hown hT hlk hnm hE hW ls hl
  have hl : lv_has ls 1 [(0, .ref (h0 + d))] := hl
  obtain ⟨Q, eQ⟩ : ∃ Q, Q = MQ below (xQi D g h0 (fun r τ => xFr (fun k => k = d) s0 τ ∧ (((IC τ) ∧ (τ d 7 = s0 d 7) ∧ True) ∧ (0 ≤ r ∧ r < 10)))) args s 0 0 (xA h0) := ⟨_, rfl⟩
  rw [← eQ]
  generalize hHe : ([] : List Loc) = locs at hW ⊢
  obtain ⟨H, eH⟩ : ∃ H, H = s.heap := ⟨_, rfl⟩
  rw [← eH] at hW ⊢
  have hF : xFr (fun k => k = d) s0 s0 := xFr.rf
  have hbd : (136 ≤ d ∧ d < 209) ∧ (d ≤ 146 ∨ 158 ≤ d) := by unfold xDay at hd; omega
  have k1_1 : s0 1 1 = s0 1 1 := rfl
  have kd_7 : s0 d 7 = s0 d 7 := rfl
  refine x_aload_n hx hb hl 0 rfl dX2_draw_0 rfl ?_
  refine x_sipush hx hb dX2_draw_1 (by decide) ?_
  refine x_aload_n hx hb hl 0 rfl dX2_draw_4 rfl ?_
  refine x_get (j := 8) (v := .int (xJ (s0 d 8))) hx hb hown hT hE hW cls_X2 (Or.inl (by omega)) (so_day0 h0 g hd _) (by decide) rfl wq404 dX2_draw_5 ?_
  refine x_rd hW (fun x1 ex1 rx1 => ?_)
  have bx1 : 0 ≤ x1 ∧ x1 ≤ 65535 := by rw [ex1]; exact IC.x p0 hd
  refine x_imul hx hb dX2_draw_8 ?_
  refine x_sipush hx hb dX2_draw_9 (by decide) ?_
  refine x_iadd hx hb dX2_draw_12 ?_
  refine lv_ldc (v := xJ 65536) hx hb hown (hT _ wq799) dX2_draw_13 ?_
  refine x_irem hx hb (by omega) (by decide) (by omega) (by decide) dX2_draw_15 ?_
  refine x_put (j := 8) hx hb hown hT hE hW cls_X2 (by omega) (fun σ => so_day0 h0 g hd σ) (by decide) (st_X2_8 h0 s0 d (((25173 * x1) + 13849) % 65536)) (ln_X2_8 h0 _ _) wq404 rfl rfl rfl (by omega) dX2_draw_16 (fun H locs s2 es2 hW => ?_)
  have q3 : IC s2 := by rw [es2]; exact IC_d hd p0 (by omega)
  have q4 : s2 1 1 = s0 1 1 := (show s2 1 1 = s0 1 1 from by rw [es2, xU_k _ _ _ (by omega)]).trans k1_1
  have q5 : s2 d 7 = s0 d 7 := (show s2 d 7 = s0 d 7 from by rw [es2, xU_j _ _ (by decide)]).trans kd_7
  have hF6 := hF.put es2 (by omega)
  refine x_aload_n hx hb hl 0 rfl dX2_draw_19 rfl ?_
  refine x_get (j := 8) (v := .int (xJ (s2 d 8))) hx hb hown hT hE hW cls_X2 (Or.inl (by omega)) (so_day0 h0 g hd _) (by decide) rfl wq404 dX2_draw_20 ?_
  refine x_rd hW (fun x7 ex7 rx7 => ?_)
  have bx7 : 0 ≤ x7 ∧ x7 ≤ 65535 := by rw [ex7]; exact IC.x q3 hd
  refine x_bipush hx hb dX2_draw_23 (by decide) ?_
  refine x_irem hx hb rx7 (by decide) (by omega) (by decide) dX2_draw_25 ?_
  rw [eQ]
  exact x_iret hx hb hr hlk hW (by omega) ⟨hF6, ⟨q3, q5, trivial⟩, by omega⟩ dX2_draw_26
set_option maxHeartbeats 4000000 in
set_option maxRecDepth 100000 in
theorem c_X2_owedByAll (l : Launch) (D : va_G) (g : xG) (T : Nat × Nat × Nat) (h0 : Nat) (s0 : xS) (hσ : xRR s0) (d : Nat) (hd : xDay d) (p0 : IC s0) : Met l yX2_owedByAll (xws yX2_owedByAll cX2_owedByAll 3 (some .int)) { frames := 0, cells := 0, slots := 0, locals := 0 } (xP [.ref (h0 + d)] D g T h0 s0) (xQi D g h0 (fun r τ => s0 = τ ∧ (True))) 0 0 (xA h0) := by
  refine x_met hσ (by decide) (Nat.le_of_ble_eq_true rfl) ?_
  intro p e s m args below meth c hx hb hr hml hown hT hlk hnm hE hW ls hl
  have hl : lv_has ls 3 [(0, .ref (h0 + d))] := hl
  obtain ⟨Q, eQ⟩ : ∃ Q, Q = MQ below (xQi D g h0 (fun r τ => s0 = τ ∧ (True))) args s 0 0 (xA h0) := ⟨_, rfl⟩
  rw [← eQ]
  generalize hHe : ([] : List Loc) = locs at hW ⊢
  obtain ⟨H, eH⟩ : ∃ H, H = s.heap := ⟨_, rfl⟩
  rw [← eH] at hW ⊢
  have hbd : (136 ≤ d ∧ d < 209) ∧ (d ≤ 146 ∨ 158 ≤ d) := by unfold xDay at hd; omega
  have k1_1 : s0 1 1 = s0 1 1 := rfl
  refine x_iconst hx hb dX2_owedByAll_0 ?_
  refine lv_istore_n (lv' := [(1, .int (xJ 0)), (0, .ref (h0 + d))]) hx hb dX2_owedByAll_1 rfl hl (by decide) rfl (fun ls hl => ?_)
  refine x_iconst hx hb dX2_owedByAll_2 ?_
  refine lv_istore_n (lv' := [(2, .int (xJ 0)), (1, .int (xJ 0)), (0, .ref (h0 + d))]) hx hb dX2_owedByAll_3 rfl hl (by decide) rfl (fun ls hl => ?_)
  have L4 : ∀ (fu : Nat) (i1_4 : Int) (i2_4 : Int) (ls : Array Slot), (xR i1_4) → (xR i2_4) → (0 ≤ i2_4) → (i2_4 ≤ 10) → (10 + 1 - i2_4).toNat < fu → lv_has ls 3 [(0, .ref (h0 + d)), (1, .int (xJ i1_4)), (2, .int (xJ i2_4))] → W p l e { frames := 0, cells := 0, slots := 0, locals := 0 } s m args below meth c H locs 0 0 Q (F0 m 4 ls []) := by
    intro fu
    induction fu with
    | zero => intro i1_4 i2_4 ls ri1_4 ri2_4 v4_0 v4_1 hm; exact absurd hm (Nat.not_lt_zero _)
    | succ fu ih4 =>
      intro i1_4 i2_4 ls ri1_4 ri2_4 v4_0 v4_1 hm  hl
      refine x_iload_n hx hb hl 2 rfl dX2_owedByAll_4 rfl ?_
      refine x_bipush hx hb dX2_owedByAll_5 (by decide) ?_
      refine x_icmp_ge (tgt := 25) hx hb ri2_4 (by decide) dX2_owedByAll_7 (by decide) (fun c1 => ?_) (fun c1 => ?_)
      · skip
        refine x_iload_n hx hb hl 1 rfl dX2_owedByAll_25 rfl ?_
        rw [eQ]
        exact x_iret hx hb hr hlk hW ri1_4 ⟨rfl, trivial⟩ dX2_owedByAll_26
      refine x_iload_n hx hb hl 1 rfl dX2_owedByAll_10 rfl ?_
      refine x_aload_n hx hb hl 0 rfl dX2_owedByAll_11 rfl ?_
      refine x_get (j := 4) (v := .ref (h0 + (d + 7))) hx hb hown hT hE hW cls_X2 (Or.inl (by omega)) (so_day0 h0 g hd _) (by decide) rfl wq392 dX2_owedByAll_12 ?_
      refine x_iload_n hx hb hl 2 rfl dX2_owedByAll_15 rfl ?_
      refine x_iald hx hb hE hW (Or.inl (by omega)) (sa_day7 h0 g hd _) (by omega) (by decide) dX2_owedByAll_16 ?_
      refine x_rd hW (fun x2 ex2 rx2 => ?_)
      refine x_iadd hx hb dX2_owedByAll_17 ?_
      refine x_any (fun x3 rx3 => ?_)
      refine lv_istore_n (lv' := [(1, .int (xJ x3)), (0, .ref (h0 + d)), (2, .int (xJ i2_4))]) hx hb dX2_owedByAll_18 rfl hl (by decide) rfl (fun ls hl => ?_)
      refine x_iinc (lv' := [(2, .int (xJ (i2_4 + 1))), (1, .int (xJ x3)), (0, .ref (h0 + d))]) hx hb hl 2 rfl dX2_owedByAll_19 (by decide) rfl (fun ls hl => ?_)
      refine lv_goto (tgt := 4) hx hb dX2_owedByAll_22 (by decide) ?_
      exact ih4 x3 (i2_4 + 1) ls rx3 (by omega) (by omega) (by omega) (by omega)  (lv_sub hl [2, 1, 0] rfl)
  exact L4 ((10 + 1 - 0 : Int).toNat + 1) 0 0 ls (by decide) (by decide) (by omega) (by omega) (Nat.lt_succ_self _)  (lv_sub hl [2, 1, 0] rfl)
set_option maxHeartbeats 4000000 in
set_option maxRecDepth 100000 in
theorem c_X2_howManyDrowned (l : Launch) (D : va_G) (g : xG) (T : Nat × Nat × Nat) (h0 : Nat) (s0 : xS) (hσ : xRR s0) (d : Nat) (hd : xDay d) (p0 : IC s0) : Met l yX2_howManyDrowned (xws yX2_howManyDrowned cX2_howManyDrowned 3 (some .int)) { frames := 1, cells := 0, slots := 0, locals := 21 } (xP [.ref (h0 + d)] D g T h0 s0) (xQi D g h0 (fun r τ => s0 = τ ∧ (True))) 0 0 (xA h0) := by
  refine x_met hσ (by decide) (Nat.le_of_ble_eq_true rfl) ?_
  intro p e s m args below meth c hx hb hr hml hown hT hlk hnm hE hW ls hl
  have hl : lv_has ls 3 [(0, .ref (h0 + d))] := hl
  obtain ⟨Q, eQ⟩ : ∃ Q, Q = MQ below (xQi D g h0 (fun r τ => s0 = τ ∧ (True))) args s 0 0 (xA h0) := ⟨_, rfl⟩
  rw [← eQ]
  generalize hHe : ([] : List Loc) = locs at hW ⊢
  obtain ⟨H, eH⟩ : ∃ H, H = s.heap := ⟨_, rfl⟩
  rw [← eH] at hW ⊢
  have hbd : (136 ≤ d ∧ d < 209) ∧ (d ≤ 146 ∨ 158 ≤ d) := by unfold xDay at hd; omega
  have k1_1 : s0 1 1 = s0 1 1 := rfl
  refine x_iconst hx hb dX2_howManyDrowned_0 ?_
  refine lv_istore_n (lv' := [(1, .int (xJ 0)), (0, .ref (h0 + d))]) hx hb dX2_howManyDrowned_1 rfl hl (by decide) rfl (fun ls hl => ?_)
  refine x_iconst hx hb dX2_howManyDrowned_2 ?_
  refine lv_istore_n (lv' := [(2, .int (xJ 0)), (1, .int (xJ 0)), (0, .ref (h0 + d))]) hx hb dX2_howManyDrowned_3 rfl hl (by decide) rfl (fun ls hl => ?_)
  have L4 : ∀ (fu : Nat) (i1_4 : Int) (i2_4 : Int) (H : Heap) (locs : List Loc) (ls : Array Slot), (xR i1_4) → (xR i2_4) → (0 ≤ i2_4) → (i2_4 ≤ 10) → (0 ≤ i1_4 ∧ i1_4 ≤ i2_4) → (10 + 1 - i2_4).toNat < fu → xW D g h0 s H locs s0 → lv_has ls 3 [(0, .ref (h0 + d)), (1, .int (xJ i1_4)), (2, .int (xJ i2_4))] → W p l e { frames := 1, cells := 0, slots := 0, locals := 21 } s m args below meth c H locs 0 0 Q (F0 m 4 ls []) := by
    intro fu
    induction fu with
    | zero => intro i1_4 i2_4 H locs ls ri1_4 ri2_4 v4_0 v4_1 v4_2 hm; exact absurd hm (Nat.not_lt_zero _)
    | succ fu ih4 =>
      intro i1_4 i2_4 H locs ls ri1_4 ri2_4 v4_0 v4_1 v4_2 hm hW hl
      refine x_iload_n hx hb hl 2 rfl dX2_howManyDrowned_4 rfl ?_
      refine x_bipush hx hb dX2_howManyDrowned_5 (by decide) ?_
      refine x_icmp_ge (tgt := 41) hx hb ri2_4 (by decide) dX2_howManyDrowned_7 (by decide) (fun c1 => ?_) (fun c1 => ?_)
      · skip
        refine x_iload_n hx hb hl 1 rfl dX2_howManyDrowned_41 rfl ?_
        rw [eQ]
        exact x_iret hx hb hr hlk hW ri1_4 ⟨rfl, trivial⟩ dX2_howManyDrowned_42
      refine x_iload_n hx hb hl 1 rfl dX2_howManyDrowned_10 rfl ?_
      refine x_aload_n hx hb hl 0 rfl dX2_howManyDrowned_11 rfl ?_
      refine x_iload_n hx hb hl 2 rfl dX2_howManyDrowned_12 rfl ?_
      refine x_goi (x_runV (As := [.int (xJ i2_4)]) hx hb hml hown hT hE hW hl.1 (Or.inl (by omega)) (so_day0 h0 g hd _) rfl cf_X2_hasFelon wq862 wq53 wq860 (c_X2_hasFelon l D g T h0 s0 hW.2.1 d hd i2_4 ri2_4 p0) ⟨rfl, rfl, ⟨by decide, by decide⟩, ⟨by decide, by decide⟩⟩ rfl rfl (Nat.le_of_ble_eq_true rfl) dX2_howManyDrowned_13) hW (fun x2 s3 H locs rx2 hp4 hW => ?_)
      obtain ⟨es3, hp4⟩ := hp4
      subst es3
      have ghp4 := hp4
      refine x_if_eq (tgt := 32) hx hb rx2 dX2_howManyDrowned_16 (by decide) (fun c5 => ?_) (fun c5 => ?_)
      · skip
        refine x_iconst hx hb dX2_howManyDrowned_32 ?_
        refine x_iadd hx hb dX2_howManyDrowned_33 ?_
        refine x_nm (fun x6 ex6 => ?_)
        refine lv_istore_n (lv' := [(1, .int (xJ x6)), (0, .ref (h0 + d)), (2, .int (xJ i2_4))]) hx hb dX2_howManyDrowned_34 rfl hl (by decide) rfl (fun ls hl => ?_)
        refine x_iinc (lv' := [(2, .int (xJ (i2_4 + 1))), (1, .int (xJ x6)), (0, .ref (h0 + d))]) hx hb hl 2 rfl dX2_howManyDrowned_35 (by decide) rfl (fun ls hl => ?_)
        refine lv_goto (tgt := 4) hx hb dX2_howManyDrowned_38 (by decide) ?_
        exact ih4 x6 (i2_4 + 1) H locs ls (by omega) (by omega) (by omega) (by omega) (by omega) (by omega) hW (lv_sub hl [2, 1, 0] rfl)
      refine x_aload_n hx hb hl 0 rfl dX2_howManyDrowned_19 rfl ?_
      refine x_get (j := 6) (v := .ref (h0 + (d + 9))) hx hb hown hT hE hW cls_X2 (Or.inl (by omega)) (so_day0 h0 g hd _) (by decide) rfl wq398 dX2_howManyDrowned_20 ?_
      refine x_iload_n hx hb hl 2 rfl dX2_howManyDrowned_23 rfl ?_
      refine x_zald hx hb hE hW (Or.inl (by omega)) (sa_day9 h0 g hd _) (by omega) (by decide) dX2_howManyDrowned_24 ?_
      refine x_rd hW (fun x7 ex7 rx7 => ?_)
      have bx7 : x7 = 0 ∨ x7 = 1 := by rw [ex7]; exact IC.b p0 hd _ (by omega) (by omega)
      refine x_if_eq (tgt := 32) hx hb rx7 dX2_howManyDrowned_25 (by decide) (fun c8 => ?_) (fun c8 => ?_)
      · skip
        refine x_iconst hx hb dX2_howManyDrowned_32 ?_
        refine x_iadd hx hb dX2_howManyDrowned_33 ?_
        refine x_nm (fun x9 ex9 => ?_)
        refine lv_istore_n (lv' := [(1, .int (xJ x9)), (0, .ref (h0 + d)), (2, .int (xJ i2_4))]) hx hb dX2_howManyDrowned_34 rfl hl (by decide) rfl (fun ls hl => ?_)
        refine x_iinc (lv' := [(2, .int (xJ (i2_4 + 1))), (1, .int (xJ x9)), (0, .ref (h0 + d))]) hx hb hl 2 rfl dX2_howManyDrowned_35 (by decide) rfl (fun ls hl => ?_)
        refine lv_goto (tgt := 4) hx hb dX2_howManyDrowned_38 (by decide) ?_
        exact ih4 x9 (i2_4 + 1) H locs ls (by omega) (by omega) (by omega) (by omega) (by omega) (by omega) hW (lv_sub hl [2, 1, 0] rfl)
      refine x_iconst hx hb dX2_howManyDrowned_28 ?_
      refine lv_goto (tgt := 33) hx hb dX2_howManyDrowned_29 (by decide) ?_
      refine x_iadd hx hb dX2_howManyDrowned_33 ?_
      refine x_nm (fun x10 ex10 => ?_)
      refine lv_istore_n (lv' := [(1, .int (xJ x10)), (0, .ref (h0 + d)), (2, .int (xJ i2_4))]) hx hb dX2_howManyDrowned_34 rfl hl (by decide) rfl (fun ls hl => ?_)
      refine x_iinc (lv' := [(2, .int (xJ (i2_4 + 1))), (1, .int (xJ x10)), (0, .ref (h0 + d))]) hx hb hl 2 rfl dX2_howManyDrowned_35 (by decide) rfl (fun ls hl => ?_)
      refine lv_goto (tgt := 4) hx hb dX2_howManyDrowned_38 (by decide) ?_
      exact ih4 x10 (i2_4 + 1) H locs ls (by omega) (by omega) (by omega) (by omega) (by omega) (by omega) hW (lv_sub hl [2, 1, 0] rfl)
  exact L4 ((10 + 1 - 0 : Int).toNat + 1) 0 0 H locs ls (by decide) (by decide) (by omega) (by omega) (by omega) (Nat.lt_succ_self _) hW (lv_sub hl [2, 1, 0] rfl)
set_option maxHeartbeats 4000000 in
set_option maxRecDepth 100000 in
theorem c_X2_howManyOweNothing (l : Launch) (D : va_G) (g : xG) (T : Nat × Nat × Nat) (h0 : Nat) (s0 : xS) (hσ : xRR s0) (d : Nat) (hd : xDay d) (p0 : IC s0) : Met l yX2_howManyOweNothing (xws yX2_howManyOweNothing cX2_howManyOweNothing 3 (some .int)) { frames := 1, cells := 0, slots := 0, locals := 21 } (xP [.ref (h0 + d)] D g T h0 s0) (xQi D g h0 (fun r τ => s0 = τ ∧ (True))) 0 0 (xA h0) := by
  refine x_met hσ (by decide) (Nat.le_of_ble_eq_true rfl) ?_
  intro p e s m args below meth c hx hb hr hml hown hT hlk hnm hE hW ls hl
  have hl : lv_has ls 3 [(0, .ref (h0 + d))] := hl
  obtain ⟨Q, eQ⟩ : ∃ Q, Q = MQ below (xQi D g h0 (fun r τ => s0 = τ ∧ (True))) args s 0 0 (xA h0) := ⟨_, rfl⟩
  rw [← eQ]
  generalize hHe : ([] : List Loc) = locs at hW ⊢
  obtain ⟨H, eH⟩ : ∃ H, H = s.heap := ⟨_, rfl⟩
  rw [← eH] at hW ⊢
  have hbd : (136 ≤ d ∧ d < 209) ∧ (d ≤ 146 ∨ 158 ≤ d) := by unfold xDay at hd; omega
  have k1_1 : s0 1 1 = s0 1 1 := rfl
  refine x_iconst hx hb dX2_howManyOweNothing_0 ?_
  refine lv_istore_n (lv' := [(1, .int (xJ 0)), (0, .ref (h0 + d))]) hx hb dX2_howManyOweNothing_1 rfl hl (by decide) rfl (fun ls hl => ?_)
  refine x_iconst hx hb dX2_howManyOweNothing_2 ?_
  refine lv_istore_n (lv' := [(2, .int (xJ 0)), (1, .int (xJ 0)), (0, .ref (h0 + d))]) hx hb dX2_howManyOweNothing_3 rfl hl (by decide) rfl (fun ls hl => ?_)
  have L4 : ∀ (fu : Nat) (i1_4 : Int) (i2_4 : Int) (H : Heap) (locs : List Loc) (ls : Array Slot), (xR i1_4) → (xR i2_4) → (0 ≤ i2_4) → (i2_4 ≤ 10) → (0 ≤ i1_4 ∧ i1_4 ≤ i2_4) → (10 + 1 - i2_4).toNat < fu → xW D g h0 s H locs s0 → lv_has ls 3 [(0, .ref (h0 + d)), (1, .int (xJ i1_4)), (2, .int (xJ i2_4))] → W p l e { frames := 1, cells := 0, slots := 0, locals := 21 } s m args below meth c H locs 0 0 Q (F0 m 4 ls []) := by
    intro fu
    induction fu with
    | zero => intro i1_4 i2_4 H locs ls ri1_4 ri2_4 v4_0 v4_1 v4_2 hm; exact absurd hm (Nat.not_lt_zero _)
    | succ fu ih4 =>
      intro i1_4 i2_4 H locs ls ri1_4 ri2_4 v4_0 v4_1 v4_2 hm hW hl
      refine x_iload_n hx hb hl 2 rfl dX2_howManyOweNothing_4 rfl ?_
      refine x_bipush hx hb dX2_howManyOweNothing_5 (by decide) ?_
      refine x_icmp_ge (tgt := 41) hx hb ri2_4 (by decide) dX2_howManyOweNothing_7 (by decide) (fun c1 => ?_) (fun c1 => ?_)
      · skip
        refine x_iload_n hx hb hl 1 rfl dX2_howManyOweNothing_41 rfl ?_
        rw [eQ]
        exact x_iret hx hb hr hlk hW ri1_4 ⟨rfl, trivial⟩ dX2_howManyOweNothing_42
      refine x_iload_n hx hb hl 1 rfl dX2_howManyOweNothing_10 rfl ?_
      refine x_aload_n hx hb hl 0 rfl dX2_howManyOweNothing_11 rfl ?_
      refine x_iload_n hx hb hl 2 rfl dX2_howManyOweNothing_12 rfl ?_
      refine x_goi (x_runV (As := [.int (xJ i2_4)]) hx hb hml hown hT hE hW hl.1 (Or.inl (by omega)) (so_day0 h0 g hd _) rfl cf_X2_hasFelon wq862 wq53 wq860 (c_X2_hasFelon l D g T h0 s0 hW.2.1 d hd i2_4 ri2_4 p0) ⟨rfl, rfl, ⟨by decide, by decide⟩, ⟨by decide, by decide⟩⟩ rfl rfl (Nat.le_of_ble_eq_true rfl) dX2_howManyOweNothing_13) hW (fun x2 s3 H locs rx2 hp4 hW => ?_)
      obtain ⟨es3, hp4⟩ := hp4
      subst es3
      have ghp4 := hp4
      refine x_if_eq (tgt := 32) hx hb rx2 dX2_howManyOweNothing_16 (by decide) (fun c5 => ?_) (fun c5 => ?_)
      · skip
        refine x_iconst hx hb dX2_howManyOweNothing_32 ?_
        refine x_iadd hx hb dX2_howManyOweNothing_33 ?_
        refine x_nm (fun x6 ex6 => ?_)
        refine lv_istore_n (lv' := [(1, .int (xJ x6)), (0, .ref (h0 + d)), (2, .int (xJ i2_4))]) hx hb dX2_howManyOweNothing_34 rfl hl (by decide) rfl (fun ls hl => ?_)
        refine x_iinc (lv' := [(2, .int (xJ (i2_4 + 1))), (1, .int (xJ x6)), (0, .ref (h0 + d))]) hx hb hl 2 rfl dX2_howManyOweNothing_35 (by decide) rfl (fun ls hl => ?_)
        refine lv_goto (tgt := 4) hx hb dX2_howManyOweNothing_38 (by decide) ?_
        exact ih4 x6 (i2_4 + 1) H locs ls (by omega) (by omega) (by omega) (by omega) (by omega) (by omega) hW (lv_sub hl [2, 1, 0] rfl)
      refine x_aload_n hx hb hl 0 rfl dX2_howManyOweNothing_19 rfl ?_
      refine x_get (j := 4) (v := .ref (h0 + (d + 7))) hx hb hown hT hE hW cls_X2 (Or.inl (by omega)) (so_day0 h0 g hd _) (by decide) rfl wq392 dX2_howManyOweNothing_20 ?_
      refine x_iload_n hx hb hl 2 rfl dX2_howManyOweNothing_23 rfl ?_
      refine x_iald hx hb hE hW (Or.inl (by omega)) (sa_day7 h0 g hd _) (by omega) (by decide) dX2_howManyOweNothing_24 ?_
      refine x_rd hW (fun x7 ex7 rx7 => ?_)
      refine x_if_ne (tgt := 32) hx hb rx7 dX2_howManyOweNothing_25 (by decide) (fun c8 => ?_) (fun c8 => ?_)
      · skip
        refine x_iconst hx hb dX2_howManyOweNothing_32 ?_
        refine x_iadd hx hb dX2_howManyOweNothing_33 ?_
        refine x_nm (fun x9 ex9 => ?_)
        refine lv_istore_n (lv' := [(1, .int (xJ x9)), (0, .ref (h0 + d)), (2, .int (xJ i2_4))]) hx hb dX2_howManyOweNothing_34 rfl hl (by decide) rfl (fun ls hl => ?_)
        refine x_iinc (lv' := [(2, .int (xJ (i2_4 + 1))), (1, .int (xJ x9)), (0, .ref (h0 + d))]) hx hb hl 2 rfl dX2_howManyOweNothing_35 (by decide) rfl (fun ls hl => ?_)
        refine lv_goto (tgt := 4) hx hb dX2_howManyOweNothing_38 (by decide) ?_
        exact ih4 x9 (i2_4 + 1) H locs ls (by omega) (by omega) (by omega) (by omega) (by omega) (by omega) hW (lv_sub hl [2, 1, 0] rfl)
      refine x_iconst hx hb dX2_howManyOweNothing_28 ?_
      refine lv_goto (tgt := 33) hx hb dX2_howManyOweNothing_29 (by decide) ?_
      refine x_iadd hx hb dX2_howManyOweNothing_33 ?_
      refine x_nm (fun x10 ex10 => ?_)
      refine lv_istore_n (lv' := [(1, .int (xJ x10)), (0, .ref (h0 + d)), (2, .int (xJ i2_4))]) hx hb dX2_howManyOweNothing_34 rfl hl (by decide) rfl (fun ls hl => ?_)
      refine x_iinc (lv' := [(2, .int (xJ (i2_4 + 1))), (1, .int (xJ x10)), (0, .ref (h0 + d))]) hx hb hl 2 rfl dX2_howManyOweNothing_35 (by decide) rfl (fun ls hl => ?_)
      refine lv_goto (tgt := 4) hx hb dX2_howManyOweNothing_38 (by decide) ?_
      exact ih4 x10 (i2_4 + 1) H locs ls (by omega) (by omega) (by omega) (by omega) (by omega) (by omega) hW (lv_sub hl [2, 1, 0] rfl)
  exact L4 ((10 + 1 - 0 : Int).toNat + 1) 0 0 H locs ls (by decide) (by decide) (by omega) (by omega) (by omega) (Nat.lt_succ_self _) hW (lv_sub hl [2, 1, 0] rfl)
