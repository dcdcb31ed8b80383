set_option maxHeartbeats 4000000 in
set_option maxRecDepth 100000 in
theorem c_X2_copyFromM (l : Launch) (D : va_G) (g : xG) (T : Nat × Nat × Nat) (h0 : Nat) (s0 : xS) (hσ : xRR s0) (d : Nat) (hd : xDay d) (d2 : Nat) (hd2 : xDay d2) (hdd : d ≠ d2) (p0 : IC s0) : Met l yX2_copyFrom (xws yX2_copyFrom cX2_copyFrom 3 none) { frames := 0, cells := 0, slots := 0, locals := 0 } (xP [.ref (h0 + d), .ref (h0 + d2)] D g T h0 s0) (xQv D g h0 (fun τ => xFr (fun k => k = d ∨ k = d + 1 ∨ k = d + 2 ∨ k = d + 5 ∨ k = d + 6 ∨ k = d + 7 ∨ k = d + 8 ∨ k = d + 9) s0 τ ∧ (((IC τ) ∧ True) ∧ (τ d 7 = s0 d2 7)))) 0 0 (xA h0) := by
  refine x_met hσ (by decide) (Nat.le_of_ble_eq_true rfl) ?_
  intro p e s m args below meth c hx hb hr hml hown hT hlk hnm hE hW ls hl
  have hl : lv_has ls 3 [(0, .ref (h0 + d)), (1, .ref (h0 + d2))] := hl
  obtain ⟨Q, eQ⟩ : ∃ Q, Q = MQ below (xQv D g h0 (fun τ => xFr (fun k => k = d ∨ k = d + 1 ∨ k = d + 2 ∨ k = d + 5 ∨ k = d + 6 ∨ k = d + 7 ∨ k = d + 8 ∨ k = d + 9) s0 τ ∧ (((IC τ) ∧ True) ∧ (τ d 7 = s0 d2 7)))) args s 0 0 (xA h0) := ⟨_, rfl⟩
  rw [← eQ]
  generalize hHe : ([] : List Loc) = locs at hW ⊢
  obtain ⟨H, eH⟩ : ∃ H, H = s.heap := ⟨_, rfl⟩
  rw [← eH] at hW ⊢
  have hF : xFr (fun k => k = d ∨ k = d + 1 ∨ k = d + 2 ∨ k = d + 5 ∨ k = d + 6 ∨ k = d + 7 ∨ k = d + 8 ∨ k = d + 9) s0 s0 := xFr.rf
  have hbd : (136 ≤ d ∧ d < 209) ∧ (d ≤ 146 ∨ 158 ≤ d) := by unfold xDay at hd; omega
  have hbd2 : (136 ≤ d2 ∧ d2 < 209) ∧ (d2 ≤ 146 ∨ 158 ≤ d2) := by unfold xDay at hd2; omega
  have k1_1 : s0 1 1 = s0 1 1 := rfl
  have dd : d2 ≠ d ∧ d2 ≠ d + 1 ∧ d2 ≠ d + 2 ∧ d2 ≠ d + 3 ∧ d2 ≠ d + 4 ∧ d2 ≠ d + 5 ∧ d2 ≠ d + 6 ∧ d2 ≠ d + 7 ∧ d2 ≠ d + 8 ∧ d2 ≠ d + 9 := by unfold xDay at hd hd2; omega
  refine x_iconst hx hb dX2_copyFrom_0 ?_
  refine lv_istore_n (lv' := [(2, .int (xJ 0)), (0, .ref (h0 + d)), (1, .ref (h0 + d2))]) hx hb dX2_copyFrom_1 rfl hl (by decide) rfl (fun ls hl => ?_)
  have L2 : ∀ (fu : Nat) (i2_2 : Int) (s_2 : xS) (H : Heap) (locs : List Loc) (ls : Array Slot), (xR i2_2) → (xFr (fun k => k = d ∨ k = d + 1 ∨ k = d + 2 ∨ k = d + 5 ∨ k = d + 6 ∨ k = d + 7 ∨ k = d + 8 ∨ k = d + 9) s0 s_2) → (IC s_2) → (s_2 1 1 = s0 1 1) → (0 ≤ i2_2) → (i2_2 ≤ 2) → (2 + 1 - i2_2).toNat < fu → xW D g h0 s H locs s_2 → lv_has ls 3 [(0, .ref (h0 + d)), (1, .ref (h0 + d2)), (2, .int (xJ i2_2))] → W p l e { frames := 0, cells := 0, slots := 0, locals := 0 } s m args below meth c H locs 0 0 Q (F0 m 2 ls []) := by
    intro fu
    induction fu with
    | zero => intro i2_2 s_2 H locs ls ri2_2 hF_2 q2_0 q2_1 v2_0 v2_1 hm; exact absurd hm (Nat.not_lt_zero _)
    | succ fu ih2 =>
      intro i2_2 s_2 H locs ls ri2_2 hF_2 q2_0 q2_1 v2_0 v2_1 hm hW hl
      refine x_iload_n hx hb hl 2 rfl dX2_copyFrom_2 rfl ?_
      refine x_iconst hx hb dX2_copyFrom_3 ?_
      refine x_icmp_ge (tgt := 49) hx hb ri2_2 (by decide) dX2_copyFrom_4 (by decide) (fun c1 => ?_) (fun c1 => ?_)
      · skip
        refine x_iconst hx hb dX2_copyFrom_49 ?_
        refine lv_istore_n (lv' := [(2, .int (xJ 0)), (0, .ref (h0 + d)), (1, .ref (h0 + d2))]) hx hb dX2_copyFrom_50 rfl hl (by decide) rfl (fun ls hl => ?_)
        have L51 : ∀ (fu : Nat) (i2_51 : Int) (s_51 : xS) (H : Heap) (locs : List Loc) (ls : Array Slot), (xR i2_51) → (xFr (fun k => k = d ∨ k = d + 1 ∨ k = d + 2 ∨ k = d + 5 ∨ k = d + 6 ∨ k = d + 7 ∨ k = d + 8 ∨ k = d + 9) s0 s_51) → (IC s_51) → (s_51 1 1 = s0 1 1) → (0 ≤ i2_51) → (i2_51 ≤ 10) → (10 + 1 - i2_51).toNat < fu → xW D g h0 s H locs s_51 → lv_has ls 3 [(0, .ref (h0 + d)), (1, .ref (h0 + d2)), (2, .int (xJ i2_51))] → W p l e { frames := 0, cells := 0, slots := 0, locals := 0 } s m args below meth c H locs 0 0 Q (F0 m 51 ls []) := by
          intro fu
          induction fu with
          | zero => intro i2_51 s_51 H locs ls ri2_51 hF_51 q51_0 q51_1 v51_0 v51_1 hm; exact absurd hm (Nat.not_lt_zero _)
          | succ fu ih51 =>
            intro i2_51 s_51 H locs ls ri2_51 hF_51 q51_0 q51_1 v51_0 v51_1 hm hW hl
            refine x_iload_n hx hb hl 2 rfl dX2_copyFrom_51 rfl ?_
            refine x_bipush hx hb dX2_copyFrom_52 (by decide) ?_
            refine x_icmp_ge (tgt := 111) hx hb ri2_51 (by decide) dX2_copyFrom_54 (by decide) (fun c2 => ?_) (fun c2 => ?_)
            · skip
              refine x_aload_n hx hb hl 0 rfl dX2_copyFrom_111 rfl ?_
              refine x_aload_n hx hb hl 1 rfl dX2_copyFrom_112 rfl ?_
              refine x_get (j := 7) (v := .int (xJ (s_51 d2 7))) hx hb hown hT hE hW cls_X2 (Or.inl (by omega)) (so_day0 h0 g hd2 _) (by decide) rfl wq401 dX2_copyFrom_113 ?_
              refine x_rd hW (fun x3 ex3 rx3 => ?_)
              have bx3 : 0 ≤ x3 ∧ x3 ≤ 9999 := by rw [ex3]; exact IC.m q51_0 hd2
              have V113 : x3 = s0 d2 7 := by rw [ex3, hF_51 d2 (by omega)]
              refine x_put (j := 7) hx hb hown hT hE hW cls_X2 (by omega) (fun σ => so_day0 h0 g hd σ) (by decide) (st_X2_7 h0 s_51 d x3) (ln_X2_7 h0 _ _) wq401 rfl rfl rfl rx3 dX2_copyFrom_116 (fun H locs s4 es4 hW => ?_)
              have q5 : IC s4 := by rw [es4]; exact IC_d hd q51_0 (by omega)
              have q6 : s4 1 1 = s0 1 1 := (show s4 1 1 = s_51 1 1 from by rw [es4, xU_k _ _ _ (by omega)]).trans q51_1
              have q7 : s4 d 7 = x3 := by rw [es4, xU_s]
              have hF8 := hF_51.put es4 (by omega)
              refine x_aload_n hx hb hl 0 rfl dX2_copyFrom_119 rfl ?_
              refine x_aload_n hx hb hl 1 rfl dX2_copyFrom_120 rfl ?_
              refine x_get (j := 8) (v := .int (xJ (s4 d2 8))) hx hb hown hT hE hW cls_X2 (Or.inl (by omega)) (so_day0 h0 g hd2 _) (by decide) rfl wq404 dX2_copyFrom_121 ?_
              refine x_rd hW (fun x9 ex9 rx9 => ?_)
              have bx9 : 0 ≤ x9 ∧ x9 ≤ 65535 := by rw [ex9]; exact IC.x q5 hd2
              refine x_put (j := 8) hx hb hown hT hE hW cls_X2 (by omega) (fun σ => so_day0 h0 g hd σ) (by decide) (st_X2_8 h0 s4 d x9) (ln_X2_8 h0 _ _) wq404 rfl rfl rfl rx9 dX2_copyFrom_124 (fun H locs s10 es10 hW => ?_)
              have q11 : IC s10 := by rw [es10]; exact IC_d hd q5 (by omega)
              have q12 : s10 1 1 = s0 1 1 := (show s10 1 1 = s4 1 1 from by rw [es10, xU_k _ _ _ (by omega)]).trans q6
              have q13 : s10 d 7 = x3 := (show s10 d 7 = s4 d 7 from by rw [es10, xU_j _ _ (by decide)]).trans q7
              have hF14 := hF8.put es10 (by omega)
              refine x_aload_n hx hb hl 0 rfl dX2_copyFrom_127 rfl ?_
              refine x_aload_n hx hb hl 1 rfl dX2_copyFrom_128 rfl ?_
              refine x_get (j := 9) (v := .int (xJ (s10 d2 9))) hx hb hown hT hE hW cls_X2 (Or.inl (by omega)) (so_day0 h0 g hd2 _) (by decide) rfl wq406 dX2_copyFrom_129 ?_
              refine x_rd hW (fun x15 ex15 rx15 => ?_)
              refine x_put (j := 9) hx hb hown hT hE hW cls_X2 (by omega) (fun σ => so_day0 h0 g hd σ) (by decide) (st_X2_9 h0 s10 d x15) (ln_X2_9 h0 _ _) wq406 rfl rfl rfl rx15 dX2_copyFrom_132 (fun H locs s16 es16 hW => ?_)
              have q17 : IC s16 := by rw [es16]; exact IC_d hd q11 (by omega)
              have q18 : s16 1 1 = s0 1 1 := (show s16 1 1 = s10 1 1 from by rw [es16, xU_k _ _ _ (by omega)]).trans q12
              have q19 : s16 d 7 = x3 := (show s16 d 7 = s10 d 7 from by rw [es16, xU_j _ _ (by decide)]).trans q13
              have hF20 := hF14.put es16 (by omega)
              refine x_aload_n hx hb hl 0 rfl dX2_copyFrom_135 rfl ?_
              refine x_aload_n hx hb hl 1 rfl dX2_copyFrom_136 rfl ?_
              refine x_get (j := 10) (v := .int (xJ (s16 d2 10))) hx hb hown hT hE hW cls_X2 (Or.inl (by omega)) (so_day0 h0 g hd2 _) (by decide) rfl wq409 dX2_copyFrom_137 ?_
              refine x_rd hW (fun x21 ex21 rx21 => ?_)
              refine x_put (j := 10) hx hb hown hT hE hW cls_X2 (by omega) (fun σ => so_day0 h0 g hd σ) (by decide) (st_X2_10 h0 s16 d x21) (ln_X2_10 h0 _ _) wq409 rfl rfl rfl rx21 dX2_copyFrom_140 (fun H locs s22 es22 hW => ?_)
              have q23 : IC s22 := by rw [es22]; exact IC_d hd q17 (by omega)
              have q24 : s22 1 1 = s0 1 1 := (show s22 1 1 = s16 1 1 from by rw [es22, xU_k _ _ _ (by omega)]).trans q18
              have q25 : s22 d 7 = x3 := (show s22 d 7 = s16 d 7 from by rw [es22, xU_j _ _ (by decide)]).trans q19
              have hF26 := hF20.put es22 (by omega)
              refine x_aload_n hx hb hl 0 rfl dX2_copyFrom_143 rfl ?_
              refine x_aload_n hx hb hl 1 rfl dX2_copyFrom_144 rfl ?_
              refine x_get (j := 11) (v := .int (xJ (s22 d2 11))) hx hb hown hT hE hW cls_X2 (Or.inl (by omega)) (so_day0 h0 g hd2 _) (by decide) rfl wq412 dX2_copyFrom_145 ?_
              refine x_rd hW (fun x27 ex27 rx27 => ?_)
              refine x_put (j := 11) hx hb hown hT hE hW cls_X2 (by omega) (fun σ => so_day0 h0 g hd σ) (by decide) (st_X2_11 h0 s22 d x27) (ln_X2_11 h0 _ _) wq412 rfl rfl rfl rx27 dX2_copyFrom_148 (fun H locs s28 es28 hW => ?_)
              have q29 : IC s28 := by rw [es28]; exact IC_d hd q23 (by omega)
              have q30 : s28 1 1 = s0 1 1 := (show s28 1 1 = s22 1 1 from by rw [es28, xU_k _ _ _ (by omega)]).trans q24
              have q31 : s28 d 7 = x3 := (show s28 d 7 = s22 d 7 from by rw [es28, xU_j _ _ (by decide)]).trans q25
              have hF32 := hF26.put es28 (by omega)
              rw [eQ]
              exact x_vret hx hb hr hlk hW ⟨hF32, ⟨q29, trivial⟩, by omega⟩ dX2_copyFrom_151
            refine x_aload_n hx hb hl 0 rfl dX2_copyFrom_57 rfl ?_
            refine x_get (j := 3) (v := .ref (h0 + (d + 6))) hx hb hown hT hE hW cls_X2 (Or.inl (by omega)) (so_day0 h0 g hd _) (by decide) rfl wq388 dX2_copyFrom_58 ?_
            refine x_iload_n hx hb hl 2 rfl dX2_copyFrom_61 rfl ?_
            refine x_aload_n hx hb hl 1 rfl dX2_copyFrom_62 rfl ?_
            refine x_get (j := 3) (v := .ref (h0 + (d2 + 6))) hx hb hown hT hE hW cls_X2 (Or.inl (by omega)) (so_day0 h0 g hd2 _) (by decide) rfl wq388 dX2_copyFrom_63 ?_
            refine x_iload_n hx hb hl 2 rfl dX2_copyFrom_66 rfl ?_
            refine x_iald hx hb hE hW (Or.inl (by omega)) (sa_day6 h0 g hd2 _) (by omega) (by decide) dX2_copyFrom_67 ?_
            refine x_rd hW (fun x33 ex33 rx33 => ?_)
            refine x_iast hx hb hE hW (by omega) (fun σ => sa_day6 h0 g hd σ) (by omega) (by decide) rx33 dX2_copyFrom_68 (fun H locs s34 es34 hW => ?_)
            have q35 : IC s34 := by rw [es34]; exact IC_o (nsC_d hd (by decide)) q51_0
            have q36 : s34 1 1 = s0 1 1 := (show s34 1 1 = s_51 1 1 from by rw [es34, xU_k _ _ _ (by omega)]).trans q51_1
            have hF37 := hF_51.put es34 (by omega)
            refine x_aload_n hx hb hl 0 rfl dX2_copyFrom_69 rfl ?_
            refine x_get (j := 4) (v := .ref (h0 + (d + 7))) hx hb hown hT hE hW cls_X2 (Or.inl (by omega)) (so_day0 h0 g hd _) (by decide) rfl wq392 dX2_copyFrom_70 ?_
            refine x_iload_n hx hb hl 2 rfl dX2_copyFrom_73 rfl ?_
            refine x_aload_n hx hb hl 1 rfl dX2_copyFrom_74 rfl ?_
            refine x_get (j := 4) (v := .ref (h0 + (d2 + 7))) hx hb hown hT hE hW cls_X2 (Or.inl (by omega)) (so_day0 h0 g hd2 _) (by decide) rfl wq392 dX2_copyFrom_75 ?_
            refine x_iload_n hx hb hl 2 rfl dX2_copyFrom_78 rfl ?_
            refine x_iald hx hb hE hW (Or.inl (by omega)) (sa_day7 h0 g hd2 _) (by omega) (by decide) dX2_copyFrom_79 ?_
            refine x_rd hW (fun x38 ex38 rx38 => ?_)
            refine x_iast hx hb hE hW (by omega) (fun σ => sa_day7 h0 g hd σ) (by omega) (by decide) rx38 dX2_copyFrom_80 (fun H locs s39 es39 hW => ?_)
            have q40 : IC s39 := by rw [es39]; exact IC_o (nsC_d hd (by decide)) q35
            have q41 : s39 1 1 = s0 1 1 := (show s39 1 1 = s34 1 1 from by rw [es39, xU_k _ _ _ (by omega)]).trans q36
            have hF42 := hF37.put es39 (by omega)
            refine x_aload_n hx hb hl 0 rfl dX2_copyFrom_81 rfl ?_
            refine x_get (j := 5) (v := .ref (h0 + (d + 8))) hx hb hown hT hE hW cls_X2 (Or.inl (by omega)) (so_day0 h0 g hd _) (by decide) rfl wq395 dX2_copyFrom_82 ?_
            refine x_iload_n hx hb hl 2 rfl dX2_copyFrom_85 rfl ?_
            refine x_aload_n hx hb hl 1 rfl dX2_copyFrom_86 rfl ?_
            refine x_get (j := 5) (v := .ref (h0 + (d2 + 8))) hx hb hown hT hE hW cls_X2 (Or.inl (by omega)) (so_day0 h0 g hd2 _) (by decide) rfl wq395 dX2_copyFrom_87 ?_
            refine x_iload_n hx hb hl 2 rfl dX2_copyFrom_90 rfl ?_
            refine x_iald hx hb hE hW (Or.inl (by omega)) (sa_day8 h0 g hd2 _) (by omega) (by decide) dX2_copyFrom_91 ?_
            refine x_rd hW (fun x43 ex43 rx43 => ?_)
            refine x_iast hx hb hE hW (by omega) (fun σ => sa_day8 h0 g hd σ) (by omega) (by decide) rx43 dX2_copyFrom_92 (fun H locs s44 es44 hW => ?_)
            have q45 : IC s44 := by rw [es44]; exact IC_o (nsC_d hd (by decide)) q40
            have q46 : s44 1 1 = s0 1 1 := (show s44 1 1 = s39 1 1 from by rw [es44, xU_k _ _ _ (by omega)]).trans q41
            have hF47 := hF42.put es44 (by omega)
            refine x_aload_n hx hb hl 0 rfl dX2_copyFrom_93 rfl ?_
            refine x_get (j := 6) (v := .ref (h0 + (d + 9))) hx hb hown hT hE hW cls_X2 (Or.inl (by omega)) (so_day0 h0 g hd _) (by decide) rfl wq398 dX2_copyFrom_94 ?_
            refine x_iload_n hx hb hl 2 rfl dX2_copyFrom_97 rfl ?_
            refine x_aload_n hx hb hl 1 rfl dX2_copyFrom_98 rfl ?_
            refine x_get (j := 6) (v := .ref (h0 + (d2 + 9))) hx hb hown hT hE hW cls_X2 (Or.inl (by omega)) (so_day0 h0 g hd2 _) (by decide) rfl wq398 dX2_copyFrom_99 ?_
            refine x_iload_n hx hb hl 2 rfl dX2_copyFrom_102 rfl ?_
            refine x_zald hx hb hE hW (Or.inl (by omega)) (sa_day9 h0 g hd2 _) (by omega) (by decide) dX2_copyFrom_103 ?_
            refine x_rd hW (fun x48 ex48 rx48 => ?_)
            have bx48 : x48 = 0 ∨ x48 = 1 := by rw [ex48]; exact IC.b q45 hd2 _ (by omega) (by omega)
            refine x_zast hx hb hE hW (by omega) (fun σ => sa_day9 h0 g hd σ) (by omega) (by decide) (by omega) dX2_copyFrom_104 (fun H locs s49 es49 hW => ?_)
            have q50 : IC s49 := by rw [es49]; exact IC_z hd q45 (by omega)
            have q51 : s49 1 1 = s0 1 1 := (show s49 1 1 = s44 1 1 from by rw [es49, xU_k _ _ _ (by omega)]).trans q46
            have hF52 := hF47.put es49 (by omega)
            refine x_iinc (lv' := [(2, .int (xJ (i2_51 + 1))), (0, .ref (h0 + d)), (1, .ref (h0 + d2))]) hx hb hl 2 rfl dX2_copyFrom_105 (by decide) rfl (fun ls hl => ?_)
            refine lv_goto (tgt := 51) hx hb dX2_copyFrom_108 (by decide) ?_
            exact ih51 (i2_51 + 1) s49 H locs ls (by omega) hF52 q50 q51 (by omega) (by omega) (by omega) hW (lv_sub hl [1, 2, 0] rfl)
        exact L51 ((10 + 1 - 0 : Int).toNat + 1) 0 s_2 H locs ls (by decide) hF_2 q2_0 q2_1 (by omega) (by omega) (Nat.lt_succ_self _) hW (lv_sub hl [1, 2, 0] rfl)
      refine x_aload_n hx hb hl 0 rfl dX2_copyFrom_7 rfl ?_
      refine x_get (j := 0) (v := .ref (h0 + (d + 1))) hx hb hown hT hE hW cls_X2 (Or.inl (by omega)) (so_day0 h0 g hd _) (by decide) rfl wq383 dX2_copyFrom_8 ?_
      refine x_iload_n hx hb hl 2 rfl dX2_copyFrom_11 rfl ?_
      refine x_aload_n hx hb hl 1 rfl dX2_copyFrom_12 rfl ?_
      refine x_get (j := 0) (v := .ref (h0 + (d2 + 1))) hx hb hown hT hE hW cls_X2 (Or.inl (by omega)) (so_day0 h0 g hd2 _) (by decide) rfl wq383 dX2_copyFrom_13 ?_
      refine x_iload_n hx hb hl 2 rfl dX2_copyFrom_16 rfl ?_
      refine x_iald hx hb hE hW (Or.inl (by omega)) (sa_day1 h0 g hd2 _) (by omega) (by decide) dX2_copyFrom_17 ?_
      refine x_rd hW (fun x53 ex53 rx53 => ?_)
      refine x_iast hx hb hE hW (by omega) (fun σ => sa_day1 h0 g hd σ) (by omega) (by decide) rx53 dX2_copyFrom_18 (fun H locs s54 es54 hW => ?_)
      have q55 : IC s54 := by rw [es54]; exact IC_o (nsC_d hd (by decide)) q2_0
      have q56 : s54 1 1 = s0 1 1 := (show s54 1 1 = s_2 1 1 from by rw [es54, xU_k _ _ _ (by omega)]).trans q2_1
      have hF57 := hF_2.put es54 (by omega)
      refine x_aload_n hx hb hl 0 rfl dX2_copyFrom_19 rfl ?_
      refine x_get (j := 1) (v := .ref (h0 + (d + 2))) hx hb hown hT hE hW cls_X2 (Or.inl (by omega)) (so_day0 h0 g hd _) (by decide) rfl wq386 dX2_copyFrom_20 ?_
      refine x_iload_n hx hb hl 2 rfl dX2_copyFrom_23 rfl ?_
      refine x_aload_n hx hb hl 1 rfl dX2_copyFrom_24 rfl ?_
      refine x_get (j := 1) (v := .ref (h0 + (d2 + 2))) hx hb hown hT hE hW cls_X2 (Or.inl (by omega)) (so_day0 h0 g hd2 _) (by decide) rfl wq386 dX2_copyFrom_25 ?_
      refine x_iload_n hx hb hl 2 rfl dX2_copyFrom_28 rfl ?_
      refine x_aaldR (t0 := 3) (n := 2) (r := (s54 (d2 + 2) i2_2).toNat) hx hb hE hW (by omega) rfl rfl (sg_day2 h0 g hd2 _) (by omega) (by decide) (by rw [xrow_day hd2, Int.toNat_of_nonneg (by omega)]) dX2_copyFrom_29 ?_
      obtain ⟨v58, ev58, rv58⟩ : ∃ v : Int, v = s54 (d2 + 2) i2_2 ∧ xR v := ⟨_, rfl, hW.2.1 _ _⟩
      have zv58 : (xlen s54 v58.toNat : Int) = xlen s54 (s54 (d2 + 2) i2_2).toNat := by rw [ev58]
      have yv58 := xlen_le hW.2.1 v58.toNat
      rw [← ev58]
      refine x_aastR (v := v58) hx hb hE hW (by omega) (fun σ => sg_day2 h0 g hd σ) (xrow_day hd) (by omega) (by decide) (by rw [ev58]; exact IC.w q55 hd2 _ (by omega) (by omega)) rv58 dX2_copyFrom_30 (fun H locs s59 es59 hW => ?_)
      have q60 : IC s59 := by rw [es59]; exact IC_w hd q55 (by rw [ev58]; exact IC.w q55 hd2 _ (by omega) (by omega))
      have q61 : s59 1 1 = s0 1 1 := (show s59 1 1 = s54 1 1 from by rw [es59, xU_k _ _ _ (by omega)]).trans q56
      have hF62 := hF57.put es59 (by omega)
      refine x_aload_n hx hb hl 0 rfl dX2_copyFrom_31 rfl ?_
      refine x_get (j := 2) (v := .ref (h0 + (d + 5))) hx hb hown hT hE hW cls_X2 (Or.inl (by omega)) (so_day0 h0 g hd _) (by decide) rfl wq387 dX2_copyFrom_32 ?_
      refine x_iload_n hx hb hl 2 rfl dX2_copyFrom_35 rfl ?_
      refine x_aload_n hx hb hl 1 rfl dX2_copyFrom_36 rfl ?_
      refine x_get (j := 2) (v := .ref (h0 + (d2 + 5))) hx hb hown hT hE hW cls_X2 (Or.inl (by omega)) (so_day0 h0 g hd2 _) (by decide) rfl wq387 dX2_copyFrom_37 ?_
      refine x_iload_n hx hb hl 2 rfl dX2_copyFrom_40 rfl ?_
      refine x_iald hx hb hE hW (Or.inl (by omega)) (sa_day5 h0 g hd2 _) (by omega) (by decide) dX2_copyFrom_41 ?_
      refine x_rd hW (fun x63 ex63 rx63 => ?_)
      have bx63 : 0 ≤ x63 := by rw [ex63]; exact IC.p q60 hd2 _ (by omega) (by omega)
      refine x_iast hx hb hE hW (by omega) (fun σ => sa_day5 h0 g hd σ) (by omega) (by decide) rx63 dX2_copyFrom_42 (fun H locs s64 es64 hW => ?_)
      have q65 : IC s64 := by rw [es64]; exact IC_p hd q60 (by omega)
      have q66 : s64 1 1 = s0 1 1 := (show s64 1 1 = s59 1 1 from by rw [es64, xU_k _ _ _ (by omega)]).trans q61
      have hF67 := hF62.put es64 (by omega)
      refine x_iinc (lv' := [(2, .int (xJ (i2_2 + 1))), (0, .ref (h0 + d)), (1, .ref (h0 + d2))]) hx hb hl 2 rfl dX2_copyFrom_43 (by decide) rfl (fun ls hl => ?_)
      refine lv_goto (tgt := 2) hx hb dX2_copyFrom_46 (by decide) ?_
      exact ih2 (i2_2 + 1) s64 H locs ls (by omega) hF67 q65 q66 (by omega) (by omega) (by omega) hW (lv_sub hl [1, 2, 0] rfl)
  exact L2 ((2 + 1 - 0 : Int).toNat + 1) 0 s0 H locs ls (by decide) hF p0 k1_1 (by omega) (by omega) (Nat.lt_succ_self _) hW (lv_sub hl [1, 2, 0] rfl)
set_option maxHeartbeats 4000000 in
set_option maxRecDepth 100000 in
theorem c_X0_goOnM (l : Launch) (D : va_G) (g : xG) (T : Nat × Nat × Nat) (h0 : Nat) (s0 : xS) (hσ : xRR s0) (d : Nat) (hd : xDay d) (n : Int) (rn : xR n) (a : Int) (ra : xR a) (p0 : IC s0) : Met l yX0_goOn (xws yX0_goOn cX0_goOn 8 (some .int)) { frames := 5, cells := 0, slots := 0, locals := 128 } (xP [.ref (h0 + 128), .ref (h0 + d), .int (xJ n), .int (xJ a)] D g T h0 s0) (xQi D g h0 (fun r τ => xFr (fun k => (7 ≤ k ∧ k < 107) ∨ k = 107 ∨ k = 115 ∨ k = 116 ∨ k = 130 ∨ k = 131 ∨ k = 132 ∨ k = 133 ∨ k = 134 ∨ k = 135 ∨ k = d ∨ k = d + 1 ∨ k = d + 5 ∨ k = d + 6 ∨ k = d + 7 ∨ k = d + 8 ∨ k = d + 9) s0 τ ∧ (((IC τ) ∧ True) ∧ (0 ≤ n → (τ d 7 = s0 d 7 + n ∨ (9999 ≤ τ d 7 ∧ s0 d 7 ≤ τ d 7 ∧ τ d 7 ≤ s0 d 7 + n)))))) 0 0 (xA h0) := by
  refine x_met hσ (by decide) (Nat.le_of_ble_eq_true rfl) ?_
  intro p e s m args below meth c hx hb hr hml hown hT hlk hnm hE hW ls hl
  have hl : lv_has ls 8 [(0, .ref (h0 + 128)), (1, .ref (h0 + d)), (2, .int (xJ n)), (3, .int (xJ a))] := hl
  obtain ⟨Q, eQ⟩ : ∃ Q, Q = MQ below (xQi D g h0 (fun r τ => xFr (fun k => (7 ≤ k ∧ k < 107) ∨ k = 107 ∨ k = 115 ∨ k = 116 ∨ k = 130 ∨ k = 131 ∨ k = 132 ∨ k = 133 ∨ k = 134 ∨ k = 135 ∨ k = d ∨ k = d + 1 ∨ k = d + 5 ∨ k = d + 6 ∨ k = d + 7 ∨ k = d + 8 ∨ k = d + 9) s0 τ ∧ (((IC τ) ∧ True) ∧ (0 ≤ n → (τ d 7 = s0 d 7 + n ∨ (9999 ≤ τ d 7 ∧ s0 d 7 ≤ τ d 7 ∧ τ d 7 ≤ s0 d 7 + n)))))) args s 0 0 (xA h0) := ⟨_, rfl⟩
  rw [← eQ]
  generalize hHe : ([] : List Loc) = locs at hW ⊢
  obtain ⟨H, eH⟩ : ∃ H, H = s.heap := ⟨_, rfl⟩
  rw [← eH] at hW ⊢
  have hF : xFr (fun k => (7 ≤ k ∧ k < 107) ∨ k = 107 ∨ k = 115 ∨ k = 116 ∨ k = 130 ∨ k = 131 ∨ k = 132 ∨ k = 133 ∨ k = 134 ∨ k = 135 ∨ k = d ∨ k = d + 1 ∨ k = d + 5 ∨ k = d + 6 ∨ k = d + 7 ∨ k = d + 8 ∨ k = d + 9) s0 s0 := xFr.rf
  have hbd : (136 ≤ d ∧ d < 209) ∧ (d ≤ 146 ∨ 158 ≤ d) := by unfold xDay at hd; omega
  have k1_1 : s0 1 1 = s0 1 1 := rfl
  refine x_aload_n hx hb hl 1 rfl dX0_goOn_0 rfl ?_
  refine x_goi (x_runVN (As := []) hx hb hml hown hT hE hW hl.1 (Or.inl (by omega)) (so_day0 h0 g hd _) rfl cf_X2_owedByAll wq765 wq35 wn763 (c_X2_owedByAll l D g T h0 s0 hW.2.1 d hd p0) ⟨rfl, rfl, ⟨by decide, by decide⟩, ⟨by decide, by decide⟩⟩ rfl rfl (Nat.le_of_ble_eq_true rfl) dX0_goOn_1) hW (fun x1 s2 H locs rx1 hp3 hW => ?_)
  obtain ⟨es2, hp3⟩ := hp3
  subst es2
  have ghp3 := hp3
  refine lv_istore (lv' := [(4, .int (xJ x1)), (0, .ref (h0 + 128)), (1, .ref (h0 + d)), (2, .int (xJ n)), (3, .int (xJ a))]) hx hb dX0_goOn_4 hl (by decide) rfl (fun ls hl => ?_)
  refine x_iconst hx hb dX0_goOn_6 ?_
  refine lv_istore (lv' := [(5, .int (xJ 0)), (4, .int (xJ x1)), (0, .ref (h0 + 128)), (1, .ref (h0 + d)), (2, .int (xJ n)), (3, .int (xJ a))]) hx hb dX0_goOn_7 hl (by decide) rfl (fun ls hl => ?_)
  have L9 : ∀ (fu : Nat) (i5_9 : Int) (s_9 : xS) (H : Heap) (locs : List Loc) (ls : Array Slot), (xR i5_9) → (xFr (fun k => (7 ≤ k ∧ k < 107) ∨ k = 107 ∨ k = 115 ∨ k = 116 ∨ k = 130 ∨ k = 131 ∨ k = 132 ∨ k = 133 ∨ k = 134 ∨ k = 135 ∨ k = d ∨ k = d + 1 ∨ k = d + 5 ∨ k = d + 6 ∨ k = d + 7 ∨ k = d + 8 ∨ k = d + 9) s0 s_9) → (IC s_9) → (s_9 1 1 = s0 1 1) → (0 ≤ i5_9) → (s_9 d 7 = s0 d 7 + i5_9) → (0 ≤ n → i5_9 ≤ n) → (n + 1 - i5_9).toNat < fu → xW D g h0 s H locs s_9 → lv_has ls 8 [(0, .ref (h0 + 128)), (1, .ref (h0 + d)), (2, .int (xJ n)), (3, .int (xJ a)), (4, .int (xJ x1)), (5, .int (xJ i5_9))] → W p l e { frames := 5, cells := 0, slots := 0, locals := 128 } s m args below meth c H locs 0 0 Q (F0 m 9 ls []) := by
    intro fu
    induction fu with
    | zero => intro i5_9 s_9 H locs ls ri5_9 hF_9 q9_0 q9_1 v9_0 v9_1 v9_2 hm; exact absurd hm (Nat.not_lt_zero _)
    | succ fu ih9 =>
      intro i5_9 s_9 H locs ls ri5_9 hF_9 q9_0 q9_1 v9_0 v9_1 v9_2 hm hW hl
      refine x_iload hx hb hl 5 rfl dX0_goOn_9 ?_
      refine x_iload_n hx hb hl 2 rfl dX0_goOn_11 rfl ?_
      refine x_icmp_ge (tgt := 140) hx hb ri5_9 rn dX0_goOn_12 (by decide) (fun c4 => ?_) (fun c4 => ?_)
      · skip
        refine x_iload hx hb hl 4 rfl dX0_goOn_140 ?_
        refine x_aload_n hx hb hl 1 rfl dX0_goOn_142 rfl ?_
        refine x_goi (x_runVN (As := []) hx hb hml hown hT hE hW hl.1 (Or.inl (by omega)) (so_day0 h0 g hd _) rfl cf_X2_owedByAll wq765 wq35 wn763 (c_X2_owedByAll l D g T h0 s_9 hW.2.1 d hd q9_0) ⟨rfl, rfl, ⟨by decide, by decide⟩, ⟨by decide, by decide⟩⟩ rfl rfl (Nat.le_of_ble_eq_true rfl) dX0_goOn_143) hW (fun x5 s6 H locs rx5 hp7 hW => ?_)
        obtain ⟨es6, hp7⟩ := hp7
        subst es6
        have ghp7 := hp7
        refine x_isub hx hb dX0_goOn_146 ?_
        refine x_any (fun x8 rx8 => ?_)
        rw [eQ]
        exact x_iret hx hb hr hlk hW rx8 ⟨hF_9, ⟨q9_0, trivial⟩, by omega⟩ dX0_goOn_147
      refine x_aload_n hx hb hl 1 rfl dX0_goOn_15 rfl ?_
      refine x_getN (j := 7) (v := .int (xJ (s_9 d 7))) hx hb hown hT hE hW cls_X2 (Or.inl (by omega)) (so_day0 h0 g hd _) (by decide) rfl wn402 dX0_goOn_16 ?_
      refine x_rd hW (fun x9 ex9 rx9 => ?_)
      have bx9 : 0 ≤ x9 ∧ x9 ≤ 9999 := by rw [ex9]; exact IC.m q9_0 hd
      have q10 : s_9 d 7 = x9 := ex9.symm
      refine x_sipush hx hb dX0_goOn_19 (by decide) ?_
      refine x_icmp_ge (tgt := 140) hx hb rx9 (by decide) dX0_goOn_22 (by decide) (fun c11 => ?_) (fun c11 => ?_)
      · skip
        refine x_iload hx hb hl 4 rfl dX0_goOn_140 ?_
        refine x_aload_n hx hb hl 1 rfl dX0_goOn_142 rfl ?_
        refine x_goi (x_runVN (As := []) hx hb hml hown hT hE hW hl.1 (Or.inl (by omega)) (so_day0 h0 g hd _) rfl cf_X2_owedByAll wq765 wq35 wn763 (c_X2_owedByAll l D g T h0 s_9 hW.2.1 d hd q9_0) ⟨rfl, rfl, ⟨by decide, by decide⟩, ⟨by decide, by decide⟩⟩ rfl rfl (Nat.le_of_ble_eq_true rfl) dX0_goOn_143) hW (fun x12 s13 H locs rx12 hp14 hW => ?_)
        obtain ⟨es13, hp14⟩ := hp14
        subst es13
        have ghp14 := hp14
        refine x_isub hx hb dX0_goOn_146 ?_
        refine x_any (fun x15 rx15 => ?_)
        rw [eQ]
        exact x_iret hx hb hr hlk hW rx15 ⟨hF_9, ⟨q9_0, trivial⟩, by omega⟩ dX0_goOn_147
      refine x_aload_n hx hb hl 0 rfl dX0_goOn_25 rfl ?_
      refine x_aload_n hx hb hl 1 rfl dX0_goOn_26 rfl ?_
      refine x_gov (x_runV (As := [.ref (h0 + d)]) hx hb hml hown hT hE hW hl.1 (Or.inl (by decide)) (so_128 h0 g _) rfl cf_X0_judgesStep wq769 wq36 wq767 (c_X0_judgesStep l D g T h0 s_9 hW.2.1 d hd q9_0) ⟨rfl, rfl, ⟨by decide, by decide⟩, ⟨by decide, by decide⟩⟩ rfl rfl (Nat.le_of_ble_eq_true rfl) dX0_goOn_27) hW (fun s17 H locs hp18 hW => ?_)
      obtain ⟨fs17, hp18⟩ := hp18
      have hF19 := hF_9.call fs17 (fun k h => by omega)
      have q20 : s17 1 1 = s0 1 1 := (congrFun (fs17 _ (by omega)) _).trans q9_1
      have q21 : s17 d 7 = x9 := (congrFun (fs17 _ (by omega)) _).trans q10
      have ghp18 := hp18.2
      refine x_aload_n hx hb hl 0 rfl dX0_goOn_30 rfl ?_
      refine x_get (j := 1) (v := .ref (h0 + 109)) hx hb hown hT hE hW cls_X0 (Or.inl (by decide)) (so_128 h0 g _) (by decide) rfl wq354 dX0_goOn_31 ?_
      refine x_aload_n hx hb hl 1 rfl dX0_goOn_34 rfl ?_
      refine x_getN (j := 7) (v := .int (xJ (s17 d 7))) hx hb hown hT hE hW cls_X2 (Or.inl (by omega)) (so_day0 h0 g hd _) (by decide) rfl wn402 dX0_goOn_35 ?_
      refine x_rd hW (fun x22 ex22 rx22 => ?_)
      have bx22 : 0 ≤ x22 ∧ x22 ≤ 9999 := by rw [ex22]; exact IC.m hp18.1.1 hd
      have fx22 : x22 = x9 := ex22.trans q21
      refine x_gov (x_runVN (As := [.int (xJ x22)]) hx hb hml hown hT hE hW hl.1 (Or.inl (by decide)) (so_109 h0 g _) rfl cf_X4_tellMinute wq793 wq40 wn791 (c_X4_tellMinute l D g T h0 s17 hW.2.1 x22 rx22 hp18.1.1) ⟨rfl, rfl, ⟨by decide, by decide⟩, ⟨by decide, by decide⟩⟩ rfl rfl (Nat.le_of_ble_eq_true rfl) dX0_goOn_38) hW (fun s24 H locs hp25 hW => ?_)
      obtain ⟨fs24, hp25⟩ := hp25
      have hF26 := hF19.call fs24 (fun k h => by omega)
      have q27 : s24 1 1 = s0 1 1 := (congrFun (fs24 _ (by omega)) _).trans q20
      have q28 : s24 d 7 = x9 := (congrFun (fs24 _ (by omega)) _).trans q21
      have ghp25 := hp25.2
      refine x_aload_n hx hb hl 1 rfl dX0_goOn_41 rfl ?_
      refine x_goi (x_runVN (As := []) hx hb hml hown hT hE hW hl.1 (Or.inl (by omega)) (so_day0 h0 g hd _) rfl cf_X2_draw wq797 wq41 wn795 (c_X2_draw l D g T h0 s24 hW.2.1 d hd hp25.1.1) ⟨rfl, rfl, ⟨by decide, by decide⟩, ⟨by decide, by decide⟩⟩ rfl rfl (Nat.le_of_ble_eq_true rfl) dX0_goOn_42) hW (fun x29 s30 H locs rx29 hp31 hW => ?_)
      obtain ⟨fs30, hp31⟩ := hp31
      have hF32 := hF26.call fs30 (fun k h => by omega)
      have q33 : s30 1 1 = s0 1 1 := (congrFun (fs30 _ (by omega)) _).trans q27
      have ghp31 := hp31.2
      refine x_aload_n hx hb hl 0 rfl dX0_goOn_45 rfl ?_
      refine x_get (j := 1) (v := .ref (h0 + 109)) hx hb hown hT hE hW cls_X0 (Or.inl (by decide)) (so_128 h0 g _) (by decide) rfl wq354 dX0_goOn_46 ?_
      refine x_bipush hx hb dX0_goOn_49 (by decide) ?_
      refine x_bipush hx hb dX0_goOn_51 (by decide) ?_
      refine x_goi (x_runVN (As := [.int (xJ 99), .int (xJ 10)]) hx hb hml hown hT hE hW hl.1 (Or.inl (by decide)) (so_109 h0 g _) rfl cf_X4_worthOf wq802 wq42 wn800 (c_X4_worthOf l D g T h0 s30 hW.2.1 99 (by decide) 10 (by decide) hp31.1.1) ⟨rfl, rfl, ⟨by decide, by decide⟩, ⟨by decide, by decide⟩⟩ rfl rfl (Nat.le_of_ble_eq_true rfl) dX0_goOn_53) hW (fun x34 s35 H locs rx34 hp36 hW => ?_)
      obtain ⟨fs35, hp36⟩ := hp36
      have hF37 := hF32.call fs35 (fun k h => by omega)
      have q38 : s35 1 1 = s0 1 1 := (congrFun (fs35 _ (by omega)) _).trans q33
      have q39 : s35 d 7 = x9 := (congrFun (fs35 _ (by omega)) _).trans (hp31.1.2.1.trans q28)
      have ghp36 := hp36.2
      have J64 : ∀ (t0_64 : Int) (ls : Array Slot), (xR t0_64) → lv_has ls 8 [(0, .ref (h0 + 128)), (1, .ref (h0 + d)), (2, .int (xJ n)), (3, .int (xJ a)), (4, .int (xJ x1)), (5, .int (xJ i5_9))] → W p l e { frames := 5, cells := 0, slots := 0, locals := 128 } s m args below meth c H locs 0 0 Q (F0 m 64 ls [.int (xJ t0_64)]) := by
        intro t0_64 ls rt0_64  hl
        refine lv_istore (lv' := [(6, .int (xJ t0_64)), (0, .ref (h0 + 128)), (1, .ref (h0 + d)), (2, .int (xJ n)), (3, .int (xJ a)), (4, .int (xJ x1)), (5, .int (xJ i5_9))]) hx hb dX0_goOn_64 hl (by decide) rfl (fun ls hl => ?_)
        refine x_iload hx hb hl 0 rfl dX0_goOn_66 ?_
        have J81 : ∀ (s_81 : xS) (H : Heap) (locs : List Loc) (ls : Array Slot), (xFr (fun k => (7 ≤ k ∧ k < 107) ∨ k = 107 ∨ k = 115 ∨ k = 116 ∨ k = 130 ∨ k = 131 ∨ k = 132 ∨ k = 133 ∨ k = 134 ∨ k = 135 ∨ k = d ∨ k = d + 1 ∨ k = d + 5 ∨ k = d + 6 ∨ k = d + 7 ∨ k = d + 8 ∨ k = d + 9) s0 s_81) → (s_81 1 1 = s0 1 1) → (s_81 d 7 = x9) → (IC s_81) → xW D g h0 s H locs s_81 → lv_has ls 8 [(0, .ref (h0 + 128)), (1, .ref (h0 + d)), (2, .int (xJ n)), (3, .int (xJ a)), (4, .int (xJ x1)), (5, .int (xJ i5_9)), (6, .int (xJ t0_64))] → W p l e { frames := 5, cells := 0, slots := 0, locals := 128 } s m args below meth c H locs 0 0 Q (F0 m 81 ls []) := by
          intro s_81 H locs ls hF_81 q81_0 q81_1 q81_2 hW hl
          refine x_aload_n hx hb hl 0 rfl dX0_goOn_81 rfl ?_
          refine x_get (j := 1) (v := .ref (h0 + 109)) hx hb hown hT hE hW cls_X0 (Or.inl (by decide)) (so_128 h0 g _) (by decide) rfl wq354 dX0_goOn_82 ?_
          refine x_aload_n hx hb hl 1 rfl dX0_goOn_85 rfl ?_
          refine x_getN (j := 7) (v := .int (xJ (s_81 d 7))) hx hb hown hT hE hW cls_X2 (Or.inl (by omega)) (so_day0 h0 g hd _) (by decide) rfl wn402 dX0_goOn_86 ?_
          refine x_rd hW (fun x40 ex40 rx40 => ?_)
          have bx40 : 0 ≤ x40 ∧ x40 ≤ 9999 := by rw [ex40]; exact IC.m q81_2 hd
          have fx40 : x40 = x9 := ex40.trans q81_1
          refine x_goi (x_runVN (As := [.int (xJ x40)]) hx hb hml hown hT hE hW hl.1 (Or.inl (by decide)) (so_109 h0 g _) rfl cf_X4_isNight wq819 wq45 wn817 (c_X4_isNight l D g T h0 s_81 hW.2.1 x40 rx40 q81_2) ⟨rfl, rfl, ⟨by decide, by decide⟩, ⟨by decide, by decide⟩⟩ rfl rfl (Nat.le_of_ble_eq_true rfl) dX0_goOn_89) hW (fun x41 s42 H locs rx41 hp43 hW => ?_)
          obtain ⟨fs42, hp43⟩ := hp43
          have hF44 := hF_81.call fs42 (fun k h => by omega)
          have q45 : s42 1 1 = s0 1 1 := (congrFun (fs42 _ (by omega)) _).trans q81_0
          have q46 : s42 d 7 = x9 := (congrFun (fs42 _ (by omega)) _).trans q81_1
          have ghp43 := hp43.2
          refine lv_istore (lv' := [(7, .int (xJ x41)), (0, .ref (h0 + 128)), (1, .ref (h0 + d)), (2, .int (xJ n)), (3, .int (xJ a)), (4, .int (xJ x1)), (5, .int (xJ i5_9)), (6, .int (xJ t0_64))]) hx hb dX0_goOn_92 hl (by decide) rfl (fun ls hl => ?_)
          refine x_aload_n hx hb hl 1 rfl dX0_goOn_94 rfl ?_
          refine x_aload_n hx hb hl 2 rfl dX0_goOn_95 rfl ?_
          refine x_iload hx hb hl 7 rfl dX0_goOn_96 ?_
          have J106 : ∀ (t0_106 : Int) (ls : Array Slot), (xR t0_106) → lv_has ls 8 [(0, .ref (h0 + 128)), (1, .ref (h0 + d)), (2, .int (xJ n)), (3, .int (xJ a)), (4, .int (xJ x1)), (5, .int (xJ i5_9)), (7, .int (xJ x41))] → W p l e { frames := 5, cells := 0, slots := 0, locals := 128 } s m args below meth c H locs 0 0 Q (F0 m 106 ls [.int (xJ t0_106), .ref (h0 + d), .ref (h0 + 128)]) := by
            intro t0_106 ls rt0_106  hl
            refine x_iload hx hb hl 6 rfl dX0_goOn_106 ?_
            refine x_gov (x_runV (As := [.ref (h0 + d), .int (xJ t0_106), .int (xJ x41)]) hx hb hml hown hT hE hW hl.1 (Or.inl (by decide)) (so_128 h0 g _) rfl cf_X0_cast wq824 wq46 wq822 (c_X0_cast l D g T h0 s42 hW.2.1 d hd t0_106 rt0_106 x41 rx41 hp43.1.1) ⟨rfl, rfl, ⟨by decide, by decide⟩, ⟨by decide, by decide⟩⟩ rfl rfl (Nat.le_of_ble_eq_true rfl) dX0_goOn_108) hW (fun s48 H locs hp49 hW => ?_)
            obtain ⟨fs48, hp49⟩ := hp49
            have hF50 := hF44.call fs48 (fun k h => by omega)
            have q51 : s48 1 1 = s0 1 1 := (congrFun (fs48 _ (by omega)) _).trans q45
            have q52 : s48 d 7 = x9 := (congrFun (fs48 _ (by omega)) _).trans q46
            have ghp49 := hp49.2
            refine x_aload_n hx hb hl 0 rfl dX0_goOn_111 rfl ?_
            refine x_aload_n hx hb hl 1 rfl dX0_goOn_112 rfl ?_
            refine x_aload_n hx hb hl 0 rfl dX0_goOn_113 rfl ?_
            refine x_aload_n hx hb hl 1 rfl dX0_goOn_114 rfl ?_
            refine x_iload_n hx hb hl 3 rfl dX0_goOn_115 rfl ?_
            refine x_goi (x_runV (As := [.ref (h0 + d), .int (xJ a)]) hx hb hml hown hT hE hW hl.1 (Or.inl (by decide)) (so_128 h0 g _) rfl cf_X0_lineUp wq854 wq51 wq852 (c_X0_lineUp l D g T h0 s48 hW.2.1 d hd a ra hp49.1.1) ⟨rfl, rfl, ⟨by decide, by decide⟩, ⟨by decide, by decide⟩⟩ rfl rfl (Nat.le_of_ble_eq_true rfl) dX0_goOn_116) hW (fun x53 s54 H locs rx53 hp55 hW => ?_)
            obtain ⟨fs54, hp55⟩ := hp55
            have hF56 := hF50.call fs54 (fun k h => by omega)
            have q57 : s54 1 1 = s0 1 1 := (congrFun (fs54 _ (by omega)) _).trans q51
            have q58 : s54 d 7 = x9 := (congrFun (fs54 _ (by omega)) _).trans q52
            have ghp55 := hp55.2
            refine x_iload hx hb hl 6 rfl dX0_goOn_119 ?_
            refine x_gov (x_runV (As := [.ref (h0 + d), .int (xJ x53), .int (xJ x41)]) hx hb hml hown hT hE hW hl.1 (Or.inl (by decide)) (so_128 h0 g _) rfl cf_X0_felonsGo wq875 wq56 wq873 (c_X0_felonsGo l D g T h0 s54 hW.2.1 d hd x53 rx53 x41 rx41 hp55.1.1) ⟨rfl, rfl, ⟨by decide, by decide⟩, ⟨by decide, by decide⟩⟩ rfl rfl (Nat.le_of_ble_eq_true rfl) dX0_goOn_121) hW (fun s60 H locs hp61 hW => ?_)
            obtain ⟨fs60, hp61⟩ := hp61
            have hF62 := hF56.call fs60 (fun k h => by omega)
            have q63 : s60 1 1 = s0 1 1 := (congrFun (fs60 _ (by omega)) _).trans q57
            have ghp61 := hp61.2
            refine x_aload_n hx hb hl 1 rfl dX0_goOn_124 rfl ?_
            refine lv_dup hx hb dX0_goOn_125 rfl ?_
            refine x_getN (j := 7) (v := .int (xJ (s60 d 7))) hx hb hown hT hE hW cls_X2 (Or.inl (by omega)) (so_day0 h0 g hd _) (by decide) rfl wn402 dX0_goOn_126 ?_
            refine x_rd hW (fun x64 ex64 rx64 => ?_)
            have bx64 : 0 ≤ x64 ∧ x64 ≤ 9999 := by rw [ex64]; exact IC.m hp61.1.1 hd
            have fx64 : x64 = x9 := ex64.trans (hp61.1.2.1.trans q58)
            refine x_iconst hx hb dX0_goOn_129 ?_
            refine x_iadd hx hb dX0_goOn_130 ?_
            refine x_putN (j := 7) hx hb hown hT hE hW cls_X2 (by omega) (fun σ => so_day0 h0 g hd σ) (by decide) (st_X2_7 h0 s60 d (x64 + 1)) (ln_X2_7 h0 _ _) wn402 rfl rfl rfl (by omega) dX0_goOn_131 (fun H locs s65 es65 hW => ?_)
            have q66 : s65 1 1 = s0 1 1 := (show s65 1 1 = s60 1 1 from by rw [es65, xU_k _ _ _ (by omega)]).trans q63
            have q67 : IC s65 := by rw [es65]; exact IC_d hd hp61.1.1 (by omega)
            have q68 : s65 d 7 = (x64 + 1) := by rw [es65, xU_s]
            have hF69 := hF62.put es65 (by omega)
            refine x_iinc (lv' := [(5, .int (xJ (i5_9 + 1))), (0, .ref (h0 + 128)), (1, .ref (h0 + d)), (2, .int (xJ n)), (3, .int (xJ a)), (4, .int (xJ x1)), (7, .int (xJ x41))]) hx hb hl 5 rfl dX0_goOn_134 (by decide) rfl (fun ls hl => ?_)
            refine lv_goto (tgt := 9) hx hb dX0_goOn_137 (by decide) ?_
            exact ih9 (i5_9 + 1) s65 H locs ls (by omega) hF69 q67 q66 (by omega) (by omega) (by omega) (by omega) hW (lv_sub hl [1, 2, 3, 4, 5, 0] rfl)
          refine x_if_ne (tgt := 105) hx hb rt0_64 dX0_goOn_98 (by decide) (fun c70 => ?_) (fun c70 => ?_)
          · skip
            refine x_iconst hx hb dX0_goOn_105 ?_
            exact J106 0 ls (by decide)  (lv_sub hl [1, 2, 3, 4, 5, 6, 0] rfl)
          refine x_iconst hx hb dX0_goOn_101 ?_
          refine lv_goto (tgt := 106) hx hb dX0_goOn_102 (by decide) ?_
          exact J106 1 ls (by decide)  (lv_sub hl [1, 2, 3, 4, 5, 6, 0] rfl)
        refine x_if_eq (tgt := 81) hx hb rt0_64 dX0_goOn_68 (by decide) (fun c71 => ?_) (fun c71 => ?_)
        · skip
          exact J81 s35 H locs ls hF37 q38 q39 hp36.1.1 hW (lv_sub hl [1, 2, 3, 4, 5, 6, 0] rfl)
        refine x_aload_n hx hb hl 2 rfl dX0_goOn_71 rfl ?_
        refine lv_dup hx hb dX0_goOn_72 rfl ?_
        refine x_getN (j := 10) (v := .int (xJ (s35 d 10))) hx hb hown hT hE hW cls_X2 (Or.inl (by omega)) (so_day0 h0 g hd _) (by decide) rfl wn410 dX0_goOn_73 ?_
        refine x_rd hW (fun x72 ex72 rx72 => ?_)
        refine x_iconst hx hb dX0_goOn_76 ?_
        refine x_iadd hx hb dX0_goOn_77 ?_
        refine x_any (fun x73 rx73 => ?_)
        refine x_putN (j := 10) hx hb hown hT hE hW cls_X2 (by omega) (fun σ => so_day0 h0 g hd σ) (by decide) (st_X2_10 h0 s35 d x73) (ln_X2_10 h0 _ _) wn410 rfl rfl rfl rx73 dX0_goOn_78 (fun H locs s74 es74 hW => ?_)
        have q75 : s74 1 1 = s0 1 1 := (show s74 1 1 = s35 1 1 from by rw [es74, xU_k _ _ _ (by omega)]).trans q38
        have q76 : s74 d 7 = x9 := (show s74 d 7 = s35 d 7 from by rw [es74, xU_j _ _ (by decide)]).trans q39
        have q77 : IC s74 := by rw [es74]; exact IC_d hd hp36.1.1 (by omega)
        have hF78 := hF37.put es74 (by omega)
        exact J81 s74 H locs ls hF78 q75 q76 q77 hW (lv_sub hl [1, 2, 3, 4, 5, 6, 0] rfl)
      refine x_icmp_ge (tgt := 63) hx hb rx29 rx34 dX0_goOn_56 (by decide) (fun c79 => ?_) (fun c79 => ?_)
      · skip
        refine x_iconst hx hb dX0_goOn_63 ?_
        exact J64 0 ls (by decide)  (lv_sub hl [0, 1, 2, 3, 4, 5] rfl)
      refine x_iconst hx hb dX0_goOn_59 ?_
      refine lv_goto (tgt := 64) hx hb dX0_goOn_60 (by decide) ?_
      exact J64 1 ls (by decide)  (lv_sub hl [0, 1, 2, 3, 4, 5] rfl)
  exact L9 ((n + 1 - 0 : Int).toNat + 1) 0 s0 H locs ls (by decide) hF p0 k1_1 (by omega) (by omega) (by omega) (Nat.lt_succ_self _) hW (lv_sub hl [2, 3, 4, 5, 1, 0] rfl)
set_option maxHeartbeats 4000000 in
set_option maxRecDepth 100000 in
theorem c_X10_minutesM (l : Launch) (D : va_G) (g : xG) (T : Nat × Nat × Nat) (h0 : Nat) (s0 : xS) (hσ : xRR s0) (n : Int) (rn : xR n) (p0 : IC s0) : Met l yX10_minutes (xws yX10_minutes cX10_minutes 2 (some .int)) { frames := 6, cells := 0, slots := 0, locals := 155 } (xP [.ref (h0 + 0), .int (xJ n)] D g T h0 s0) (xQi D g h0 (fun r τ => xFr (fun k => (7 ≤ k ∧ k < 107) ∨ k = 107 ∨ k = 115 ∨ k = 116 ∨ k = 130 ∨ k = 131 ∨ k = 132 ∨ k = 133 ∨ k = 134 ∨ k = 135 ∨ k = 136 ∨ k = 137 ∨ k = 141 ∨ k = 142 ∨ k = 143 ∨ k = 144 ∨ k = 145) s0 τ ∧ (((IC τ) ∧ True) ∧ ((1 ≤ n ∧ n ≤ 120 ∧ (τ 136 7 = s0 136 7 + n ∨ (9999 ≤ τ 136 7 ∧ s0 136 7 ≤ τ 136 7 ∧ τ 136 7 ≤ s0 136 7 + n))) ∨ (¬ (1 ≤ n ∧ n ≤ 120) ∧ τ 136 7 = s0 136 7 ∧ r = -1))))) 0 0 (xA h0) := by
  refine x_met hσ (by decide) (Nat.le_of_ble_eq_true rfl) ?_
  intro p e s m args below meth c hx hb hr hml hown hT hlk hnm hE hW ls hl
  have hl : lv_has ls 2 [(0, .ref (h0 + 0)), (1, .int (xJ n))] := hl
  obtain ⟨Q, eQ⟩ : ∃ Q, Q = MQ below (xQi D g h0 (fun r τ => xFr (fun k => (7 ≤ k ∧ k < 107) ∨ k = 107 ∨ k = 115 ∨ k = 116 ∨ k = 130 ∨ k = 131 ∨ k = 132 ∨ k = 133 ∨ k = 134 ∨ k = 135 ∨ k = 136 ∨ k = 137 ∨ k = 141 ∨ k = 142 ∨ k = 143 ∨ k = 144 ∨ k = 145) s0 τ ∧ (((IC τ) ∧ True) ∧ ((1 ≤ n ∧ n ≤ 120 ∧ (τ 136 7 = s0 136 7 + n ∨ (9999 ≤ τ 136 7 ∧ s0 136 7 ≤ τ 136 7 ∧ τ 136 7 ≤ s0 136 7 + n))) ∨ (¬ (1 ≤ n ∧ n ≤ 120) ∧ τ 136 7 = s0 136 7 ∧ r = -1))))) args s 0 0 (xA h0) := ⟨_, rfl⟩
  rw [← eQ]
  generalize hHe : ([] : List Loc) = locs at hW ⊢
  obtain ⟨H, eH⟩ : ∃ H, H = s.heap := ⟨_, rfl⟩
  rw [← eH] at hW ⊢
  have hF : xFr (fun k => (7 ≤ k ∧ k < 107) ∨ k = 107 ∨ k = 115 ∨ k = 116 ∨ k = 130 ∨ k = 131 ∨ k = 132 ∨ k = 133 ∨ k = 134 ∨ k = 135 ∨ k = 136 ∨ k = 137 ∨ k = 141 ∨ k = 142 ∨ k = 143 ∨ k = 144 ∨ k = 145) s0 s0 := xFr.rf
  have k1_1 : s0 1 1 = s0 1 1 := rfl
  have k136_7 : s0 136 7 = s0 136 7 := rfl
  refine x_iload_n hx hb hl 1 rfl dX10_minutes_0 rfl ?_
  refine x_iconst hx hb dX10_minutes_1 ?_
  refine x_bipush hx hb dX10_minutes_2 (by decide) ?_
  refine x_goi (x_runS (As := [.int (xJ n), .int (xJ 1), .int (xJ 120)]) hx hb hml hown hT hE hW hl.1 cf_X10_isIn wq562 wq561 (c_X10_isIn l D g T h0 s0 hW.2.1 n rn 1 (by decide) 120 (by decide)) ⟨rfl, rfl, ⟨by decide, by decide⟩, ⟨by decide, by decide⟩⟩ rfl rfl (Nat.le_of_ble_eq_true rfl) dX10_minutes_4) hW (fun x1 s2 H locs rx1 hp3 hW => ?_)
  obtain ⟨es2, hp3⟩ := hp3
  subst es2
  have ghp3 := hp3
  refine x_if_eq (tgt := 26) hx hb rx1 dX10_minutes_7 (by decide) (fun c4 => ?_) (fun c4 => ?_)
  · skip
    refine x_iconst hx hb dX10_minutes_26 ?_
    rw [eQ]
    exact x_iret hx hb hr hlk hW (by decide) ⟨hF, ⟨p0, trivial⟩, by omega⟩ dX10_minutes_27
  refine x_aload_n hx hb hl 0 rfl dX10_minutes_10 rfl ?_
  refine x_get (j := 5) (v := .ref (h0 + 128)) hx hb hown hT hE hW cls_X10 (Or.inl (by decide)) (so_0 h0 g _) (by decide) rfl wq517 dX10_minutes_11 ?_
  refine x_aload_n hx hb hl 0 rfl dX10_minutes_14 rfl ?_
  refine x_get (j := 8) (v := .ref (h0 + 136)) hx hb hown hT hE hW cls_X10 (Or.inl (by decide)) (so_0 h0 g _) (by decide) rfl wq520 dX10_minutes_15 ?_
  refine x_iload_n hx hb hl 1 rfl dX10_minutes_18 rfl ?_
  refine x_iconst hx hb dX10_minutes_19 ?_
  refine x_goi (x_runVN (As := [.ref (h0 + 136), .int (xJ n), .int (xJ (-1))]) hx hb hml hown hT hE hW hl.1 (Or.inl (by decide)) (so_128 h0 g _) rfl cf_X0_goOn wq761 wq34 wn759 (c_X0_goOnM l D g T h0 s0 hW.2.1 136 xd_136 n rn (-1) (by decide) p0) ⟨rfl, rfl, ⟨by decide, by decide⟩, ⟨by decide, by decide⟩⟩ rfl rfl (Nat.le_of_ble_eq_true rfl) dX10_minutes_20) hW (fun x5 s6 H locs rx5 hp7 hW => ?_)
  obtain ⟨fs6, hp7⟩ := hp7
  have hF8 := hF.call fs6 (fun k h => by omega)
  have q9 : s6 1 1 = s0 1 1 := (congrFun (fs6 _ (by omega)) _).trans k1_1
  have ghp7 := hp7.2
  refine lv_goto (tgt := 27) hx hb dX10_minutes_23 (by decide) ?_
  rw [eQ]
  exact x_iret hx hb hr hlk hW rx5 ⟨hF8, ⟨hp7.1.1, trivial⟩, by omega⟩ dX10_minutes_27
set_option maxHeartbeats 4000000 in
set_option maxRecDepth 100000 in
theorem c_X10_seedM (l : Launch) (D : va_G) (g : xG) (T : Nat × Nat × Nat) (h0 : Nat) (s0 : xS) (hσ : xRR s0) (x : Int) (rx : xR x) (p0 : IC s0) : Met l yX10_seed (xws yX10_seed cX10_seed 2 (some .boolean)) { frames := 1, cells := 0, slots := 0, locals := 22 } (xP [.ref (h0 + 0), .int (xJ x)] D g T h0 s0) (xQi D g h0 (fun r τ => xFr (fun k => k = 136) s0 τ ∧ (((IC τ) ∧ (τ 136 7 = s0 136 7) ∧ True) ∧ ((r = 1 ∧ 0 ≤ x ∧ x ≤ 65535) ∨ (r = 0 ∧ (x < 0 ∨ 65535 < x)))))) 0 0 (xA h0) := by
  refine x_met hσ (by decide) (Nat.le_of_ble_eq_true rfl) ?_
  intro p e s m args below meth c hx hb hr hml hown hT hlk hnm hE hW ls hl
  have hl : lv_has ls 2 [(0, .ref (h0 + 0)), (1, .int (xJ x))] := hl
  obtain ⟨Q, eQ⟩ : ∃ Q, Q = MQ below (xQi D g h0 (fun r τ => xFr (fun k => k = 136) s0 τ ∧ (((IC τ) ∧ (τ 136 7 = s0 136 7) ∧ True) ∧ ((r = 1 ∧ 0 ≤ x ∧ x ≤ 65535) ∨ (r = 0 ∧ (x < 0 ∨ 65535 < x)))))) args s 0 0 (xA h0) := ⟨_, rfl⟩
  rw [← eQ]
  generalize hHe : ([] : List Loc) = locs at hW ⊢
  obtain ⟨H, eH⟩ : ∃ H, H = s.heap := ⟨_, rfl⟩
  rw [← eH] at hW ⊢
  have hF : xFr (fun k => k = 136) s0 s0 := xFr.rf
  have k1_1 : s0 1 1 = s0 1 1 := rfl
  have k136_7 : s0 136 7 = s0 136 7 := rfl
  refine x_iload_n hx hb hl 1 rfl dX10_seed_0 rfl ?_
  refine x_iconst hx hb dX10_seed_1 ?_
  refine lv_ldcw (v := xJ 65535) hx hb hown (hT _ wq1153) dX10_seed_2 ?_
  refine x_goi (x_runS (As := [.int (xJ x), .int (xJ 0), .int (xJ 65535)]) hx hb hml hown hT hE hW hl.1 cf_X10_isIn wq562 wq561 (c_X10_isIn l D g T h0 s0 hW.2.1 x rx 0 (by decide) 65535 (by decide)) ⟨rfl, rfl, ⟨by decide, by decide⟩, ⟨by decide, by decide⟩⟩ rfl rfl (Nat.le_of_ble_eq_true rfl) dX10_seed_5) hW (fun x1 s2 H locs rx1 hp3 hW => ?_)
  obtain ⟨es2, hp3⟩ := hp3
  subst es2
  have ghp3 := hp3
  refine x_if_ne (tgt := 13) hx hb rx1 dX10_seed_8 (by decide) (fun c4 => ?_) (fun c4 => ?_)
  · skip
    refine x_aload_n hx hb hl 0 rfl dX10_seed_13 rfl ?_
    refine x_get (j := 8) (v := .ref (h0 + 136)) hx hb hown hT hE hW cls_X10 (Or.inl (by decide)) (so_0 h0 g _) (by decide) rfl wq520 dX10_seed_14 ?_
    refine x_iload_n hx hb hl 1 rfl dX10_seed_17 rfl ?_
    refine x_putN (j := 8) hx hb hown hT hE hW cls_X2 (by decide) (fun σ => so_136 h0 g σ) (by decide) (st_X2_8 h0 s0 136 x) (ln_X2_8 h0 _ _) wn405 rfl rfl rfl rx dX10_seed_18 (fun H locs s5 es5 hW => ?_)
    have q6 : IC s5 := by rw [es5]; exact IC_d xd_136 p0 (by omega)
    have q7 : s5 1 1 = s0 1 1 := (show s5 1 1 = s0 1 1 from by rw [es5, xU_k _ _ _ (by omega)]).trans k1_1
    have q8 : s5 136 7 = s0 136 7 := (show s5 136 7 = s0 136 7 from by rw [es5, xU_j _ _ (by decide)]).trans k136_7
    have hF9 := hF.put es5 (by omega)
    refine x_iconst hx hb dX10_seed_21 ?_
    rw [eQ]
    exact x_zret hx hb hr hlk hW (by omega) ⟨hF9, ⟨q6, q8, trivial⟩, by omega⟩ dX10_seed_22
  refine x_iconst hx hb dX10_seed_11 ?_
  rw [eQ]
  exact x_zret hx hb hr hlk hW (by omega) ⟨hF, ⟨p0, k136_7, trivial⟩, by omega⟩ dX10_seed_12
set_option maxHeartbeats 4000000 in
set_option maxRecDepth 100000 in
theorem c_X10_keepM (l : Launch) (D : va_G) (g : xG) (T : Nat × Nat × Nat) (h0 : Nat) (s0 : xS) (hσ : xRR s0) (p0 : IC s0) : Met l yX10_keep (xws yX10_keep cX10_keep 1 (some .int)) { frames := 1, cells := 0, slots := 0, locals := 22 } (xP [.ref (h0 + 0)] D g T h0 s0) (xQi D g h0 (fun r τ => xFr (fun k => k = 0 ∨ k = 146 ∨ k = 147 ∨ k = 148 ∨ k = 151 ∨ k = 152 ∨ k = 153 ∨ k = 154 ∨ k = 155) s0 τ ∧ (((IC τ) ∧ True) ∧ (τ 0 11 = 1 ∧ τ 146 7 = s0 136 7 ∧ r = s0 136 7)))) 0 0 (xA h0) := by
  refine x_met hσ (by decide) (Nat.le_of_ble_eq_true rfl) ?_
  intro p e s m args below meth c hx hb hr hml hown hT hlk hnm hE hW ls hl
  have hl : lv_has ls 1 [(0, .ref (h0 + 0))] := hl
  obtain ⟨Q, eQ⟩ : ∃ Q, Q = MQ below (xQi D g h0 (fun r τ => xFr (fun k => k = 0 ∨ k = 146 ∨ k = 147 ∨ k = 148 ∨ k = 151 ∨ k = 152 ∨ k = 153 ∨ k = 154 ∨ k = 155) s0 τ ∧ (((IC τ) ∧ True) ∧ (τ 0 11 = 1 ∧ τ 146 7 = s0 136 7 ∧ r = s0 136 7)))) args s 0 0 (xA h0) := ⟨_, rfl⟩
  rw [← eQ]
  generalize hHe : ([] : List Loc) = locs at hW ⊢
  obtain ⟨H, eH⟩ : ∃ H, H = s.heap := ⟨_, rfl⟩
  rw [← eH] at hW ⊢
  have hF : xFr (fun k => k = 0 ∨ k = 146 ∨ k = 147 ∨ k = 148 ∨ k = 151 ∨ k = 152 ∨ k = 153 ∨ k = 154 ∨ k = 155) s0 s0 := xFr.rf
  have k1_1 : s0 1 1 = s0 1 1 := rfl
  have k0_11 : s0 0 11 = s0 0 11 := rfl
  have k136_7 : s0 136 7 = s0 136 7 := rfl
  refine x_aload_n hx hb hl 0 rfl dX10_keep_0 rfl ?_
  refine x_get (j := 9) (v := .ref (h0 + 146)) hx hb hown hT hE hW cls_X10 (Or.inl (by decide)) (so_0 h0 g _) (by decide) rfl wq521 dX10_keep_1 ?_
  refine x_aload_n hx hb hl 0 rfl dX10_keep_4 rfl ?_
  refine x_get (j := 8) (v := .ref (h0 + 136)) hx hb hown hT hE hW cls_X10 (Or.inl (by decide)) (so_0 h0 g _) (by decide) rfl wq520 dX10_keep_5 ?_
  refine x_gov (x_runVN (As := [.ref (h0 + 136)]) hx hb hml hown hT hE hW hl.1 (Or.inl (by decide)) (so_146 h0 g _) rfl cf_X2_copyFrom wq918 wq64 wn1158 (c_X2_copyFromM l D g T h0 s0 hW.2.1 146 xd_146 136 xd_136 (by omega) p0) ⟨rfl, rfl, ⟨by decide, by decide⟩, ⟨by decide, by decide⟩⟩ rfl rfl (Nat.le_of_ble_eq_true rfl) dX10_keep_8) hW (fun s2 H locs hp3 hW => ?_)
  obtain ⟨fs2, hp3⟩ := hp3
  have hF4 := hF.call fs2 (fun k h => by omega)
  have q5 : s2 1 1 = s0 1 1 := (congrFun (fs2 _ (by omega)) _).trans k1_1
  have q6 : s2 0 11 = s0 0 11 := (congrFun (fs2 _ (by omega)) _).trans k0_11
  have q7 : s2 136 7 = s0 136 7 := (congrFun (fs2 _ (by omega)) _).trans k136_7
  have ghp3 := hp3.2
  have q8 : s2 146 7 = s0 136 7 := ghp3
  refine x_aload_n hx hb hl 0 rfl dX10_keep_11 rfl ?_
  refine x_iconst hx hb dX10_keep_12 ?_
  refine x_put (j := 11) hx hb hown hT hE hW cls_X10 (by decide) (fun σ => so_0 h0 g σ) (by decide) (st_X10_11 h0 s2 0 1) (ln_X10_11 h0 _ _) wq523 rfl rfl rfl (by decide) dX10_keep_13 (fun H locs s9 es9 hW => ?_)
  have q10 : s9 1 1 = s0 1 1 := (show s9 1 1 = s2 1 1 from by rw [es9, xU_k _ _ _ (by omega)]).trans q5
  have q11 : s9 0 11 = 1 := by rw [es9, xU_s]
  have q12 : s9 136 7 = s0 136 7 := (show s9 136 7 = s2 136 7 from by rw [es9, xU_k _ _ _ (by omega)]).trans q7
  have q13 : IC s9 := by rw [es9]; exact IC_o (by decide) hp3.1.1
  have q14 : s9 146 7 = s0 136 7 := (show s9 146 7 = s2 146 7 from by rw [es9, xU_k _ _ _ (by omega)]).trans q8
  have hF15 := hF4.put es9 (by omega)
  refine x_aload_n hx hb hl 0 rfl dX10_keep_16 rfl ?_
  refine x_get (j := 8) (v := .ref (h0 + 136)) hx hb hown hT hE hW cls_X10 (Or.inl (by decide)) (so_0 h0 g _) (by decide) rfl wq520 dX10_keep_17 ?_
  refine x_getN (j := 7) (v := .int (xJ (s9 136 7))) hx hb hown hT hE hW cls_X2 (Or.inl (by decide)) (so_136 h0 g _) (by decide) rfl wn403 dX10_keep_20 ?_
  refine x_rd hW (fun x16 ex16 rx16 => ?_)
  have bx16 : 0 ≤ x16 ∧ x16 ≤ 9999 := by rw [ex16]; exact IC.m q13 xd_136
  have fx16 : x16 = s0 136 7 := ex16.trans q12
  rw [eQ]
  exact x_iret hx hb hr hlk hW rx16 ⟨hF15, ⟨q13, trivial⟩, by omega⟩ dX10_keep_23
set_option maxHeartbeats 4000000 in
set_option maxRecDepth 100000 in
theorem c_X10_undoM (l : Launch) (D : va_G) (g : xG) (T : Nat × Nat × Nat) (h0 : Nat) (s0 : xS) (hσ : xRR s0) (hk : s0 0 11 = 0 ∨ s0 0 11 = 1) (p0 : IC s0) : Met l yX10_undo (xws yX10_undo cX10_undo 1 (some .boolean)) { frames := 1, cells := 0, slots := 0, locals := 22 } (xP [.ref (h0 + 0)] D g T h0 s0) (xQi D g h0 (fun r τ => xFr (fun k => k = 136 ∨ k = 137 ∨ k = 138 ∨ k = 141 ∨ k = 142 ∨ k = 143 ∨ k = 144 ∨ k = 145) s0 τ ∧ (((IC τ) ∧ True) ∧ (r = s0 0 11 ∧ ((s0 0 11 = 0 ∧ τ 136 7 = s0 136 7) ∨ (s0 0 11 ≠ 0 ∧ τ 136 7 = s0 146 7)))))) 0 0 (xA h0) := by
  refine x_met hσ (by decide) (Nat.le_of_ble_eq_true rfl) ?_
  intro p e s m args below meth c hx hb hr hml hown hT hlk hnm hE hW ls hl
  have hl : lv_has ls 1 [(0, .ref (h0 + 0))] := hl
  obtain ⟨Q, eQ⟩ : ∃ Q, Q = MQ below (xQi D g h0 (fun r τ => xFr (fun k => k = 136 ∨ k = 137 ∨ k = 138 ∨ k = 141 ∨ k = 142 ∨ k = 143 ∨ k = 144 ∨ k = 145) s0 τ ∧ (((IC τ) ∧ True) ∧ (r = s0 0 11 ∧ ((s0 0 11 = 0 ∧ τ 136 7 = s0 136 7) ∨ (s0 0 11 ≠ 0 ∧ τ 136 7 = s0 146 7)))))) args s 0 0 (xA h0) := ⟨_, rfl⟩
  rw [← eQ]
  generalize hHe : ([] : List Loc) = locs at hW ⊢
  obtain ⟨H, eH⟩ : ∃ H, H = s.heap := ⟨_, rfl⟩
  rw [← eH] at hW ⊢
  have hF : xFr (fun k => k = 136 ∨ k = 137 ∨ k = 138 ∨ k = 141 ∨ k = 142 ∨ k = 143 ∨ k = 144 ∨ k = 145) s0 s0 := xFr.rf
  have k1_1 : s0 1 1 = s0 1 1 := rfl
  have k0_11 : s0 0 11 = s0 0 11 := rfl
  have k136_7 : s0 136 7 = s0 136 7 := rfl
  refine x_aload_n hx hb hl 0 rfl dX10_undo_0 rfl ?_
  refine x_get (j := 11) (v := .int (xJ (s0 0 11))) hx hb hown hT hE hW cls_X10 (Or.inl (by decide)) (so_0 h0 g _) (by decide) rfl wq523 dX10_undo_1 ?_
  refine x_rd hW (fun x1 ex1 rx1 => ?_)
  have fx1 : x1 = s0 0 11 := ex1.trans k0_11
  refine x_if_eq (tgt := 18) hx hb rx1 dX10_undo_4 (by decide) (fun c2 => ?_) (fun c2 => ?_)
  · skip
    refine x_aload_n hx hb hl 0 rfl dX10_undo_18 rfl ?_
    refine x_get (j := 11) (v := .int (xJ (s0 0 11))) hx hb hown hT hE hW cls_X10 (Or.inl (by decide)) (so_0 h0 g _) (by decide) rfl wq523 dX10_undo_19 ?_
    refine x_rd hW (fun x3 ex3 rx3 => ?_)
    have fx3 : x3 = s0 0 11 := ex3.trans k0_11
    rw [eQ]
    exact x_zret hx hb hr hlk hW (by omega) ⟨hF, ⟨p0, trivial⟩, by omega⟩ dX10_undo_22
  refine x_aload_n hx hb hl 0 rfl dX10_undo_7 rfl ?_
  refine x_get (j := 8) (v := .ref (h0 + 136)) hx hb hown hT hE hW cls_X10 (Or.inl (by decide)) (so_0 h0 g _) (by decide) rfl wq520 dX10_undo_8 ?_
  refine x_aload_n hx hb hl 0 rfl dX10_undo_11 rfl ?_
  refine x_get (j := 9) (v := .ref (h0 + 146)) hx hb hown hT hE hW cls_X10 (Or.inl (by decide)) (so_0 h0 g _) (by decide) rfl wq521 dX10_undo_12 ?_
  refine x_gov (x_runVN (As := [.ref (h0 + 146)]) hx hb hml hown hT hE hW hl.1 (Or.inl (by decide)) (so_136 h0 g _) rfl cf_X2_copyFrom wq918 wq64 wn1158 (c_X2_copyFromM l D g T h0 s0 hW.2.1 136 xd_136 146 xd_146 (by omega) p0) ⟨rfl, rfl, ⟨by decide, by decide⟩, ⟨by decide, by decide⟩⟩ rfl rfl (Nat.le_of_ble_eq_true rfl) dX10_undo_15) hW (fun s5 H locs hp6 hW => ?_)
  obtain ⟨fs5, hp6⟩ := hp6
  have hF7 := hF.call fs5 (fun k h => by omega)
  have q8 : s5 1 1 = s0 1 1 := (congrFun (fs5 _ (by omega)) _).trans k1_1
  have q9 : s5 0 11 = s0 0 11 := (congrFun (fs5 _ (by omega)) _).trans k0_11
  have ghp6 := hp6.2
  have q10 : s5 136 7 = s0 146 7 := ghp6
  refine x_aload_n hx hb hl 0 rfl dX10_undo_18 rfl ?_
  refine x_get (j := 11) (v := .int (xJ (s5 0 11))) hx hb hown hT hE hW cls_X10 (Or.inl (by decide)) (so_0 h0 g _) (by decide) rfl wq523 dX10_undo_19 ?_
  refine x_rd hW (fun x11 ex11 rx11 => ?_)
  have fx11 : x11 = s0 0 11 := ex11.trans q9
  rw [eQ]
  exact x_zret hx hb hr hlk hW (by omega) ⟨hF7, ⟨hp6.1.1, trivial⟩, by omega⟩ dX10_undo_22

