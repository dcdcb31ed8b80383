set_option maxHeartbeats 4000000 in
set_option maxRecDepth 100000 in
theorem c_X11_laysReach (l : Launch) (D : va_G) (g : xG) (T : Nat × Nat × Nat) (h0 : Nat) (s0 : xS) (hσ : xRR s0) (p0 : IMn s0) (p1 : IMk s0) (p2 : IMo s0) : Met l yX11_laysReach (xws yX11_laysReach cX11_laysReach 3 none) { frames := 4, cells := 0, slots := 0, locals := 96 } (xP [.ref (h0 + 268)] D g T h0 s0) (xQv D g h0 (fun τ => xFr (fun k => k = 293 ∨ k = 294 ∨ k = 296 ∨ k = 301) s0 τ ∧ (((IMn τ) ∧ (IMk τ) ∧ (IMo τ) ∧ True) ∧ (True)))) 0 0 (xA h0) := by
  refine x_met hσ (by decide) (Nat.le_of_ble_eq_true rfl) ?_
  intro p e s m args below meth c hx hb hr hml hown hT hlk hnm hE hW ls hl
  have hl : lv_has ls 3 [(0, .ref (h0 + 268))] := hl
  obtain ⟨Q, eQ⟩ : ∃ Q, Q = MQ below (xQv D g h0 (fun τ => xFr (fun k => k = 293 ∨ k = 294 ∨ k = 296 ∨ k = 301) s0 τ ∧ (((IMn τ) ∧ (IMk τ) ∧ (IMo τ) ∧ True) ∧ (True)))) args s 0 0 (xA h0) := ⟨_, rfl⟩
  rw [← eQ]
  generalize hHe : ([] : List Loc) = locs at hW ⊢
  obtain ⟨H, eH⟩ : ∃ H, H = s.heap := ⟨_, rfl⟩
  rw [← eH] at hW ⊢
  have hF : xFr (fun k => k = 293 ∨ k = 294 ∨ k = 296 ∨ k = 301) s0 s0 := xFr.rf
  have k268_8 : s0 268 8 = s0 268 8 := rfl
  have k268_58 : s0 268 58 = s0 268 58 := rfl
  refine x_iconst hx hb dX11_laysReach_0 ?_
  refine lv_istore_n (lv' := [(1, .int (xJ 0)), (0, .ref (h0 + 268))]) hx hb dX11_laysReach_1 rfl hl (by decide) rfl (fun ls hl => ?_)
  have L2 : ∀ (fu : Nat) (i1_2 : Int) (s_2 : xS) (H : Heap) (locs : List Loc) (ls : Array Slot), (xR i1_2) → (xFr (fun k => k = 293 ∨ k = 294 ∨ k = 296 ∨ k = 301) s0 s_2) → (IMn s_2) → (IMk s_2) → (IMo s_2) → (s_2 268 8 = s0 268 8) → (s_2 268 58 = s0 268 58) → (0 ≤ i1_2) → (i1_2 ≤ 100) → (100 + 1 - i1_2).toNat < fu → xW D g h0 s H locs s_2 → lv_has ls 3 [(0, .ref (h0 + 268)), (1, .int (xJ i1_2))] → W p l e { frames := 4, cells := 0, slots := 0, locals := 96 } s m args below meth c H locs 0 0 Q (F0 m 2 ls []) := by
    intro fu
    induction fu with
    | zero => intro i1_2 s_2 H locs ls ri1_2 hF_2 q2_0 q2_1 q2_2 q2_3 q2_4 v2_0 v2_1 hm; exact absurd hm (Nat.not_lt_zero _)
    | succ fu ih2 =>
      intro i1_2 s_2 H locs ls ri1_2 hF_2 q2_0 q2_1 q2_2 q2_3 q2_4 v2_0 v2_1 hm hW hl
      refine x_iload_n hx hb hl 1 rfl dX11_laysReach_2 rfl ?_
      refine x_bipush hx hb dX11_laysReach_3 (by decide) ?_
      refine x_icmp_ge (tgt := 21) hx hb ri1_2 (by decide) dX11_laysReach_5 (by decide) (fun c1 => ?_) (fun c1 => ?_)
      · skip
        refine x_iconst hx hb dX11_laysReach_21 ?_
        refine lv_istore_n (lv' := [(1, .int (xJ 0)), (0, .ref (h0 + 268))]) hx hb dX11_laysReach_22 rfl hl (by decide) rfl (fun ls hl => ?_)
        have L23 : ∀ (fu : Nat) (i1_23 : Int) (s_23 : xS) (H : Heap) (locs : List Loc) (ls : Array Slot), (xR i1_23) → (xFr (fun k => k = 293 ∨ k = 294 ∨ k = 296 ∨ k = 301) s0 s_23) → (IMn s_23) → (IMk s_23) → (IMo s_23) → (s_23 268 8 = s0 268 8) → (s_23 268 58 = s0 268 58) → (0 ≤ i1_23) → (i1_23 ≤ 10) → (10 + 1 - i1_23).toNat < fu → xW D g h0 s H locs s_23 → lv_has ls 3 [(0, .ref (h0 + 268)), (1, .int (xJ i1_23))] → W p l e { frames := 4, cells := 0, slots := 0, locals := 96 } s m args below meth c H locs 0 0 Q (F0 m 23 ls []) := by
          intro fu
          induction fu with
          | zero => intro i1_23 s_23 H locs ls ri1_23 hF_23 q23_0 q23_1 q23_2 q23_3 q23_4 v23_0 v23_1 hm; exact absurd hm (Nat.not_lt_zero _)
          | succ fu ih23 =>
            intro i1_23 s_23 H locs ls ri1_23 hF_23 q23_0 q23_1 q23_2 q23_3 q23_4 v23_0 v23_1 hm hW hl
            refine x_iload_n hx hb hl 1 rfl dX11_laysReach_23 rfl ?_
            refine x_bipush hx hb dX11_laysReach_24 (by decide) ?_
            refine x_icmp_ge (tgt := 109) hx hb ri1_23 (by decide) dX11_laysReach_26 (by decide) (fun c2 => ?_) (fun c2 => ?_)
            · skip
              rw [eQ]
              exact x_vret hx hb hr hlk hW ⟨hF_23, ⟨q23_0, q23_1, q23_2, trivial⟩, trivial⟩ dX11_laysReach_109
            refine x_aload_n hx hb hl 0 rfl dX11_laysReach_29 rfl ?_
            refine x_iload_n hx hb hl 1 rfl dX11_laysReach_30 rfl ?_
            refine x_goi (x_runV (As := [.int (xJ i1_23)]) hx hb hml hown hT hE hW hl.1 (Or.inl (by decide)) (so_268 h0 g _) rfl cf_X11_owes wq1620 wq147 wq1618 (c_X11_owes l D g T h0 s_23 hW.2.1 i1_23 ri1_23 q23_0 q23_1 q23_2) ⟨rfl, rfl, ⟨by decide, by decide⟩, ⟨by decide, by decide⟩⟩ rfl rfl (Nat.le_of_ble_eq_true rfl) dX11_laysReach_31) hW (fun x3 s4 H locs rx3 hp5 hW => ?_)
            obtain ⟨es4, hp5⟩ := hp5
            subst es4
            have ghp5 := hp5
            refine x_if_ne (tgt := 40) hx hb rx3 dX11_laysReach_34 (by decide) (fun c6 => ?_) (fun c6 => ?_)
            · skip
              refine x_aload_n hx hb hl 0 rfl dX11_laysReach_40 rfl ?_
              refine x_aload_n hx hb hl 0 rfl dX11_laysReach_41 rfl ?_
              refine x_get (j := 0) (v := .ref (h0 + 269)) hx hb hown hT hE hW cls_X11 (Or.inl (by decide)) (so_268 h0 g _) (by decide) rfl wq1185 dX11_laysReach_42 ?_
              refine x_iconst hx hb dX11_laysReach_45 ?_
              refine x_iload_n hx hb hl 1 rfl dX11_laysReach_46 rfl ?_
              refine x_iadd hx hb dX11_laysReach_47 ?_
              refine x_iald hx hb hE hW (Or.inl (by decide)) (sa_269 h0 g _) (by omega) (by decide) dX11_laysReach_48 ?_
              refine x_rd hW (fun x7 ex7 rx7 => ?_)
              have bx7 : 0 ≤ x7 ∧ x7 ≤ 99 := by rw [ex7]; exact (IMn.n1 q23_0).2.2.1 _ (by omega) (by omega)
              refine x_aload_n hx hb hl 0 rfl dX11_laysReach_49 rfl ?_
              refine x_bipush hx hb dX11_laysReach_50 (by decide) ?_
              refine x_iconst hx hb dX11_laysReach_52 ?_
              refine x_iload_n hx hb hl 1 rfl dX11_laysReach_53 rfl ?_
              refine x_goi (x_runV (As := [.int (xJ 118), .int (xJ 3), .int (xJ i1_23)]) hx hb hml hown hT hE hW hl.1 (Or.inl (by decide)) (so_268 h0 g _) rfl cf_X11_byFelon wq1625 wq148 wq1623 (c_X11_byFelon l D g T h0 s_23 hW.2.1 118 (by decide) 3 (by decide) i1_23 ri1_23 (by omega) q23_0 q23_1 q23_2) ⟨rfl, rfl, ⟨by decide, by decide⟩, ⟨by decide, by decide⟩⟩ rfl rfl (Nat.le_of_ble_eq_true rfl) dX11_laysReach_54) hW (fun x8 s9 H locs rx8 hp10 hW => ?_)
              obtain ⟨fs9, hp10⟩ := hp10
              have hF11 := hF_23.call fs9 (fun k h => by omega)
              have q12 : s9 268 8 = s0 268 8 := (congrFun (fs9 _ (by omega)) _).trans q23_3
              have q13 : s9 268 58 = s0 268 58 := (congrFun (fs9 _ (by omega)) _).trans q23_4
              have ghp10 := hp10.2
              refine x_iconst hx hb dX11_laysReach_57 ?_
              refine x_gov (x_runV (As := [.int (xJ x7), .int (xJ x8), .int (xJ 0)]) hx hb hml hown hT hE hW hl.1 (Or.inl (by decide)) (so_268 h0 g _) rfl cf_X11_laysCosts wq1637 wq151 wq1635 (c_X11_laysCosts l D g T h0 s9 hW.2.1 x7 rx7 x8 rx8 0 (by decide) hp10.1.1 hp10.1.2.1 hp10.1.2.2.1) ⟨rfl, rfl, ⟨by decide, by decide⟩, ⟨by decide, by decide⟩⟩ rfl rfl (Nat.le_of_ble_eq_true rfl) dX11_laysReach_58) hW (fun s15 H locs hp16 hW => ?_)
              obtain ⟨fs15, hp16⟩ := hp16
              have hF17 := hF11.call fs15 (fun k h => by omega)
              have q18 : s15 268 8 = s0 268 8 := (congrFun (fs15 _ (by omega)) _).trans q12
              have q19 : s15 268 58 = s0 268 58 := (congrFun (fs15 _ (by omega)) _).trans q13
              have ghp16 := hp16.2
              refine x_iconst hx hb dX11_laysReach_61 ?_
              refine lv_istore_n (lv' := [(2, .int (xJ 0)), (0, .ref (h0 + 268)), (1, .int (xJ i1_23))]) hx hb dX11_laysReach_62 rfl hl (by decide) rfl (fun ls hl => ?_)
              have L63 : ∀ (fu : Nat) (i2_63 : Int) (s_63 : xS) (H : Heap) (locs : List Loc) (ls : Array Slot), (xR i2_63) → (xFr (fun k => k = 293 ∨ k = 294 ∨ k = 296 ∨ k = 301) s0 s_63) → (s_63 268 8 = s0 268 8) → (s_63 268 58 = s0 268 58) → (IMn s_63) → (IMk s_63) → (IMo s_63) → (0 ≤ i2_63) → (i2_63 ≤ 100) → (100 + 1 - i2_63).toNat < fu → xW D g h0 s H locs s_63 → lv_has ls 3 [(0, .ref (h0 + 268)), (1, .int (xJ i1_23)), (2, .int (xJ i2_63))] → W p l e { frames := 4, cells := 0, slots := 0, locals := 96 } s m args below meth c H locs 0 0 Q (F0 m 63 ls []) := by
                intro fu
                induction fu with
                | zero => intro i2_63 s_63 H locs ls ri2_63 hF_63 q63_0 q63_1 q63_2 q63_3 q63_4 v63_0 v63_1 hm; exact absurd hm (Nat.not_lt_zero _)
                | succ fu ih63 =>
                  intro i2_63 s_63 H locs ls ri2_63 hF_63 q63_0 q63_1 q63_2 q63_3 q63_4 v63_0 v63_1 hm hW hl
                  refine x_iload_n hx hb hl 2 rfl dX11_laysReach_63 rfl ?_
                  refine x_bipush hx hb dX11_laysReach_64 (by decide) ?_
                  refine x_icmp_ge (tgt := 103) hx hb ri2_63 (by decide) dX11_laysReach_66 (by decide) (fun c20 => ?_) (fun c20 => ?_)
                  · skip
                    refine x_iinc (lv' := [(1, .int (xJ (i1_23 + 1))), (0, .ref (h0 + 268)), (2, .int (xJ i2_63))]) hx hb hl 1 rfl dX11_laysReach_103 (by decide) rfl (fun ls hl => ?_)
                    refine lv_goto (tgt := 23) hx hb dX11_laysReach_106 (by decide) ?_
                    exact ih23 (i1_23 + 1) s_63 H locs ls (by omega) hF_63 q63_2 q63_3 q63_4 q63_0 q63_1 (by omega) (by omega) (by omega) hW (lv_sub hl [1, 0] rfl)
                  refine x_aload_n hx hb hl 0 rfl dX11_laysReach_69 rfl ?_
                  refine x_get (j := 45) (v := .ref (h0 + 296)) hx hb hown hT hE hW cls_X11 (Or.inl (by decide)) (so_268 h0 g _) (by decide) rfl wq1230 dX11_laysReach_70 ?_
                  refine x_iload_n hx hb hl 2 rfl dX11_laysReach_73 rfl ?_
                  refine x_iald hx hb hE hW (Or.inl (by decide)) (sa_296 h0 g _) (by omega) (by decide) dX11_laysReach_74 ?_
                  refine x_rd hW (fun x21 ex21 rx21 => ?_)
                  refine lv_ldcw (v := xJ 1000000000) hx hb hown (hT _ wq1622) dX11_laysReach_75 ?_
                  refine x_icmp_ge (tgt := 97) hx hb rx21 (by decide) dX11_laysReach_78 (by decide) (fun c22 => ?_) (fun c22 => ?_)
                  · skip
                    refine x_iinc (lv' := [(2, .int (xJ (i2_63 + 1))), (0, .ref (h0 + 268)), (1, .int (xJ i1_23))]) hx hb hl 2 rfl dX11_laysReach_97 (by decide) rfl (fun ls hl => ?_)
                    refine lv_goto (tgt := 63) hx hb dX11_laysReach_100 (by decide) ?_
                    exact ih63 (i2_63 + 1) s_63 H locs ls (by omega) hF_63 q63_0 q63_1 q63_2 q63_3 q63_4 (by omega) (by omega) (by omega) hW (lv_sub hl [1, 2, 0] rfl)
                  refine x_aload_n hx hb hl 0 rfl dX11_laysReach_81 rfl ?_
                  refine x_get (j := 51) (v := .ref (h0 + 301)) hx hb hown hT hE hW cls_X11 (Or.inl (by decide)) (so_268 h0 g _) (by decide) rfl wq1236 dX11_laysReach_82 ?_
                  refine x_iload_n hx hb hl 2 rfl dX11_laysReach_85 rfl ?_
                  refine x_aload_n hx hb hl 0 rfl dX11_laysReach_86 rfl ?_
                  refine x_get (j := 51) (v := .ref (h0 + 301)) hx hb hown hT hE hW cls_X11 (Or.inl (by decide)) (so_268 h0 g _) (by decide) rfl wq1236 dX11_laysReach_87 ?_
                  refine x_iload_n hx hb hl 2 rfl dX11_laysReach_90 rfl ?_
                  refine x_iald hx hb hE hW (Or.inl (by decide)) (sa_301 h0 g _) (by omega) (by decide) dX11_laysReach_91 ?_
                  refine x_rd hW (fun x23 ex23 rx23 => ?_)
                  refine x_iconst hx hb dX11_laysReach_92 ?_
                  refine x_iload_n hx hb hl 1 rfl dX11_laysReach_93 rfl ?_
                  refine lv_ishl hx hb dX11_laysReach_94 ?_
                  refine x_any (fun x24 rx24 => ?_)
                  refine lv_ior hx hb dX11_laysReach_95 ?_
                  refine x_any (fun x25 rx25 => ?_)
                  refine x_iast hx hb hE hW (by decide) (fun σ => sa_301 h0 g σ) (by omega) (by decide) rx25 dX11_laysReach_96 (fun H locs s26 es26 hW => ?_)
                  have q27 : s26 268 8 = s0 268 8 := (show s26 268 8 = s_63 268 8 from by rw [es26, xU_k _ _ _ (by omega)]).trans q63_0
                  have q28 : s26 268 58 = s0 268 58 := (show s26 268 58 = s_63 268 58 from by rw [es26, xU_k _ _ _ (by omega)]).trans q63_1
                  have q29 : IMn s26 := by rw [es26]; exact IMn_o (by unfold suIMn; omega) q63_2
                  have q30 : IMk s26 := by rw [es26]; exact IMk_o (by unfold suIMk; omega) q63_3
                  have q31 : IMo s26 := by rw [es26]; exact IMo_o (by unfold suIMo; omega) q63_4
                  have hF32 := hF_63.put es26 (by omega)
                  refine x_iinc (lv' := [(2, .int (xJ (i2_63 + 1))), (0, .ref (h0 + 268)), (1, .int (xJ i1_23))]) hx hb hl 2 rfl dX11_laysReach_97 (by decide) rfl (fun ls hl => ?_)
                  refine lv_goto (tgt := 63) hx hb dX11_laysReach_100 (by decide) ?_
                  exact ih63 (i2_63 + 1) s26 H locs ls (by omega) hF32 q27 q28 q29 q30 q31 (by omega) (by omega) (by omega) hW (lv_sub hl [1, 2, 0] rfl)
              exact L63 ((100 + 1 - 0 : Int).toNat + 1) 0 s15 H locs ls (by decide) hF17 q18 q19 hp16.1.1 hp16.1.2.1 hp16.1.2.2.1 (by omega) (by omega) (Nat.lt_succ_self _) hW (lv_sub hl [1, 2, 0] rfl)
            refine lv_goto (tgt := 103) hx hb dX11_laysReach_37 (by decide) ?_
            refine x_iinc (lv' := [(1, .int (xJ (i1_23 + 1))), (0, .ref (h0 + 268))]) hx hb hl 1 rfl dX11_laysReach_103 (by decide) rfl (fun ls hl => ?_)
            refine lv_goto (tgt := 23) hx hb dX11_laysReach_106 (by decide) ?_
            exact ih23 (i1_23 + 1) s_23 H locs ls (by omega) hF_23 q23_0 q23_1 q23_2 q23_3 q23_4 (by omega) (by omega) (by omega) hW (lv_sub hl [1, 0] rfl)
        exact L23 ((10 + 1 - 0 : Int).toNat + 1) 0 s_2 H locs ls (by decide) hF_2 q2_0 q2_1 q2_2 q2_3 q2_4 (by omega) (by omega) (Nat.lt_succ_self _) hW (lv_sub hl [1, 0] rfl)
      refine x_aload_n hx hb hl 0 rfl dX11_laysReach_8 rfl ?_
      refine x_get (j := 51) (v := .ref (h0 + 301)) hx hb hown hT hE hW cls_X11 (Or.inl (by decide)) (so_268 h0 g _) (by decide) rfl wq1236 dX11_laysReach_9 ?_
      refine x_iload_n hx hb hl 1 rfl dX11_laysReach_12 rfl ?_
      refine x_iconst hx hb dX11_laysReach_13 ?_
      refine x_iast hx hb hE hW (by decide) (fun σ => sa_301 h0 g σ) (by omega) (by decide) (by decide) dX11_laysReach_14 (fun H locs s33 es33 hW => ?_)
      have q34 : IMn s33 := by rw [es33]; exact IMn_o (by unfold suIMn; omega) q2_0
      have q35 : IMk s33 := by rw [es33]; exact IMk_o (by unfold suIMk; omega) q2_1
      have q36 : IMo s33 := by rw [es33]; exact IMo_o (by unfold suIMo; omega) q2_2
      have q37 : s33 268 8 = s0 268 8 := (show s33 268 8 = s_2 268 8 from by rw [es33, xU_k _ _ _ (by omega)]).trans q2_3
      have q38 : s33 268 58 = s0 268 58 := (show s33 268 58 = s_2 268 58 from by rw [es33, xU_k _ _ _ (by omega)]).trans q2_4
      have hF39 := hF_2.put es33 (by omega)
      refine x_iinc (lv' := [(1, .int (xJ (i1_2 + 1))), (0, .ref (h0 + 268))]) hx hb hl 1 rfl dX11_laysReach_15 (by decide) rfl (fun ls hl => ?_)
      refine lv_goto (tgt := 2) hx hb dX11_laysReach_18 (by decide) ?_
      exact ih2 (i1_2 + 1) s33 H locs ls (by omega) hF39 q34 q35 q36 q37 q38 (by omega) (by omega) (by omega) hW (lv_sub hl [1, 0] rfl)
  exact L2 ((100 + 1 - 0 : Int).toNat + 1) 0 s0 H locs ls (by decide) hF p0 p1 p2 k268_8 k268_58 (by omega) (by omega) (Nat.lt_succ_self _) hW (lv_sub hl [1, 0] rfl)
set_option maxHeartbeats 4000000 in
set_option maxRecDepth 100000 in
theorem c_X11_mostAtOnce (l : Launch) (D : va_G) (g : xG) (T : Nat × Nat × Nat) (h0 : Nat) (s0 : xS) (hσ : xRR s0) (p0 : IMn s0) (p1 : IMk s0) (p2 : IMo s0) : Met l yX11_mostAtOnce (xws yX11_mostAtOnce cX11_mostAtOnce 4 (some .int)) { frames := 5, cells := 0, slots := 0, locals := 118 } (xP [.ref (h0 + 268)] D g T h0 s0) (xQi D g h0 (fun r τ => xFr (fun k => k = 293 ∨ k = 294 ∨ k = 296 ∨ k = 300 ∨ k = 301) s0 τ ∧ (((IMn τ) ∧ (IMk τ) ∧ (IMo τ) ∧ True) ∧ (True)))) 0 0 (xA h0) := by
  refine x_met hσ (by decide) (Nat.le_of_ble_eq_true rfl) ?_
  intro p e s m args below meth c hx hb hr hml hown hT hlk hnm hE hW ls hl
  have hl : lv_has ls 4 [(0, .ref (h0 + 268))] := hl
  obtain ⟨Q, eQ⟩ : ∃ Q, Q = MQ below (xQi D g h0 (fun r τ => xFr (fun k => k = 293 ∨ k = 294 ∨ k = 296 ∨ k = 300 ∨ k = 301) s0 τ ∧ (((IMn τ) ∧ (IMk τ) ∧ (IMo τ) ∧ True) ∧ (True)))) args s 0 0 (xA h0) := ⟨_, rfl⟩
  rw [← eQ]
  generalize hHe : ([] : List Loc) = locs at hW ⊢
  obtain ⟨H, eH⟩ : ∃ H, H = s.heap := ⟨_, rfl⟩
  rw [← eH] at hW ⊢
  have hF : xFr (fun k => k = 293 ∨ k = 294 ∨ k = 296 ∨ k = 300 ∨ k = 301) s0 s0 := xFr.rf
  have k268_8 : s0 268 8 = s0 268 8 := rfl
  have k268_58 : s0 268 58 = s0 268 58 := rfl
  refine x_aload_n hx hb hl 0 rfl dX11_mostAtOnce_0 rfl ?_
  refine x_gov (x_runV (As := []) hx hb hml hown hT hE hW hl.1 (Or.inl (by decide)) (so_268 h0 g _) rfl cf_X11_laysReach wq1674 wq154 wq1672 (c_X11_laysReach l D g T h0 s0 hW.2.1 p0 p1 p2) ⟨rfl, rfl, ⟨by decide, by decide⟩, ⟨by decide, by decide⟩⟩ rfl rfl (Nat.le_of_ble_eq_true rfl) dX11_mostAtOnce_1) hW (fun s2 H locs hp3 hW => ?_)
  obtain ⟨fs2, hp3⟩ := hp3
  have hF4 := hF.call fs2 (fun k h => by omega)
  have q5 : s2 268 8 = s0 268 8 := (congrFun (fs2 _ (by omega)) _).trans k268_8
  have q6 : s2 268 58 = s0 268 58 := (congrFun (fs2 _ (by omega)) _).trans k268_58
  have ghp3 := hp3.2
  refine x_iconst hx hb dX11_mostAtOnce_4 ?_
  refine lv_istore_n (lv' := [(1, .int (xJ 0)), (0, .ref (h0 + 268))]) hx hb dX11_mostAtOnce_5 rfl hl (by decide) rfl (fun ls hl => ?_)
  have L6 : ∀ (fu : Nat) (i1_6 : Int) (s_6 : xS) (H : Heap) (locs : List Loc) (ls : Array Slot), (xR i1_6) → (xFr (fun k => k = 293 ∨ k = 294 ∨ k = 296 ∨ k = 300 ∨ k = 301) s0 s_6) → (s_6 268 8 = s0 268 8) → (s_6 268 58 = s0 268 58) → (IMn s_6) → (IMk s_6) → (IMo s_6) → (0 ≤ i1_6) → (i1_6 ≤ 1024) → (1024 + 1 - i1_6).toNat < fu → xW D g h0 s H locs s_6 → lv_has ls 4 [(0, .ref (h0 + 268)), (1, .int (xJ i1_6))] → W p l e { frames := 5, cells := 0, slots := 0, locals := 118 } s m args below meth c H locs 0 0 Q (F0 m 6 ls []) := by
    intro fu
    induction fu with
    | zero => intro i1_6 s_6 H locs ls ri1_6 hF_6 q6_0 q6_1 q6_2 q6_3 q6_4 v6_0 v6_1 hm; exact absurd hm (Nat.not_lt_zero _)
    | succ fu ih6 =>
      intro i1_6 s_6 H locs ls ri1_6 hF_6 q6_0 q6_1 q6_2 q6_3 q6_4 v6_0 v6_1 hm hW hl
      refine x_iload_n hx hb hl 1 rfl dX11_mostAtOnce_6 rfl ?_
      refine x_sipush hx hb dX11_mostAtOnce_7 (by decide) ?_
      refine x_icmp_ge (tgt := 34) hx hb ri1_6 (by decide) dX11_mostAtOnce_10 (by decide) (fun c7 => ?_) (fun c7 => ?_)
      · skip
        refine x_iconst hx hb dX11_mostAtOnce_34 ?_
        refine lv_istore_n (lv' := [(1, .int (xJ 0)), (0, .ref (h0 + 268))]) hx hb dX11_mostAtOnce_35 rfl hl (by decide) rfl (fun ls hl => ?_)
        have L36 : ∀ (fu : Nat) (i1_36 : Int) (s_36 : xS) (H : Heap) (locs : List Loc) (ls : Array Slot), (xR i1_36) → (xFr (fun k => k = 293 ∨ k = 294 ∨ k = 296 ∨ k = 300 ∨ k = 301) s0 s_36) → (s_36 268 8 = s0 268 8) → (s_36 268 58 = s0 268 58) → (IMn s_36) → (IMk s_36) → (IMo s_36) → (0 ≤ i1_36) → (i1_36 ≤ 100) → (100 + 1 - i1_36).toNat < fu → xW D g h0 s H locs s_36 → lv_has ls 4 [(0, .ref (h0 + 268)), (1, .int (xJ i1_36))] → W p l e { frames := 5, cells := 0, slots := 0, locals := 118 } s m args below meth c H locs 0 0 Q (F0 m 36 ls []) := by
          intro fu
          induction fu with
          | zero => intro i1_36 s_36 H locs ls ri1_36 hF_36 q36_0 q36_1 q36_2 q36_3 q36_4 v36_0 v36_1 hm; exact absurd hm (Nat.not_lt_zero _)
          | succ fu ih36 =>
            intro i1_36 s_36 H locs ls ri1_36 hF_36 q36_0 q36_1 q36_2 q36_3 q36_4 v36_0 v36_1 hm hW hl
            refine x_iload_n hx hb hl 1 rfl dX11_mostAtOnce_36 rfl ?_
            refine x_bipush hx hb dX11_mostAtOnce_37 (by decide) ?_
            refine x_icmp_ge (tgt := 129) hx hb ri1_36 (by decide) dX11_mostAtOnce_39 (by decide) (fun c8 => ?_) (fun c8 => ?_)
            · skip
              refine x_iconst hx hb dX11_mostAtOnce_129 ?_
              refine lv_istore_n (lv' := [(1, .int (xJ 0)), (0, .ref (h0 + 268))]) hx hb dX11_mostAtOnce_130 rfl hl (by decide) rfl (fun ls hl => ?_)
              refine x_iconst hx hb dX11_mostAtOnce_131 ?_
              refine lv_istore_n (lv' := [(2, .int (xJ 0)), (1, .int (xJ 0)), (0, .ref (h0 + 268))]) hx hb dX11_mostAtOnce_132 rfl hl (by decide) rfl (fun ls hl => ?_)
              have L133 : ∀ (fu : Nat) (i1_133 : Int) (i2_133 : Int) (H : Heap) (locs : List Loc) (ls : Array Slot), (xR i1_133) → (xR i2_133) → (0 ≤ i2_133) → (i2_133 ≤ 1024) → (1024 + 1 - i2_133).toNat < fu → xW D g h0 s H locs s_36 → lv_has ls 4 [(0, .ref (h0 + 268)), (1, .int (xJ i1_133)), (2, .int (xJ i2_133))] → W p l e { frames := 5, cells := 0, slots := 0, locals := 118 } s m args below meth c H locs 0 0 Q (F0 m 133 ls []) := by
                intro fu
                induction fu with
                | zero => intro i1_133 i2_133 H locs ls ri1_133 ri2_133 v133_0 v133_1 hm; exact absurd hm (Nat.not_lt_zero _)
                | succ fu ih133 =>
                  intro i1_133 i2_133 H locs ls ri1_133 ri2_133 v133_0 v133_1 hm hW hl
                  refine x_iload_n hx hb hl 2 rfl dX11_mostAtOnce_133 rfl ?_
                  refine x_sipush hx hb dX11_mostAtOnce_134 (by decide) ?_
                  refine x_icmp_ge (tgt := 164) hx hb ri2_133 (by decide) dX11_mostAtOnce_137 (by decide) (fun c9 => ?_) (fun c9 => ?_)
                  · skip
                    refine x_iload_n hx hb hl 1 rfl dX11_mostAtOnce_164 rfl ?_
                    rw [eQ]
                    exact x_iret hx hb hr hlk hW ri1_133 ⟨hF_36, ⟨q36_2, q36_3, q36_4, trivial⟩, trivial⟩ dX11_mostAtOnce_165
                  refine x_aload_n hx hb hl 0 rfl dX11_mostAtOnce_140 rfl ?_
                  refine x_get (j := 50) (v := .ref (h0 + 300)) hx hb hown hT hE hW cls_X11 (Or.inl (by decide)) (so_268 h0 g _) (by decide) rfl wq1235 dX11_mostAtOnce_141 ?_
                  refine x_iload_n hx hb hl 2 rfl dX11_mostAtOnce_144 rfl ?_
                  refine x_zald hx hb hE hW (Or.inl (by decide)) (sa_300 h0 g _) (by omega) (by decide) dX11_mostAtOnce_145 ?_
                  refine x_rd hW (fun x10 ex10 rx10 => ?_)
                  refine x_if_eq (tgt := 158) hx hb rx10 dX11_mostAtOnce_146 (by decide) (fun c11 => ?_) (fun c11 => ?_)
                  · skip
                    refine x_iinc (lv' := [(2, .int (xJ (i2_133 + 1))), (0, .ref (h0 + 268)), (1, .int (xJ i1_133))]) hx hb hl 2 rfl dX11_mostAtOnce_158 (by decide) rfl (fun ls hl => ?_)
                    refine lv_goto (tgt := 133) hx hb dX11_mostAtOnce_161 (by decide) ?_
                    exact ih133 i1_133 (i2_133 + 1) H locs ls ri1_133 (by omega) (by omega) (by omega) (by omega) hW (lv_sub hl [1, 2, 0] rfl)
                  refine x_iload_n hx hb hl 1 rfl dX11_mostAtOnce_149 rfl ?_
                  refine x_iload_n hx hb hl 2 rfl dX11_mostAtOnce_150 rfl ?_
                  refine x_goi (x_runS (As := [.int (xJ i2_133)]) hx hb hml hown hT hE hW hl.1 cf_X11_bits wq1650 wq1649 (c_X11_bits l D g T h0 s_36 hW.2.1 i2_133 ri2_133) ⟨rfl, rfl, ⟨by decide, by decide⟩, ⟨by decide, by decide⟩⟩ rfl rfl (Nat.le_of_ble_eq_true rfl) dX11_mostAtOnce_151) hW (fun x12 s13 H locs rx12 hp14 hW => ?_)
                  obtain ⟨es13, hp14⟩ := hp14
                  subst es13
                  have ghp14 := hp14
                  refine x_goi (x_runS (As := [.int (xJ i1_133), .int (xJ x12)]) hx hb hml hown hT hE hW hl.1 cf_X11_max wq1677 wq1676 (c_X11_max l D g T h0 s_36 hW.2.1 i1_133 ri1_133 x12 rx12) ⟨rfl, rfl, ⟨by decide, by decide⟩, ⟨by decide, by decide⟩⟩ rfl rfl (Nat.le_of_ble_eq_true rfl) dX11_mostAtOnce_154) hW (fun x15 s16 H locs rx15 hp17 hW => ?_)
                  obtain ⟨es16, hp17⟩ := hp17
                  subst es16
                  have ghp17 := hp17
                  refine lv_istore_n (lv' := [(1, .int (xJ x15)), (0, .ref (h0 + 268)), (2, .int (xJ i2_133))]) hx hb dX11_mostAtOnce_157 rfl hl (by decide) rfl (fun ls hl => ?_)
                  refine x_iinc (lv' := [(2, .int (xJ (i2_133 + 1))), (1, .int (xJ x15)), (0, .ref (h0 + 268))]) hx hb hl 2 rfl dX11_mostAtOnce_158 (by decide) rfl (fun ls hl => ?_)
                  refine lv_goto (tgt := 133) hx hb dX11_mostAtOnce_161 (by decide) ?_
                  exact ih133 x15 (i2_133 + 1) H locs ls rx15 (by omega) (by omega) (by omega) (by omega) hW (lv_sub hl [2, 1, 0] rfl)
              exact L133 ((1024 + 1 - 0 : Int).toNat + 1) 0 0 H locs ls (by decide) (by decide) (by omega) (by omega) (Nat.lt_succ_self _) hW (lv_sub hl [2, 1, 0] rfl)
            refine x_aload_n hx hb hl 0 rfl dX11_mostAtOnce_42 rfl ?_
            refine x_get (j := 40) (v := .ref (h0 + 295)) hx hb hown hT hE hW cls_X11 (Or.inl (by decide)) (so_268 h0 g _) (by decide) rfl wq1225 dX11_mostAtOnce_43 ?_
            refine x_iload_n hx hb hl 1 rfl dX11_mostAtOnce_46 rfl ?_
            refine x_iald hx hb hE hW (Or.inl (by decide)) (sa_295 h0 g _) (by omega) (by decide) dX11_mostAtOnce_47 ?_
            refine x_rd hW (fun x18 ex18 rx18 => ?_)
            refine x_if_ne (tgt := 54) hx hb rx18 dX11_mostAtOnce_48 (by decide) (fun c19 => ?_) (fun c19 => ?_)
            · skip
              refine x_sipush hx hb dX11_mostAtOnce_54 (by decide) ?_
              refine lv_istore_n (lv' := [(2, .int (xJ 1023)), (0, .ref (h0 + 268)), (1, .int (xJ i1_36))]) hx hb dX11_mostAtOnce_57 rfl hl (by decide) rfl (fun ls hl => ?_)
              have L58 : ∀ (fu : Nat) (i2_58 : Int) (s_58 : xS) (H : Heap) (locs : List Loc) (ls : Array Slot), (xR i2_58) → (xFr (fun k => k = 293 ∨ k = 294 ∨ k = 296 ∨ k = 300 ∨ k = 301) s0 s_58) → (s_58 268 8 = s0 268 8) → (s_58 268 58 = s0 268 58) → (IMn s_58) → (IMk s_58) → (IMo s_58) → (-1 ≤ i2_58 ∧ i2_58 ≤ 1023) → (i2_58 + 1).toNat < fu → xW D g h0 s H locs s_58 → lv_has ls 4 [(0, .ref (h0 + 268)), (1, .int (xJ i1_36)), (2, .int (xJ i2_58))] → W p l e { frames := 5, cells := 0, slots := 0, locals := 118 } s m args below meth c H locs 0 0 Q (F0 m 58 ls []) := by
                intro fu
                induction fu with
                | zero => intro i2_58 s_58 H locs ls ri2_58 hF_58 q58_0 q58_1 q58_2 q58_3 q58_4 v58_0 hm; exact absurd hm (Nat.not_lt_zero _)
                | succ fu ih58 =>
                  intro i2_58 s_58 H locs ls ri2_58 hF_58 q58_0 q58_1 q58_2 q58_3 q58_4 v58_0 hm hW hl
                  refine x_iload_n hx hb hl 2 rfl dX11_mostAtOnce_58 rfl ?_
                  refine x_if_lt (tgt := 123) hx hb ri2_58 dX11_mostAtOnce_59 (by decide) (fun c20 => ?_) (fun c20 => ?_)
                  · skip
                    refine x_iinc (lv' := [(1, .int (xJ (i1_36 + 1))), (0, .ref (h0 + 268)), (2, .int (xJ i2_58))]) hx hb hl 1 rfl dX11_mostAtOnce_123 (by decide) rfl (fun ls hl => ?_)
                    refine lv_goto (tgt := 36) hx hb dX11_mostAtOnce_126 (by decide) ?_
                    exact ih36 (i1_36 + 1) s_58 H locs ls (by omega) hF_58 q58_0 q58_1 q58_2 q58_3 q58_4 (by omega) (by omega) (by omega) hW (lv_sub hl [1, 0] rfl)
                  refine x_iconst hx hb dX11_mostAtOnce_62 ?_
                  refine lv_istore_n (lv' := [(3, .int (xJ 0)), (0, .ref (h0 + 268)), (1, .int (xJ i1_36)), (2, .int (xJ i2_58))]) hx hb dX11_mostAtOnce_63 rfl hl (by decide) rfl (fun ls hl => ?_)
                  have L64 : ∀ (fu : Nat) (i3_64 : Int) (s_64 : xS) (H : Heap) (locs : List Loc) (ls : Array Slot), (xR i3_64) → (xFr (fun k => k = 293 ∨ k = 294 ∨ k = 296 ∨ k = 300 ∨ k = 301) s0 s_64) → (s_64 268 8 = s0 268 8) → (s_64 268 58 = s0 268 58) → (IMn s_64) → (IMk s_64) → (IMo s_64) → (0 ≤ i3_64) → (i3_64 ≤ 10) → (10 + 1 - i3_64).toNat < fu → xW D g h0 s H locs s_64 → lv_has ls 4 [(0, .ref (h0 + 268)), (1, .int (xJ i1_36)), (2, .int (xJ i2_58)), (3, .int (xJ i3_64))] → W p l e { frames := 5, cells := 0, slots := 0, locals := 118 } s m args below meth c H locs 0 0 Q (F0 m 64 ls []) := by
                    intro fu
                    induction fu with
                    | zero => intro i3_64 s_64 H locs ls ri3_64 hF_64 q64_0 q64_1 q64_2 q64_3 q64_4 v64_0 v64_1 hm; exact absurd hm (Nat.not_lt_zero _)
                    | succ fu ih64 =>
                      intro i3_64 s_64 H locs ls ri3_64 hF_64 q64_0 q64_1 q64_2 q64_3 q64_4 v64_0 v64_1 hm hW hl
                      refine x_iload_n hx hb hl 3 rfl dX11_mostAtOnce_64 rfl ?_
                      refine x_bipush hx hb dX11_mostAtOnce_65 (by decide) ?_
                      refine x_icmp_ge (tgt := 117) hx hb ri3_64 (by decide) dX11_mostAtOnce_67 (by decide) (fun c21 => ?_) (fun c21 => ?_)
                      · skip
                        refine x_iinc (lv' := [(2, .int (xJ (i2_58 + (-1)))), (0, .ref (h0 + 268)), (1, .int (xJ i1_36)), (3, .int (xJ i3_64))]) hx hb hl 2 rfl dX11_mostAtOnce_117 (by decide) rfl (fun ls hl => ?_)
                        refine lv_goto (tgt := 58) hx hb dX11_mostAtOnce_120 (by decide) ?_
                        exact ih58 (i2_58 + (-1)) s_64 H locs ls (by omega) hF_64 q64_0 q64_1 q64_2 q64_3 q64_4 (by omega) (by omega) hW (lv_sub hl [1, 2, 0] rfl)
                      refine x_aload_n hx hb hl 0 rfl dX11_mostAtOnce_70 rfl ?_
                      refine x_get (j := 50) (v := .ref (h0 + 300)) hx hb hown hT hE hW cls_X11 (Or.inl (by decide)) (so_268 h0 g _) (by decide) rfl wq1235 dX11_mostAtOnce_71 ?_
                      refine x_iload_n hx hb hl 2 rfl dX11_mostAtOnce_74 rfl ?_
                      refine x_zald hx hb hE hW (Or.inl (by decide)) (sa_300 h0 g _) (by omega) (by decide) dX11_mostAtOnce_75 ?_
                      refine x_rd hW (fun x22 ex22 rx22 => ?_)
                      refine x_if_eq (tgt := 117) hx hb rx22 dX11_mostAtOnce_76 (by decide) (fun c23 => ?_) (fun c23 => ?_)
                      · skip
                        refine x_iinc (lv' := [(2, .int (xJ (i2_58 + (-1)))), (0, .ref (h0 + 268)), (1, .int (xJ i1_36)), (3, .int (xJ i3_64))]) hx hb hl 2 rfl dX11_mostAtOnce_117 (by decide) rfl (fun ls hl => ?_)
                        refine lv_goto (tgt := 58) hx hb dX11_mostAtOnce_120 (by decide) ?_
                        exact ih58 (i2_58 + (-1)) s_64 H locs ls (by omega) hF_64 q64_0 q64_1 q64_2 q64_3 q64_4 (by omega) (by omega) hW (lv_sub hl [1, 2, 0] rfl)
                      refine x_iload_n hx hb hl 2 rfl dX11_mostAtOnce_79 rfl ?_
                      refine x_iload_n hx hb hl 3 rfl dX11_mostAtOnce_80 rfl ?_
                      refine x_goi (x_runS (As := [.int (xJ i2_58), .int (xJ i3_64)]) hx hb hml hown hT hE hW hl.1 cf_X11_has wq1415 wq1414 (c_X11_has l D g T h0 s_64 hW.2.1 i2_58 ri2_58 i3_64 ri3_64) ⟨rfl, rfl, ⟨by decide, by decide⟩, ⟨by decide, by decide⟩⟩ rfl rfl (Nat.le_of_ble_eq_true rfl) dX11_mostAtOnce_81) hW (fun x24 s25 H locs rx24 hp26 hW => ?_)
                      obtain ⟨es25, hp26⟩ := hp26
                      subst es25
                      have ghp26 := hp26
                      refine x_if_ne (tgt := 111) hx hb rx24 dX11_mostAtOnce_84 (by decide) (fun c27 => ?_) (fun c27 => ?_)
                      · skip
                        refine x_iinc (lv' := [(3, .int (xJ (i3_64 + 1))), (0, .ref (h0 + 268)), (1, .int (xJ i1_36)), (2, .int (xJ i2_58))]) hx hb hl 3 rfl dX11_mostAtOnce_111 (by decide) rfl (fun ls hl => ?_)
                        refine lv_goto (tgt := 64) hx hb dX11_mostAtOnce_114 (by decide) ?_
                        exact ih64 (i3_64 + 1) s_64 H locs ls (by omega) hF_64 q64_0 q64_1 q64_2 q64_3 q64_4 (by omega) (by omega) (by omega) hW (lv_sub hl [1, 2, 3, 0] rfl)
                      refine x_aload_n hx hb hl 0 rfl dX11_mostAtOnce_87 rfl ?_
                      refine x_get (j := 51) (v := .ref (h0 + 301)) hx hb hown hT hE hW cls_X11 (Or.inl (by decide)) (so_268 h0 g _) (by decide) rfl wq1236 dX11_mostAtOnce_88 ?_
                      refine x_iload_n hx hb hl 1 rfl dX11_mostAtOnce_91 rfl ?_
                      refine x_iald hx hb hE hW (Or.inl (by decide)) (sa_301 h0 g _) (by omega) (by decide) dX11_mostAtOnce_92 ?_
                      refine x_rd hW (fun x28 ex28 rx28 => ?_)
                      refine x_iload_n hx hb hl 3 rfl dX11_mostAtOnce_93 rfl ?_
                      refine x_goi (x_runS (As := [.int (xJ x28), .int (xJ i3_64)]) hx hb hml hown hT hE hW hl.1 cf_X11_has wq1415 wq1414 (c_X11_has l D g T h0 s_64 hW.2.1 x28 rx28 i3_64 ri3_64) ⟨rfl, rfl, ⟨by decide, by decide⟩, ⟨by decide, by decide⟩⟩ rfl rfl (Nat.le_of_ble_eq_true rfl) dX11_mostAtOnce_94) hW (fun x29 s30 H locs rx29 hp31 hW => ?_)
                      obtain ⟨es30, hp31⟩ := hp31
                      subst es30
                      have ghp31 := hp31
                      refine x_if_eq (tgt := 111) hx hb rx29 dX11_mostAtOnce_97 (by decide) (fun c32 => ?_) (fun c32 => ?_)
                      · skip
                        refine x_iinc (lv' := [(3, .int (xJ (i3_64 + 1))), (0, .ref (h0 + 268)), (1, .int (xJ i1_36)), (2, .int (xJ i2_58))]) hx hb hl 3 rfl dX11_mostAtOnce_111 (by decide) rfl (fun ls hl => ?_)
                        refine lv_goto (tgt := 64) hx hb dX11_mostAtOnce_114 (by decide) ?_
                        exact ih64 (i3_64 + 1) s_64 H locs ls (by omega) hF_64 q64_0 q64_1 q64_2 q64_3 q64_4 (by omega) (by omega) (by omega) hW (lv_sub hl [1, 2, 3, 0] rfl)
                      refine x_aload_n hx hb hl 0 rfl dX11_mostAtOnce_100 rfl ?_
                      refine x_get (j := 50) (v := .ref (h0 + 300)) hx hb hown hT hE hW cls_X11 (Or.inl (by decide)) (so_268 h0 g _) (by decide) rfl wq1235 dX11_mostAtOnce_101 ?_
                      refine x_iload_n hx hb hl 2 rfl dX11_mostAtOnce_104 rfl ?_
                      refine x_iconst hx hb dX11_mostAtOnce_105 ?_
                      refine x_iload_n hx hb hl 3 rfl dX11_mostAtOnce_106 rfl ?_
                      refine x_shl1 hx hb (by omega) dX11_mostAtOnce_107 (fun x33 ex33 bx33 => ?_)
                      refine x_ior10 hx hb (by omega) (by rw [ex33]; exact p2_lt (by omega)) dX11_mostAtOnce_108 (fun x34 bx34 => ?_)
                      refine x_iconst hx hb dX11_mostAtOnce_109 ?_
                      refine x_zast hx hb hE hW (by decide) (fun σ => sa_300 h0 g σ) (by omega) (by decide) (by omega) dX11_mostAtOnce_110 (fun H locs s35 es35 hW => ?_)
                      have q36 : s35 268 8 = s0 268 8 := (show s35 268 8 = s_64 268 8 from by rw [es35, xU_k _ _ _ (by omega)]).trans q64_0
                      have q37 : s35 268 58 = s0 268 58 := (show s35 268 58 = s_64 268 58 from by rw [es35, xU_k _ _ _ (by omega)]).trans q64_1
                      have q38 : IMn s35 := by rw [es35]; exact IMn_o (by unfold suIMn; omega) q64_2
                      have q39 : IMk s35 := by rw [es35]; exact IMk_o (by unfold suIMk; omega) q64_3
                      have q40 : IMo s35 := by rw [es35]; exact IMo_o (by unfold suIMo; omega) q64_4
                      have hF41 := hF_64.put es35 (by omega)
                      refine x_iinc (lv' := [(3, .int (xJ (i3_64 + 1))), (0, .ref (h0 + 268)), (1, .int (xJ i1_36)), (2, .int (xJ i2_58))]) hx hb hl 3 rfl dX11_mostAtOnce_111 (by decide) rfl (fun ls hl => ?_)
                      refine lv_goto (tgt := 64) hx hb dX11_mostAtOnce_114 (by decide) ?_
                      exact ih64 (i3_64 + 1) s35 H locs ls (by omega) hF41 q36 q37 q38 q39 q40 (by omega) (by omega) (by omega) hW (lv_sub hl [1, 2, 3, 0] rfl)
                  exact L64 ((10 + 1 - 0 : Int).toNat + 1) 0 s_58 H locs ls (by decide) hF_58 q58_0 q58_1 q58_2 q58_3 q58_4 (by omega) (by omega) (Nat.lt_succ_self _) hW (lv_sub hl [1, 2, 3, 0] rfl)
              exact L58 ((1023 + 1 : Int).toNat + 1) 1023 s_36 H locs ls (by decide) hF_36 q36_0 q36_1 q36_2 q36_3 q36_4 (by omega) (Nat.lt_succ_self _) hW (lv_sub hl [1, 2, 0] rfl)
            refine lv_goto (tgt := 123) hx hb dX11_mostAtOnce_51 (by decide) ?_
            refine x_iinc (lv' := [(1, .int (xJ (i1_36 + 1))), (0, .ref (h0 + 268))]) hx hb hl 1 rfl dX11_mostAtOnce_123 (by decide) rfl (fun ls hl => ?_)
            refine lv_goto (tgt := 36) hx hb dX11_mostAtOnce_126 (by decide) ?_
            exact ih36 (i1_36 + 1) s_36 H locs ls (by omega) hF_36 q36_0 q36_1 q36_2 q36_3 q36_4 (by omega) (by omega) (by omega) hW (lv_sub hl [1, 0] rfl)
        exact L36 ((100 + 1 - 0 : Int).toNat + 1) 0 s_6 H locs ls (by decide) hF_6 q6_0 q6_1 q6_2 q6_3 q6_4 (by omega) (by omega) (Nat.lt_succ_self _) hW (lv_sub hl [1, 0] rfl)
      refine x_aload_n hx hb hl 0 rfl dX11_mostAtOnce_13 rfl ?_
      refine x_get (j := 50) (v := .ref (h0 + 300)) hx hb hown hT hE hW cls_X11 (Or.inl (by decide)) (so_268 h0 g _) (by decide) rfl wq1235 dX11_mostAtOnce_14 ?_
      refine x_iload_n hx hb hl 1 rfl dX11_mostAtOnce_17 rfl ?_
      refine x_iload_n hx hb hl 1 rfl dX11_mostAtOnce_18 rfl ?_
      refine x_if_ne (tgt := 26) hx hb ri1_6 dX11_mostAtOnce_19 (by decide) (fun c42 => ?_) (fun c42 => ?_)
      · skip
        refine x_iconst hx hb dX11_mostAtOnce_26 ?_
        refine x_zast hx hb hE hW (by decide) (fun σ => sa_300 h0 g σ) (by omega) (by decide) (by omega) dX11_mostAtOnce_27 (fun H locs s43 es43 hW => ?_)
        have q44 : s43 268 8 = s0 268 8 := (show s43 268 8 = s_6 268 8 from by rw [es43, xU_k _ _ _ (by omega)]).trans q6_0
        have q45 : s43 268 58 = s0 268 58 := (show s43 268 58 = s_6 268 58 from by rw [es43, xU_k _ _ _ (by omega)]).trans q6_1
        have q46 : IMn s43 := by rw [es43]; exact IMn_o (by unfold suIMn; omega) q6_2
        have q47 : IMk s43 := by rw [es43]; exact IMk_o (by unfold suIMk; omega) q6_3
        have q48 : IMo s43 := by rw [es43]; exact IMo_o (by unfold suIMo; omega) q6_4
        have hF49 := hF_6.put es43 (by omega)
        refine x_iinc (lv' := [(1, .int (xJ (i1_6 + 1))), (0, .ref (h0 + 268))]) hx hb hl 1 rfl dX11_mostAtOnce_28 (by decide) rfl (fun ls hl => ?_)
        refine lv_goto (tgt := 6) hx hb dX11_mostAtOnce_31 (by decide) ?_
        exact ih6 (i1_6 + 1) s43 H locs ls (by omega) hF49 q44 q45 q46 q47 q48 (by omega) (by omega) (by omega) hW (lv_sub hl [1, 0] rfl)
      refine x_iconst hx hb dX11_mostAtOnce_22 ?_
      refine lv_goto (tgt := 27) hx hb dX11_mostAtOnce_23 (by decide) ?_
      refine x_zast hx hb hE hW (by decide) (fun σ => sa_300 h0 g σ) (by omega) (by decide) (by omega) dX11_mostAtOnce_27 (fun H locs s50 es50 hW => ?_)
      have q51 : s50 268 8 = s0 268 8 := (show s50 268 8 = s_6 268 8 from by rw [es50, xU_k _ _ _ (by omega)]).trans q6_0
      have q52 : s50 268 58 = s0 268 58 := (show s50 268 58 = s_6 268 58 from by rw [es50, xU_k _ _ _ (by omega)]).trans q6_1
      have q53 : IMn s50 := by rw [es50]; exact IMn_o (by unfold suIMn; omega) q6_2
      have q54 : IMk s50 := by rw [es50]; exact IMk_o (by unfold suIMk; omega) q6_3
      have q55 : IMo s50 := by rw [es50]; exact IMo_o (by unfold suIMo; omega) q6_4
      have hF56 := hF_6.put es50 (by omega)
      refine x_iinc (lv' := [(1, .int (xJ (i1_6 + 1))), (0, .ref (h0 + 268))]) hx hb hl 1 rfl dX11_mostAtOnce_28 (by decide) rfl (fun ls hl => ?_)
      refine lv_goto (tgt := 6) hx hb dX11_mostAtOnce_31 (by decide) ?_
      exact ih6 (i1_6 + 1) s50 H locs ls (by omega) hF56 q51 q52 q53 q54 q55 (by omega) (by omega) (by omega) hW (lv_sub hl [1, 0] rfl)
  exact L6 ((1024 + 1 - 0 : Int).toNat + 1) 0 s2 H locs ls (by decide) hF4 q5 q6 hp3.1.1 hp3.1.2.1 hp3.1.2.2.1 (by omega) (by omega) (Nat.lt_succ_self _) hW (lv_sub hl [1, 0] rfl)
set_option maxHeartbeats 4000000 in
set_option maxRecDepth 100000 in
theorem c_X11_laysSteps (l : Launch) (D : va_G) (g : xG) (T : Nat × Nat × Nat) (h0 : Nat) (s0 : xS) (hσ : xRR s0) (p0 : IMn s0) (p1 : IMk s0) (p2 : IMo s0) : Met l yX11_laysSteps (xws yX11_laysSteps cX11_laysSteps 3 none) { frames := 4, cells := 0, slots := 0, locals := 93 } (xP [.ref (h0 + 268)] D g T h0 s0) (xQv D g h0 (fun τ => xFr (fun k => k = 296 ∨ k = 304) s0 τ ∧ (((IMn τ) ∧ (IMk τ) ∧ (IMo τ) ∧ True) ∧ (True)))) 0 0 (xA h0) := by
  refine x_met hσ (by decide) (Nat.le_of_ble_eq_true rfl) ?_
  intro p e s m args below meth c hx hb hr hml hown hT hlk hnm hE hW ls hl
  have hl : lv_has ls 3 [(0, .ref (h0 + 268))] := hl
  obtain ⟨Q, eQ⟩ : ∃ Q, Q = MQ below (xQv D g h0 (fun τ => xFr (fun k => k = 296 ∨ k = 304) s0 τ ∧ (((IMn τ) ∧ (IMk τ) ∧ (IMo τ) ∧ True) ∧ (True)))) args s 0 0 (xA h0) := ⟨_, rfl⟩
  rw [← eQ]
  generalize hHe : ([] : List Loc) = locs at hW ⊢
  obtain ⟨H, eH⟩ : ∃ H, H = s.heap := ⟨_, rfl⟩
  rw [← eH] at hW ⊢
  have hF : xFr (fun k => k = 296 ∨ k = 304) s0 s0 := xFr.rf
  have k268_8 : s0 268 8 = s0 268 8 := rfl
  have k268_58 : s0 268 58 = s0 268 58 := rfl
  refine x_iconst hx hb dX11_laysSteps_0 ?_
  refine lv_istore_n (lv' := [(1, .int (xJ 0)), (0, .ref (h0 + 268))]) hx hb dX11_laysSteps_1 rfl hl (by decide) rfl (fun ls hl => ?_)
  have L2 : ∀ (fu : Nat) (i1_2 : Int) (s_2 : xS) (H : Heap) (locs : List Loc) (ls : Array Slot), (xR i1_2) → (xFr (fun k => k = 296 ∨ k = 304) s0 s_2) → (IMn s_2) → (IMk s_2) → (IMo s_2) → (s_2 268 8 = s0 268 8) → (s_2 268 58 = s0 268 58) → (0 ≤ i1_2) → (i1_2 ≤ 100) → (100 + 1 - i1_2).toNat < fu → xW D g h0 s H locs s_2 → lv_has ls 3 [(0, .ref (h0 + 268)), (1, .int (xJ i1_2))] → W p l e { frames := 4, cells := 0, slots := 0, locals := 93 } s m args below meth c H locs 0 0 Q (F0 m 2 ls []) := by
    intro fu
    induction fu with
    | zero => intro i1_2 s_2 H locs ls ri1_2 hF_2 q2_0 q2_1 q2_2 q2_3 q2_4 v2_0 v2_1 hm; exact absurd hm (Nat.not_lt_zero _)
    | succ fu ih2 =>
      intro i1_2 s_2 H locs ls ri1_2 hF_2 q2_0 q2_1 q2_2 q2_3 q2_4 v2_0 v2_1 hm hW hl
      refine x_iload_n hx hb hl 1 rfl dX11_laysSteps_2 rfl ?_
      refine x_bipush hx hb dX11_laysSteps_3 (by decide) ?_
      refine x_icmp_ge (tgt := 52) hx hb ri1_2 (by decide) dX11_laysSteps_5 (by decide) (fun c1 => ?_) (fun c1 => ?_)
      · skip
        rw [eQ]
        exact x_vret hx hb hr hlk hW ⟨hF_2, ⟨q2_0, q2_1, q2_2, trivial⟩, trivial⟩ dX11_laysSteps_52
      refine x_aload_n hx hb hl 0 rfl dX11_laysSteps_8 rfl ?_
      refine x_iload_n hx hb hl 1 rfl dX11_laysSteps_9 rfl ?_
      refine x_iconst hx hb dX11_laysSteps_10 ?_
      refine x_iconst hx hb dX11_laysSteps_11 ?_
      refine x_gov (x_runV (As := [.int (xJ i1_2), .int (xJ 3), .int (xJ 1)]) hx hb hml hown hT hE hW hl.1 (Or.inl (by decide)) (so_268 h0 g _) rfl cf_X11_laysCosts wq1637 wq151 wq1635 (c_X11_laysCosts l D g T h0 s_2 hW.2.1 i1_2 ri1_2 3 (by decide) 1 (by decide) q2_0 q2_1 q2_2) ⟨rfl, rfl, ⟨by decide, by decide⟩, ⟨by decide, by decide⟩⟩ rfl rfl (Nat.le_of_ble_eq_true rfl) dX11_laysSteps_12) hW (fun s3 H locs hp4 hW => ?_)
      obtain ⟨fs3, hp4⟩ := hp4
      have hF5 := hF_2.call fs3 (fun k h => by omega)
      have q6 : s3 268 8 = s0 268 8 := (congrFun (fs3 _ (by omega)) _).trans q2_3
      have q7 : s3 268 58 = s0 268 58 := (congrFun (fs3 _ (by omega)) _).trans q2_4
      have ghp4 := hp4.2
      refine x_iconst hx hb dX11_laysSteps_15 ?_
      refine lv_istore_n (lv' := [(2, .int (xJ 0)), (0, .ref (h0 + 268)), (1, .int (xJ i1_2))]) hx hb dX11_laysSteps_16 rfl hl (by decide) rfl (fun ls hl => ?_)
      have L17 : ∀ (fu : Nat) (i2_17 : Int) (s_17 : xS) (H : Heap) (locs : List Loc) (ls : Array Slot), (xR i2_17) → (xFr (fun k => k = 296 ∨ k = 304) s0 s_17) → (s_17 268 8 = s0 268 8) → (s_17 268 58 = s0 268 58) → (IMn s_17) → (IMk s_17) → (IMo s_17) → (0 ≤ i2_17) → (i2_17 ≤ 100) → (100 + 1 - i2_17).toNat < fu → xW D g h0 s H locs s_17 → lv_has ls 3 [(0, .ref (h0 + 268)), (1, .int (xJ i1_2)), (2, .int (xJ i2_17))] → W p l e { frames := 4, cells := 0, slots := 0, locals := 93 } s m args below meth c H locs 0 0 Q (F0 m 17 ls []) := by
        intro fu
        induction fu with
        | zero => intro i2_17 s_17 H locs ls ri2_17 hF_17 q17_0 q17_1 q17_2 q17_3 q17_4 v17_0 v17_1 hm; exact absurd hm (Nat.not_lt_zero _)
        | succ fu ih17 =>
          intro i2_17 s_17 H locs ls ri2_17 hF_17 q17_0 q17_1 q17_2 q17_3 q17_4 v17_0 v17_1 hm hW hl
          refine x_iload_n hx hb hl 2 rfl dX11_laysSteps_17 rfl ?_
          refine x_bipush hx hb dX11_laysSteps_18 (by decide) ?_
          refine x_icmp_ge (tgt := 46) hx hb ri2_17 (by decide) dX11_laysSteps_20 (by decide) (fun c8 => ?_) (fun c8 => ?_)
          · skip
            refine x_iinc (lv' := [(1, .int (xJ (i1_2 + 1))), (0, .ref (h0 + 268)), (2, .int (xJ i2_17))]) hx hb hl 1 rfl dX11_laysSteps_46 (by decide) rfl (fun ls hl => ?_)
            refine lv_goto (tgt := 2) hx hb dX11_laysSteps_49 (by decide) ?_
            exact ih2 (i1_2 + 1) s_17 H locs ls (by omega) hF_17 q17_2 q17_3 q17_4 q17_0 q17_1 (by omega) (by omega) (by omega) hW (lv_sub hl [1, 0] rfl)
          refine x_aload_n hx hb hl 0 rfl dX11_laysSteps_23 rfl ?_
          refine x_get (j := 54) (v := .ref (h0 + 304)) hx hb hown hT hE hW cls_X11 (Or.inl (by decide)) (so_268 h0 g _) (by decide) rfl wq1239 dX11_laysSteps_24 ?_
          refine x_bipush hx hb dX11_laysSteps_27 (by decide) ?_
          refine x_iload_n hx hb hl 1 rfl dX11_laysSteps_29 rfl ?_
          refine x_imul hx hb dX11_laysSteps_30 ?_
          refine x_iload_n hx hb hl 2 rfl dX11_laysSteps_31 rfl ?_
          refine x_iadd hx hb dX11_laysSteps_32 ?_
          refine x_aload_n hx hb hl 0 rfl dX11_laysSteps_33 rfl ?_
          refine x_get (j := 45) (v := .ref (h0 + 296)) hx hb hown hT hE hW cls_X11 (Or.inl (by decide)) (so_268 h0 g _) (by decide) rfl wq1230 dX11_laysSteps_34 ?_
          refine x_iload_n hx hb hl 2 rfl dX11_laysSteps_37 rfl ?_
          refine x_iald hx hb hE hW (Or.inl (by decide)) (sa_296 h0 g _) (by omega) (by decide) dX11_laysSteps_38 ?_
          refine x_rd hW (fun x9 ex9 rx9 => ?_)
          refine x_iast hx hb hE hW (by decide) (fun σ => sa_304 h0 g σ) (by omega) (by decide) rx9 dX11_laysSteps_39 (fun H locs s10 es10 hW => ?_)
          have q11 : s10 268 8 = s0 268 8 := (show s10 268 8 = s_17 268 8 from by rw [es10, xU_k _ _ _ (by omega)]).trans q17_0
          have q12 : s10 268 58 = s0 268 58 := (show s10 268 58 = s_17 268 58 from by rw [es10, xU_k _ _ _ (by omega)]).trans q17_1
          have q13 : IMn s10 := by rw [es10]; exact IMn_o (by unfold suIMn; omega) q17_2
          have q14 : IMk s10 := by rw [es10]; exact IMk_o (by unfold suIMk; omega) q17_3
          have q15 : IMo s10 := by rw [es10]; exact IMo_o (by unfold suIMo; omega) q17_4
          have hF16 := hF_17.put es10 (by omega)
          refine x_iinc (lv' := [(2, .int (xJ (i2_17 + 1))), (0, .ref (h0 + 268)), (1, .int (xJ i1_2))]) hx hb hl 2 rfl dX11_laysSteps_40 (by decide) rfl (fun ls hl => ?_)
          refine lv_goto (tgt := 17) hx hb dX11_laysSteps_43 (by decide) ?_
          exact ih17 (i2_17 + 1) s10 H locs ls (by omega) hF16 q11 q12 q13 q14 q15 (by omega) (by omega) (by omega) hW (lv_sub hl [1, 2, 0] rfl)
      exact L17 ((100 + 1 - 0 : Int).toNat + 1) 0 s3 H locs ls (by decide) hF5 q6 q7 hp4.1.1 hp4.1.2.1 hp4.1.2.2.1 (by omega) (by omega) (Nat.lt_succ_self _) hW (lv_sub hl [1, 2, 0] rfl)
  exact L2 ((100 + 1 - 0 : Int).toNat + 1) 0 s0 H locs ls (by decide) hF p0 p1 p2 k268_8 k268_58 (by omega) (by omega) (Nat.lt_succ_self _) hW (lv_sub hl [1, 0] rfl)
set_option maxHeartbeats 4000000 in
set_option maxRecDepth 100000 in
theorem c_X11_goesFew (l : Launch) (D : va_G) (g : xG) (T : Nat × Nat × Nat) (h0 : Nat) (s0 : xS) (hσ : xRR s0) (n : Int) (rn : xR n) (hn : 1 ≤ n ∧ n ≤ 30) (p0 : IMn s0) (p1 : IMk s0) (p2 : IMo s0) : Met l yX11_goesFew (xws yX11_goesFew cX11_goesFew 7 none) { frames := 1, cells := 0, slots := 0, locals := 21 } (xP [.ref (h0 + 268), .int (xJ n)] D g T h0 s0) (xQv D g h0 (fun τ => xFr (fun k => k = 302 ∨ k = 303) s0 τ ∧ (((IMn τ) ∧ (IMk τ) ∧ (IMo τ) ∧ True) ∧ (True)))) 0 0 (xA h0) := by
  refine x_met hσ (by decide) (Nat.le_of_ble_eq_true rfl) ?_
  intro p e s m args below meth c hx hb hr hml hown hT hlk hnm hE hW ls hl
  have hl : lv_has ls 7 [(0, .ref (h0 + 268)), (1, .int (xJ n))] := hl
  obtain ⟨Q, eQ⟩ : ∃ Q, Q = MQ below (xQv D g h0 (fun τ => xFr (fun k => k = 302 ∨ k = 303) s0 τ ∧ (((IMn τ) ∧ (IMk τ) ∧ (IMo τ) ∧ True) ∧ (True)))) args s 0 0 (xA h0) := ⟨_, rfl⟩
  rw [← eQ]
  generalize hHe : ([] : List Loc) = locs at hW ⊢
  obtain ⟨H, eH⟩ : ∃ H, H = s.heap := ⟨_, rfl⟩
  rw [← eH] at hW ⊢
  have hF : xFr (fun k => k = 302 ∨ k = 303) s0 s0 := xFr.rf
  have k268_8 : s0 268 8 = s0 268 8 := rfl
  have k268_58 : s0 268 58 = s0 268 58 := rfl
  refine x_iconst hx hb dX11_goesFew_0 ?_
  refine lv_istore_n (lv' := [(2, .int (xJ 0)), (0, .ref (h0 + 268)), (1, .int (xJ n))]) hx hb dX11_goesFew_1 rfl hl (by decide) rfl (fun ls hl => ?_)
  have L2 : ∀ (fu : Nat) (i2_2 : Int) (s_2 : xS) (H : Heap) (locs : List Loc) (ls : Array Slot), (xR i2_2) → (xFr (fun k => k = 302 ∨ k = 303) s0 s_2) → (IMn s_2) → (IMk s_2) → (IMo s_2) → (s_2 268 8 = s0 268 8) → (s_2 268 58 = s0 268 58) → (0 ≤ i2_2) → (i2_2 ≤ 3100) → (3100 + 1 - i2_2).toNat < fu → xW D g h0 s H locs s_2 → lv_has ls 7 [(0, .ref (h0 + 268)), (1, .int (xJ n)), (2, .int (xJ i2_2))] → W p l e { frames := 1, cells := 0, slots := 0, locals := 21 } s m args below meth c H locs 0 0 Q (F0 m 2 ls []) := by
    intro fu
    induction fu with
    | zero => intro i2_2 s_2 H locs ls ri2_2 hF_2 q2_0 q2_1 q2_2 q2_3 q2_4 v2_0 v2_1 hm; exact absurd hm (Nat.not_lt_zero _)
    | succ fu ih2 =>
      intro i2_2 s_2 H locs ls ri2_2 hF_2 q2_0 q2_1 q2_2 q2_3 q2_4 v2_0 v2_1 hm hW hl
      refine x_iload_n hx hb hl 2 rfl dX11_goesFew_2 rfl ?_
      refine x_sipush hx hb dX11_goesFew_3 (by decide) ?_
      refine x_icmp_ge (tgt := 24) hx hb ri2_2 (by decide) dX11_goesFew_6 (by decide) (fun c1 => ?_) (fun c1 => ?_)
      · skip
        refine x_iconst hx hb dX11_goesFew_24 ?_
        refine lv_istore_n (lv' := [(2, .int (xJ 0)), (0, .ref (h0 + 268)), (1, .int (xJ n))]) hx hb dX11_goesFew_25 rfl hl (by decide) rfl (fun ls hl => ?_)
        have L26 : ∀ (fu : Nat) (i2_26 : Int) (s_26 : xS) (H : Heap) (locs : List Loc) (ls : Array Slot), (xR i2_26) → (xFr (fun k => k = 302 ∨ k = 303) s0 s_26) → (IMn s_26) → (IMk s_26) → (IMo s_26) → (s_26 268 8 = s0 268 8) → (s_26 268 58 = s0 268 58) → (0 ≤ i2_26) → (i2_26 ≤ 100) → (100 + 1 - i2_26).toNat < fu → xW D g h0 s H locs s_26 → lv_has ls 7 [(0, .ref (h0 + 268)), (1, .int (xJ n)), (2, .int (xJ i2_26))] → W p l e { frames := 1, cells := 0, slots := 0, locals := 21 } s m args below meth c H locs 0 0 Q (F0 m 26 ls []) := by
          intro fu
          induction fu with
          | zero => intro i2_26 s_26 H locs ls ri2_26 hF_26 q26_0 q26_1 q26_2 q26_3 q26_4 v26_0 v26_1 hm; exact absurd hm (Nat.not_lt_zero _)
          | succ fu ih26 =>
            intro i2_26 s_26 H locs ls ri2_26 hF_26 q26_0 q26_1 q26_2 q26_3 q26_4 v26_0 v26_1 hm hW hl
            refine x_iload_n hx hb hl 2 rfl dX11_goesFew_26 rfl ?_
            refine x_bipush hx hb dX11_goesFew_27 (by decide) ?_
            refine x_icmp_ge (tgt := 153) hx hb ri2_26 (by decide) dX11_goesFew_29 (by decide) (fun c2 => ?_) (fun c2 => ?_)
            · skip
              refine x_iconst hx hb dX11_goesFew_153 ?_
              refine lv_istore_n (lv' := [(2, .int (xJ 0)), (0, .ref (h0 + 268)), (1, .int (xJ n))]) hx hb dX11_goesFew_154 rfl hl (by decide) rfl (fun ls hl => ?_)
              have L155 : ∀ (fu : Nat) (i2_155 : Int) (s_155 : xS) (H : Heap) (locs : List Loc) (ls : Array Slot), (xR i2_155) → (xFr (fun k => k = 302 ∨ k = 303) s0 s_155) → (IMn s_155) → (IMk s_155) → (IMo s_155) → (s_155 268 8 = s0 268 8) → (s_155 268 58 = s0 268 58) → (0 ≤ i2_155) → (i2_155 ≤ 3100) → (3100 + 1 - i2_155).toNat < fu → xW D g h0 s H locs s_155 → lv_has ls 7 [(0, .ref (h0 + 268)), (2, .int (xJ i2_155))] → W p l e { frames := 1, cells := 0, slots := 0, locals := 21 } s m args below meth c H locs 0 0 Q (F0 m 155 ls []) := by
                intro fu
                induction fu with
                | zero => intro i2_155 s_155 H locs ls ri2_155 hF_155 q155_0 q155_1 q155_2 q155_3 q155_4 v155_0 v155_1 hm; exact absurd hm (Nat.not_lt_zero _)
                | succ fu ih155 =>
                  intro i2_155 s_155 H locs ls ri2_155 hF_155 q155_0 q155_1 q155_2 q155_3 q155_4 v155_0 v155_1 hm hW hl
                  refine x_iload_n hx hb hl 1 rfl dX11_goesFew_155 rfl ?_
                  refine x_sipush hx hb dX11_goesFew_156 (by decide) ?_
                  refine x_icmp_ge (tgt := 186) hx hb ri2_155 (by decide) dX11_goesFew_159 (by decide) (fun c3 => ?_) (fun c3 => ?_)
                  · skip
                    rw [eQ]
                    exact x_vret hx hb hr hlk hW ⟨hF_155, ⟨q155_0, q155_1, q155_2, trivial⟩, trivial⟩ dX11_goesFew_186
                  refine x_aload_n hx hb hl 0 rfl dX11_goesFew_162 rfl ?_
                  refine x_get (j := 52) (v := .ref (h0 + 302)) hx hb hown hT hE hW cls_X11 (Or.inl (by decide)) (so_268 h0 g _) (by decide) rfl wq1237 dX11_goesFew_163 ?_
                  refine x_iload_n hx hb hl 1 rfl dX11_goesFew_166 rfl ?_
                  refine lv_ldcw (v := xJ 1000000000) hx hb hown (hT _ wq1622) dX11_goesFew_167 ?_
                  refine x_aload_n hx hb hl 0 rfl dX11_goesFew_170 rfl ?_
                  refine x_get (j := 53) (v := .ref (h0 + 303)) hx hb hown hT hE hW cls_X11 (Or.inl (by decide)) (so_268 h0 g _) (by decide) rfl wq1238 dX11_goesFew_171 ?_
                  refine x_iload_n hx hb hl 1 rfl dX11_goesFew_174 rfl ?_
                  refine x_iald hx hb hE hW (Or.inl (by decide)) (sa_303 h0 g _) (by omega) (by decide) dX11_goesFew_175 ?_
                  refine x_rd hW (fun x4 ex4 rx4 => ?_)
                  refine x_goi (x_runS (As := [.int (xJ 1000000000), .int (xJ x4)]) hx hb hml hown hT hE hW hl.1 cf_X11_min wq1640 wq1639 (c_X11_min l D g T h0 s_155 hW.2.1 1000000000 (by decide) x4 rx4) ⟨rfl, rfl, ⟨by decide, by decide⟩, ⟨by decide, by decide⟩⟩ rfl rfl (Nat.le_of_ble_eq_true rfl) dX11_goesFew_176) hW (fun x5 s6 H locs rx5 hp7 hW => ?_)
                  obtain ⟨es6, hp7⟩ := hp7
                  subst es6
                  have ghp7 := hp7
                  refine x_iast hx hb hE hW (by decide) (fun σ => sa_302 h0 g σ) (by omega) (by decide) rx5 dX11_goesFew_179 (fun H locs s8 es8 hW => ?_)
                  have q9 : IMn s8 := by rw [es8]; exact IMn_o (by unfold suIMn; omega) q155_0
                  have q10 : IMk s8 := by rw [es8]; exact IMk_o (by unfold suIMk; omega) q155_1
                  have q11 : IMo s8 := by rw [es8]; exact IMo_o (by unfold suIMo; omega) q155_2
                  have q12 : s8 268 8 = s0 268 8 := (show s8 268 8 = s_155 268 8 from by rw [es8, xU_k _ _ _ (by omega)]).trans q155_3
                  have q13 : s8 268 58 = s0 268 58 := (show s8 268 58 = s_155 268 58 from by rw [es8, xU_k _ _ _ (by omega)]).trans q155_4
                  have hF14 := hF_155.put es8 (by omega)
                  refine x_iinc (lv' := [(2, .int (xJ (i2_155 + 1))), (0, .ref (h0 + 268))]) hx hb hl 1 rfl dX11_goesFew_180 (by decide) rfl (fun ls hl => ?_)
                  refine lv_goto (tgt := 155) hx hb dX11_goesFew_183 (by decide) ?_
                  exact ih155 (i2_155 + 1) s8 H locs ls (by omega) hF14 q9 q10 q11 q12 q13 (by omega) (by omega) (by omega) hW (lv_sub hl [1, 0] rfl)
              exact L155 ((3100 + 1 - 0 : Int).toNat + 1) 0 s_26 H locs ls (by decide) hF_26 q26_0 q26_1 q26_2 q26_3 q26_4 (by omega) (by omega) (Nat.lt_succ_self _) hW (lv_sub hl [1, 0] rfl)
            refine x_iconst hx hb dX11_goesFew_32 ?_
            refine lv_istore_n (lv' := [(3, .int (xJ 0)), (0, .ref (h0 + 268)), (1, .int (xJ n)), (2, .int (xJ i2_26))]) hx hb dX11_goesFew_33 rfl hl (by decide) rfl (fun ls hl => ?_)
            have L34 : ∀ (fu : Nat) (i3_34 : Int) (s_34 : xS) (H : Heap) (locs : List Loc) (ls : Array Slot), (xR i3_34) → (xFr (fun k => k = 302 ∨ k = 303) s0 s_34) → (IMn s_34) → (IMk s_34) → (IMo s_34) → (s_34 268 8 = s0 268 8) → (s_34 268 58 = s0 268 58) → (0 ≤ i3_34) → (i3_34 ≤ 100) → (100 + 1 - i3_34).toNat < fu → xW D g h0 s H locs s_34 → lv_has ls 7 [(0, .ref (h0 + 268)), (1, .int (xJ n)), (2, .int (xJ i2_26)), (3, .int (xJ i3_34))] → W p l e { frames := 1, cells := 0, slots := 0, locals := 21 } s m args below meth c H locs 0 0 Q (F0 m 34 ls []) := by
              intro fu
              induction fu with
              | zero => intro i3_34 s_34 H locs ls ri3_34 hF_34 q34_0 q34_1 q34_2 q34_3 q34_4 v34_0 v34_1 hm; exact absurd hm (Nat.not_lt_zero _)
              | succ fu ih34 =>
                intro i3_34 s_34 H locs ls ri3_34 hF_34 q34_0 q34_1 q34_2 q34_3 q34_4 v34_0 v34_1 hm hW hl
                refine x_iload_n hx hb hl 3 rfl dX11_goesFew_34 rfl ?_
                refine x_bipush hx hb dX11_goesFew_35 (by decide) ?_
                refine x_icmp_ge (tgt := 147) hx hb ri3_34 (by decide) dX11_goesFew_37 (by decide) (fun c15 => ?_) (fun c15 => ?_)
                · skip
                  refine x_iinc (lv' := [(2, .int (xJ (i2_26 + 1))), (0, .ref (h0 + 268)), (1, .int (xJ n)), (3, .int (xJ i3_34))]) hx hb hl 2 rfl dX11_goesFew_147 (by decide) rfl (fun ls hl => ?_)
                  refine lv_goto (tgt := 26) hx hb dX11_goesFew_150 (by decide) ?_
                  exact ih26 (i2_26 + 1) s_34 H locs ls (by omega) hF_34 q34_0 q34_1 q34_2 q34_3 q34_4 (by omega) (by omega) (by omega) hW (lv_sub hl [1, 2, 0] rfl)
                refine x_aload_n hx hb hl 0 rfl dX11_goesFew_40 rfl ?_
                refine x_get (j := 54) (v := .ref (h0 + 304)) hx hb hown hT hE hW cls_X11 (Or.inl (by decide)) (so_268 h0 g _) (by decide) rfl wq1239 dX11_goesFew_41 ?_
                refine x_bipush hx hb dX11_goesFew_44 (by decide) ?_
                refine x_iload_n hx hb hl 2 rfl dX11_goesFew_46 rfl ?_
                refine x_imul hx hb dX11_goesFew_47 ?_
                refine x_iload_n hx hb hl 3 rfl dX11_goesFew_48 rfl ?_
                refine x_iadd hx hb dX11_goesFew_49 ?_
                refine x_iald hx hb hE hW (Or.inl (by decide)) (sa_304 h0 g _) (by omega) (by decide) dX11_goesFew_50 ?_
                refine x_rd hW (fun x16 ex16 rx16 => ?_)
                refine lv_istore (lv' := [(4, .int (xJ x16)), (0, .ref (h0 + 268)), (1, .int (xJ n)), (2, .int (xJ i2_26)), (3, .int (xJ i3_34))]) hx hb dX11_goesFew_51 hl (by decide) rfl (fun ls hl => ?_)
                refine x_iconst hx hb dX11_goesFew_53 ?_
                refine lv_istore (lv' := [(5, .int (xJ 0)), (4, .int (xJ x16)), (0, .ref (h0 + 268)), (1, .int (xJ n)), (2, .int (xJ i2_26)), (3, .int (xJ i3_34))]) hx hb dX11_goesFew_54 hl (by decide) rfl (fun ls hl => ?_)
                have L56 : ∀ (fu : Nat) (i5_56 : Int) (s_56 : xS) (H : Heap) (locs : List Loc) (ls : Array Slot), (xR i5_56) → (xFr (fun k => k = 302 ∨ k = 303) s0 s_56) → (IMn s_56) → (IMk s_56) → (IMo s_56) → (s_56 268 8 = s0 268 8) → (s_56 268 58 = s0 268 58) → (0 ≤ i5_56) → (n + 1 - i5_56).toNat < fu → xW D g h0 s H locs s_56 → lv_has ls 7 [(0, .ref (h0 + 268)), (1, .int (xJ n)), (2, .int (xJ i2_26)), (3, .int (xJ i3_34)), (4, .int (xJ x16)), (5, .int (xJ i5_56))] → W p l e { frames := 1, cells := 0, slots := 0, locals := 21 } s m args below meth c H locs 0 0 Q (F0 m 56 ls []) := by
                  intro fu
                  induction fu with
                  | zero => intro i5_56 s_56 H locs ls ri5_56 hF_56 q56_0 q56_1 q56_2 q56_3 q56_4 v56_0 hm; exact absurd hm (Nat.not_lt_zero _)
                  | succ fu ih56 =>
                    intro i5_56 s_56 H locs ls ri5_56 hF_56 q56_0 q56_1 q56_2 q56_3 q56_4 v56_0 hm hW hl
                    refine x_iload hx hb hl 5 rfl dX11_goesFew_56 ?_
                    refine x_iload_n hx hb hl 1 rfl dX11_goesFew_58 rfl ?_
                    refine x_icmp_gt (tgt := 141) hx hb ri5_56 rn dX11_goesFew_59 (by decide) (fun c17 => ?_) (fun c17 => ?_)
                    · skip
                      refine x_iinc (lv' := [(3, .int (xJ (i3_34 + 1))), (0, .ref (h0 + 268)), (1, .int (xJ n)), (2, .int (xJ i2_26)), (4, .int (xJ x16)), (5, .int (xJ i5_56))]) hx hb hl 3 rfl dX11_goesFew_141 (by decide) rfl (fun ls hl => ?_)
                      refine lv_goto (tgt := 34) hx hb dX11_goesFew_144 (by decide) ?_
                      exact ih34 (i3_34 + 1) s_56 H locs ls (by omega) hF_56 q56_0 q56_1 q56_2 q56_3 q56_4 (by omega) (by omega) (by omega) hW (lv_sub hl [1, 2, 3, 0] rfl)
                    refine x_iload hx hb hl 4 rfl dX11_goesFew_62 ?_
                    refine lv_ldcw (v := xJ 1000000000) hx hb hown (hT _ wq1622) dX11_goesFew_64 ?_
                    refine x_icmp_ge (tgt := 141) hx hb rx16 (by decide) dX11_goesFew_67 (by decide) (fun c18 => ?_) (fun c18 => ?_)
                    · skip
                      refine x_iinc (lv' := [(3, .int (xJ (i3_34 + 1))), (0, .ref (h0 + 268)), (1, .int (xJ n)), (2, .int (xJ i2_26)), (4, .int (xJ x16)), (5, .int (xJ i5_56))]) hx hb hl 3 rfl dX11_goesFew_141 (by decide) rfl (fun ls hl => ?_)
                      refine lv_goto (tgt := 34) hx hb dX11_goesFew_144 (by decide) ?_
                      exact ih34 (i3_34 + 1) s_56 H locs ls (by omega) hF_56 q56_0 q56_1 q56_2 q56_3 q56_4 (by omega) (by omega) (by omega) hW (lv_sub hl [1, 2, 3, 0] rfl)
                    refine x_iload_n hx hb hl 1 rfl dX11_goesFew_70 rfl ?_
                    refine x_iload hx hb hl 5 rfl dX11_goesFew_71 ?_
                    refine x_aload_n hx hb hl 0 rfl dX11_goesFew_73 rfl ?_
                    refine x_get (j := 40) (v := .ref (h0 + 295)) hx hb hown hT hE hW cls_X11 (Or.inl (by decide)) (so_268 h0 g _) (by decide) rfl wq1225 dX11_goesFew_74 ?_
                    refine x_iload_n hx hb hl 3 rfl dX11_goesFew_77 rfl ?_
                    refine x_iald hx hb hE hW (Or.inl (by decide)) (sa_295 h0 g _) (by omega) (by decide) dX11_goesFew_78 ?_
                    refine x_rd hW (fun x19 ex19 rx19 => ?_)
                    have J87 : ∀ (t0_87 : Int) (ls : Array Slot), (xR t0_87) → (0 ≤ t0_87 ∧ t0_87 ≤ 1) → lv_has ls 7 [(0, .ref (h0 + 268)), (1, .int (xJ n)), (2, .int (xJ i2_26)), (3, .int (xJ i3_34)), (4, .int (xJ x16)), (5, .int (xJ i5_56))] → W p l e { frames := 1, cells := 0, slots := 0, locals := 21 } s m args below meth c H locs 0 0 Q (F0 m 87 ls [.int (xJ t0_87), .int (xJ i5_56), .int (xJ n)]) := by
                      intro t0_87 ls rt0_87 v87_0  hl
                      refine x_iadd hx hb dX11_goesFew_87 ?_
                      refine x_goi (x_runS (As := [.int (xJ n), .int (xJ (i5_56 + t0_87))]) hx hb hml hown hT hE hW hl.1 cf_X11_min wq1640 wq1639 (c_X11_min l D g T h0 s_56 hW.2.1 n rn (i5_56 + t0_87) (by omega)) ⟨rfl, rfl, ⟨by decide, by decide⟩, ⟨by decide, by decide⟩⟩ rfl rfl (Nat.le_of_ble_eq_true rfl) dX11_goesFew_88) hW (fun x20 s21 H locs rx20 hp22 hW => ?_)
                      obtain ⟨es21, hp22⟩ := hp22
                      subst es21
                      have ghp22 := hp22
                      refine lv_istore (lv' := [(6, .int (xJ x20)), (0, .ref (h0 + 268)), (1, .int (xJ n)), (2, .int (xJ i2_26)), (3, .int (xJ i3_34)), (4, .int (xJ x16)), (5, .int (xJ i5_56))]) hx hb dX11_goesFew_91 hl (by decide) rfl (fun ls hl => ?_)
                      refine x_aload_n hx hb hl 1 rfl dX11_goesFew_93 rfl ?_
                      refine x_get (j := 53) (v := .ref (h0 + 303)) hx hb hown hT hE hW cls_X11 (Or.inl (by decide)) (so_268 h0 g _) (by decide) rfl wq1238 dX11_goesFew_94 ?_
                      refine x_bipush hx hb dX11_goesFew_97 (by decide) ?_
                      refine x_iload_n hx hb hl 4 rfl dX11_goesFew_99 rfl ?_
                      refine x_imul hx hb dX11_goesFew_100 ?_
                      refine x_iload hx hb hl 0 rfl dX11_goesFew_101 ?_
                      refine x_iadd hx hb dX11_goesFew_103 ?_
                      refine x_aload_n hx hb hl 1 rfl dX11_goesFew_104 rfl ?_
                      refine x_get (j := 53) (v := .ref (h0 + 303)) hx hb hown hT hE hW cls_X11 (Or.inl (by decide)) (so_268 h0 g _) (by decide) rfl wq1238 dX11_goesFew_105 ?_
                      refine x_bipush hx hb dX11_goesFew_108 (by decide) ?_
                      refine x_iload_n hx hb hl 4 rfl dX11_goesFew_110 rfl ?_
                      refine x_imul hx hb dX11_goesFew_111 ?_
                      refine x_iload hx hb hl 0 rfl dX11_goesFew_112 ?_
                      refine x_iadd hx hb dX11_goesFew_114 ?_
                      refine x_iald hx hb hE hW (Or.inl (by decide)) (sa_303 h0 g _) (by omega) (by decide) dX11_goesFew_115 ?_
                      refine x_rd hW (fun x23 ex23 rx23 => ?_)
                      refine x_aload_n hx hb hl 1 rfl dX11_goesFew_116 rfl ?_
                      refine x_get (j := 52) (v := .ref (h0 + 302)) hx hb hown hT hE hW cls_X11 (Or.inl (by decide)) (so_268 h0 g _) (by decide) rfl wq1237 dX11_goesFew_117 ?_
                      refine x_bipush hx hb dX11_goesFew_120 (by decide) ?_
                      refine x_iload_n hx hb hl 3 rfl dX11_goesFew_122 rfl ?_
                      refine x_imul hx hb dX11_goesFew_123 ?_
                      refine x_iload hx hb hl 6 rfl dX11_goesFew_124 ?_
                      refine x_iadd hx hb dX11_goesFew_126 ?_
                      refine x_iald hx hb hE hW (Or.inl (by decide)) (sa_302 h0 g _) (by omega) (by decide) dX11_goesFew_127 ?_
                      refine x_rd hW (fun x24 ex24 rx24 => ?_)
                      refine x_iload hx hb hl 5 rfl dX11_goesFew_128 ?_
                      refine x_iadd hx hb dX11_goesFew_130 ?_
                      refine x_any (fun x25 rx25 => ?_)
                      refine x_goi (x_runS (As := [.int (xJ x23), .int (xJ x25)]) hx hb hml hown hT hE hW hl.1 cf_X11_min wq1640 wq1639 (c_X11_min l D g T h0 s_56 hW.2.1 x23 rx23 x25 rx25) ⟨rfl, rfl, ⟨by decide, by decide⟩, ⟨by decide, by decide⟩⟩ rfl rfl (Nat.le_of_ble_eq_true rfl) dX11_goesFew_131) hW (fun x26 s27 H locs rx26 hp28 hW => ?_)
                      obtain ⟨es27, hp28⟩ := hp28
                      subst es27
                      have ghp28 := hp28
                      refine x_iast hx hb hE hW (by decide) (fun σ => sa_303 h0 g σ) (by omega) (by decide) rx26 dX11_goesFew_134 (fun H locs s29 es29 hW => ?_)
                      have q30 : IMn s29 := by rw [es29]; exact IMn_o (by unfold suIMn; omega) q56_0
                      have q31 : IMk s29 := by rw [es29]; exact IMk_o (by unfold suIMk; omega) q56_1
                      have q32 : IMo s29 := by rw [es29]; exact IMo_o (by unfold suIMo; omega) q56_2
                      have q33 : s29 268 8 = s0 268 8 := (show s29 268 8 = s_56 268 8 from by rw [es29, xU_k _ _ _ (by omega)]).trans q56_3
                      have q34 : s29 268 58 = s0 268 58 := (show s29 268 58 = s_56 268 58 from by rw [es29, xU_k _ _ _ (by omega)]).trans q56_4
                      have hF35 := hF_56.put es29 (by omega)
                      refine x_iinc (lv' := [(5, .int (xJ (i5_56 + 1))), (6, .int (xJ x20)), (0, .ref (h0 + 268)), (1, .int (xJ n)), (2, .int (xJ i2_26)), (3, .int (xJ i3_34)), (4, .int (xJ x16))]) hx hb hl 6 rfl dX11_goesFew_135 (by decide) rfl (fun ls hl => ?_)
                      refine lv_goto (tgt := 56) hx hb dX11_goesFew_138 (by decide) ?_
                      exact ih56 (i5_56 + 1) s29 H locs ls (by omega) hF35 q30 q31 q32 q33 q34 (by omega) (by omega) hW (lv_sub hl [2, 3, 4, 5, 6, 0] rfl)
                    refine x_if_le (tgt := 86) hx hb rx19 dX11_goesFew_79 (by decide) (fun c36 => ?_) (fun c36 => ?_)
                    · skip
                      refine x_iconst hx hb dX11_goesFew_86 ?_
                      exact J87 0 ls (by decide) (by omega)  (lv_sub hl [0, 1, 2, 3, 4, 5] rfl)
                    refine x_iconst hx hb dX11_goesFew_82 ?_
                    refine lv_goto (tgt := 87) hx hb dX11_goesFew_83 (by decide) ?_
                    exact J87 1 ls (by decide) (by omega)  (lv_sub hl [0, 1, 2, 3, 4, 5] rfl)
                exact L56 ((n + 1 - 0 : Int).toNat + 1) 0 s_34 H locs ls (by decide) hF_34 q34_0 q34_1 q34_2 q34_3 q34_4 (by omega) (Nat.lt_succ_self _) hW (lv_sub hl [2, 3, 4, 5, 1, 0] rfl)
            exact L34 ((100 + 1 - 0 : Int).toNat + 1) 0 s_26 H locs ls (by decide) hF_26 q26_0 q26_1 q26_2 q26_3 q26_4 (by omega) (by omega) (Nat.lt_succ_self _) hW (lv_sub hl [1, 2, 3, 0] rfl)
        exact L26 ((100 + 1 - 0 : Int).toNat + 1) 0 s_2 H locs ls (by decide) hF_2 q2_0 q2_1 q2_2 q2_3 q2_4 (by omega) (by omega) (Nat.lt_succ_self _) hW (lv_sub hl [1, 2, 0] rfl)
      refine x_aload_n hx hb hl 0 rfl dX11_goesFew_9 rfl ?_
      refine x_get (j := 53) (v := .ref (h0 + 303)) hx hb hown hT hE hW cls_X11 (Or.inl (by decide)) (so_268 h0 g _) (by decide) rfl wq1238 dX11_goesFew_10 ?_
      refine x_iload_n hx hb hl 2 rfl dX11_goesFew_13 rfl ?_
      refine lv_ldcw (v := xJ 1000000000) hx hb hown (hT _ wq1622) dX11_goesFew_14 ?_
      refine x_iast hx hb hE hW (by decide) (fun σ => sa_303 h0 g σ) (by omega) (by decide) (by decide) dX11_goesFew_17 (fun H locs s37 es37 hW => ?_)
      have q38 : IMn s37 := by rw [es37]; exact IMn_o (by unfold suIMn; omega) q2_0
      have q39 : IMk s37 := by rw [es37]; exact IMk_o (by unfold suIMk; omega) q2_1
      have q40 : IMo s37 := by rw [es37]; exact IMo_o (by unfold suIMo; omega) q2_2
      have q41 : s37 268 8 = s0 268 8 := (show s37 268 8 = s_2 268 8 from by rw [es37, xU_k _ _ _ (by omega)]).trans q2_3
      have q42 : s37 268 58 = s0 268 58 := (show s37 268 58 = s_2 268 58 from by rw [es37, xU_k _ _ _ (by omega)]).trans q2_4
      have hF43 := hF_2.put es37 (by omega)
      refine x_iinc (lv' := [(2, .int (xJ (i2_2 + 1))), (0, .ref (h0 + 268)), (1, .int (xJ n))]) hx hb hl 2 rfl dX11_goesFew_18 (by decide) rfl (fun ls hl => ?_)
      refine lv_goto (tgt := 2) hx hb dX11_goesFew_21 (by decide) ?_
      exact ih2 (i2_2 + 1) s37 H locs ls (by omega) hF43 q38 q39 q40 q41 q42 (by omega) (by omega) (by omega) hW (lv_sub hl [1, 2, 0] rfl)
  exact L2 ((3100 + 1 - 0 : Int).toNat + 1) 0 s0 H locs ls (by decide) hF p0 p1 p2 k268_8 k268_58 (by omega) (by omega) (Nat.lt_succ_self _) hW (lv_sub hl [1, 2, 0] rfl)
set_option maxHeartbeats 4000000 in
set_option maxRecDepth 100000 in
theorem c_X11_isFree (l : Launch) (D : va_G) (g : xG) (T : Nat × Nat × Nat) (h0 : Nat) (s0 : xS) (hσ : xRR s0) (x : Int) (rx : xR x) (hx0 : 0 ≤ x ∧ x ≤ 99) (p0 : IMn s0) (p1 : IMk s0) (p2 : IMo s0) : Met l yX11_isFree (xws yX11_isFree cX11_isFree 3 (some .boolean)) { frames := 2, cells := 0, slots := 0, locals := 42 } (xP [.ref (h0 + 268), .int (xJ x)] D g T h0 s0) (xQi D g h0 (fun r τ => s0 = τ ∧ (r = 0 ∨ r = 1))) 0 0 (xA h0) := by
  refine x_met hσ (by decide) (Nat.le_of_ble_eq_true rfl) ?_
  intro p e s m args below meth c hx hb hr hml hown hT hlk hnm hE hW ls hl
  have hl : lv_has ls 3 [(0, .ref (h0 + 268)), (1, .int (xJ x))] := hl
  obtain ⟨Q, eQ⟩ : ∃ Q, Q = MQ below (xQi D g h0 (fun r τ => s0 = τ ∧ (r = 0 ∨ r = 1))) args s 0 0 (xA h0) := ⟨_, rfl⟩
  rw [← eQ]
  generalize hHe : ([] : List Loc) = locs at hW ⊢
  obtain ⟨H, eH⟩ : ∃ H, H = s.heap := ⟨_, rfl⟩
  rw [← eH] at hW ⊢
  have k268_8 : s0 268 8 = s0 268 8 := rfl
  have k268_58 : s0 268 58 = s0 268 58 := rfl
  refine x_aload_n hx hb hl 0 rfl dX11_isFree_0 rfl ?_
  refine x_get (j := 3) (v := .ref (h0 + 272)) hx hb hown hT hE hW cls_X11 (Or.inl (by decide)) (so_268 h0 g _) (by decide) rfl wq1188 dX11_isFree_1 ?_
  refine x_iload_n hx hb hl 1 rfl dX11_isFree_4 rfl ?_
  refine x_iald hx hb hE hW (Or.inl (by decide)) (sa_272 h0 g _) (by omega) (by decide) dX11_isFree_5 ?_
  refine x_rd hW (fun x1 ex1 rx1 => ?_)
  refine x_if_eq (tgt := 11) hx hb rx1 dX11_isFree_6 (by decide) (fun c2 => ?_) (fun c2 => ?_)
  · skip
    refine x_iconst hx hb dX11_isFree_11 ?_
    refine lv_istore_n (lv' := [(2, .int (xJ 0)), (0, .ref (h0 + 268)), (1, .int (xJ x))]) hx hb dX11_isFree_12 rfl hl (by decide) rfl (fun ls hl => ?_)
    have L13 : ∀ (fu : Nat) (i2_13 : Int) (H : Heap) (locs : List Loc) (ls : Array Slot), (xR i2_13) → (0 ≤ i2_13) → (i2_13 ≤ 2) → (2 + 1 - i2_13).toNat < fu → xW D g h0 s H locs s0 → lv_has ls 3 [(0, .ref (h0 + 268)), (1, .int (xJ x)), (2, .int (xJ i2_13))] → W p l e { frames := 2, cells := 0, slots := 0, locals := 42 } s m args below meth c H locs 0 0 Q (F0 m 13 ls []) := by
      intro fu
      induction fu with
      | zero => intro i2_13 H locs ls ri2_13 v13_0 v13_1 hm; exact absurd hm (Nat.not_lt_zero _)
      | succ fu ih13 =>
        intro i2_13 H locs ls ri2_13 v13_0 v13_1 hm hW hl
        refine x_iload_n hx hb hl 2 rfl dX11_isFree_13 rfl ?_
        refine x_iconst hx hb dX11_isFree_14 ?_
        refine x_icmp_ge (tgt := 46) hx hb ri2_13 (by decide) dX11_isFree_15 (by decide) (fun c3 => ?_) (fun c3 => ?_)
        · skip
          refine x_iconst hx hb dX11_isFree_46 ?_
          refine lv_istore_n (lv' := [(2, .int (xJ 0)), (0, .ref (h0 + 268)), (1, .int (xJ x))]) hx hb dX11_isFree_47 rfl hl (by decide) rfl (fun ls hl => ?_)
          have L48 : ∀ (fu : Nat) (i2_48 : Int) (H : Heap) (locs : List Loc) (ls : Array Slot), (xR i2_48) → (0 ≤ i2_48) → (i2_48 ≤ 10) → (10 + 1 - i2_48).toNat < fu → xW D g h0 s H locs s0 → lv_has ls 3 [(0, .ref (h0 + 268)), (1, .int (xJ x)), (2, .int (xJ i2_48))] → W p l e { frames := 2, cells := 0, slots := 0, locals := 42 } s m args below meth c H locs 0 0 Q (F0 m 48 ls []) := by
            intro fu
            induction fu with
            | zero => intro i2_48 H locs ls ri2_48 v48_0 v48_1 hm; exact absurd hm (Nat.not_lt_zero _)
            | succ fu ih48 =>
              intro i2_48 H locs ls ri2_48 v48_0 v48_1 hm hW hl
              refine x_iload_n hx hb hl 2 rfl dX11_isFree_48 rfl ?_
              refine x_bipush hx hb dX11_isFree_49 (by decide) ?_
              refine x_icmp_ge (tgt := 82) hx hb ri2_48 (by decide) dX11_isFree_51 (by decide) (fun c4 => ?_) (fun c4 => ?_)
              · skip
                refine x_iconst hx hb dX11_isFree_82 ?_
                refine lv_istore_n (lv' := [(2, .int (xJ 0)), (0, .ref (h0 + 268)), (1, .int (xJ x))]) hx hb dX11_isFree_83 rfl hl (by decide) rfl (fun ls hl => ?_)
                have L84 : ∀ (fu : Nat) (i2_84 : Int) (ls : Array Slot), (xR i2_84) → (0 ≤ i2_84) → (i2_84 ≤ 4) → (4 + 1 - i2_84).toNat < fu → lv_has ls 3 [(0, .ref (h0 + 268)), (1, .int (xJ x)), (2, .int (xJ i2_84))] → W p l e { frames := 2, cells := 0, slots := 0, locals := 42 } s m args below meth c H locs 0 0 Q (F0 m 84 ls []) := by
                  intro fu
                  induction fu with
                  | zero => intro i2_84 ls ri2_84 v84_0 v84_1 hm; exact absurd hm (Nat.not_lt_zero _)
                  | succ fu ih84 =>
                    intro i2_84 ls ri2_84 v84_0 v84_1 hm  hl
                    refine x_iload_n hx hb hl 2 rfl dX11_isFree_84 rfl ?_
                    refine x_iconst hx hb dX11_isFree_85 ?_
                    refine x_icmp_ge (tgt := 107) hx hb ri2_84 (by decide) dX11_isFree_86 (by decide) (fun c5 => ?_) (fun c5 => ?_)
                    · skip
                      refine x_iconst hx hb dX11_isFree_107 ?_
                      rw [eQ]
                      exact x_zret hx hb hr hlk hW (by omega) ⟨rfl, by omega⟩ dX11_isFree_108
                    refine x_aload_n hx hb hl 0 rfl dX11_isFree_89 rfl ?_
                    refine x_get (j := 4) (v := .ref (h0 + 273)) hx hb hown hT hE hW cls_X11 (Or.inl (by decide)) (so_268 h0 g _) (by decide) rfl wq1189 dX11_isFree_90 ?_
                    refine x_iload_n hx hb hl 2 rfl dX11_isFree_93 rfl ?_
                    refine x_iald hx hb hE hW (Or.inl (by decide)) (sa_273 h0 g _) (by omega) (by decide) dX11_isFree_94 ?_
                    refine x_rd hW (fun x6 ex6 rx6 => ?_)
                    have bx6 : -1 ≤ x6 ∧ x6 ≤ 99 := by rw [ex6]; exact IMn.l p0 _ (by omega) (by omega)
                    refine x_iload_n hx hb hl 1 rfl dX11_isFree_95 rfl ?_
                    refine x_icmp_ne (tgt := 101) hx hb rx6 rx dX11_isFree_96 (by decide) (fun c7 => ?_) (fun c7 => ?_)
                    · skip
                      refine x_iinc (lv' := [(2, .int (xJ (i2_84 + 1))), (0, .ref (h0 + 268)), (1, .int (xJ x))]) hx hb hl 2 rfl dX11_isFree_101 (by decide) rfl (fun ls hl => ?_)
                      refine lv_goto (tgt := 84) hx hb dX11_isFree_104 (by decide) ?_
                      exact ih84 (i2_84 + 1) ls (by omega) (by omega) (by omega) (by omega)  (lv_sub hl [1, 2, 0] rfl)
                    refine x_iconst hx hb dX11_isFree_99 ?_
                    rw [eQ]
                    exact x_zret hx hb hr hlk hW (by omega) ⟨rfl, by omega⟩ dX11_isFree_100
                exact L84 ((4 + 1 - 0 : Int).toNat + 1) 0 ls (by decide) (by omega) (by omega) (Nat.lt_succ_self _)  (lv_sub hl [1, 2, 0] rfl)
              refine x_aload_n hx hb hl 0 rfl dX11_isFree_54 rfl ?_
              refine x_iload_n hx hb hl 2 rfl dX11_isFree_55 rfl ?_
              refine x_goi (x_runV (As := [.int (xJ i2_48)]) hx hb hml hown hT hE hW hl.1 (Or.inl (by decide)) (so_268 h0 g _) rfl cf_X11_isFelon wq1423 wq111 wq1421 (c_X11_isFelon l D g T h0 s0 hW.2.1 i2_48 ri2_48 p0 p1 p2) ⟨rfl, rfl, ⟨by decide, by decide⟩, ⟨by decide, by decide⟩⟩ rfl rfl (Nat.le_of_ble_eq_true rfl) dX11_isFree_56) hW (fun x8 s9 H locs rx8 hp10 hW => ?_)
              obtain ⟨es9, hp10⟩ := hp10
              subst es9
              have ghp10 := hp10
              refine x_if_eq (tgt := 76) hx hb rx8 dX11_isFree_59 (by decide) (fun c11 => ?_) (fun c11 => ?_)
              · skip
                refine x_iinc (lv' := [(2, .int (xJ (i2_48 + 1))), (0, .ref (h0 + 268)), (1, .int (xJ x))]) hx hb hl 2 rfl dX11_isFree_76 (by decide) rfl (fun ls hl => ?_)
                refine lv_goto (tgt := 48) hx hb dX11_isFree_79 (by decide) ?_
                exact ih48 (i2_48 + 1) H locs ls (by omega) (by omega) (by omega) (by omega) hW (lv_sub hl [1, 2, 0] rfl)
              refine x_aload_n hx hb hl 0 rfl dX11_isFree_62 rfl ?_
              refine x_get (j := 0) (v := .ref (h0 + 269)) hx hb hown hT hE hW cls_X11 (Or.inl (by decide)) (so_268 h0 g _) (by decide) rfl wq1185 dX11_isFree_63 ?_
              refine x_iconst hx hb dX11_isFree_66 ?_
              refine x_iload_n hx hb hl 2 rfl dX11_isFree_67 rfl ?_
              refine x_iadd hx hb dX11_isFree_68 ?_
              refine x_iald hx hb hE hW (Or.inl (by decide)) (sa_269 h0 g _) (by omega) (by decide) dX11_isFree_69 ?_
              refine x_rd hW (fun x12 ex12 rx12 => ?_)
              have bx12 : 0 ≤ x12 ∧ x12 ≤ 99 := by rw [ex12]; exact (IMn.n1 p0).2.2.1 _ (by omega) (by omega)
              refine x_iload_n hx hb hl 1 rfl dX11_isFree_70 rfl ?_
              refine x_icmp_ne (tgt := 76) hx hb rx12 rx dX11_isFree_71 (by decide) (fun c13 => ?_) (fun c13 => ?_)
              · skip
                refine x_iinc (lv' := [(2, .int (xJ (i2_48 + 1))), (0, .ref (h0 + 268)), (1, .int (xJ x))]) hx hb hl 2 rfl dX11_isFree_76 (by decide) rfl (fun ls hl => ?_)
                refine lv_goto (tgt := 48) hx hb dX11_isFree_79 (by decide) ?_
                exact ih48 (i2_48 + 1) H locs ls (by omega) (by omega) (by omega) (by omega) hW (lv_sub hl [1, 2, 0] rfl)
              refine x_iconst hx hb dX11_isFree_74 ?_
              rw [eQ]
              exact x_zret hx hb hr hlk hW (by omega) ⟨rfl, by omega⟩ dX11_isFree_75
          exact L48 ((10 + 1 - 0 : Int).toNat + 1) 0 H locs ls (by decide) (by omega) (by omega) (Nat.lt_succ_self _) hW (lv_sub hl [1, 2, 0] rfl)
        refine x_aload_n hx hb hl 0 rfl dX11_isFree_18 rfl ?_
        refine x_iload_n hx hb hl 2 rfl dX11_isFree_19 rfl ?_
        refine x_goi (x_runV (As := [.int (xJ i2_13)]) hx hb hml hown hT hE hW hl.1 (Or.inl (by decide)) (so_268 h0 g _) rfl cf_X11_isJudge wq1409 wq109 wq1407 (c_X11_isJudge l D g T h0 s0 hW.2.1 i2_13 ri2_13 p0 p1 p2) ⟨rfl, rfl, ⟨by decide, by decide⟩, ⟨by decide, by decide⟩⟩ rfl rfl (Nat.le_of_ble_eq_true rfl) dX11_isFree_20) hW (fun x14 s15 H locs rx14 hp16 hW => ?_)
        obtain ⟨es15, hp16⟩ := hp16
        subst es15
        have ghp16 := hp16
        refine x_if_eq (tgt := 40) hx hb rx14 dX11_isFree_23 (by decide) (fun c17 => ?_) (fun c17 => ?_)
        · skip
          refine x_iinc (lv' := [(2, .int (xJ (i2_13 + 1))), (0, .ref (h0 + 268)), (1, .int (xJ x))]) hx hb hl 2 rfl dX11_isFree_40 (by decide) rfl (fun ls hl => ?_)
          refine lv_goto (tgt := 13) hx hb dX11_isFree_43 (by decide) ?_
          exact ih13 (i2_13 + 1) H locs ls (by omega) (by omega) (by omega) (by omega) hW (lv_sub hl [1, 2, 0] rfl)
        refine x_aload_n hx hb hl 0 rfl dX11_isFree_26 rfl ?_
        refine x_get (j := 0) (v := .ref (h0 + 269)) hx hb hown hT hE hW cls_X11 (Or.inl (by decide)) (so_268 h0 g _) (by decide) rfl wq1185 dX11_isFree_27 ?_
        refine x_iconst hx hb dX11_isFree_30 ?_
        refine x_iload_n hx hb hl 2 rfl dX11_isFree_31 rfl ?_
        refine x_iadd hx hb dX11_isFree_32 ?_
        refine x_iald hx hb hE hW (Or.inl (by decide)) (sa_269 h0 g _) (by omega) (by decide) dX11_isFree_33 ?_
        refine x_rd hW (fun x18 ex18 rx18 => ?_)
        have bx18 : 0 ≤ x18 ∧ x18 ≤ 99 := by rw [ex18]; exact (IMn.n1 p0).1 _ (by omega) (by omega)
        refine x_iload_n hx hb hl 1 rfl dX11_isFree_34 rfl ?_
        refine x_icmp_ne (tgt := 40) hx hb rx18 rx dX11_isFree_35 (by decide) (fun c19 => ?_) (fun c19 => ?_)
        · skip
          refine x_iinc (lv' := [(2, .int (xJ (i2_13 + 1))), (0, .ref (h0 + 268)), (1, .int (xJ x))]) hx hb hl 2 rfl dX11_isFree_40 (by decide) rfl (fun ls hl => ?_)
          refine lv_goto (tgt := 13) hx hb dX11_isFree_43 (by decide) ?_
          exact ih13 (i2_13 + 1) H locs ls (by omega) (by omega) (by omega) (by omega) hW (lv_sub hl [1, 2, 0] rfl)
        refine x_iconst hx hb dX11_isFree_38 ?_
        rw [eQ]
        exact x_zret hx hb hr hlk hW (by omega) ⟨rfl, by omega⟩ dX11_isFree_39
    exact L13 ((2 + 1 - 0 : Int).toNat + 1) 0 H locs ls (by decide) (by omega) (by omega) (Nat.lt_succ_self _) hW (lv_sub hl [1, 2, 0] rfl)
  refine x_iconst hx hb dX11_isFree_9 ?_
  rw [eQ]
  exact x_zret hx hb hr hlk hW (by omega) ⟨rfl, by omega⟩ dX11_isFree_10
set_option maxHeartbeats 4000000 in
set_option maxRecDepth 100000 in
theorem c_X11_hung (l : Launch) (D : va_G) (g : xG) (T : Nat × Nat × Nat) (h0 : Nat) (s0 : xS) (hσ : xRR s0) (x : Int) (rx : xR x) (p0 : IMn s0) (p1 : IMk s0) (p2 : IMo s0) : Met l yX11_hung (xws yX11_hung cX11_hung 7 (some .int)) { frames := 6, cells := 0, slots := 0, locals := 139 } (xP [.ref (h0 + 268), .int (xJ x)] D g T h0 s0) (xQi D g h0 (fun r τ => xFr (fun k => k = 295) s0 τ ∧ (((IMn τ) ∧ (IMk τ) ∧ (IMo τ) ∧ True) ∧ (True)))) 0 0 (xA h0) := by
  refine x_met hσ (by decide) (Nat.le_of_ble_eq_true rfl) ?_
  intro p e s m args below meth c hx hb hr hml hown hT hlk hnm hE hW ls hl
  have hl : lv_has ls 7 [(0, .ref (h0 + 268)), (1, .int (xJ x))] := hl
  obtain ⟨Q, eQ⟩ : ∃ Q, Q = MQ below (xQi D g h0 (fun r τ => xFr (fun k => k = 295) s0 τ ∧ (((IMn τ) ∧ (IMk τ) ∧ (IMo τ) ∧ True) ∧ (True)))) args s 0 0 (xA h0) := ⟨_, rfl⟩
  rw [← eQ]
  generalize hHe : ([] : List Loc) = locs at hW ⊢
  obtain ⟨H, eH⟩ : ∃ H, H = s.heap := ⟨_, rfl⟩
  rw [← eH] at hW ⊢
  have hF : xFr (fun k => k = 295) s0 s0 := xFr.rf
  have k268_8 : s0 268 8 = s0 268 8 := rfl
  have k268_58 : s0 268 58 = s0 268 58 := rfl
  refine x_iload_n hx hb hl 1 rfl dX11_hung_0 rfl ?_
  refine x_iconst hx hb dX11_hung_1 ?_
  refine x_iconst hx hb dX11_hung_2 ?_
  refine x_goi (x_runS (As := [.int (xJ x), .int (xJ 0), .int (xJ 1)]) hx hb hml hown hT hE hW hl.1 cf_X11_in wq1383 wq1382 (c_X11_in l D g T h0 s0 hW.2.1 x rx 0 (by decide) 1 (by decide)) ⟨rfl, rfl, ⟨by decide, by decide⟩, ⟨by decide, by decide⟩⟩ rfl rfl (Nat.le_of_ble_eq_true rfl) dX11_hung_3) hW (fun x1 s2 H locs rx1 hp3 hW => ?_)
  obtain ⟨es2, hp3⟩ := hp3
  subst es2
  have ghp3 := hp3
  refine x_if_ne (tgt := 11) hx hb rx1 dX11_hung_6 (by decide) (fun c4 => ?_) (fun c4 => ?_)
  · skip
    refine x_bipush hx hb dX11_hung_11 (by decide) ?_
    refine lv_istore_n (lv' := [(2, .int (xJ (-2))), (0, .ref (h0 + 268)), (1, .int (xJ x))]) hx hb dX11_hung_13 rfl hl (by decide) rfl (fun ls hl => ?_)
    refine x_iconst hx hb dX11_hung_14 ?_
    refine lv_istore_n (lv' := [(3, .int (xJ (-1))), (2, .int (xJ (-2))), (0, .ref (h0 + 268)), (1, .int (xJ x))]) hx hb dX11_hung_15 rfl hl (by decide) rfl (fun ls hl => ?_)
    refine x_iconst hx hb dX11_hung_16 ?_
    refine lv_istore (lv' := [(4, .int (xJ 0)), (3, .int (xJ (-1))), (2, .int (xJ (-2))), (0, .ref (h0 + 268)), (1, .int (xJ x))]) hx hb dX11_hung_17 hl (by decide) rfl (fun ls hl => ?_)
    have L19 : ∀ (fu : Nat) (i2_19 : Int) (i3_19 : Int) (i4_19 : Int) (s_19 : xS) (H : Heap) (locs : List Loc) (ls : Array Slot), (xR i2_19) → (xR i3_19) → (xR i4_19) → (xFr (fun k => k = 295) s0 s_19) → (IMn s_19) → (IMk s_19) → (IMo s_19) → (s_19 268 8 = s0 268 8) → (s_19 268 58 = s0 268 58) → (0 ≤ i4_19) → (i4_19 ≤ 100) → (100 + 1 - i4_19).toNat < fu → xW D g h0 s H locs s_19 → lv_has ls 7 [(0, .ref (h0 + 268)), (1, .int (xJ x)), (2, .int (xJ i2_19)), (3, .int (xJ i3_19)), (4, .int (xJ i4_19))] → W p l e { frames := 6, cells := 0, slots := 0, locals := 139 } s m args below meth c H locs 0 0 Q (F0 m 19 ls []) := by
      intro fu
      induction fu with
      | zero => intro i2_19 i3_19 i4_19 s_19 H locs ls ri2_19 ri3_19 ri4_19 hF_19 q19_0 q19_1 q19_2 q19_3 q19_4 v19_0 v19_1 hm; exact absurd hm (Nat.not_lt_zero _)
      | succ fu ih19 =>
        intro i2_19 i3_19 i4_19 s_19 H locs ls ri2_19 ri3_19 ri4_19 hF_19 q19_0 q19_1 q19_2 q19_3 q19_4 v19_0 v19_1 hm hW hl
        refine x_iload hx hb hl 4 rfl dX11_hung_19 ?_
        refine x_bipush hx hb dX11_hung_21 (by decide) ?_
        refine x_icmp_ge (tgt := 138) hx hb ri4_19 (by decide) dX11_hung_23 (by decide) (fun c5 => ?_) (fun c5 => ?_)
        · skip
          refine x_iload_n hx hb hl 1 rfl dX11_hung_138 rfl ?_
          refine x_if_eq (tgt := 148) hx hb rx dX11_hung_139 (by decide) (fun c6 => ?_) (fun c6 => ?_)
          · skip
            refine x_iload_n hx hb hl 2 rfl dX11_hung_148 rfl ?_
            refine lv_goto (tgt := 153) hx hb dX11_hung_149 (by decide) ?_
            rw [eQ]
            exact x_iret hx hb hr hlk hW ri2_19 ⟨hF_19, ⟨q19_0, q19_1, q19_2, trivial⟩, trivial⟩ dX11_hung_153
          refine x_iload_n hx hb hl 2 rfl dX11_hung_142 rfl ?_
          refine x_bipush hx hb dX11_hung_143 (by decide) ?_
          refine x_icmp_ne (tgt := 152) hx hb ri2_19 (by decide) dX11_hung_145 (by decide) (fun c7 => ?_) (fun c7 => ?_)
          · skip
            refine x_iload_n hx hb hl 3 rfl dX11_hung_152 rfl ?_
            rw [eQ]
            exact x_iret hx hb hr hlk hW ri3_19 ⟨hF_19, ⟨q19_0, q19_1, q19_2, trivial⟩, trivial⟩ dX11_hung_153
          refine x_iload_n hx hb hl 2 rfl dX11_hung_148 rfl ?_
          refine lv_goto (tgt := 153) hx hb dX11_hung_149 (by decide) ?_
          rw [eQ]
          exact x_iret hx hb hr hlk hW ri2_19 ⟨hF_19, ⟨q19_0, q19_1, q19_2, trivial⟩, trivial⟩ dX11_hung_153
        refine x_aload_n hx hb hl 0 rfl dX11_hung_26 rfl ?_
        refine x_iload hx hb hl 4 rfl dX11_hung_27 ?_
        refine x_goi (x_runV (As := [.int (xJ i4_19)]) hx hb hml hown hT hE hW hl.1 (Or.inl (by decide)) (so_268 h0 g _) rfl cf_X11_isFree wq1708 wq158 wq1706 (c_X11_isFree l D g T h0 s_19 hW.2.1 i4_19 ri4_19 (by omega) q19_0 q19_1 q19_2) ⟨rfl, rfl, ⟨by decide, by decide⟩, ⟨by decide, by decide⟩⟩ rfl rfl (Nat.le_of_ble_eq_true rfl) dX11_hung_29) hW (fun x8 s9 H locs rx8 hp10 hW => ?_)
        obtain ⟨es9, hp10⟩ := hp10
        subst es9
        have ghp10 := hp10
        refine x_if_ne (tgt := 38) hx hb rx8 dX11_hung_32 (by decide) (fun c11 => ?_) (fun c11 => ?_)
        · skip
          refine x_aload_n hx hb hl 0 rfl dX11_hung_38 rfl ?_
          refine x_gov (x_runV (As := []) hx hb hml hown hT hE hW hl.1 (Or.inl (by decide)) (so_268 h0 g _) rfl cf_X11_bares wq1592 wq140 wq1590 (c_X11_bares l D g T h0 s_19 hW.2.1 q19_0 q19_1 q19_2) ⟨rfl, rfl, ⟨by decide, by decide⟩, ⟨by decide, by decide⟩⟩ rfl rfl (Nat.le_of_ble_eq_true rfl) dX11_hung_39) hW (fun s13 H locs hp14 hW => ?_)
          obtain ⟨fs13, hp14⟩ := hp14
          have hF15 := hF_19.call fs13 (fun k h => by omega)
          have q16 : s13 268 8 = s0 268 8 := (congrFun (fs13 _ (by omega)) _).trans q19_3
          have q17 : s13 268 58 = s0 268 58 := (congrFun (fs13 _ (by omega)) _).trans q19_4
          have ghp14 := hp14.2
          refine x_aload_n hx hb hl 0 rfl dX11_hung_42 rfl ?_
          refine x_gov (x_runV (As := []) hx hb hml hown hT hE hW hl.1 (Or.inl (by decide)) (so_268 h0 g _) rfl cf_X11_fallsByLamps wq1608 wq144 wq1606 (c_X11_fallsByLamps l D g T h0 s13 hW.2.1 hp14.1.1 hp14.1.2.1 hp14.1.2.2.1) ⟨rfl, rfl, ⟨by decide, by decide⟩, ⟨by decide, by decide⟩⟩ rfl rfl (Nat.le_of_ble_eq_true rfl) dX11_hung_43) hW (fun s19 H locs hp20 hW => ?_)
          obtain ⟨fs19, hp20⟩ := hp20
          have hF21 := hF15.call fs19 (fun k h => by omega)
          have q22 : s19 268 8 = s0 268 8 := (congrFun (fs19 _ (by omega)) _).trans q16
          have q23 : s19 268 58 = s0 268 58 := (congrFun (fs19 _ (by omega)) _).trans q17
          have ghp20 := hp20.2
          refine x_iconst hx hb dX11_hung_46 ?_
          refine lv_istore (lv' := [(5, .int (xJ 0)), (0, .ref (h0 + 268)), (1, .int (xJ x)), (2, .int (xJ i2_19)), (3, .int (xJ i3_19)), (4, .int (xJ i4_19))]) hx hb dX11_hung_47 hl (by decide) rfl (fun ls hl => ?_)
          have L49 : ∀ (fu : Nat) (i5_49 : Int) (s_49 : xS) (H : Heap) (locs : List Loc) (ls : Array Slot), (xR i5_49) → (xFr (fun k => k = 295) s0 s_49) → (s_49 268 8 = s0 268 8) → (s_49 268 58 = s0 268 58) → (IMn s_49) → (IMk s_49) → (IMo s_49) → (0 ≤ i5_49) → (i5_49 ≤ 2) → (2 + 1 - i5_49).toNat < fu → xW D g h0 s H locs s_49 → lv_has ls 7 [(0, .ref (h0 + 268)), (1, .int (xJ x)), (2, .int (xJ i2_19)), (3, .int (xJ i3_19)), (4, .int (xJ i4_19)), (5, .int (xJ i5_49))] → W p l e { frames := 6, cells := 0, slots := 0, locals := 139 } s m args below meth c H locs 0 0 Q (F0 m 49 ls []) := by
            intro fu
            induction fu with
            | zero => intro i5_49 s_49 H locs ls ri5_49 hF_49 q49_0 q49_1 q49_2 q49_3 q49_4 v49_0 v49_1 hm; exact absurd hm (Nat.not_lt_zero _)
            | succ fu ih49 =>
              intro i5_49 s_49 H locs ls ri5_49 hF_49 q49_0 q49_1 q49_2 q49_3 q49_4 v49_0 v49_1 hm hW hl
              refine x_iload hx hb hl 5 rfl dX11_hung_49 ?_
              refine x_iconst hx hb dX11_hung_51 ?_
              refine x_icmp_ge (tgt := 78) hx hb ri5_49 (by decide) dX11_hung_52 (by decide) (fun c24 => ?_) (fun c24 => ?_)
              · skip
                refine x_iconst hx hb dX11_hung_78 ?_
                refine lv_istore (lv' := [(5, .int (xJ 0)), (0, .ref (h0 + 268)), (1, .int (xJ x)), (2, .int (xJ i2_19)), (3, .int (xJ i3_19)), (4, .int (xJ i4_19))]) hx hb dX11_hung_79 hl (by decide) rfl (fun ls hl => ?_)
                refine x_iconst hx hb dX11_hung_81 ?_
                refine lv_istore (lv' := [(6, .int (xJ 0)), (5, .int (xJ 0)), (0, .ref (h0 + 268)), (1, .int (xJ x)), (2, .int (xJ i2_19)), (3, .int (xJ i3_19)), (4, .int (xJ i4_19))]) hx hb dX11_hung_82 hl (by decide) rfl (fun ls hl => ?_)
                have L84 : ∀ (fu : Nat) (i5_84 : Int) (i6_84 : Int) (ls : Array Slot), (xR i5_84) → (xR i6_84) → (0 ≤ i6_84) → (i6_84 ≤ 100) → (0 ≤ i5_84 ∧ i5_84 ≤ i6_84) → (100 + 1 - i6_84).toNat < fu → lv_has ls 7 [(0, .ref (h0 + 268)), (1, .int (xJ x)), (2, .int (xJ i2_19)), (3, .int (xJ i3_19)), (4, .int (xJ i4_19)), (5, .int (xJ i5_84)), (6, .int (xJ i6_84))] → W p l e { frames := 6, cells := 0, slots := 0, locals := 139 } s m args below meth c H locs 0 0 Q (F0 m 84 ls []) := by
                  intro fu
                  induction fu with
                  | zero => intro i5_84 i6_84 ls ri5_84 ri6_84 v84_0 v84_1 v84_2 hm; exact absurd hm (Nat.not_lt_zero _)
                  | succ fu ih84 =>
                    intro i5_84 i6_84 ls ri5_84 ri6_84 v84_0 v84_1 v84_2 hm  hl
                    refine x_iload hx hb hl 6 rfl dX11_hung_84 ?_
                    refine x_bipush hx hb dX11_hung_86 (by decide) ?_
                    refine x_icmp_ge (tgt := 117) hx hb ri6_84 (by decide) dX11_hung_88 (by decide) (fun c25 => ?_) (fun c25 => ?_)
                    · skip
                      refine x_iload hx hb hl 5 rfl dX11_hung_117 ?_
                      refine x_iload_n hx hb hl 3 rfl dX11_hung_119 rfl ?_
                      refine x_icmp_gt (tgt := 126) hx hb ri5_84 ri3_19 dX11_hung_120 (by decide) (fun c26 => ?_) (fun c26 => ?_)
                      · skip
                        refine x_iload hx hb hl 5 rfl dX11_hung_126 ?_
                        refine lv_istore_n (lv' := [(3, .int (xJ i5_84)), (0, .ref (h0 + 268)), (1, .int (xJ x)), (2, .int (xJ i2_19)), (4, .int (xJ i4_19)), (5, .int (xJ i5_84)), (6, .int (xJ i6_84))]) hx hb dX11_hung_128 rfl hl (by decide) rfl (fun ls hl => ?_)
                        refine x_iload hx hb hl 4 rfl dX11_hung_129 ?_
                        refine lv_istore_n (lv' := [(2, .int (xJ i4_19)), (3, .int (xJ i5_84)), (0, .ref (h0 + 268)), (1, .int (xJ x)), (4, .int (xJ i4_19)), (5, .int (xJ i5_84)), (6, .int (xJ i6_84))]) hx hb dX11_hung_131 rfl hl (by decide) rfl (fun ls hl => ?_)
                        refine x_iinc (lv' := [(4, .int (xJ (i4_19 + 1))), (2, .int (xJ i4_19)), (3, .int (xJ i5_84)), (0, .ref (h0 + 268)), (1, .int (xJ x)), (5, .int (xJ i5_84)), (6, .int (xJ i6_84))]) hx hb hl 4 rfl dX11_hung_132 (by decide) rfl (fun ls hl => ?_)
                        refine lv_goto (tgt := 19) hx hb dX11_hung_135 (by decide) ?_
                        exact ih19 i4_19 i5_84 (i4_19 + 1) s_49 H locs ls ri4_19 ri5_84 (by omega) hF_49 q49_2 q49_3 q49_4 q49_0 q49_1 (by omega) (by omega) (by omega) hW (lv_sub hl [3, 4, 1, 2, 0] rfl)
                      refine lv_goto (tgt := 132) hx hb dX11_hung_123 (by decide) ?_
                      refine x_iinc (lv' := [(4, .int (xJ (i4_19 + 1))), (0, .ref (h0 + 268)), (1, .int (xJ x)), (2, .int (xJ i2_19)), (3, .int (xJ i3_19)), (5, .int (xJ i5_84)), (6, .int (xJ i6_84))]) hx hb hl 4 rfl dX11_hung_132 (by decide) rfl (fun ls hl => ?_)
                      refine lv_goto (tgt := 19) hx hb dX11_hung_135 (by decide) ?_
                      exact ih19 i2_19 i3_19 (i4_19 + 1) s_49 H locs ls ri2_19 ri3_19 (by omega) hF_49 q49_2 q49_3 q49_4 q49_0 q49_1 (by omega) (by omega) (by omega) hW (lv_sub hl [1, 2, 3, 4, 0] rfl)
                    refine x_iload hx hb hl 5 rfl dX11_hung_91 ?_
                    refine x_aload_n hx hb hl 0 rfl dX11_hung_93 rfl ?_
                    refine x_get (j := 40) (v := .ref (h0 + 295)) hx hb hown hT hE hW cls_X11 (Or.inl (by decide)) (so_268 h0 g _) (by decide) rfl wq1225 dX11_hung_94 ?_
                    refine x_iload hx hb hl 6 rfl dX11_hung_97 ?_
                    refine x_iald hx hb hE hW (Or.inl (by decide)) (sa_295 h0 g _) (by omega) (by decide) dX11_hung_99 ?_
                    refine x_rd hW (fun x27 ex27 rx27 => ?_)
                    refine x_if_le (tgt := 107) hx hb rx27 dX11_hung_100 (by decide) (fun c28 => ?_) (fun c28 => ?_)
                    · skip
                      refine x_iconst hx hb dX11_hung_107 ?_
                      refine x_iadd hx hb dX11_hung_108 ?_
                      refine x_nm (fun x29 ex29 => ?_)
                      refine lv_istore (lv' := [(5, .int (xJ x29)), (0, .ref (h0 + 268)), (1, .int (xJ x)), (2, .int (xJ i2_19)), (3, .int (xJ i3_19)), (4, .int (xJ i4_19)), (6, .int (xJ i6_84))]) hx hb dX11_hung_109 hl (by decide) rfl (fun ls hl => ?_)
                      refine x_iinc (lv' := [(6, .int (xJ (i6_84 + 1))), (5, .int (xJ x29)), (0, .ref (h0 + 268)), (1, .int (xJ x)), (2, .int (xJ i2_19)), (3, .int (xJ i3_19)), (4, .int (xJ i4_19))]) hx hb hl 6 rfl dX11_hung_111 (by decide) rfl (fun ls hl => ?_)
                      refine lv_goto (tgt := 84) hx hb dX11_hung_114 (by decide) ?_
                      exact ih84 x29 (i6_84 + 1) ls (by omega) (by omega) (by omega) (by omega) (by omega) (by omega)  (lv_sub hl [2, 3, 4, 5, 6, 1, 0] rfl)
                    refine x_iconst hx hb dX11_hung_103 ?_
                    refine lv_goto (tgt := 108) hx hb dX11_hung_104 (by decide) ?_
                    refine x_iadd hx hb dX11_hung_108 ?_
                    refine x_nm (fun x30 ex30 => ?_)
                    refine lv_istore (lv' := [(5, .int (xJ x30)), (0, .ref (h0 + 268)), (1, .int (xJ x)), (2, .int (xJ i2_19)), (3, .int (xJ i3_19)), (4, .int (xJ i4_19)), (6, .int (xJ i6_84))]) hx hb dX11_hung_109 hl (by decide) rfl (fun ls hl => ?_)
                    refine x_iinc (lv' := [(6, .int (xJ (i6_84 + 1))), (5, .int (xJ x30)), (0, .ref (h0 + 268)), (1, .int (xJ x)), (2, .int (xJ i2_19)), (3, .int (xJ i3_19)), (4, .int (xJ i4_19))]) hx hb hl 6 rfl dX11_hung_111 (by decide) rfl (fun ls hl => ?_)
                    refine lv_goto (tgt := 84) hx hb dX11_hung_114 (by decide) ?_
                    exact ih84 x30 (i6_84 + 1) ls (by omega) (by omega) (by omega) (by omega) (by omega) (by omega)  (lv_sub hl [2, 3, 4, 5, 6, 1, 0] rfl)
                exact L84 ((100 + 1 - 0 : Int).toNat + 1) 0 0 ls (by decide) (by decide) (by omega) (by omega) (by omega) (Nat.lt_succ_self _)  (lv_sub hl [2, 3, 4, 5, 6, 1, 0] rfl)
              refine x_aload_n hx hb hl 0 rfl dX11_hung_55 rfl ?_
              refine x_iload hx hb hl 5 rfl dX11_hung_56 ?_
              refine x_goi (x_runV (As := [.int (xJ i5_49)]) hx hb hml hown hT hE hW hl.1 (Or.inl (by decide)) (so_268 h0 g _) rfl cf_X11_isJudge wq1409 wq109 wq1407 (c_X11_isJudge l D g T h0 s_49 hW.2.1 i5_49 ri5_49 q49_2 q49_3 q49_4) ⟨rfl, rfl, ⟨by decide, by decide⟩, ⟨by decide, by decide⟩⟩ rfl rfl (Nat.le_of_ble_eq_true rfl) dX11_hung_58) hW (fun x31 s32 H locs rx31 hp33 hW => ?_)
              obtain ⟨es32, hp33⟩ := hp33
              subst es32
              have ghp33 := hp33
              refine x_if_eq (tgt := 72) hx hb rx31 dX11_hung_61 (by decide) (fun c34 => ?_) (fun c34 => ?_)
              · skip
                refine x_iinc (lv' := [(5, .int (xJ (i5_49 + 1))), (0, .ref (h0 + 268)), (1, .int (xJ x)), (2, .int (xJ i2_19)), (3, .int (xJ i3_19)), (4, .int (xJ i4_19))]) hx hb hl 5 rfl dX11_hung_72 (by decide) rfl (fun ls hl => ?_)
                refine lv_goto (tgt := 49) hx hb dX11_hung_75 (by decide) ?_
                exact ih49 (i5_49 + 1) s_49 H locs ls (by omega) hF_49 q49_0 q49_1 q49_2 q49_3 q49_4 (by omega) (by omega) (by omega) hW (lv_sub hl [1, 2, 3, 4, 5, 0] rfl)
              refine x_aload_n hx hb hl 0 rfl dX11_hung_64 rfl ?_
              refine x_iload hx hb hl 4 rfl dX11_hung_65 ?_
              refine x_iload hx hb hl 5 rfl dX11_hung_67 ?_
              refine x_gov (x_runV (As := [.int (xJ i4_19), .int (xJ i5_49)]) hx hb hml hown hT hE hW hl.1 (Or.inl (by decide)) (so_268 h0 g _) rfl cf_X11_fallsBehind wq1612 wq145 wq1610 (c_X11_fallsBehind l D g T h0 s_49 hW.2.1 i4_19 ri4_19 i5_49 ri5_49 (by omega) (by omega) q49_2 q49_3 q49_4) ⟨rfl, rfl, ⟨by decide, by decide⟩, ⟨by decide, by decide⟩⟩ rfl rfl (Nat.le_of_ble_eq_true rfl) dX11_hung_69) hW (fun s36 H locs hp37 hW => ?_)
              obtain ⟨fs36, hp37⟩ := hp37
              have hF38 := hF_49.call fs36 (fun k h => by omega)
              have q39 : s36 268 8 = s0 268 8 := (congrFun (fs36 _ (by omega)) _).trans q49_0
              have q40 : s36 268 58 = s0 268 58 := (congrFun (fs36 _ (by omega)) _).trans q49_1
              have ghp37 := hp37.2
              refine x_iinc (lv' := [(5, .int (xJ (i5_49 + 1))), (0, .ref (h0 + 268)), (1, .int (xJ x)), (2, .int (xJ i2_19)), (3, .int (xJ i3_19)), (4, .int (xJ i4_19))]) hx hb hl 5 rfl dX11_hung_72 (by decide) rfl (fun ls hl => ?_)
              refine lv_goto (tgt := 49) hx hb dX11_hung_75 (by decide) ?_
              exact ih49 (i5_49 + 1) s36 H locs ls (by omega) hF38 q39 q40 hp37.1.1 hp37.1.2.1 hp37.1.2.2.1 (by omega) (by omega) (by omega) hW (lv_sub hl [1, 2, 3, 4, 5, 0] rfl)
          exact L49 ((2 + 1 - 0 : Int).toNat + 1) 0 s19 H locs ls (by decide) hF21 q22 q23 hp20.1.1 hp20.1.2.1 hp20.1.2.2.1 (by omega) (by omega) (Nat.lt_succ_self _) hW (lv_sub hl [1, 2, 3, 4, 5, 0] rfl)
        refine lv_goto (tgt := 132) hx hb dX11_hung_35 (by decide) ?_
        refine x_iinc (lv' := [(4, .int (xJ (i4_19 + 1))), (0, .ref (h0 + 268)), (1, .int (xJ x)), (2, .int (xJ i2_19)), (3, .int (xJ i3_19))]) hx hb hl 4 rfl dX11_hung_132 (by decide) rfl (fun ls hl => ?_)
        refine lv_goto (tgt := 19) hx hb dX11_hung_135 (by decide) ?_
        exact ih19 i2_19 i3_19 (i4_19 + 1) s_19 H locs ls ri2_19 ri3_19 (by omega) hF_19 q19_0 q19_1 q19_2 q19_3 q19_4 (by omega) (by omega) (by omega) hW (lv_sub hl [1, 2, 3, 4, 0] rfl)
    exact L19 ((100 + 1 - 0 : Int).toNat + 1) (-2) (-1) 0 s0 H locs ls (by decide) (by decide) (by decide) hF p0 p1 p2 k268_8 k268_58 (by omega) (by omega) (Nat.lt_succ_self _) hW (lv_sub hl [3, 4, 2, 1, 0] rfl)
  refine x_iconst hx hb dX11_hung_9 ?_
  rw [eQ]
  exact x_iret hx hb hr hlk hW (by decide) ⟨hF, ⟨p0, p1, p2, trivial⟩, trivial⟩ dX11_hung_10

theorem cf_X11_areSpots : xCF yX11_areSpots cX11_areSpots 3 (some .boolean) 1 := ⟨xq 1733 (by decide +kernel) rfl, xq 179 (by decide +kernel) rfl, by decide +kernel⟩
theorem cf_X11_binds : xCF yX11_binds cX11_binds 7 none 3 := ⟨xq 1749 (by decide +kernel) rfl, xq 179 (by decide +kernel) rfl, by decide +kernel⟩
theorem cf_X11_failsAt : xCF yX11_failsAt cX11_failsAt 3 (some .int) 1 := ⟨xq 1737 (by decide +kernel) rfl, xq 179 (by decide +kernel) rfl, by decide +kernel⟩
theorem cf_X11_tapeNumber : xCF yX11_tapeNumber cX11_tapeNumber 4 (some .int) 1 := ⟨xq 1777 (by decide +kernel) rfl, xq 179 (by decide +kernel) rfl, by decide +kernel⟩
theorem wq161 : Cond.selects yX11_areSpots.cls yX11_areSpots yX11_areSpots ∈ xTB := xq 161 (by decide +kernel) rfl
theorem wq162 : Cond.selects yX11_failsAt.cls yX11_failsAt yX11_failsAt ∈ xTB := xq 162 (by decide +kernel) rfl
theorem wq163 : Cond.selects yX11_binds.cls yX11_binds yX11_binds ∈ xTB := xq 163 (by decide +kernel) rfl
theorem wq164 : Cond.selects yX11_tapeNumber.cls yX11_tapeNumber yX11_tapeNumber ∈ xTB := xq 164 (by decide +kernel) rfl
theorem wq1241 : Cond.fieldLink "ShadowCourtModel" (123) "ShadowCourtModel" "groupOf" "[I" ∈ xTB := xq 1241 (by decide +kernel) rfl
theorem wq1242 : Cond.fieldLink "ShadowCourtModel" (126) "ShadowCourtModel" "longOf" "[I" ∈ xTB := xq 1242 (by decide +kernel) rfl
theorem wq1730 : Cond.methodLink "ShadowCourtModel" (443) yX11_areSpots ∈ xTB := xq 1730 (by decide +kernel) rfl
theorem wq1732 : Cond.instanceMethod yX11_areSpots ∈ xTB := xq 1732 (by decide +kernel) rfl
theorem wq1734 : Cond.methodLink "ShadowCourtModel" (446) yX11_failsAt ∈ xTB := xq 1734 (by decide +kernel) rfl
theorem wq1736 : Cond.instanceMethod yX11_failsAt ∈ xTB := xq 1736 (by decide +kernel) rfl
theorem wq1746 : Cond.methodLink "ShadowCourtModel" (449) yX11_binds ∈ xTB := xq 1746 (by decide +kernel) rfl
theorem wq1748 : Cond.instanceMethod yX11_binds ∈ xTB := xq 1748 (by decide +kernel) rfl
theorem wq1774 : Cond.methodLink "ShadowCourtModel" (457) yX11_tapeNumber ∈ xTB := xq 1774 (by decide +kernel) rfl
theorem wq1776 : Cond.instanceMethod yX11_tapeNumber ∈ xTB := xq 1776 (by decide +kernel) rfl
theorem dX11_areSpots_0 : decode cX11_areSpots 0 = .ok (.iconst 0, 1) := by decide +kernel
theorem dX11_areSpots_1 : decode cX11_areSpots 1 = .ok (.istore_n 2, 1) := by decide +kernel
theorem dX11_areSpots_2 : decode cX11_areSpots 2 = .ok (.iload_n 2, 1) := by decide +kernel
theorem dX11_areSpots_3 : decode cX11_areSpots 3 = .ok (.iload_n 1, 1) := by decide +kernel
theorem dX11_areSpots_4 : decode cX11_areSpots 4 = .ok (.if_icmp .ge 39, 3) := by decide +kernel
theorem dX11_areSpots_7 : decode cX11_areSpots 7 = .ok (.aload_n 0, 1) := by decide +kernel
theorem dX11_areSpots_8 : decode cX11_areSpots 8 = .ok (.getfield 32, 3) := by decide +kernel
theorem dX11_areSpots_11 : decode cX11_areSpots 11 = .ok (.iload_n 2, 1) := by decide +kernel
theorem dX11_areSpots_12 : decode cX11_areSpots 12 = .ok (.baload, 1) := by decide +kernel
theorem dX11_areSpots_13 : decode cX11_areSpots 13 = .ok (.iconst 0, 1) := by decide +kernel
theorem dX11_areSpots_14 : decode cX11_areSpots 14 = .ok (.bipush 99, 2) := by decide +kernel
theorem dX11_areSpots_16 : decode cX11_areSpots 16 = .ok (.invokestatic 150, 3) := by decide +kernel
theorem dX11_areSpots_19 : decode cX11_areSpots 19 = .ok (.ifCond .eq 16, 3) := by decide +kernel
theorem dX11_areSpots_22 : decode cX11_areSpots 22 = .ok (.aload_n 0, 1) := by decide +kernel
theorem dX11_areSpots_23 : decode cX11_areSpots 23 = .ok (.aload_n 0, 1) := by decide +kernel
theorem dX11_areSpots_24 : decode cX11_areSpots 24 = .ok (.getfield 32, 3) := by decide +kernel
theorem dX11_areSpots_27 : decode cX11_areSpots 27 = .ok (.iload_n 2, 1) := by decide +kernel
theorem dX11_areSpots_28 : decode cX11_areSpots 28 = .ok (.baload, 1) := by decide +kernel
theorem dX11_areSpots_29 : decode cX11_areSpots 29 = .ok (.invokevirtual 263, 3) := by decide +kernel
theorem dX11_areSpots_32 : decode cX11_areSpots 32 = .ok (.ifCond .ne 5, 3) := by decide +kernel
theorem dX11_areSpots_35 : decode cX11_areSpots 35 = .ok (.iconst 0, 1) := by decide +kernel
theorem dX11_areSpots_36 : decode cX11_areSpots 36 = .ok (.ireturn, 1) := by decide +kernel
theorem dX11_areSpots_37 : decode cX11_areSpots 37 = .ok (.iinc 2 1, 3) := by decide +kernel
theorem dX11_areSpots_40 : decode cX11_areSpots 40 = .ok (.goto (-38), 3) := by decide +kernel
theorem dX11_areSpots_43 : decode cX11_areSpots 43 = .ok (.iconst 1, 1) := by decide +kernel
theorem dX11_areSpots_44 : decode cX11_areSpots 44 = .ok (.ireturn, 1) := by decide +kernel
theorem dX11_binds_0 : decode cX11_binds 0 = .ok (.aload_n 0, 1) := by decide +kernel
theorem dX11_binds_1 : decode cX11_binds 1 = .ok (.getfield 123, 3) := by decide +kernel
theorem dX11_binds_4 : decode cX11_binds 4 = .ok (.iload_n 1, 1) := by decide +kernel
theorem dX11_binds_5 : decode cX11_binds 5 = .ok (.iaload, 1) := by decide +kernel
theorem dX11_binds_6 : decode cX11_binds 6 = .ok (.aload_n 0, 1) := by decide +kernel
theorem dX11_binds_7 : decode cX11_binds 7 = .ok (.getfield 123, 3) := by decide +kernel
theorem dX11_binds_10 : decode cX11_binds 10 = .ok (.iload_n 2, 1) := by decide +kernel
theorem dX11_binds_11 : decode cX11_binds 11 = .ok (.iaload, 1) := by decide +kernel
theorem dX11_binds_12 : decode cX11_binds 12 = .ok (.invokestatic 362, 3) := by decide +kernel
theorem dX11_binds_15 : decode cX11_binds 15 = .ok (.istore 4, 2) := by decide +kernel
theorem dX11_binds_17 : decode cX11_binds 17 = .ok (.aload_n 0, 1) := by decide +kernel
theorem dX11_binds_18 : decode cX11_binds 18 = .ok (.getfield 123, 3) := by decide +kernel
theorem dX11_binds_21 : decode cX11_binds 21 = .ok (.iload_n 1, 1) := by decide +kernel
theorem dX11_binds_22 : decode cX11_binds 22 = .ok (.iaload, 1) := by decide +kernel
theorem dX11_binds_23 : decode cX11_binds 23 = .ok (.aload_n 0, 1) := by decide +kernel
theorem dX11_binds_24 : decode cX11_binds 24 = .ok (.getfield 123, 3) := by decide +kernel
theorem dX11_binds_27 : decode cX11_binds 27 = .ok (.iload_n 2, 1) := by decide +kernel
theorem dX11_binds_28 : decode cX11_binds 28 = .ok (.iaload, 1) := by decide +kernel
theorem dX11_binds_29 : decode cX11_binds 29 = .ok (.invokestatic 416, 3) := by decide +kernel
theorem dX11_binds_32 : decode cX11_binds 32 = .ok (.istore 5, 2) := by decide +kernel
theorem dX11_binds_34 : decode cX11_binds 34 = .ok (.iconst 0, 1) := by decide +kernel
theorem dX11_binds_35 : decode cX11_binds 35 = .ok (.istore 6, 2) := by decide +kernel
theorem dX11_binds_37 : decode cX11_binds 37 = .ok (.iload 6, 2) := by decide +kernel
theorem dX11_binds_39 : decode cX11_binds 39 = .ok (.iload_n 3, 1) := by decide +kernel
theorem dX11_binds_40 : decode cX11_binds 40 = .ok (.if_icmp .ge 30, 3) := by decide +kernel
theorem dX11_binds_43 : decode cX11_binds 43 = .ok (.aload_n 0, 1) := by decide +kernel
theorem dX11_binds_44 : decode cX11_binds 44 = .ok (.getfield 123, 3) := by decide +kernel
theorem dX11_binds_47 : decode cX11_binds 47 = .ok (.iload 6, 2) := by decide +kernel
theorem dX11_binds_49 : decode cX11_binds 49 = .ok (.iaload, 1) := by decide +kernel
theorem dX11_binds_50 : decode cX11_binds 50 = .ok (.iload 5, 2) := by decide +kernel
theorem dX11_binds_52 : decode cX11_binds 52 = .ok (.if_icmp .ne 12, 3) := by decide +kernel
theorem dX11_binds_55 : decode cX11_binds 55 = .ok (.aload_n 0, 1) := by decide +kernel
theorem dX11_binds_56 : decode cX11_binds 56 = .ok (.getfield 123, 3) := by decide +kernel
theorem dX11_binds_59 : decode cX11_binds 59 = .ok (.iload 6, 2) := by decide +kernel
theorem dX11_binds_61 : decode cX11_binds 61 = .ok (.iload 4, 2) := by decide +kernel
theorem dX11_binds_63 : decode cX11_binds 63 = .ok (.iastore, 1) := by decide +kernel
theorem dX11_binds_64 : decode cX11_binds 64 = .ok (.iinc 6 1, 3) := by decide +kernel
theorem dX11_binds_67 : decode cX11_binds 67 = .ok (.goto (-30), 3) := by decide +kernel
theorem dX11_binds_70 : decode cX11_binds 70 = .ok (.return_, 1) := by decide +kernel
theorem dX11_check_0 : decode cX11_check 0 = .ok (.iload_n 1, 1) := by decide +kernel
theorem dX11_check_1 : decode cX11_check 1 = .ok (.iconst 0, 1) := by decide +kernel
theorem dX11_check_2 : decode cX11_check 2 = .ok (.bipush 10, 2) := by decide +kernel
theorem dX11_check_4 : decode cX11_check 4 = .ok (.invokestatic 150, 3) := by decide +kernel
theorem dX11_check_7 : decode cX11_check 7 = .ok (.ifCond .eq 13, 3) := by decide +kernel
theorem dX11_check_10 : decode cX11_check 10 = .ok (.iload_n 1, 1) := by decide +kernel
theorem dX11_check_11 : decode cX11_check 11 = .ok (.aload_n 0, 1) := by decide +kernel
theorem dX11_check_12 : decode cX11_check 12 = .ok (.getfield 164, 3) := by decide +kernel
theorem dX11_check_15 : decode cX11_check 15 = .ok (.iconst 4, 1) := by decide +kernel
theorem dX11_check_16 : decode cX11_check 16 = .ok (.idiv, 1) := by decide +kernel
theorem dX11_check_17 : decode cX11_check 17 = .ok (.if_icmp .le 6, 3) := by decide +kernel
theorem dX11_check_20 : decode cX11_check 20 = .ok (.bipush (-2), 2) := by decide +kernel
theorem dX11_check_22 : decode cX11_check 22 = .ok (.ireturn, 1) := by decide +kernel
theorem dX11_check_23 : decode cX11_check 23 = .ok (.aload_n 0, 1) := by decide +kernel
theorem dX11_check_24 : decode cX11_check 24 = .ok (.iconst 0, 1) := by decide +kernel
theorem dX11_check_25 : decode cX11_check 25 = .ok (.putfield 164, 3) := by decide +kernel
theorem dX11_check_28 : decode cX11_check 28 = .ok (.iconst 0, 1) := by decide +kernel
theorem dX11_check_29 : decode cX11_check 29 = .ok (.istore_n 2, 1) := by decide +kernel
theorem dX11_check_30 : decode cX11_check 30 = .ok (.iload_n 2, 1) := by decide +kernel
theorem dX11_check_31 : decode cX11_check 31 = .ok (.iload_n 1, 1) := by decide +kernel
theorem dX11_check_32 : decode cX11_check 32 = .ok (.if_icmp .ge 40, 3) := by decide +kernel
theorem dX11_check_35 : decode cX11_check 35 = .ok (.aload_n 0, 1) := by decide +kernel
theorem dX11_check_36 : decode cX11_check 36 = .ok (.iload_n 2, 1) := by decide +kernel
theorem dX11_check_37 : decode cX11_check 37 = .ok (.invokevirtual 457, 3) := by decide +kernel
theorem dX11_check_40 : decode cX11_check 40 = .ok (.aload_n 0, 1) := by decide +kernel
theorem dX11_check_41 : decode cX11_check 41 = .ok (.iload_n 2, 1) := by decide +kernel
theorem dX11_check_42 : decode cX11_check 42 = .ok (.invokevirtual 146, 3) := by decide +kernel
theorem dX11_check_45 : decode cX11_check 45 = .ok (.ifCond .eq 15, 3) := by decide +kernel
theorem dX11_check_48 : decode cX11_check 48 = .ok (.aload_n 0, 1) := by decide +kernel
theorem dX11_check_49 : decode cX11_check 49 = .ok (.getfield 7, 3) := by decide +kernel
theorem dX11_check_52 : decode cX11_check 52 = .ok (.bipush 14, 2) := by decide +kernel
theorem dX11_check_54 : decode cX11_check 54 = .ok (.iload_n 2, 1) := by decide +kernel
theorem dX11_check_55 : decode cX11_check 55 = .ok (.iadd, 1) := by decide +kernel
theorem dX11_check_56 : decode cX11_check 56 = .ok (.iaload, 1) := by decide +kernel
theorem dX11_check_57 : decode cX11_check 57 = .ok (.goto 4, 3) := by decide +kernel
theorem dX11_check_60 : decode cX11_check 60 = .ok (.iconst 0, 1) := by decide +kernel
theorem dX11_check_61 : decode cX11_check 61 = .ok (.if_icmp .eq 5, 3) := by decide +kernel
theorem dX11_check_64 : decode cX11_check 64 = .ok (.iload_n 2, 1) := by decide +kernel
theorem dX11_check_65 : decode cX11_check 65 = .ok (.ireturn, 1) := by decide +kernel
theorem dX11_check_66 : decode cX11_check 66 = .ok (.iinc 2 1, 3) := by decide +kernel
theorem dX11_check_69 : decode cX11_check 69 = .ok (.goto (-39), 3) := by decide +kernel
theorem dX11_check_72 : decode cX11_check 72 = .ok (.iconst (-1), 1) := by decide +kernel
theorem dX11_check_73 : decode cX11_check 73 = .ok (.ireturn, 1) := by decide +kernel
theorem dX11_cloudy_0 : decode cX11_cloudy 0 = .ok (.iload_n 1, 1) := by decide +kernel
theorem dX11_cloudy_1 : decode cX11_cloudy 1 = .ok (.iconst 1, 1) := by decide +kernel
theorem dX11_cloudy_2 : decode cX11_cloudy 2 = .ok (.bipush 10, 2) := by decide +kernel
theorem dX11_cloudy_4 : decode cX11_cloudy 4 = .ok (.invokestatic 150, 3) := by decide +kernel
theorem dX11_cloudy_7 : decode cX11_cloudy 7 = .ok (.ifCond .eq 30, 3) := by decide +kernel
theorem dX11_cloudy_10 : decode cX11_cloudy 10 = .ok (.iload_n 2, 1) := by decide +kernel
theorem dX11_cloudy_11 : decode cX11_cloudy 11 = .ok (.iconst 0, 1) := by decide +kernel
theorem dX11_cloudy_12 : decode cX11_cloudy 12 = .ok (.bipush 90, 2) := by decide +kernel
theorem dX11_cloudy_14 : decode cX11_cloudy 14 = .ok (.invokestatic 150, 3) := by decide +kernel
theorem dX11_cloudy_17 : decode cX11_cloudy 17 = .ok (.ifCond .eq 20, 3) := by decide +kernel
theorem dX11_cloudy_20 : decode cX11_cloudy 20 = .ok (.iload_n 3, 1) := by decide +kernel
theorem dX11_cloudy_21 : decode cX11_cloudy 21 = .ok (.iconst 0, 1) := by decide +kernel
theorem dX11_cloudy_22 : decode cX11_cloudy 22 = .ok (.iconst 2, 1) := by decide +kernel
theorem dX11_cloudy_23 : decode cX11_cloudy 23 = .ok (.invokestatic 150, 3) := by decide +kernel
theorem dX11_cloudy_26 : decode cX11_cloudy 26 = .ok (.ifCond .eq 11, 3) := by decide +kernel
theorem dX11_cloudy_29 : decode cX11_cloudy 29 = .ok (.iload_n 1, 1) := by decide +kernel
theorem dX11_cloudy_30 : decode cX11_cloudy 30 = .ok (.aload_n 0, 1) := by decide +kernel
theorem dX11_cloudy_31 : decode cX11_cloudy 31 = .ok (.getfield 164, 3) := by decide +kernel
theorem dX11_cloudy_34 : decode cX11_cloudy 34 = .ok (.if_icmp .le 5, 3) := by decide +kernel
theorem dX11_cloudy_37 : decode cX11_cloudy 37 = .ok (.iconst (-1), 1) := by decide +kernel
theorem dX11_cloudy_38 : decode cX11_cloudy 38 = .ok (.ireturn, 1) := by decide +kernel
theorem dX11_cloudy_39 : decode cX11_cloudy 39 = .ok (.aload_n 0, 1) := by decide +kernel
theorem dX11_cloudy_40 : decode cX11_cloudy 40 = .ok (.iconst 0, 1) := by decide +kernel
theorem dX11_cloudy_41 : decode cX11_cloudy 41 = .ok (.putfield 164, 3) := by decide +kernel
theorem dX11_cloudy_44 : decode cX11_cloudy 44 = .ok (.iconst 0, 1) := by decide +kernel
theorem dX11_cloudy_45 : decode cX11_cloudy 45 = .ok (.istore 4, 2) := by decide +kernel
theorem dX11_cloudy_47 : decode cX11_cloudy 47 = .ok (.iload 4, 2) := by decide +kernel
theorem dX11_cloudy_49 : decode cX11_cloudy 49 = .ok (.iload_n 1, 1) := by decide +kernel
theorem dX11_cloudy_50 : decode cX11_cloudy 50 = .ok (.if_icmp .ge 28, 3) := by decide +kernel
theorem dX11_cloudy_53 : decode cX11_cloudy 53 = .ok (.aload_n 0, 1) := by decide +kernel
theorem dX11_cloudy_54 : decode cX11_cloudy 54 = .ok (.getfield 32, 3) := by decide +kernel
theorem dX11_cloudy_57 : decode cX11_cloudy 57 = .ok (.iload 4, 2) := by decide +kernel
theorem dX11_cloudy_59 : decode cX11_cloudy 59 = .ok (.baload, 1) := by decide +kernel
theorem dX11_cloudy_60 : decode cX11_cloudy 60 = .ok (.iconst 1, 1) := by decide +kernel
theorem dX11_cloudy_61 : decode cX11_cloudy 61 = .ok (.bipush 9, 2) := by decide +kernel
theorem dX11_cloudy_63 : decode cX11_cloudy 63 = .ok (.invokestatic 150, 3) := by decide +kernel
theorem dX11_cloudy_66 : decode cX11_cloudy 66 = .ok (.ifCond .ne 6, 3) := by decide +kernel
theorem dX11_cloudy_69 : decode cX11_cloudy 69 = .ok (.bipush (-3), 2) := by decide +kernel
theorem dX11_cloudy_71 : decode cX11_cloudy 71 = .ok (.ireturn, 1) := by decide +kernel
theorem dX11_cloudy_72 : decode cX11_cloudy 72 = .ok (.iinc 4 1, 3) := by decide +kernel
theorem dX11_cloudy_75 : decode cX11_cloudy 75 = .ok (.goto (-28), 3) := by decide +kernel
theorem dX11_cloudy_78 : decode cX11_cloudy 78 = .ok (.iconst 0, 1) := by decide +kernel
theorem dX11_cloudy_79 : decode cX11_cloudy 79 = .ok (.istore 4, 2) := by decide +kernel
theorem dX11_cloudy_81 : decode cX11_cloudy 81 = .ok (.bipush (-2), 2) := by decide +kernel
theorem dX11_cloudy_83 : decode cX11_cloudy 83 = .ok (.istore 5, 2) := by decide +kernel
theorem dX11_cloudy_85 : decode cX11_cloudy 85 = .ok (.sipush 1023, 3) := by decide +kernel
theorem dX11_cloudy_88 : decode cX11_cloudy 88 = .ok (.istore 6, 2) := by decide +kernel
theorem dX11_cloudy_90 : decode cX11_cloudy 90 = .ok (.iconst 0, 1) := by decide +kernel
theorem dX11_cloudy_91 : decode cX11_cloudy 91 = .ok (.istore 7, 2) := by decide +kernel
theorem dX11_cloudy_93 : decode cX11_cloudy 93 = .ok (.iload 7, 2) := by decide +kernel
theorem dX11_cloudy_95 : decode cX11_cloudy 95 = .ok (.iconst 1, 1) := by decide +kernel
theorem dX11_cloudy_96 : decode cX11_cloudy 96 = .ok (.iload_n 1, 1) := by decide +kernel
theorem dX11_cloudy_97 : decode cX11_cloudy 97 = .ok (.ishl, 1) := by decide +kernel
theorem dX11_cloudy_98 : decode cX11_cloudy 98 = .ok (.if_icmp .ge 89, 3) := by decide +kernel
theorem dX11_cloudy_101 : decode cX11_cloudy 101 = .ok (.iconst 0, 1) := by decide +kernel
theorem dX11_cloudy_102 : decode cX11_cloudy 102 = .ok (.istore 8, 2) := by decide +kernel
theorem dX11_cloudy_104 : decode cX11_cloudy 104 = .ok (.iconst 0, 1) := by decide +kernel
theorem dX11_cloudy_105 : decode cX11_cloudy 105 = .ok (.istore 9, 2) := by decide +kernel
theorem dX11_cloudy_107 : decode cX11_cloudy 107 = .ok (.iload 9, 2) := by decide +kernel
theorem dX11_cloudy_109 : decode cX11_cloudy 109 = .ok (.iload_n 1, 1) := by decide +kernel
theorem dX11_cloudy_110 : decode cX11_cloudy 110 = .ok (.if_icmp .ge 35, 3) := by decide +kernel
theorem dX11_cloudy_113 : decode cX11_cloudy 113 = .ok (.iload 8, 2) := by decide +kernel
theorem dX11_cloudy_115 : decode cX11_cloudy 115 = .ok (.iload 7, 2) := by decide +kernel
theorem dX11_cloudy_117 : decode cX11_cloudy 117 = .ok (.iload 9, 2) := by decide +kernel
theorem dX11_cloudy_119 : decode cX11_cloudy 119 = .ok (.invokestatic 143, 3) := by decide +kernel
theorem dX11_cloudy_122 : decode cX11_cloudy 122 = .ok (.ifCond .eq 7, 3) := by decide +kernel
theorem dX11_cloudy_125 : decode cX11_cloudy 125 = .ok (.iconst 0, 1) := by decide +kernel
theorem dX11_cloudy_126 : decode cX11_cloudy 126 = .ok (.goto 10, 3) := by decide +kernel
theorem dX11_cloudy_129 : decode cX11_cloudy 129 = .ok (.aload_n 0, 1) := by decide +kernel
theorem dX11_cloudy_130 : decode cX11_cloudy 130 = .ok (.getfield 32, 3) := by decide +kernel
theorem dX11_cloudy_133 : decode cX11_cloudy 133 = .ok (.iload 9, 2) := by decide +kernel
theorem dX11_cloudy_135 : decode cX11_cloudy 135 = .ok (.baload, 1) := by decide +kernel
theorem dX11_cloudy_136 : decode cX11_cloudy 136 = .ok (.iadd, 1) := by decide +kernel
theorem dX11_cloudy_137 : decode cX11_cloudy 137 = .ok (.istore 8, 2) := by decide +kernel
theorem dX11_cloudy_139 : decode cX11_cloudy 139 = .ok (.iinc 9 1, 3) := by decide +kernel
theorem dX11_cloudy_142 : decode cX11_cloudy 142 = .ok (.goto (-35), 3) := by decide +kernel
theorem dX11_cloudy_145 : decode cX11_cloudy 145 = .ok (.iload 8, 2) := by decide +kernel
theorem dX11_cloudy_147 : decode cX11_cloudy 147 = .ok (.iload_n 2, 1) := by decide +kernel
theorem dX11_cloudy_148 : decode cX11_cloudy 148 = .ok (.if_icmp .eq 6, 3) := by decide +kernel
theorem dX11_cloudy_151 : decode cX11_cloudy 151 = .ok (.goto 30, 3) := by decide +kernel
theorem dX11_cloudy_154 : decode cX11_cloudy 154 = .ok (.iload 4, 2) := by decide +kernel
theorem dX11_cloudy_156 : decode cX11_cloudy 156 = .ok (.ifCond .ne 8, 3) := by decide +kernel
theorem dX11_cloudy_159 : decode cX11_cloudy 159 = .ok (.iload 7, 2) := by decide +kernel
theorem dX11_cloudy_161 : decode cX11_cloudy 161 = .ok (.goto 5, 3) := by decide +kernel
theorem dX11_cloudy_164 : decode cX11_cloudy 164 = .ok (.iload 5, 2) := by decide +kernel
theorem dX11_cloudy_166 : decode cX11_cloudy 166 = .ok (.istore 5, 2) := by decide +kernel
theorem dX11_cloudy_168 : decode cX11_cloudy 168 = .ok (.iload 4, 2) := by decide +kernel
theorem dX11_cloudy_170 : decode cX11_cloudy 170 = .ok (.iconst 1, 1) := by decide +kernel
theorem dX11_cloudy_171 : decode cX11_cloudy 171 = .ok (.iadd, 1) := by decide +kernel
theorem dX11_cloudy_172 : decode cX11_cloudy 172 = .ok (.istore 4, 2) := by decide +kernel
theorem dX11_cloudy_174 : decode cX11_cloudy 174 = .ok (.iload 6, 2) := by decide +kernel
theorem dX11_cloudy_176 : decode cX11_cloudy 176 = .ok (.iload 7, 2) := by decide +kernel
theorem dX11_cloudy_178 : decode cX11_cloudy 178 = .ok (.iand, 1) := by decide +kernel
theorem dX11_cloudy_179 : decode cX11_cloudy 179 = .ok (.istore 6, 2) := by decide +kernel
theorem dX11_cloudy_181 : decode cX11_cloudy 181 = .ok (.iinc 7 1, 3) := by decide +kernel
theorem dX11_cloudy_184 : decode cX11_cloudy 184 = .ok (.goto (-91), 3) := by decide +kernel
theorem dX11_cloudy_187 : decode cX11_cloudy 187 = .ok (.iload_n 3, 1) := by decide +kernel
theorem dX11_cloudy_188 : decode cX11_cloudy 188 = .ok (.ifCond .ne 8, 3) := by decide +kernel
theorem dX11_cloudy_191 : decode cX11_cloudy 191 = .ok (.iload 4, 2) := by decide +kernel
theorem dX11_cloudy_193 : decode cX11_cloudy 193 = .ok (.goto 20, 3) := by decide +kernel
theorem dX11_cloudy_196 : decode cX11_cloudy 196 = .ok (.iload_n 3, 1) := by decide +kernel
theorem dX11_cloudy_197 : decode cX11_cloudy 197 = .ok (.iconst 1, 1) := by decide +kernel
theorem dX11_cloudy_198 : decode cX11_cloudy 198 = .ok (.if_icmp .eq 8, 3) := by decide +kernel
theorem dX11_cloudy_201 : decode cX11_cloudy 201 = .ok (.iload 4, 2) := by decide +kernel
theorem dX11_cloudy_203 : decode cX11_cloudy 203 = .ok (.ifCond .ne 8, 3) := by decide +kernel
theorem dX11_cloudy_206 : decode cX11_cloudy 206 = .ok (.iload 5, 2) := by decide +kernel
theorem dX11_cloudy_208 : decode cX11_cloudy 208 = .ok (.goto 5, 3) := by decide +kernel
theorem dX11_cloudy_211 : decode cX11_cloudy 211 = .ok (.iload 6, 2) := by decide +kernel
theorem dX11_cloudy_213 : decode cX11_cloudy 213 = .ok (.ireturn, 1) := by decide +kernel
theorem dX11_failsAt_0 : decode cX11_failsAt 0 = .ok (.iconst 1, 1) := by decide +kernel
theorem dX11_failsAt_1 : decode cX11_failsAt 1 = .ok (.istore_n 2, 1) := by decide +kernel
theorem dX11_failsAt_2 : decode cX11_failsAt 2 = .ok (.iload_n 2, 1) := by decide +kernel
theorem dX11_failsAt_3 : decode cX11_failsAt 3 = .ok (.iload_n 1, 1) := by decide +kernel
theorem dX11_failsAt_4 : decode cX11_failsAt 4 = .ok (.if_icmp .ge 42, 3) := by decide +kernel
theorem dX11_failsAt_7 : decode cX11_failsAt 7 = .ok (.aload_n 0, 1) := by decide +kernel
theorem dX11_failsAt_8 : decode cX11_failsAt 8 = .ok (.aload_n 0, 1) := by decide +kernel
theorem dX11_failsAt_9 : decode cX11_failsAt 9 = .ok (.getfield 32, 3) := by decide +kernel
theorem dX11_failsAt_12 : decode cX11_failsAt 12 = .ok (.iload_n 2, 1) := by decide +kernel
theorem dX11_failsAt_13 : decode cX11_failsAt 13 = .ok (.iconst 1, 1) := by decide +kernel
theorem dX11_failsAt_14 : decode cX11_failsAt 14 = .ok (.isub, 1) := by decide +kernel
theorem dX11_failsAt_15 : decode cX11_failsAt 15 = .ok (.baload, 1) := by decide +kernel
theorem dX11_failsAt_16 : decode cX11_failsAt 16 = .ok (.iconst 3, 1) := by decide +kernel
theorem dX11_failsAt_17 : decode cX11_failsAt 17 = .ok (.iconst 1, 1) := by decide +kernel
theorem dX11_failsAt_18 : decode cX11_failsAt 18 = .ok (.invokevirtual 355, 3) := by decide +kernel
theorem dX11_failsAt_21 : decode cX11_failsAt 21 = .ok (.aload_n 0, 1) := by decide +kernel
theorem dX11_failsAt_22 : decode cX11_failsAt 22 = .ok (.getfield 92, 3) := by decide +kernel
theorem dX11_failsAt_25 : decode cX11_failsAt 25 = .ok (.aload_n 0, 1) := by decide +kernel
theorem dX11_failsAt_26 : decode cX11_failsAt 26 = .ok (.getfield 32, 3) := by decide +kernel
theorem dX11_failsAt_29 : decode cX11_failsAt 29 = .ok (.iload_n 2, 1) := by decide +kernel
theorem dX11_failsAt_30 : decode cX11_failsAt 30 = .ok (.baload, 1) := by decide +kernel
theorem dX11_failsAt_31 : decode cX11_failsAt 31 = .ok (.iaload, 1) := by decide +kernel
theorem dX11_failsAt_32 : decode cX11_failsAt 32 = .ok (.ldc_w 348, 3) := by decide +kernel
theorem dX11_failsAt_35 : decode cX11_failsAt 35 = .ok (.if_icmp .ne 5, 3) := by decide +kernel
theorem dX11_failsAt_38 : decode cX11_failsAt 38 = .ok (.iload_n 2, 1) := by decide +kernel
theorem dX11_failsAt_39 : decode cX11_failsAt 39 = .ok (.ireturn, 1) := by decide +kernel
theorem dX11_failsAt_40 : decode cX11_failsAt 40 = .ok (.iinc 2 1, 3) := by decide +kernel
theorem dX11_failsAt_43 : decode cX11_failsAt 43 = .ok (.goto (-41), 3) := by decide +kernel
theorem dX11_failsAt_46 : decode cX11_failsAt 46 = .ok (.iconst (-1), 1) := by decide +kernel
theorem dX11_failsAt_47 : decode cX11_failsAt 47 = .ok (.ireturn, 1) := by decide +kernel
theorem dX11_prints_0 : decode cX11_prints 0 = .ok (.iload_n 1, 1) := by decide +kernel
theorem dX11_prints_1 : decode cX11_prints 1 = .ok (.iconst 2, 1) := by decide +kernel
theorem dX11_prints_2 : decode cX11_prints 2 = .ok (.bipush 20, 2) := by decide +kernel
theorem dX11_prints_4 : decode cX11_prints 4 = .ok (.invokestatic 150, 3) := by decide +kernel
theorem dX11_prints_7 : decode cX11_prints 7 = .ok (.ifCond .eq 20, 3) := by decide +kernel
theorem dX11_prints_10 : decode cX11_prints 10 = .ok (.iload_n 2, 1) := by decide +kernel
theorem dX11_prints_11 : decode cX11_prints 11 = .ok (.iconst 0, 1) := by decide +kernel
theorem dX11_prints_12 : decode cX11_prints 12 = .ok (.iconst 1, 1) := by decide +kernel
theorem dX11_prints_13 : decode cX11_prints 13 = .ok (.invokestatic 150, 3) := by decide +kernel
theorem dX11_prints_16 : decode cX11_prints 16 = .ok (.ifCond .eq 11, 3) := by decide +kernel
theorem dX11_prints_19 : decode cX11_prints 19 = .ok (.iload_n 1, 1) := by decide +kernel
theorem dX11_prints_20 : decode cX11_prints 20 = .ok (.aload_n 0, 1) := by decide +kernel
theorem dX11_prints_21 : decode cX11_prints 21 = .ok (.getfield 164, 3) := by decide +kernel
theorem dX11_prints_24 : decode cX11_prints 24 = .ok (.if_icmp .le 5, 3) := by decide +kernel
theorem dX11_prints_27 : decode cX11_prints 27 = .ok (.iconst (-1), 1) := by decide +kernel
theorem dX11_prints_28 : decode cX11_prints 28 = .ok (.ireturn, 1) := by decide +kernel
theorem dX11_prints_29 : decode cX11_prints 29 = .ok (.aload_n 0, 1) := by decide +kernel
theorem dX11_prints_30 : decode cX11_prints 30 = .ok (.iconst 0, 1) := by decide +kernel
theorem dX11_prints_31 : decode cX11_prints 31 = .ok (.putfield 164, 3) := by decide +kernel
theorem dX11_prints_34 : decode cX11_prints 34 = .ok (.aload_n 0, 1) := by decide +kernel
theorem dX11_prints_35 : decode cX11_prints 35 = .ok (.iload_n 1, 1) := by decide +kernel
theorem dX11_prints_36 : decode cX11_prints 36 = .ok (.invokevirtual 443, 3) := by decide +kernel
theorem dX11_prints_39 : decode cX11_prints 39 = .ok (.ifCond .ne 6, 3) := by decide +kernel
theorem dX11_prints_42 : decode cX11_prints 42 = .ok (.bipush (-3), 2) := by decide +kernel
theorem dX11_prints_44 : decode cX11_prints 44 = .ok (.ireturn, 1) := by decide +kernel
theorem dX11_prints_45 : decode cX11_prints 45 = .ok (.iload_n 2, 1) := by decide +kernel
theorem dX11_prints_46 : decode cX11_prints 46 = .ok (.iconst 1, 1) := by decide +kernel
theorem dX11_prints_47 : decode cX11_prints 47 = .ok (.if_icmp .ne 16, 3) := by decide +kernel
theorem dX11_prints_50 : decode cX11_prints 50 = .ok (.aload_n 0, 1) := by decide +kernel
theorem dX11_prints_51 : decode cX11_prints 51 = .ok (.getfield 7, 3) := by decide +kernel
theorem dX11_prints_54 : decode cX11_prints 54 = .ok (.bipush 35, 2) := by decide +kernel
theorem dX11_prints_56 : decode cX11_prints 56 = .ok (.iaload, 1) := by decide +kernel
theorem dX11_prints_57 : decode cX11_prints 57 = .ok (.ifCond .ne 6, 3) := by decide +kernel
theorem dX11_prints_60 : decode cX11_prints 60 = .ok (.bipush (-4), 2) := by decide +kernel
theorem dX11_prints_62 : decode cX11_prints 62 = .ok (.ireturn, 1) := by decide +kernel
theorem dX11_prints_63 : decode cX11_prints 63 = .ok (.aload_n 0, 1) := by decide +kernel
theorem dX11_prints_64 : decode cX11_prints 64 = .ok (.iload_n 1, 1) := by decide +kernel
theorem dX11_prints_65 : decode cX11_prints 65 = .ok (.invokevirtual 446, 3) := by decide +kernel
theorem dX11_prints_68 : decode cX11_prints 68 = .ok (.istore_n 3, 1) := by decide +kernel
theorem dX11_prints_69 : decode cX11_prints 69 = .ok (.iconst 0, 1) := by decide +kernel
theorem dX11_prints_70 : decode cX11_prints 70 = .ok (.istore 4, 2) := by decide +kernel
theorem dX11_prints_72 : decode cX11_prints 72 = .ok (.iconst 0, 1) := by decide +kernel
theorem dX11_prints_73 : decode cX11_prints 73 = .ok (.istore 5, 2) := by decide +kernel
theorem dX11_prints_75 : decode cX11_prints 75 = .ok (.iload 5, 2) := by decide +kernel
theorem dX11_prints_77 : decode cX11_prints 77 = .ok (.bipush 10, 2) := by decide +kernel
theorem dX11_prints_79 : decode cX11_prints 79 = .ok (.if_icmp .ge 62, 3) := by decide +kernel
theorem dX11_prints_82 : decode cX11_prints 82 = .ok (.aload_n 0, 1) := by decide +kernel
theorem dX11_prints_83 : decode cX11_prints 83 = .ok (.iload 5, 2) := by decide +kernel
theorem dX11_prints_85 : decode cX11_prints 85 = .ok (.invokevirtual 146, 3) := by decide +kernel
theorem dX11_prints_88 : decode cX11_prints 88 = .ok (.ifCond .ne 6, 3) := by decide +kernel
theorem dX11_prints_91 : decode cX11_prints 91 = .ok (.goto 44, 3) := by decide +kernel
theorem dX11_prints_94 : decode cX11_prints 94 = .ok (.aload_n 0, 1) := by decide +kernel
theorem dX11_prints_95 : decode cX11_prints 95 = .ok (.aload_n 0, 1) := by decide +kernel
theorem dX11_prints_96 : decode cX11_prints 96 = .ok (.getfield 7, 3) := by decide +kernel
theorem dX11_prints_99 : decode cX11_prints 99 = .ok (.iconst 4, 1) := by decide +kernel
theorem dX11_prints_100 : decode cX11_prints 100 = .ok (.iload 5, 2) := by decide +kernel
theorem dX11_prints_102 : decode cX11_prints 102 = .ok (.iadd, 1) := by decide +kernel
theorem dX11_prints_103 : decode cX11_prints 103 = .ok (.iaload, 1) := by decide +kernel
theorem dX11_prints_104 : decode cX11_prints 104 = .ok (.iconst 3, 1) := by decide +kernel
theorem dX11_prints_105 : decode cX11_prints 105 = .ok (.iconst 1, 1) := by decide +kernel
theorem dX11_prints_106 : decode cX11_prints 106 = .ok (.invokevirtual 355, 3) := by decide +kernel
theorem dX11_prints_109 : decode cX11_prints 109 = .ok (.aload_n 0, 1) := by decide +kernel
theorem dX11_prints_110 : decode cX11_prints 110 = .ok (.getfield 92, 3) := by decide +kernel
theorem dX11_prints_113 : decode cX11_prints 113 = .ok (.aload_n 0, 1) := by decide +kernel
theorem dX11_prints_114 : decode cX11_prints 114 = .ok (.getfield 32, 3) := by decide +kernel
theorem dX11_prints_117 : decode cX11_prints 117 = .ok (.iconst 0, 1) := by decide +kernel
theorem dX11_prints_118 : decode cX11_prints 118 = .ok (.baload, 1) := by decide +kernel
theorem dX11_prints_119 : decode cX11_prints 119 = .ok (.iaload, 1) := by decide +kernel
theorem dX11_prints_120 : decode cX11_prints 120 = .ok (.ldc_w 348, 3) := by decide +kernel
theorem dX11_prints_123 : decode cX11_prints 123 = .ok (.if_icmp .ge 12, 3) := by decide +kernel
theorem dX11_prints_126 : decode cX11_prints 126 = .ok (.iload 4, 2) := by decide +kernel
theorem dX11_prints_128 : decode cX11_prints 128 = .ok (.iconst 1, 1) := by decide +kernel
theorem dX11_prints_129 : decode cX11_prints 129 = .ok (.iload 5, 2) := by decide +kernel
theorem dX11_prints_131 : decode cX11_prints 131 = .ok (.ishl, 1) := by decide +kernel
theorem dX11_prints_132 : decode cX11_prints 132 = .ok (.ior, 1) := by decide +kernel
theorem dX11_prints_133 : decode cX11_prints 133 = .ok (.istore 4, 2) := by decide +kernel
theorem dX11_prints_135 : decode cX11_prints 135 = .ok (.iinc 5 1, 3) := by decide +kernel
theorem dX11_prints_138 : decode cX11_prints 138 = .ok (.goto (-63), 3) := by decide +kernel
theorem dX11_prints_141 : decode cX11_prints 141 = .ok (.iload_n 2, 1) := by decide +kernel
theorem dX11_prints_142 : decode cX11_prints 142 = .ok (.ifCond .ne 15, 3) := by decide +kernel
theorem dX11_prints_145 : decode cX11_prints 145 = .ok (.iload_n 3, 1) := by decide +kernel
theorem dX11_prints_146 : decode cX11_prints 146 = .ok (.iconst (-1), 1) := by decide +kernel
theorem dX11_prints_147 : decode cX11_prints 147 = .ok (.if_icmp .ne 8, 3) := by decide +kernel
theorem dX11_prints_150 : decode cX11_prints 150 = .ok (.iload 4, 2) := by decide +kernel
theorem dX11_prints_152 : decode cX11_prints 152 = .ok (.goto 4, 3) := by decide +kernel
theorem dX11_prints_155 : decode cX11_prints 155 = .ok (.iconst 0, 1) := by decide +kernel
theorem dX11_prints_156 : decode cX11_prints 156 = .ok (.ireturn, 1) := by decide +kernel
theorem dX11_prints_157 : decode cX11_prints 157 = .ok (.iload 4, 2) := by decide +kernel
theorem dX11_prints_159 : decode cX11_prints 159 = .ok (.ifCond .ne 7, 3) := by decide +kernel
theorem dX11_prints_162 : decode cX11_prints 162 = .ok (.iconst 0, 1) := by decide +kernel
theorem dX11_prints_163 : decode cX11_prints 163 = .ok (.goto 14, 3) := by decide +kernel
theorem dX11_prints_166 : decode cX11_prints 166 = .ok (.iload_n 3, 1) := by decide +kernel
theorem dX11_prints_167 : decode cX11_prints 167 = .ok (.iconst (-1), 1) := by decide +kernel
theorem dX11_prints_168 : decode cX11_prints 168 = .ok (.if_icmp .ne 8, 3) := by decide +kernel
theorem dX11_prints_171 : decode cX11_prints 171 = .ok (.bipush (-2), 2) := by decide +kernel
theorem dX11_prints_173 : decode cX11_prints 173 = .ok (.goto 4, 3) := by decide +kernel
theorem dX11_prints_176 : decode cX11_prints 176 = .ok (.iload_n 3, 1) := by decide +kernel
theorem dX11_prints_177 : decode cX11_prints 177 = .ok (.ireturn, 1) := by decide +kernel
theorem dX11_tapeNumber_0 : decode cX11_tapeNumber 0 = .ok (.iconst 0, 1) := by decide +kernel
theorem dX11_tapeNumber_1 : decode cX11_tapeNumber 1 = .ok (.istore_n 2, 1) := by decide +kernel
theorem dX11_tapeNumber_2 : decode cX11_tapeNumber 2 = .ok (.iconst 4, 1) := by decide +kernel
theorem dX11_tapeNumber_3 : decode cX11_tapeNumber 3 = .ok (.iload_n 1, 1) := by decide +kernel
theorem dX11_tapeNumber_4 : decode cX11_tapeNumber 4 = .ok (.imul, 1) := by decide +kernel
theorem dX11_tapeNumber_5 : decode cX11_tapeNumber 5 = .ok (.istore_n 3, 1) := by decide +kernel
theorem dX11_tapeNumber_6 : decode cX11_tapeNumber 6 = .ok (.iload_n 3, 1) := by decide +kernel
theorem dX11_tapeNumber_7 : decode cX11_tapeNumber 7 = .ok (.iconst 4, 1) := by decide +kernel
theorem dX11_tapeNumber_8 : decode cX11_tapeNumber 8 = .ok (.iload_n 1, 1) := by decide +kernel
theorem dX11_tapeNumber_9 : decode cX11_tapeNumber 9 = .ok (.imul, 1) := by decide +kernel
theorem dX11_tapeNumber_10 : decode cX11_tapeNumber 10 = .ok (.iconst 4, 1) := by decide +kernel
theorem dX11_tapeNumber_11 : decode cX11_tapeNumber 11 = .ok (.iadd, 1) := by decide +kernel
theorem dX11_tapeNumber_12 : decode cX11_tapeNumber 12 = .ok (.if_icmp .ge 25, 3) := by decide +kernel
theorem dX11_tapeNumber_15 : decode cX11_tapeNumber 15 = .ok (.iload_n 2, 1) := by decide +kernel
theorem dX11_tapeNumber_16 : decode cX11_tapeNumber 16 = .ok (.bipush 8, 2) := by decide +kernel
theorem dX11_tapeNumber_18 : decode cX11_tapeNumber 18 = .ok (.ishl, 1) := by decide +kernel
theorem dX11_tapeNumber_19 : decode cX11_tapeNumber 19 = .ok (.aload_n 0, 1) := by decide +kernel
theorem dX11_tapeNumber_20 : decode cX11_tapeNumber 20 = .ok (.getfield 32, 3) := by decide +kernel
theorem dX11_tapeNumber_23 : decode cX11_tapeNumber 23 = .ok (.iload_n 3, 1) := by decide +kernel
theorem dX11_tapeNumber_24 : decode cX11_tapeNumber 24 = .ok (.baload, 1) := by decide +kernel
theorem dX11_tapeNumber_25 : decode cX11_tapeNumber 25 = .ok (.sipush 255, 3) := by decide +kernel
theorem dX11_tapeNumber_28 : decode cX11_tapeNumber 28 = .ok (.iand, 1) := by decide +kernel
theorem dX11_tapeNumber_29 : decode cX11_tapeNumber 29 = .ok (.ior, 1) := by decide +kernel
theorem dX11_tapeNumber_30 : decode cX11_tapeNumber 30 = .ok (.istore_n 2, 1) := by decide +kernel
theorem dX11_tapeNumber_31 : decode cX11_tapeNumber 31 = .ok (.iinc 3 1, 3) := by decide +kernel
theorem dX11_tapeNumber_34 : decode cX11_tapeNumber 34 = .ok (.goto (-28), 3) := by decide +kernel
theorem dX11_tapeNumber_37 : decode cX11_tapeNumber 37 = .ok (.iload_n 2, 1) := by decide +kernel
theorem dX11_tapeNumber_38 : decode cX11_tapeNumber 38 = .ok (.ireturn, 1) := by decide +kernel
theorem dX11_together_0 : decode cX11_together 0 = .ok (.iload_n 1, 1) := by decide +kernel
theorem dX11_together_1 : decode cX11_together 1 = .ok (.iconst 1, 1) := by decide +kernel
theorem dX11_together_2 : decode cX11_together 2 = .ok (.bipush 8, 2) := by decide +kernel
theorem dX11_together_4 : decode cX11_together 4 = .ok (.invokestatic 150, 3) := by decide +kernel
theorem dX11_together_7 : decode cX11_together 7 = .ok (.ifCond .eq 24, 3) := by decide +kernel
theorem dX11_together_10 : decode cX11_together 10 = .ok (.iload_n 2, 1) := by decide +kernel
theorem dX11_together_11 : decode cX11_together 11 = .ok (.iconst 0, 1) := by decide +kernel
theorem dX11_together_12 : decode cX11_together 12 = .ok (.iconst 2, 1) := by decide +kernel
theorem dX11_together_13 : decode cX11_together 13 = .ok (.invokestatic 150, 3) := by decide +kernel
theorem dX11_together_16 : decode cX11_together 16 = .ok (.ifCond .eq 15, 3) := by decide +kernel
theorem dX11_together_19 : decode cX11_together 19 = .ok (.iconst 2, 1) := by decide +kernel
theorem dX11_together_20 : decode cX11_together 20 = .ok (.iload_n 1, 1) := by decide +kernel
theorem dX11_together_21 : decode cX11_together 21 = .ok (.imul, 1) := by decide +kernel
theorem dX11_together_22 : decode cX11_together 22 = .ok (.iconst 1, 1) := by decide +kernel
theorem dX11_together_23 : decode cX11_together 23 = .ok (.iadd, 1) := by decide +kernel
theorem dX11_together_24 : decode cX11_together 24 = .ok (.aload_n 0, 1) := by decide +kernel
theorem dX11_together_25 : decode cX11_together 25 = .ok (.getfield 164, 3) := by decide +kernel
theorem dX11_together_28 : decode cX11_together 28 = .ok (.if_icmp .le 5, 3) := by decide +kernel
theorem dX11_together_31 : decode cX11_together 31 = .ok (.iconst (-1), 1) := by decide +kernel
theorem dX11_together_32 : decode cX11_together 32 = .ok (.ireturn, 1) := by decide +kernel
theorem dX11_together_33 : decode cX11_together 33 = .ok (.aload_n 0, 1) := by decide +kernel
theorem dX11_together_34 : decode cX11_together 34 = .ok (.getfield 32, 3) := by decide +kernel
theorem dX11_together_37 : decode cX11_together 37 = .ok (.iconst 2, 1) := by decide +kernel
theorem dX11_together_38 : decode cX11_together 38 = .ok (.iload_n 1, 1) := by decide +kernel
theorem dX11_together_39 : decode cX11_together 39 = .ok (.imul, 1) := by decide +kernel
theorem dX11_together_40 : decode cX11_together 40 = .ok (.baload, 1) := by decide +kernel
theorem dX11_together_41 : decode cX11_together 41 = .ok (.sipush 255, 3) := by decide +kernel
theorem dX11_together_44 : decode cX11_together 44 = .ok (.iand, 1) := by decide +kernel
theorem dX11_together_45 : decode cX11_together 45 = .ok (.istore_n 3, 1) := by decide +kernel
theorem dX11_together_46 : decode cX11_together 46 = .ok (.iconst 2, 1) := by decide +kernel
theorem dX11_together_47 : decode cX11_together 47 = .ok (.iload_n 1, 1) := by decide +kernel
theorem dX11_together_48 : decode cX11_together 48 = .ok (.imul, 1) := by decide +kernel
theorem dX11_together_49 : decode cX11_together 49 = .ok (.iconst 1, 1) := by decide +kernel
theorem dX11_together_50 : decode cX11_together 50 = .ok (.iadd, 1) := by decide +kernel
theorem dX11_together_51 : decode cX11_together 51 = .ok (.iconst 2, 1) := by decide +kernel
theorem dX11_together_52 : decode cX11_together 52 = .ok (.iload_n 3, 1) := by decide +kernel
theorem dX11_together_53 : decode cX11_together 53 = .ok (.imul, 1) := by decide +kernel
theorem dX11_together_54 : decode cX11_together 54 = .ok (.iadd, 1) := by decide +kernel
theorem dX11_together_55 : decode cX11_together 55 = .ok (.aload_n 0, 1) := by decide +kernel
theorem dX11_together_56 : decode cX11_together 56 = .ok (.getfield 164, 3) := by decide +kernel
theorem dX11_together_59 : decode cX11_together 59 = .ok (.if_icmp .le 5, 3) := by decide +kernel
theorem dX11_together_62 : decode cX11_together 62 = .ok (.iconst (-1), 1) := by decide +kernel
theorem dX11_together_63 : decode cX11_together 63 = .ok (.ireturn, 1) := by decide +kernel
theorem dX11_together_64 : decode cX11_together 64 = .ok (.aload_n 0, 1) := by decide +kernel
theorem dX11_together_65 : decode cX11_together 65 = .ok (.iconst 0, 1) := by decide +kernel
theorem dX11_together_66 : decode cX11_together 66 = .ok (.putfield 164, 3) := by decide +kernel
theorem dX11_together_69 : decode cX11_together 69 = .ok (.iload_n 3, 1) := by decide +kernel
theorem dX11_together_70 : decode cX11_together 70 = .ok (.bipush 12, 2) := by decide +kernel
theorem dX11_together_72 : decode cX11_together 72 = .ok (.if_icmp .le 6, 3) := by decide +kernel
theorem dX11_together_75 : decode cX11_together 75 = .ok (.bipush (-2), 2) := by decide +kernel
theorem dX11_together_77 : decode cX11_together 77 = .ok (.ireturn, 1) := by decide +kernel
theorem dX11_together_78 : decode cX11_together 78 = .ok (.iconst 0, 1) := by decide +kernel
theorem dX11_together_79 : decode cX11_together 79 = .ok (.istore 4, 2) := by decide +kernel
theorem dX11_together_81 : decode cX11_together 81 = .ok (.iload 4, 2) := by decide +kernel
theorem dX11_together_83 : decode cX11_together 83 = .ok (.iload_n 1, 1) := by decide +kernel
theorem dX11_together_84 : decode cX11_together 84 = .ok (.if_icmp .ge 26, 3) := by decide +kernel
theorem dX11_together_87 : decode cX11_together 87 = .ok (.aload_n 0, 1) := by decide +kernel
theorem dX11_together_88 : decode cX11_together 88 = .ok (.getfield 123, 3) := by decide +kernel
theorem dX11_together_91 : decode cX11_together 91 = .ok (.iload 4, 2) := by decide +kernel
theorem dX11_together_93 : decode cX11_together 93 = .ok (.iload 4, 2) := by decide +kernel
theorem dX11_together_95 : decode cX11_together 95 = .ok (.iastore, 1) := by decide +kernel
theorem dX11_together_96 : decode cX11_together 96 = .ok (.aload_n 0, 1) := by decide +kernel
theorem dX11_together_97 : decode cX11_together 97 = .ok (.getfield 126, 3) := by decide +kernel
theorem dX11_together_100 : decode cX11_together 100 = .ok (.iload 4, 2) := by decide +kernel
theorem dX11_together_102 : decode cX11_together 102 = .ok (.iconst 0, 1) := by decide +kernel
theorem dX11_together_103 : decode cX11_together 103 = .ok (.iastore, 1) := by decide +kernel
theorem dX11_together_104 : decode cX11_together 104 = .ok (.iinc 4 1, 3) := by decide +kernel
theorem dX11_together_107 : decode cX11_together 107 = .ok (.goto (-26), 3) := by decide +kernel
theorem dX11_together_110 : decode cX11_together 110 = .ok (.iconst 0, 1) := by decide +kernel
theorem dX11_together_111 : decode cX11_together 111 = .ok (.istore 4, 2) := by decide +kernel
theorem dX11_together_113 : decode cX11_together 113 = .ok (.iload 4, 2) := by decide +kernel
theorem dX11_together_115 : decode cX11_together 115 = .ok (.iconst 2, 1) := by decide +kernel
theorem dX11_together_116 : decode cX11_together 116 = .ok (.iload_n 3, 1) := by decide +kernel
theorem dX11_together_117 : decode cX11_together 117 = .ok (.imul, 1) := by decide +kernel
theorem dX11_together_118 : decode cX11_together 118 = .ok (.if_icmp .ge 35, 3) := by decide +kernel
theorem dX11_together_121 : decode cX11_together 121 = .ok (.aload_n 0, 1) := by decide +kernel
theorem dX11_together_122 : decode cX11_together 122 = .ok (.getfield 32, 3) := by decide +kernel
theorem dX11_together_125 : decode cX11_together 125 = .ok (.iconst 2, 1) := by decide +kernel
theorem dX11_together_126 : decode cX11_together 126 = .ok (.iload_n 1, 1) := by decide +kernel
theorem dX11_together_127 : decode cX11_together 127 = .ok (.imul, 1) := by decide +kernel
theorem dX11_together_128 : decode cX11_together 128 = .ok (.iconst 1, 1) := by decide +kernel
theorem dX11_together_129 : decode cX11_together 129 = .ok (.iadd, 1) := by decide +kernel
theorem dX11_together_130 : decode cX11_together 130 = .ok (.iload 4, 2) := by decide +kernel
theorem dX11_together_132 : decode cX11_together 132 = .ok (.iadd, 1) := by decide +kernel
theorem dX11_together_133 : decode cX11_together 133 = .ok (.baload, 1) := by decide +kernel
theorem dX11_together_134 : decode cX11_together 134 = .ok (.iconst 0, 1) := by decide +kernel
theorem dX11_together_135 : decode cX11_together 135 = .ok (.iload_n 1, 1) := by decide +kernel
theorem dX11_together_136 : decode cX11_together 136 = .ok (.iconst 1, 1) := by decide +kernel
theorem dX11_together_137 : decode cX11_together 137 = .ok (.isub, 1) := by decide +kernel
theorem dX11_together_138 : decode cX11_together 138 = .ok (.invokestatic 150, 3) := by decide +kernel
theorem dX11_together_141 : decode cX11_together 141 = .ok (.ifCond .ne 6, 3) := by decide +kernel
theorem dX11_together_144 : decode cX11_together 144 = .ok (.bipush (-2), 2) := by decide +kernel
theorem dX11_together_146 : decode cX11_together 146 = .ok (.ireturn, 1) := by decide +kernel
theorem dX11_together_147 : decode cX11_together 147 = .ok (.iinc 4 1, 3) := by decide +kernel
theorem dX11_together_150 : decode cX11_together 150 = .ok (.goto (-37), 3) := by decide +kernel
theorem dX11_together_153 : decode cX11_together 153 = .ok (.iconst 0, 1) := by decide +kernel
theorem dX11_together_154 : decode cX11_together 154 = .ok (.istore 4, 2) := by decide +kernel
theorem dX11_together_156 : decode cX11_together 156 = .ok (.iload 4, 2) := by decide +kernel
theorem dX11_together_158 : decode cX11_together 158 = .ok (.iload_n 3, 1) := by decide +kernel
theorem dX11_together_159 : decode cX11_together 159 = .ok (.if_icmp .ge 44, 3) := by decide +kernel
theorem dX11_together_162 : decode cX11_together 162 = .ok (.aload_n 0, 1) := by decide +kernel
theorem dX11_together_163 : decode cX11_together 163 = .ok (.aload_n 0, 1) := by decide +kernel
theorem dX11_together_164 : decode cX11_together 164 = .ok (.getfield 32, 3) := by decide +kernel
theorem dX11_together_167 : decode cX11_together 167 = .ok (.iconst 2, 1) := by decide +kernel
theorem dX11_together_168 : decode cX11_together 168 = .ok (.iload_n 1, 1) := by decide +kernel
theorem dX11_together_169 : decode cX11_together 169 = .ok (.imul, 1) := by decide +kernel
theorem dX11_together_170 : decode cX11_together 170 = .ok (.iconst 1, 1) := by decide +kernel
theorem dX11_together_171 : decode cX11_together 171 = .ok (.iadd, 1) := by decide +kernel
theorem dX11_together_172 : decode cX11_together 172 = .ok (.iconst 2, 1) := by decide +kernel
theorem dX11_together_173 : decode cX11_together 173 = .ok (.iload 4, 2) := by decide +kernel
theorem dX11_together_175 : decode cX11_together 175 = .ok (.imul, 1) := by decide +kernel
theorem dX11_together_176 : decode cX11_together 176 = .ok (.iadd, 1) := by decide +kernel
theorem dX11_together_177 : decode cX11_together 177 = .ok (.baload, 1) := by decide +kernel
theorem dX11_together_178 : decode cX11_together 178 = .ok (.aload_n 0, 1) := by decide +kernel
theorem dX11_together_179 : decode cX11_together 179 = .ok (.getfield 32, 3) := by decide +kernel
theorem dX11_together_182 : decode cX11_together 182 = .ok (.iconst 2, 1) := by decide +kernel
theorem dX11_together_183 : decode cX11_together 183 = .ok (.iload_n 1, 1) := by decide +kernel
theorem dX11_together_184 : decode cX11_together 184 = .ok (.imul, 1) := by decide +kernel
theorem dX11_together_185 : decode cX11_together 185 = .ok (.iconst 2, 1) := by decide +kernel
theorem dX11_together_186 : decode cX11_together 186 = .ok (.iadd, 1) := by decide +kernel
theorem dX11_together_187 : decode cX11_together 187 = .ok (.iconst 2, 1) := by decide +kernel
theorem dX11_together_188 : decode cX11_together 188 = .ok (.iload 4, 2) := by decide +kernel
theorem dX11_together_190 : decode cX11_together 190 = .ok (.imul, 1) := by decide +kernel
theorem dX11_together_191 : decode cX11_together 191 = .ok (.iadd, 1) := by decide +kernel
theorem dX11_together_192 : decode cX11_together 192 = .ok (.baload, 1) := by decide +kernel
theorem dX11_together_193 : decode cX11_together 193 = .ok (.iload_n 1, 1) := by decide +kernel
theorem dX11_together_194 : decode cX11_together 194 = .ok (.invokevirtual 449, 3) := by decide +kernel
theorem dX11_together_197 : decode cX11_together 197 = .ok (.iinc 4 1, 3) := by decide +kernel
theorem dX11_together_200 : decode cX11_together 200 = .ok (.goto (-44), 3) := by decide +kernel
theorem dX11_together_203 : decode cX11_together 203 = .ok (.iconst 0, 1) := by decide +kernel
theorem dX11_together_204 : decode cX11_together 204 = .ok (.istore 4, 2) := by decide +kernel
theorem dX11_together_206 : decode cX11_together 206 = .ok (.iload 4, 2) := by decide +kernel
theorem dX11_together_208 : decode cX11_together 208 = .ok (.iload_n 1, 1) := by decide +kernel
theorem dX11_together_209 : decode cX11_together 209 = .ok (.if_icmp .ge 69, 3) := by decide +kernel
theorem dX11_together_212 : decode cX11_together 212 = .ok (.aload_n 0, 1) := by decide +kernel
theorem dX11_together_213 : decode cX11_together 213 = .ok (.getfield 126, 3) := by decide +kernel
theorem dX11_together_216 : decode cX11_together 216 = .ok (.aload_n 0, 1) := by decide +kernel
theorem dX11_together_217 : decode cX11_together 217 = .ok (.getfield 123, 3) := by decide +kernel
theorem dX11_together_220 : decode cX11_together 220 = .ok (.iload 4, 2) := by decide +kernel
theorem dX11_together_222 : decode cX11_together 222 = .ok (.iaload, 1) := by decide +kernel
theorem dX11_together_223 : decode cX11_together 223 = .ok (.aload_n 0, 1) := by decide +kernel
theorem dX11_together_224 : decode cX11_together 224 = .ok (.getfield 126, 3) := by decide +kernel
theorem dX11_together_227 : decode cX11_together 227 = .ok (.aload_n 0, 1) := by decide +kernel
theorem dX11_together_228 : decode cX11_together 228 = .ok (.getfield 123, 3) := by decide +kernel
theorem dX11_together_231 : decode cX11_together 231 = .ok (.iload 4, 2) := by decide +kernel
theorem dX11_together_233 : decode cX11_together 233 = .ok (.iaload, 1) := by decide +kernel
theorem dX11_together_234 : decode cX11_together 234 = .ok (.iaload, 1) := by decide +kernel
theorem dX11_together_235 : decode cX11_together 235 = .ok (.aload_n 0, 1) := by decide +kernel
theorem dX11_together_236 : decode cX11_together 236 = .ok (.getfield 32, 3) := by decide +kernel
theorem dX11_together_239 : decode cX11_together 239 = .ok (.iconst 2, 1) := by decide +kernel
theorem dX11_together_240 : decode cX11_together 240 = .ok (.iload 4, 2) := by decide +kernel
theorem dX11_together_242 : decode cX11_together 242 = .ok (.imul, 1) := by decide +kernel
theorem dX11_together_243 : decode cX11_together 243 = .ok (.baload, 1) := by decide +kernel
theorem dX11_together_244 : decode cX11_together 244 = .ok (.sipush 255, 3) := by decide +kernel
theorem dX11_together_247 : decode cX11_together 247 = .ok (.iand, 1) := by decide +kernel
theorem dX11_together_248 : decode cX11_together 248 = .ok (.sipush 256, 3) := by decide +kernel
theorem dX11_together_251 : decode cX11_together 251 = .ok (.imul, 1) := by decide +kernel
theorem dX11_together_252 : decode cX11_together 252 = .ok (.aload_n 0, 1) := by decide +kernel
theorem dX11_together_253 : decode cX11_together 253 = .ok (.getfield 32, 3) := by decide +kernel
theorem dX11_together_256 : decode cX11_together 256 = .ok (.iconst 2, 1) := by decide +kernel
theorem dX11_together_257 : decode cX11_together 257 = .ok (.iload 4, 2) := by decide +kernel
theorem dX11_together_259 : decode cX11_together 259 = .ok (.imul, 1) := by decide +kernel
theorem dX11_together_260 : decode cX11_together 260 = .ok (.iconst 1, 1) := by decide +kernel
theorem dX11_together_261 : decode cX11_together 261 = .ok (.iadd, 1) := by decide +kernel
theorem dX11_together_262 : decode cX11_together 262 = .ok (.baload, 1) := by decide +kernel
theorem dX11_together_263 : decode cX11_together 263 = .ok (.sipush 255, 3) := by decide +kernel
theorem dX11_together_266 : decode cX11_together 266 = .ok (.iand, 1) := by decide +kernel
theorem dX11_together_267 : decode cX11_together 267 = .ok (.iadd, 1) := by decide +kernel
theorem dX11_together_268 : decode cX11_together 268 = .ok (.invokestatic 416, 3) := by decide +kernel
theorem dX11_together_271 : decode cX11_together 271 = .ok (.iastore, 1) := by decide +kernel
theorem dX11_together_272 : decode cX11_together 272 = .ok (.iinc 4 1, 3) := by decide +kernel
theorem dX11_together_275 : decode cX11_together 275 = .ok (.goto (-69), 3) := by decide +kernel
theorem dX11_together_278 : decode cX11_together 278 = .ok (.iconst 0, 1) := by decide +kernel
theorem dX11_together_279 : decode cX11_together 279 = .ok (.istore 4, 2) := by decide +kernel
theorem dX11_together_281 : decode cX11_together 281 = .ok (.iconst 0, 1) := by decide +kernel
theorem dX11_together_282 : decode cX11_together 282 = .ok (.istore 5, 2) := by decide +kernel
theorem dX11_together_284 : decode cX11_together 284 = .ok (.iconst 0, 1) := by decide +kernel
theorem dX11_together_285 : decode cX11_together 285 = .ok (.istore 6, 2) := by decide +kernel
theorem dX11_together_287 : decode cX11_together 287 = .ok (.iconst 0, 1) := by decide +kernel
theorem dX11_together_288 : decode cX11_together 288 = .ok (.istore 7, 2) := by decide +kernel
theorem dX11_together_290 : decode cX11_together 290 = .ok (.iload 7, 2) := by decide +kernel
theorem dX11_together_292 : decode cX11_together 292 = .ok (.iload_n 1, 1) := by decide +kernel
theorem dX11_together_293 : decode cX11_together 293 = .ok (.if_icmp .ge 53, 3) := by decide +kernel
theorem dX11_together_296 : decode cX11_together 296 = .ok (.aload_n 0, 1) := by decide +kernel
theorem dX11_together_297 : decode cX11_together 297 = .ok (.getfield 123, 3) := by decide +kernel
theorem dX11_together_300 : decode cX11_together 300 = .ok (.iload 7, 2) := by decide +kernel
theorem dX11_together_302 : decode cX11_together 302 = .ok (.iaload, 1) := by decide +kernel
theorem dX11_together_303 : decode cX11_together 303 = .ok (.iload 7, 2) := by decide +kernel
theorem dX11_together_305 : decode cX11_together 305 = .ok (.if_icmp .ne 9, 3) := by decide +kernel
theorem dX11_together_308 : decode cX11_together 308 = .ok (.iload 5, 2) := by decide +kernel
theorem dX11_together_310 : decode cX11_together 310 = .ok (.iconst 1, 1) := by decide +kernel
theorem dX11_together_311 : decode cX11_together 311 = .ok (.iadd, 1) := by decide +kernel
theorem dX11_together_312 : decode cX11_together 312 = .ok (.istore 5, 2) := by decide +kernel
theorem dX11_together_314 : decode cX11_together 314 = .ok (.iload 4, 2) := by decide +kernel
theorem dX11_together_316 : decode cX11_together 316 = .ok (.aload_n 0, 1) := by decide +kernel
theorem dX11_together_317 : decode cX11_together 317 = .ok (.getfield 126, 3) := by decide +kernel
theorem dX11_together_320 : decode cX11_together 320 = .ok (.iload 7, 2) := by decide +kernel
theorem dX11_together_322 : decode cX11_together 322 = .ok (.iaload, 1) := by decide +kernel
theorem dX11_together_323 : decode cX11_together 323 = .ok (.iadd, 1) := by decide +kernel
theorem dX11_together_324 : decode cX11_together 324 = .ok (.istore 4, 2) := by decide +kernel
theorem dX11_together_326 : decode cX11_together 326 = .ok (.iload 6, 2) := by decide +kernel
theorem dX11_together_328 : decode cX11_together 328 = .ok (.aload_n 0, 1) := by decide +kernel
theorem dX11_together_329 : decode cX11_together 329 = .ok (.getfield 126, 3) := by decide +kernel
theorem dX11_together_332 : decode cX11_together 332 = .ok (.iload 7, 2) := by decide +kernel
theorem dX11_together_334 : decode cX11_together 334 = .ok (.iaload, 1) := by decide +kernel
theorem dX11_together_335 : decode cX11_together 335 = .ok (.invokestatic 416, 3) := by decide +kernel
theorem dX11_together_338 : decode cX11_together 338 = .ok (.istore 6, 2) := by decide +kernel
theorem dX11_together_340 : decode cX11_together 340 = .ok (.iinc 7 1, 3) := by decide +kernel
theorem dX11_together_343 : decode cX11_together 343 = .ok (.goto (-53), 3) := by decide +kernel
theorem dX11_together_346 : decode cX11_together 346 = .ok (.iload_n 2, 1) := by decide +kernel
theorem dX11_together_347 : decode cX11_together 347 = .ok (.ifCond .ne 8, 3) := by decide +kernel
theorem dX11_together_350 : decode cX11_together 350 = .ok (.iload 4, 2) := by decide +kernel
theorem dX11_together_352 : decode cX11_together 352 = .ok (.goto 15, 3) := by decide +kernel
theorem dX11_together_355 : decode cX11_together 355 = .ok (.iload_n 2, 1) := by decide +kernel
theorem dX11_together_356 : decode cX11_together 356 = .ok (.iconst 1, 1) := by decide +kernel
theorem dX11_together_357 : decode cX11_together 357 = .ok (.if_icmp .ne 8, 3) := by decide +kernel
theorem dX11_together_360 : decode cX11_together 360 = .ok (.iload 5, 2) := by decide +kernel
theorem dX11_together_362 : decode cX11_together 362 = .ok (.goto 5, 3) := by decide +kernel
theorem dX11_together_365 : decode cX11_together 365 = .ok (.iload 6, 2) := by decide +kernel
theorem dX11_together_367 : decode cX11_together 367 = .ok (.ireturn, 1) := by decide +kernel


set_option maxHeartbeats 4000000 in
set_option maxRecDepth 100000 in
theorem c_X11_areSpots (l : Launch) (D : va_G) (g : xG) (T : Nat × Nat × Nat) (h0 : Nat) (s0 : xS) (hσ : xRR s0) (n : Int) (rn : xR n) (hn : 0 ≤ n ∧ n ≤ 20) (p0 : IMn s0) (p1 : IMk s0) (p2 : IMo s0) : Met l yX11_areSpots (xws yX11_areSpots cX11_areSpots 3 (some .boolean)) { frames := 1, cells := 0, slots := 0, locals := 22 } (xP [.ref (h0 + 268), .int (xJ n)] D g T h0 s0) (xQi D g h0 (fun r τ => s0 = τ ∧ (r = 0 ∨ (r = 1 ∧ ∀ q : Int, 0 ≤ q → q < n → 0 ≤ s0 276 q ∧ s0 276 q ≤ 99)))) 0 0 (xA h0) := by
  refine x_met hσ (by decide) (Nat.le_of_ble_eq_true rfl) ?_
  intro p e s m args below meth c hx hb hr hml hown hT hlk hnm hE hW ls hl
  have hl : lv_has ls 3 [(0, .ref (h0 + 268)), (1, .int (xJ n))] := hl
  obtain ⟨Q, eQ⟩ : ∃ Q, Q = MQ below (xQi D g h0 (fun r τ => s0 = τ ∧ (r = 0 ∨ (r = 1 ∧ ∀ q : Int, 0 ≤ q → q < n → 0 ≤ s0 276 q ∧ s0 276 q ≤ 99)))) args s 0 0 (xA h0) := ⟨_, rfl⟩
  rw [← eQ]
  generalize hHe : ([] : List Loc) = locs at hW ⊢
  obtain ⟨H, eH⟩ : ∃ H, H = s.heap := ⟨_, rfl⟩
  rw [← eH] at hW ⊢
  have k268_8 : s0 268 8 = s0 268 8 := rfl
  have k268_58 : s0 268 58 = s0 268 58 := rfl
  refine x_iconst hx hb dX11_areSpots_0 ?_
  refine lv_istore_n (lv' := [(2, .int (xJ 0)), (0, .ref (h0 + 268)), (1, .int (xJ n))]) hx hb dX11_areSpots_1 rfl hl (by decide) rfl (fun ls hl => ?_)
  have L2 : ∀ (fu : Nat) (i2_2 : Int) (H : Heap) (locs : List Loc) (ls : Array Slot), (xR i2_2) → (0 ≤ i2_2 ∧ i2_2 ≤ n) → (∀ q : Int, 0 ≤ q → q < i2_2 → 0 ≤ s0 276 q ∧ s0 276 q ≤ 99) → (20 - i2_2).toNat < fu → xW D g h0 s H locs s0 → lv_has ls 3 [(0, .ref (h0 + 268)), (1, .int (xJ n)), (2, .int (xJ i2_2))] → W p l e { frames := 1, cells := 0, slots := 0, locals := 22 } s m args below meth c H locs 0 0 Q (F0 m 2 ls []) := by
    intro fu
    induction fu with
    | zero => intro i2_2 H locs ls ri2_2 v2_0 v2_1 hm; exact absurd hm (Nat.not_lt_zero _)
    | succ fu ih2 =>
      intro i2_2 H locs ls ri2_2 v2_0 v2_1 hm hW hl
      refine x_iload_n hx hb hl 2 rfl dX11_areSpots_2 rfl ?_
      refine x_iload_n hx hb hl 1 rfl dX11_areSpots_3 rfl ?_
      refine x_icmp_ge (tgt := 43) hx hb ri2_2 rn dX11_areSpots_4 (by decide) (fun c1 => ?_) (fun c1 => ?_)
      · skip
        refine x_iconst hx hb dX11_areSpots_43 ?_
        rw [eQ]
        exact x_zret hx hb hr hlk hW (by omega) ⟨rfl, by first | exact Or.inl rfl | exact Or.inr ⟨rfl, fun q h1 h2 => v2_1 q h1 (by omega)⟩⟩ dX11_areSpots_44
      refine x_aload_n hx hb hl 0 rfl dX11_areSpots_7 rfl ?_
      refine x_get (j := 7) (v := .ref (h0 + 276)) hx hb hown hT hE hW cls_X11 (Or.inl (by decide)) (so_268 h0 g _) (by decide) rfl wq1192 dX11_areSpots_8 ?_
      refine x_iload_n hx hb hl 2 rfl dX11_areSpots_11 rfl ?_
      refine x_bald hx hb hE hW (Or.inl (by decide)) (sa_276 h0 g _) (by omega) (by decide) dX11_areSpots_12 ?_
      refine x_rd hW (fun x2 ex2 rx2 => ?_)
      refine x_iconst hx hb dX11_areSpots_13 ?_
      refine x_bipush hx hb dX11_areSpots_14 (by decide) ?_
      refine x_goi (x_runS (As := [.int (xJ x2), .int (xJ 0), .int (xJ 99)]) hx hb hml hown hT hE hW hl.1 cf_X11_in wq1383 wq1382 (c_X11_in l D g T h0 s0 hW.2.1 x2 rx2 0 (by decide) 99 (by decide)) ⟨rfl, rfl, ⟨by decide, by decide⟩, ⟨by decide, by decide⟩⟩ rfl rfl (Nat.le_of_ble_eq_true rfl) dX11_areSpots_16) hW (fun x3 s4 H locs rx3 hp5 hW => ?_)
      obtain ⟨es4, hp5⟩ := hp5
      subst es4
      have ghp5 := hp5
      refine x_if_eq (tgt := 35) hx hb rx3 dX11_areSpots_19 (by decide) (fun c6 => ?_) (fun c6 => ?_)
      · skip
        refine x_iconst hx hb dX11_areSpots_35 ?_
        rw [eQ]
        exact x_zret hx hb hr hlk hW (by omega) ⟨rfl, by first | exact Or.inl rfl | exact Or.inr ⟨rfl, fun q h1 h2 => v2_1 q h1 (by omega)⟩⟩ dX11_areSpots_36
      refine x_aload_n hx hb hl 0 rfl dX11_areSpots_22 rfl ?_
      refine x_aload_n hx hb hl 0 rfl dX11_areSpots_23 rfl ?_
      refine x_get (j := 7) (v := .ref (h0 + 276)) hx hb hown hT hE hW cls_X11 (Or.inl (by decide)) (so_268 h0 g _) (by decide) rfl wq1192 dX11_areSpots_24 ?_
      refine x_iload_n hx hb hl 2 rfl dX11_areSpots_27 rfl ?_
      refine x_bald hx hb hE hW (Or.inl (by decide)) (sa_276 h0 g _) (by omega) (by decide) dX11_areSpots_28 ?_
      refine x_rd hW (fun x7 ex7 rx7 => ?_)
      refine x_goi (x_runV (As := [.int (xJ x7)]) hx hb hml hown hT hE hW hl.1 (Or.inl (by decide)) (so_268 h0 g _) rfl cf_X11_isGround wq1419 wq110 wq1417 (c_X11_isGround l D g T h0 s0 hW.2.1 x7 rx7 (by omega) p0 p1 p2) ⟨rfl, rfl, ⟨by decide, by decide⟩, ⟨by decide, by decide⟩⟩ rfl rfl (Nat.le_of_ble_eq_true rfl) dX11_areSpots_29) hW (fun x8 s9 H locs rx8 hp10 hW => ?_)
      obtain ⟨es9, hp10⟩ := hp10
      subst es9
      have ghp10 := hp10
      refine x_if_ne (tgt := 37) hx hb rx8 dX11_areSpots_32 (by decide) (fun c11 => ?_) (fun c11 => ?_)
      · skip
        refine x_iinc (lv' := [(2, .int (xJ (i2_2 + 1))), (0, .ref (h0 + 268)), (1, .int (xJ n))]) hx hb hl 2 rfl dX11_areSpots_37 (by decide) rfl (fun ls hl => ?_)
        refine lv_goto (tgt := 2) hx hb dX11_areSpots_40 (by decide) ?_
        exact ih2 (i2_2 + 1) H locs ls (by omega) (by omega) (fun q h1 h2 => by
                  by_cases hq : q < (i2_2 + 1) - 1
                  · exact v2_1 q h1 (by omega)
                  · rw [show q = i2_2 from by omega]; omega) (by omega) hW (lv_sub hl [1, 2, 0] rfl)
      refine x_iconst hx hb dX11_areSpots_35 ?_
      rw [eQ]
      exact x_zret hx hb hr hlk hW (by omega) ⟨rfl, by first | exact Or.inl rfl | exact Or.inr ⟨rfl, fun q h1 h2 => v2_1 q h1 (by omega)⟩⟩ dX11_areSpots_36
  exact L2 ((20 - 0 : Int).toNat + 1) 0 H locs ls (by decide) (by omega) (fun q h1 h2 => False.elim (by omega)) (Nat.lt_succ_self _) hW (lv_sub hl [1, 2, 0] rfl)
set_option maxHeartbeats 4000000 in
set_option maxRecDepth 100000 in
theorem c_X11_failsAt (l : Launch) (D : va_G) (g : xG) (T : Nat × Nat × Nat) (h0 : Nat) (s0 : xS) (hσ : xRR s0) (n : Int) (rn : xR n) (hn : 0 ≤ n ∧ n ≤ 20) (ht : ∀ q : Int, 0 ≤ q → q < n → 0 ≤ s0 276 q ∧ s0 276 q ≤ 99) (p0 : IMn s0) (p1 : IMk s0) (p2 : IMo s0) : Met l yX11_failsAt (xws yX11_failsAt cX11_failsAt 3 (some .int)) { frames := 4, cells := 0, slots := 0, locals := 93 } (xP [.ref (h0 + 268), .int (xJ n)] D g T h0 s0) (xQi D g h0 (fun r τ => xFr (fun k => k = 296) s0 τ ∧ (((IMn τ) ∧ (IMk τ) ∧ (IMo τ) ∧ True) ∧ (True)))) 0 0 (xA h0) := by
  refine x_met hσ (by decide) (Nat.le_of_ble_eq_true rfl) ?_
  intro p e s m args below meth c hx hb hr hml hown hT hlk hnm hE hW ls hl
  have hl : lv_has ls 3 [(0, .ref (h0 + 268)), (1, .int (xJ n))] := hl
  obtain ⟨Q, eQ⟩ : ∃ Q, Q = MQ below (xQi D g h0 (fun r τ => xFr (fun k => k = 296) s0 τ ∧ (((IMn τ) ∧ (IMk τ) ∧ (IMo τ) ∧ True) ∧ (True)))) args s 0 0 (xA h0) := ⟨_, rfl⟩
  rw [← eQ]
  generalize hHe : ([] : List Loc) = locs at hW ⊢
  obtain ⟨H, eH⟩ : ∃ H, H = s.heap := ⟨_, rfl⟩
  rw [← eH] at hW ⊢
  have hF : xFr (fun k => k = 296) s0 s0 := xFr.rf
  have k268_8 : s0 268 8 = s0 268 8 := rfl
  have k268_58 : s0 268 58 = s0 268 58 := rfl
  refine x_iconst hx hb dX11_failsAt_0 ?_
  refine lv_istore_n (lv' := [(2, .int (xJ 1)), (0, .ref (h0 + 268)), (1, .int (xJ n))]) hx hb dX11_failsAt_1 rfl hl (by decide) rfl (fun ls hl => ?_)
  have L2 : ∀ (fu : Nat) (i2_2 : Int) (s_2 : xS) (H : Heap) (locs : List Loc) (ls : Array Slot), (xR i2_2) → (xFr (fun k => k = 296) s0 s_2) → (IMn s_2) → (IMk s_2) → (IMo s_2) → (s_2 268 8 = s0 268 8) → (s_2 268 58 = s0 268 58) → (0 ≤ i2_2) → (1 ≤ i2_2) → (n + 1 - i2_2).toNat < fu → xW D g h0 s H locs s_2 → lv_has ls 3 [(0, .ref (h0 + 268)), (1, .int (xJ n)), (2, .int (xJ i2_2))] → W p l e { frames := 4, cells := 0, slots := 0, locals := 93 } s m args below meth c H locs 0 0 Q (F0 m 2 ls []) := by
    intro fu
    induction fu with
    | zero => intro i2_2 s_2 H locs ls ri2_2 hF_2 q2_0 q2_1 q2_2 q2_3 q2_4 v2_0 v2_1 hm; exact absurd hm (Nat.not_lt_zero _)
    | succ fu ih2 =>
      intro i2_2 s_2 H locs ls ri2_2 hF_2 q2_0 q2_1 q2_2 q2_3 q2_4 v2_0 v2_1 hm hW hl
      refine x_iload_n hx hb hl 2 rfl dX11_failsAt_2 rfl ?_
      refine x_iload_n hx hb hl 1 rfl dX11_failsAt_3 rfl ?_
      refine x_icmp_ge (tgt := 46) hx hb ri2_2 rn dX11_failsAt_4 (by decide) (fun c1 => ?_) (fun c1 => ?_)
      · skip
        refine x_iconst hx hb dX11_failsAt_46 ?_
        rw [eQ]
        exact x_iret hx hb hr hlk hW (by decide) ⟨hF_2, ⟨q2_0, q2_1, q2_2, trivial⟩, trivial⟩ dX11_failsAt_47
      refine x_aload_n hx hb hl 0 rfl dX11_failsAt_7 rfl ?_
      refine x_aload_n hx hb hl 0 rfl dX11_failsAt_8 rfl ?_
      refine x_get (j := 7) (v := .ref (h0 + 276)) hx hb hown hT hE hW cls_X11 (Or.inl (by decide)) (so_268 h0 g _) (by decide) rfl wq1192 dX11_failsAt_9 ?_
      refine x_iload_n hx hb hl 2 rfl dX11_failsAt_12 rfl ?_
      refine x_iconst hx hb dX11_failsAt_13 ?_
      refine x_isub hx hb dX11_failsAt_14 ?_
      refine x_bald hx hb hE hW (Or.inl (by decide)) (sa_276 h0 g _) (by omega) (by decide) dX11_failsAt_15 ?_
      refine x_rd hW (fun x2 ex2 rx2 => ?_)
      have tx2 : 0 ≤ x2 ∧ x2 ≤ 99 := by rw [ex2, hF_2 276 (by omega)]; exact ht _ (by omega) (by omega)
      refine x_iconst hx hb dX11_failsAt_16 ?_
      refine x_iconst hx hb dX11_failsAt_17 ?_
      refine x_gov (x_runV (As := [.int (xJ x2), .int (xJ 3), .int (xJ 1)]) hx hb hml hown hT hE hW hl.1 (Or.inl (by decide)) (so_268 h0 g _) rfl cf_X11_laysCosts wq1637 wq151 wq1635 (c_X11_laysCosts l D g T h0 s_2 hW.2.1 x2 rx2 3 (by decide) 1 (by decide) q2_0 q2_1 q2_2) ⟨rfl, rfl, ⟨by decide, by decide⟩, ⟨by decide, by decide⟩⟩ rfl rfl (Nat.le_of_ble_eq_true rfl) dX11_failsAt_18) hW (fun s4 H locs hp5 hW => ?_)
      obtain ⟨fs4, hp5⟩ := hp5
      have hF6 := hF_2.call fs4 (fun k h => by omega)
      have q7 : s4 268 8 = s0 268 8 := (congrFun (fs4 _ (by omega)) _).trans q2_3
      have q8 : s4 268 58 = s0 268 58 := (congrFun (fs4 _ (by omega)) _).trans q2_4
      have ghp5 := hp5.2
      refine x_aload_n hx hb hl 0 rfl dX11_failsAt_21 rfl ?_
      refine x_get (j := 45) (v := .ref (h0 + 296)) hx hb hown hT hE hW cls_X11 (Or.inl (by decide)) (so_268 h0 g _) (by decide) rfl wq1230 dX11_failsAt_22 ?_
      refine x_aload_n hx hb hl 0 rfl dX11_failsAt_25 rfl ?_
      refine x_get (j := 7) (v := .ref (h0 + 276)) hx hb hown hT hE hW cls_X11 (Or.inl (by decide)) (so_268 h0 g _) (by decide) rfl wq1192 dX11_failsAt_26 ?_
      refine x_iload_n hx hb hl 2 rfl dX11_failsAt_29 rfl ?_
      refine x_bald hx hb hE hW (Or.inl (by decide)) (sa_276 h0 g _) (by omega) (by decide) dX11_failsAt_30 ?_
      refine x_rd hW (fun x9 ex9 rx9 => ?_)
      have tx9 : 0 ≤ x9 ∧ x9 ≤ 99 := by rw [ex9, hF6 276 (by omega)]; exact ht _ (by omega) (by omega)
      refine x_iald hx hb hE hW (Or.inl (by decide)) (sa_296 h0 g _) (by omega) (by decide) dX11_failsAt_31 ?_
      refine x_rd hW (fun x10 ex10 rx10 => ?_)
      refine lv_ldcw (v := xJ 1000000000) hx hb hown (hT _ wq1622) dX11_failsAt_32 ?_
      refine x_icmp_ne (tgt := 40) hx hb rx10 (by decide) dX11_failsAt_35 (by decide) (fun c11 => ?_) (fun c11 => ?_)
      · skip
        refine x_iinc (lv' := [(2, .int (xJ (i2_2 + 1))), (0, .ref (h0 + 268)), (1, .int (xJ n))]) hx hb hl 2 rfl dX11_failsAt_40 (by decide) rfl (fun ls hl => ?_)
        refine lv_goto (tgt := 2) hx hb dX11_failsAt_43 (by decide) ?_
        exact ih2 (i2_2 + 1) s4 H locs ls (by omega) hF6 hp5.1.1 hp5.1.2.1 hp5.1.2.2.1 q7 q8 (by omega) (by omega) (by omega) hW (lv_sub hl [1, 2, 0] rfl)
      refine x_iload_n hx hb hl 2 rfl dX11_failsAt_38 rfl ?_
      rw [eQ]
      exact x_iret hx hb hr hlk hW ri2_2 ⟨hF6, ⟨hp5.1.1, hp5.1.2.1, hp5.1.2.2.1, trivial⟩, trivial⟩ dX11_failsAt_39
  exact L2 ((n + 1 - 1 : Int).toNat + 1) 1 s0 H locs ls (by decide) hF p0 p1 p2 k268_8 k268_58 (by omega) (by omega) (Nat.lt_succ_self _) hW (lv_sub hl [1, 2, 0] rfl)
set_option maxHeartbeats 4000000 in
set_option maxRecDepth 100000 in
theorem c_X11_binds (l : Launch) (D : va_G) (g : xG) (T : Nat × Nat × Nat) (h0 : Nat) (s0 : xS) (hσ : xRR s0) (a : Int) (ra : xR a) (b : Int) (rb : xR b) (n : Int) (rn : xR n) (hab : (0 ≤ a ∧ a ≤ 7) ∧ (0 ≤ b ∧ b ≤ 7) ∧ n ≤ 8) (p0 : IMn s0) (p1 : IMk s0) (p2 : IMo s0) : Met l yX11_binds (xws yX11_binds cX11_binds 7 none) { frames := 1, cells := 0, slots := 0, locals := 21 } (xP [.ref (h0 + 268), .int (xJ a), .int (xJ b), .int (xJ n)] D g T h0 s0) (xQv D g h0 (fun τ => xFr (fun k => k = 306) s0 τ ∧ (((IMn τ) ∧ (IMk τ) ∧ (IMo τ) ∧ True) ∧ (True)))) 0 0 (xA h0) := by
  refine x_met hσ (by decide) (Nat.le_of_ble_eq_true rfl) ?_
  intro p e s m args below meth c hx hb hr hml hown hT hlk hnm hE hW ls hl
  have hl : lv_has ls 7 [(0, .ref (h0 + 268)), (1, .int (xJ a)), (2, .int (xJ b)), (3, .int (xJ n))] := hl
  obtain ⟨Q, eQ⟩ : ∃ Q, Q = MQ below (xQv D g h0 (fun τ => xFr (fun k => k = 306) s0 τ ∧ (((IMn τ) ∧ (IMk τ) ∧ (IMo τ) ∧ True) ∧ (True)))) args s 0 0 (xA h0) := ⟨_, rfl⟩
  rw [← eQ]
  generalize hHe : ([] : List Loc) = locs at hW ⊢
  obtain ⟨H, eH⟩ : ∃ H, H = s.heap := ⟨_, rfl⟩
  rw [← eH] at hW ⊢
  have hF : xFr (fun k => k = 306) s0 s0 := xFr.rf
  have k268_8 : s0 268 8 = s0 268 8 := rfl
  have k268_58 : s0 268 58 = s0 268 58 := rfl
  refine x_aload_n hx hb hl 0 rfl dX11_binds_0 rfl ?_
  refine x_get (j := 56) (v := .ref (h0 + 306)) hx hb hown hT hE hW cls_X11 (Or.inl (by decide)) (so_268 h0 g _) (by decide) rfl wq1241 dX11_binds_1 ?_
  refine x_iload_n hx hb hl 1 rfl dX11_binds_4 rfl ?_
  refine x_iald hx hb hE hW (Or.inl (by decide)) (sa_306 h0 g _) (by omega) (by decide) dX11_binds_5 ?_
  refine x_rd hW (fun x1 ex1 rx1 => ?_)
  have bx1 : 0 ≤ x1 ∧ x1 ≤ 7 := by rw [ex1]; exact IMo.b p2 _ (by omega) (by omega)
  refine x_aload_n hx hb hl 0 rfl dX11_binds_6 rfl ?_
  refine x_get (j := 56) (v := .ref (h0 + 306)) hx hb hown hT hE hW cls_X11 (Or.inl (by decide)) (so_268 h0 g _) (by decide) rfl wq1241 dX11_binds_7 ?_
  refine x_iload_n hx hb hl 2 rfl dX11_binds_10 rfl ?_
  refine x_iald hx hb hE hW (Or.inl (by decide)) (sa_306 h0 g _) (by omega) (by decide) dX11_binds_11 ?_
  refine x_rd hW (fun x2 ex2 rx2 => ?_)
  have bx2 : 0 ≤ x2 ∧ x2 ≤ 7 := by rw [ex2]; exact IMo.b p2 _ (by omega) (by omega)
  refine x_goi (x_runS (As := [.int (xJ x1), .int (xJ x2)]) hx hb hml hown hT hE hW hl.1 cf_X11_min wq1640 wq1639 (c_X11_min l D g T h0 s0 hW.2.1 x1 rx1 x2 rx2) ⟨rfl, rfl, ⟨by decide, by decide⟩, ⟨by decide, by decide⟩⟩ rfl rfl (Nat.le_of_ble_eq_true rfl) dX11_binds_12) hW (fun x3 s4 H locs rx3 hp5 hW => ?_)
  obtain ⟨es4, hp5⟩ := hp5
  subst es4
  have ghp5 := hp5
  refine lv_istore (lv' := [(4, .int (xJ x3)), (0, .ref (h0 + 268)), (1, .int (xJ a)), (2, .int (xJ b)), (3, .int (xJ n))]) hx hb dX11_binds_15 hl (by decide) rfl (fun ls hl => ?_)
  refine x_aload_n hx hb hl 1 rfl dX11_binds_17 rfl ?_
  refine x_get (j := 56) (v := .ref (h0 + 306)) hx hb hown hT hE hW cls_X11 (Or.inl (by decide)) (so_268 h0 g _) (by decide) rfl wq1241 dX11_binds_18 ?_
  refine x_iload_n hx hb hl 2 rfl dX11_binds_21 rfl ?_
  refine x_iald hx hb hE hW (Or.inl (by decide)) (sa_306 h0 g _) (by omega) (by decide) dX11_binds_22 ?_
  refine x_rd hW (fun x6 ex6 rx6 => ?_)
  have bx6 : 0 ≤ x6 ∧ x6 ≤ 7 := by rw [ex6]; exact IMo.b p2 _ (by omega) (by omega)
  refine x_aload_n hx hb hl 1 rfl dX11_binds_23 rfl ?_
  refine x_get (j := 56) (v := .ref (h0 + 306)) hx hb hown hT hE hW cls_X11 (Or.inl (by decide)) (so_268 h0 g _) (by decide) rfl wq1241 dX11_binds_24 ?_
  refine x_iload_n hx hb hl 3 rfl dX11_binds_27 rfl ?_
  refine x_iald hx hb hE hW (Or.inl (by decide)) (sa_306 h0 g _) (by omega) (by decide) dX11_binds_28 ?_
  refine x_rd hW (fun x7 ex7 rx7 => ?_)
  have bx7 : 0 ≤ x7 ∧ x7 ≤ 7 := by rw [ex7]; exact IMo.b p2 _ (by omega) (by omega)
  refine x_goi (x_runS (As := [.int (xJ x6), .int (xJ x7)]) hx hb hml hown hT hE hW hl.1 cf_X11_max wq1677 wq1676 (c_X11_max l D g T h0 s0 hW.2.1 x6 rx6 x7 rx7) ⟨rfl, rfl, ⟨by decide, by decide⟩, ⟨by decide, by decide⟩⟩ rfl rfl (Nat.le_of_ble_eq_true rfl) dX11_binds_29) hW (fun x8 s9 H locs rx8 hp10 hW => ?_)
  obtain ⟨es9, hp10⟩ := hp10
  subst es9
  have ghp10 := hp10
  refine lv_istore (lv' := [(5, .int (xJ x8)), (4, .int (xJ x3)), (0, .ref (h0 + 268)), (1, .int (xJ a)), (2, .int (xJ b)), (3, .int (xJ n))]) hx hb dX11_binds_32 hl (by decide) rfl (fun ls hl => ?_)
  refine x_iconst hx hb dX11_binds_34 ?_
  refine lv_istore (lv' := [(6, .int (xJ 0)), (5, .int (xJ x8)), (4, .int (xJ x3)), (0, .ref (h0 + 268)), (1, .int (xJ a)), (2, .int (xJ b)), (3, .int (xJ n))]) hx hb dX11_binds_35 hl (by decide) rfl (fun ls hl => ?_)
  have L37 : ∀ (fu : Nat) (i6_37 : Int) (s_37 : xS) (H : Heap) (locs : List Loc) (ls : Array Slot), (xR i6_37) → (xFr (fun k => k = 306) s0 s_37) → (IMn s_37) → (IMk s_37) → (IMo s_37) → (s_37 268 8 = s0 268 8) → (s_37 268 58 = s0 268 58) → (0 ≤ i6_37) → (n + 1 - i6_37).toNat < fu → xW D g h0 s H locs s_37 → lv_has ls 7 [(0, .ref (h0 + 268)), (3, .int (xJ n)), (4, .int (xJ x3)), (5, .int (xJ x8)), (6, .int (xJ i6_37))] → W p l e { frames := 1, cells := 0, slots := 0, locals := 21 } s m args below meth c H locs 0 0 Q (F0 m 37 ls []) := by
    intro fu
    induction fu with
    | zero => intro i6_37 s_37 H locs ls ri6_37 hF_37 q37_0 q37_1 q37_2 q37_3 q37_4 v37_0 hm; exact absurd hm (Nat.not_lt_zero _)
    | succ fu ih37 =>
      intro i6_37 s_37 H locs ls ri6_37 hF_37 q37_0 q37_1 q37_2 q37_3 q37_4 v37_0 hm hW hl
      refine x_iload hx hb hl 4 rfl dX11_binds_37 ?_
      refine x_iload_n hx hb hl 1 rfl dX11_binds_39 rfl ?_
      refine x_icmp_ge (tgt := 70) hx hb ri6_37 rn dX11_binds_40 (by decide) (fun c11 => ?_) (fun c11 => ?_)
      · skip
        rw [eQ]
        exact x_vret hx hb hr hlk hW ⟨hF_37, ⟨q37_0, q37_1, q37_2, trivial⟩, trivial⟩ dX11_binds_70
      refine x_aload_n hx hb hl 0 rfl dX11_binds_43 rfl ?_
      refine x_get (j := 56) (v := .ref (h0 + 306)) hx hb hown hT hE hW cls_X11 (Or.inl (by decide)) (so_268 h0 g _) (by decide) rfl wq1241 dX11_binds_44 ?_
      refine x_iload hx hb hl 4 rfl dX11_binds_47 ?_
      refine x_iald hx hb hE hW (Or.inl (by decide)) (sa_306 h0 g _) (by omega) (by decide) dX11_binds_49 ?_
      refine x_rd hW (fun x12 ex12 rx12 => ?_)
      have bx12 : 0 ≤ x12 ∧ x12 ≤ 7 := by rw [ex12]; exact IMo.b q37_2 _ (by omega) (by omega)
      refine x_iload hx hb hl 3 rfl dX11_binds_50 ?_
      refine x_icmp_ne (tgt := 64) hx hb rx12 rx8 dX11_binds_52 (by decide) (fun c13 => ?_) (fun c13 => ?_)
      · skip
        refine x_iinc (lv' := [(6, .int (xJ (i6_37 + 1))), (0, .ref (h0 + 268)), (3, .int (xJ n)), (4, .int (xJ x3)), (5, .int (xJ x8))]) hx hb hl 4 rfl dX11_binds_64 (by decide) rfl (fun ls hl => ?_)
        refine lv_goto (tgt := 37) hx hb dX11_binds_67 (by decide) ?_
        exact ih37 (i6_37 + 1) s_37 H locs ls (by omega) hF_37 q37_0 q37_1 q37_2 q37_3 q37_4 (by omega) (by omega) hW (lv_sub hl [1, 2, 3, 4, 0] rfl)
      refine x_aload_n hx hb hl 0 rfl dX11_binds_55 rfl ?_
      refine x_get (j := 56) (v := .ref (h0 + 306)) hx hb hown hT hE hW cls_X11 (Or.inl (by decide)) (so_268 h0 g _) (by decide) rfl wq1241 dX11_binds_56 ?_
      refine x_iload hx hb hl 4 rfl dX11_binds_59 ?_
      refine x_iload hx hb hl 2 rfl dX11_binds_61 ?_
      refine x_iast hx hb hE hW (by decide) (fun σ => sa_306 h0 g σ) (by omega) (by decide) rx3 dX11_binds_63 (fun H locs s14 es14 hW => ?_)
      have q15 : IMn s14 := by rw [es14]; exact IMn_o (by unfold suIMn; omega) q37_0
      have q16 : IMk s14 := by rw [es14]; exact IMk_o (by unfold suIMk; omega) q37_1
      have q17 : IMo s14 := by rw [es14]; exact IMo_306 q37_2 (by omega)
      have q18 : s14 268 8 = s0 268 8 := (show s14 268 8 = s_37 268 8 from by rw [es14, xU_k _ _ _ (by omega)]).trans q37_3
      have q19 : s14 268 58 = s0 268 58 := (show s14 268 58 = s_37 268 58 from by rw [es14, xU_k _ _ _ (by omega)]).trans q37_4
      have hF20 := hF_37.put es14 (by omega)
      refine x_iinc (lv' := [(6, .int (xJ (i6_37 + 1))), (0, .ref (h0 + 268)), (3, .int (xJ n)), (4, .int (xJ x3)), (5, .int (xJ x8))]) hx hb hl 4 rfl dX11_binds_64 (by decide) rfl (fun ls hl => ?_)
      refine lv_goto (tgt := 37) hx hb dX11_binds_67 (by decide) ?_
      exact ih37 (i6_37 + 1) s14 H locs ls (by omega) hF20 q15 q16 q17 q18 q19 (by omega) (by omega) hW (lv_sub hl [1, 2, 3, 4, 0] rfl)
  exact L37 ((n + 1 - 0 : Int).toNat + 1) 0 s0 H locs ls (by decide) hF p0 p1 p2 k268_8 k268_58 (by omega) (Nat.lt_succ_self _) hW (lv_sub hl [3, 6, 2, 1, 0] rfl)

theorem st_X11_9 (h0 : Nat) (σ : xS) (k : Nat) (a : Int) : xobj h0 (xU σ k 9 a) k 11 = (xobj h0 σ k 11).set 9 (.int (xJ a)) := by simp [xobj, xU]
theorem ln_X11_9 (h0 : Nat) (σ : xS) (k : Nat) : 9 < (xobj h0 σ k 11).length := by simp [xobj]
theorem st_X11_11 (h0 : Nat) (σ : xS) (k : Nat) (a : Int) : xobj h0 (xU σ k 11 a) k 11 = (xobj h0 σ k 11).set 11 (.int (xJ a)) := by simp [xobj, xU]
theorem ln_X11_11 (h0 : Nat) (σ : xS) (k : Nat) : 11 < (xobj h0 σ k 11).length := by simp [xobj]
theorem st_X11_14 (h0 : Nat) (σ : xS) (k : Nat) (a : Int) : xobj h0 (xU σ k 14 a) k 11 = (xobj h0 σ k 11).set 14 (.int (xJ a)) := by simp [xobj, xU]
theorem ln_X11_14 (h0 : Nat) (σ : xS) (k : Nat) : 14 < (xobj h0 σ k 11).length := by simp [xobj]
theorem cf_X11_here : xCF yX11_here cX11_here 1 (some .int) 0 := ⟨xq 1392 (by decide +kernel) rfl, xq 179 (by decide +kernel) rfl, by decide +kernel⟩
theorem cf_X11_wrongAt : xCF yX11_wrongAt cX11_wrongAt 3 (some .boolean) 2 := ⟨xq 1402 (by decide +kernel) rfl, xq 179 (by decide +kernel) rfl, by decide +kernel⟩
theorem wq106 : Cond.selects yX11_here.cls yX11_here yX11_here ∈ xTB := xq 106 (by decide +kernel) rfl
theorem wq107 : Cond.selects yX11_wrongAt.cls yX11_wrongAt yX11_wrongAt ∈ xTB := xq 107 (by decide +kernel) rfl
theorem wq1194 : Cond.fieldLink "ShadowCourtModel" (171) "ShadowCourtModel" "place0" "I" ∈ xTB := xq 1194 (by decide +kernel) rfl
theorem wq1195 : Cond.fieldLink "ShadowCourtModel" (174) "ShadowCourtModel" "length0" "I" ∈ xTB := xq 1195 (by decide +kernel) rfl
theorem wq1196 : Cond.fieldLink "ShadowCourtModel" (181) "ShadowCourtModel" "fault" "I" ∈ xTB := xq 1196 (by decide +kernel) rfl
theorem wq1199 : Cond.fieldLink "ShadowCourtModel" (194) "ShadowCourtModel" "codeMany" "I" ∈ xTB := xq 1199 (by decide +kernel) rfl
theorem wq1203 : Cond.fieldLink "ShadowCourtModel" (35) "ShadowCourtModel" "said" "[I" ∈ xTB := xq 1203 (by decide +kernel) rfl
theorem wq1204 : Cond.fieldLink "ShadowCourtModel" (38) "ShadowCourtModel" "waitsAt" "[I" ∈ xTB := xq 1204 (by decide +kernel) rfl
theorem wq1389 : Cond.methodLink "ShadowCourtModel" (177) yX11_here ∈ xTB := xq 1389 (by decide +kernel) rfl
theorem wq1391 : Cond.instanceMethod yX11_here ∈ xTB := xq 1391 (by decide +kernel) rfl
theorem wq1399 : Cond.methodLink "ShadowCourtModel" (184) yX11_wrongAt ∈ xTB := xq 1399 (by decide +kernel) rfl
theorem wq1401 : Cond.instanceMethod yX11_wrongAt ∈ xTB := xq 1401 (by decide +kernel) rfl
theorem dX11_here_0 : decode cX11_here 0 = .ok (.aload_n 0, 1) := by decide +kernel
theorem dX11_here_1 : decode cX11_here 1 = .ok (.getfield 171, 3) := by decide +kernel
theorem dX11_here_4 : decode cX11_here 4 = .ok (.aload_n 0, 1) := by decide +kernel
theorem dX11_here_5 : decode cX11_here 5 = .ok (.getfield 174, 3) := by decide +kernel
theorem dX11_here_8 : decode cX11_here 8 = .ok (.if_icmp .ge 19, 3) := by decide +kernel
theorem dX11_here_11 : decode cX11_here 11 = .ok (.aload_n 0, 1) := by decide +kernel
theorem dX11_here_12 : decode cX11_here 12 = .ok (.getfield 32, 3) := by decide +kernel
theorem dX11_here_15 : decode cX11_here 15 = .ok (.aload_n 0, 1) := by decide +kernel
theorem dX11_here_16 : decode cX11_here 16 = .ok (.getfield 171, 3) := by decide +kernel
theorem dX11_here_19 : decode cX11_here 19 = .ok (.baload, 1) := by decide +kernel
theorem dX11_here_20 : decode cX11_here 20 = .ok (.sipush 255, 3) := by decide +kernel
theorem dX11_here_23 : decode cX11_here 23 = .ok (.iand, 1) := by decide +kernel
theorem dX11_here_24 : decode cX11_here 24 = .ok (.goto 4, 3) := by decide +kernel
theorem dX11_here_27 : decode cX11_here 27 = .ok (.iconst (-1), 1) := by decide +kernel
theorem dX11_here_28 : decode cX11_here 28 = .ok (.ireturn, 1) := by decide +kernel
theorem dX11_isSpotSign_0 : decode cX11_isSpotSign 0 = .ok (.iload_n 0, 1) := by decide +kernel
theorem dX11_isSpotSign_1 : decode cX11_isSpotSign 1 = .ok (.bipush 46, 2) := by decide +kernel
theorem dX11_isSpotSign_3 : decode cX11_isSpotSign 3 = .ok (.if_icmp .eq 21, 3) := by decide +kernel
theorem dX11_isSpotSign_6 : decode cX11_isSpotSign 6 = .ok (.iload_n 0, 1) := by decide +kernel
theorem dX11_isSpotSign_7 : decode cX11_isSpotSign 7 = .ok (.bipush 35, 2) := by decide +kernel
theorem dX11_isSpotSign_9 : decode cX11_isSpotSign 9 = .ok (.if_icmp .eq 15, 3) := by decide +kernel
theorem dX11_isSpotSign_12 : decode cX11_isSpotSign 12 = .ok (.iload_n 0, 1) := by decide +kernel
theorem dX11_isSpotSign_13 : decode cX11_isSpotSign 13 = .ok (.bipush 115, 2) := by decide +kernel
theorem dX11_isSpotSign_15 : decode cX11_isSpotSign 15 = .ok (.if_icmp .eq 9, 3) := by decide +kernel
theorem dX11_isSpotSign_18 : decode cX11_isSpotSign 18 = .ok (.iload_n 0, 1) := by decide +kernel
theorem dX11_isSpotSign_19 : decode cX11_isSpotSign 19 = .ok (.bipush 114, 2) := by decide +kernel
theorem dX11_isSpotSign_21 : decode cX11_isSpotSign 21 = .ok (.if_icmp .ne 7, 3) := by decide +kernel
theorem dX11_isSpotSign_24 : decode cX11_isSpotSign 24 = .ok (.iconst 1, 1) := by decide +kernel
theorem dX11_isSpotSign_25 : decode cX11_isSpotSign 25 = .ok (.goto 4, 3) := by decide +kernel
theorem dX11_isSpotSign_28 : decode cX11_isSpotSign 28 = .ok (.iconst 0, 1) := by decide +kernel
theorem dX11_isSpotSign_29 : decode cX11_isSpotSign 29 = .ok (.ireturn, 1) := by decide +kernel
theorem dX11_isTimes_0 : decode cX11_isTimes 0 = .ok (.iload_n 0, 1) := by decide +kernel
theorem dX11_isTimes_1 : decode cX11_isTimes 1 = .ok (.bipush 48, 2) := by decide +kernel
theorem dX11_isTimes_3 : decode cX11_isTimes 3 = .ok (.if_icmp .eq 14, 3) := by decide +kernel
theorem dX11_isTimes_6 : decode cX11_isTimes 6 = .ok (.iload_n 0, 1) := by decide +kernel
theorem dX11_isTimes_7 : decode cX11_isTimes 7 = .ok (.bipush 50, 2) := by decide +kernel
theorem dX11_isTimes_9 : decode cX11_isTimes 9 = .ok (.bipush 57, 2) := by decide +kernel
theorem dX11_isTimes_11 : decode cX11_isTimes 11 = .ok (.invokestatic 150, 3) := by decide +kernel
theorem dX11_isTimes_14 : decode cX11_isTimes 14 = .ok (.ifCond .eq 7, 3) := by decide +kernel
theorem dX11_isTimes_17 : decode cX11_isTimes 17 = .ok (.iconst 1, 1) := by decide +kernel
theorem dX11_isTimes_18 : decode cX11_isTimes 18 = .ok (.goto 4, 3) := by decide +kernel
theorem dX11_isTimes_21 : decode cX11_isTimes 21 = .ok (.iconst 0, 1) := by decide +kernel
theorem dX11_isTimes_22 : decode cX11_isTimes 22 = .ok (.ireturn, 1) := by decide +kernel
theorem dX11_takes_0 : decode cX11_takes 0 = .ok (.aload_n 0, 1) := by decide +kernel
theorem dX11_takes_1 : decode cX11_takes 1 = .ok (.invokevirtual 177, 3) := by decide +kernel
theorem dX11_takes_4 : decode cX11_takes 4 = .ok (.iload_n 1, 1) := by decide +kernel
theorem dX11_takes_5 : decode cX11_takes 5 = .ok (.if_icmp .eq 13, 3) := by decide +kernel
theorem dX11_takes_8 : decode cX11_takes 8 = .ok (.aload_n 0, 1) := by decide +kernel
theorem dX11_takes_9 : decode cX11_takes 9 = .ok (.iconst 1, 1) := by decide +kernel
theorem dX11_takes_10 : decode cX11_takes 10 = .ok (.aload_n 0, 1) := by decide +kernel
theorem dX11_takes_11 : decode cX11_takes 11 = .ok (.getfield 171, 3) := by decide +kernel
theorem dX11_takes_14 : decode cX11_takes 14 = .ok (.invokevirtual 184, 3) := by decide +kernel
theorem dX11_takes_17 : decode cX11_takes 17 = .ok (.ireturn, 1) := by decide +kernel
theorem dX11_takes_18 : decode cX11_takes 18 = .ok (.aload_n 0, 1) := by decide +kernel
theorem dX11_takes_19 : decode cX11_takes 19 = .ok (.aload_n 0, 1) := by decide +kernel
theorem dX11_takes_20 : decode cX11_takes 20 = .ok (.getfield 171, 3) := by decide +kernel
theorem dX11_takes_23 : decode cX11_takes 23 = .ok (.iconst 1, 1) := by decide +kernel
theorem dX11_takes_24 : decode cX11_takes 24 = .ok (.iadd, 1) := by decide +kernel
theorem dX11_takes_25 : decode cX11_takes 25 = .ok (.putfield 171, 3) := by decide +kernel
theorem dX11_takes_28 : decode cX11_takes 28 = .ok (.iconst 1, 1) := by decide +kernel
theorem dX11_takes_29 : decode cX11_takes 29 = .ok (.ireturn, 1) := by decide +kernel
theorem dX11_wayOf_0 : decode cX11_wayOf 0 = .ok (.iload_n 0, 1) := by decide +kernel
theorem dX11_wayOf_1 : decode cX11_wayOf 1 = .ok (.lookupswitch 63 #[(46, 60), (101, 53), (110, 51), (115, 55), (119, 57)], 51) := by decide +kernel
theorem dX11_wayOf_52 : decode cX11_wayOf 52 = .ok (.iconst 0, 1) := by decide +kernel
theorem dX11_wayOf_53 : decode cX11_wayOf 53 = .ok (.ireturn, 1) := by decide +kernel
theorem dX11_wayOf_54 : decode cX11_wayOf 54 = .ok (.iconst 2, 1) := by decide +kernel
theorem dX11_wayOf_55 : decode cX11_wayOf 55 = .ok (.ireturn, 1) := by decide +kernel
theorem dX11_wayOf_56 : decode cX11_wayOf 56 = .ok (.iconst 4, 1) := by decide +kernel
theorem dX11_wayOf_57 : decode cX11_wayOf 57 = .ok (.ireturn, 1) := by decide +kernel
theorem dX11_wayOf_58 : decode cX11_wayOf 58 = .ok (.bipush 6, 2) := by decide +kernel
theorem dX11_wayOf_60 : decode cX11_wayOf 60 = .ok (.ireturn, 1) := by decide +kernel
theorem dX11_wayOf_61 : decode cX11_wayOf 61 = .ok (.bipush 8, 2) := by decide +kernel
theorem dX11_wayOf_63 : decode cX11_wayOf 63 = .ok (.ireturn, 1) := by decide +kernel
theorem dX11_wayOf_64 : decode cX11_wayOf 64 = .ok (.iconst (-1), 1) := by decide +kernel
theorem dX11_wayOf_65 : decode cX11_wayOf 65 = .ok (.ireturn, 1) := by decide +kernel
theorem dX11_wrongAt_0 : decode cX11_wrongAt 0 = .ok (.aload_n 0, 1) := by decide +kernel
theorem dX11_wrongAt_1 : decode cX11_wrongAt 1 = .ok (.sipush (-1000), 3) := by decide +kernel
theorem dX11_wrongAt_4 : decode cX11_wrongAt 4 = .ok (.iload_n 1, 1) := by decide +kernel
theorem dX11_wrongAt_5 : decode cX11_wrongAt 5 = .ok (.imul, 1) := by decide +kernel
theorem dX11_wrongAt_6 : decode cX11_wrongAt 6 = .ok (.iload_n 2, 1) := by decide +kernel
theorem dX11_wrongAt_7 : decode cX11_wrongAt 7 = .ok (.isub, 1) := by decide +kernel
theorem dX11_wrongAt_8 : decode cX11_wrongAt 8 = .ok (.putfield 181, 3) := by decide +kernel
theorem dX11_wrongAt_11 : decode cX11_wrongAt 11 = .ok (.iconst 0, 1) := by decide +kernel
theorem dX11_wrongAt_12 : decode cX11_wrongAt 12 = .ok (.ireturn, 1) := by decide +kernel


/-! ===== the reader of a law's text ===== -/
def zhC (σ : xS) : Int := if σ 268 9 < σ 268 10 then σ 276 (σ 268 9) % 256 else -1
theorem zhC_in {σ : xS} (h : σ 268 9 < σ 268 10) : zhC σ = σ 276 (σ 268 9) % 256 := if_pos h
theorem zhC_out {σ : xS} (h : σ 268 10 ≤ σ 268 9) : zhC σ = -1 := if_neg (by omega)
def ztW (σ : xS) : Int := if σ 268 15 = 0 then -1 else σ 278 (σ 268 15 - 1) / 1048576
theorem ztW_0 {σ : xS} (h : σ 268 15 = 0) : ztW σ = -1 := if_pos h
theorem ztW_1 {σ : xS} (h : σ 268 15 ≠ 0) : ztW σ = σ 278 (σ 268 15 - 1) / 1048576 := if_neg h
def zNB (d n : Int) : Prop := (d = 0 ∧ 0 ≤ n ∧ n ≤ 0) ∨ (d = 1 ∧ 0 ≤ n ∧ n ≤ 9) ∨ (d = 2 ∧ 0 ≤ n ∧ n ≤ 99) ∨ (d = 3 ∧ 0 ≤ n ∧ n ≤ 999) ∨ (d = 4 ∧ 0 ≤ n ∧ n ≤ 9999) ∨ (d = 5 ∧ 0 ≤ n ∧ n ≤ 99999)
theorem zNB_0 {d n : Int} (h : d = 0) (h2 : n = 0) : zNB d n := Or.inl ⟨h, by omega⟩
theorem zNB_le {d n : Int} (h : zNB d n) : (0 ≤ d ∧ d ≤ 5) ∧ 0 ≤ n ∧ n ≤ 99999 := by unfold zNB at h; omega
theorem zNB_s {d n d2 n2 : Int} (h : zNB d n) (h5 : d ≠ 5) (e : d2 = d + 1) (h2 : 10 * n ≤ n2 ∧ n2 ≤ 10 * n + 9) : zNB d2 n2 := by unfold zNB at h ⊢; omega
def zcnt (lo hi : Int) (w : Int → Int) (b : Int) : Nat → Int
  | 0 => 0
  | n + 1 => zcnt lo hi w b n + (if lo ≤ w (b + n) ∧ w (b + n) < hi then 1 else 0)
theorem zcnt_s {lo hi b : Int} {w : Int → Int} (n : Nat) : zcnt lo hi w b (n + 1) = zcnt lo hi w b n + (if lo ≤ w (b + n) ∧ w (b + n) < hi then 1 else 0) := rfl
def zcI (lo hi : Int) (w : Int → Int) (b m : Int) : Int := zcnt lo hi w b (m - b).toNat
theorem zcnt_f {lo hi b : Int} {w w2 : Int → Int} : ∀ n : Nat, (∀ i, b ≤ i → i < b + n → w2 i = w i) → zcnt lo hi w2 b n = zcnt lo hi w b n
  | 0, _ => rfl
  | n + 1, h => by
    unfold zcnt
    rw [zcnt_f n (fun i h1 h2 => h i h1 (by omega)), h (b + n) (by omega) (by omega)]
theorem zcnt_n {lo hi b : Int} {w : Int → Int} : ∀ n : Nat, 0 ≤ zcnt lo hi w b n
  | 0 => Int.le_refl _
  | n + 1 => by
    have := zcnt_n (lo := lo) (hi := hi) (b := b) (w := w) n
    unfold zcnt
    split <;> omega
theorem zcI_n {lo hi b m : Int} {w : Int → Int} : 0 ≤ zcI lo hi w b m := zcnt_n _
theorem zcI_0 {lo hi b : Int} {w : Int → Int} : zcI lo hi w b b = 0 := by
  unfold zcI
  rw [show (b - b).toNat = 0 from by omega]
  rfl
theorem zcI_f {lo hi b m : Int} {w w2 : Int → Int} (h : ∀ i, b ≤ i → i < m → w2 i = w i) : zcI lo hi w2 b m = zcI lo hi w b m :=
  zcnt_f _ (fun i h1 h2 => h i h1 (by omega))
theorem zcI_s {lo hi b m : Int} {w : Int → Int} (h : b ≤ m) : zcI lo hi w b (m + 1) = zcI lo hi w b m + (if lo ≤ w m ∧ w m < hi then 1 else 0) := by
  unfold zcI
  rw [show (m + 1 - b).toNat = (m - b).toNat + 1 from by omega, zcnt_s, show b + (((m - b).toNat : Nat) : Int) = m from by omega]
theorem zcI_y {lo hi b m : Int} {w : Int → Int} (h : b ≤ m) (h1 : lo ≤ w m ∧ w m < hi) : zcI lo hi w b (m + 1) = zcI lo hi w b m + 1 := by rw [zcI_s h, if_pos h1]
theorem zcI_z {lo hi b m : Int} {w : Int → Int} (h : b ≤ m) (h1 : w m < lo ∨ hi ≤ w m) : zcI lo hi w b (m + 1) = zcI lo hi w b m := by rw [zcI_s h, if_neg (by omega)]; omega
theorem zcI_xud {lo hi b m v : Int} {w : Int → Int} : zcI lo hi (xud w m v) b m = zcI lo hi w b m := zcI_f (fun i _ h => xud_o w v (by omega))
/-- one place of the code: d the depths, w the waiting ones -/
def zokc (c w d : Int → Int) (C W k : Int) : Prop := 0 ≤ c k ∧
  ((c k < 1048576 ∧ d (k + 1) = d k + 1) ∨ ((1048576 ≤ c k ∧ c k < 1048583) ∧ d (k + 1) = d k + 1) ∨
   ((10485760 ≤ c k ∧ c k < 11534336) ∧ 1 ≤ d k ∧ d (k + 1) = d k) ∨
   ((11534336 ≤ c k ∧ c k < 13631488) ∧ d k = 1 ∧ d (k + 1) = 0 ∧ ((k < c k % 1048576 ∧ c k % 1048576 ≤ C ∧ d (c k % 1048576) = 1) ∨ ∃ i, 0 ≤ i ∧ i < W ∧ w i % 1048576 = k ∧ 11534336 ≤ w i ∧ w i < 13631488)) ∨
   ((2097152 ≤ c k ∧ c k < 10485760) ∧ 2 ≤ d k ∧ d (k + 1) = d k - 1))
def zokw (c w d : Int → Int) (a C i : Int) : Prop := a ≤ w i % 1048576 ∧ w i % 1048576 < C ∧ (11534336 ≤ c (w i % 1048576) ∧ c (w i % 1048576) < 13631488) ∧ d (w i % 1048576) = 1
def zDC (c w : Int → Int) (C W a D : Int) : Prop := ∃ d : Int → Int, d a = 0 ∧ d C = D ∧ (∀ k, a ≤ k → k < C → zokc c w d C W k) ∧ (∀ k, a ≤ k → k ≤ C → 0 ≤ d k ∧ d k ≤ k - a) ∧ ∀ i, 0 ≤ i → i < W → 11534336 ≤ w i → w i < 13631488 → zokw c w d a C i
theorem zDC_new (c w : Int → Int) (a : Int) : zDC c w a 0 a 0 := ⟨fun _ => 0, rfl, rfl, fun k h1 h2 => by omega, fun k h1 h2 => ⟨Int.le_refl _, by show (0 : Int) ≤ k - a; omega⟩, fun i h1 h2 => by omega⟩
theorem zokc_w {c w w2 d : Int → Int} {C W W2 k : Int} (h : zokc c w d C W k) (hw : ∀ i, 0 ≤ i → i < W → 11534336 ≤ w i → w i < 13631488 → i < W2 ∧ w2 i = w i) : zokc c w2 d C W2 k := by
  obtain ⟨h0, h⟩ := h
  refine ⟨h0, ?_⟩
  rcases h with h | h | h | ⟨h1, h2, h3, h4 | ⟨i, i1, i2, i3, i4, i5⟩⟩ | h
  · exact Or.inl h
  · exact Or.inr (Or.inl h)
  · exact Or.inr (Or.inr (Or.inl h))
  · exact Or.inr (Or.inr (Or.inr (Or.inl ⟨h1, h2, h3, Or.inl h4⟩)))
  · have q := hw i i1 i2 i4 i5
    exact Or.inr (Or.inr (Or.inr (Or.inl ⟨h1, h2, h3, Or.inr ⟨i, i1, q.1, by rw [q.2]; exact i3, by rw [q.2]; exact i4, by rw [q.2]; exact i5⟩⟩)))
  · exact Or.inr (Or.inr (Or.inr (Or.inr h)))
theorem zDC_pop {c w : Int → Int} {C W a D : Int} (h : zDC c w C W a D) (hv : w (W - 1) < 11534336 ∨ 13631488 ≤ w (W - 1)) : zDC c w C (W - 1) a D := by
  obtain ⟨d, h1, h2, h3, h4, h5⟩ := h
  refine ⟨d, h1, h2, fun k k1 k2 => zokc_w (h3 k k1 k2) (fun i i1 i2 i3 i4 => ⟨?_, rfl⟩), h4, fun i i1 i2 => h5 i i1 (by omega)⟩
  by_cases e : i = W - 1
  · subst e; omega
  · omega
theorem zDC_push {c w : Int → Int} {C W a D v : Int} (h : zDC c w C W a D) (hv : v < 11534336 ∨ 13631488 ≤ v) : zDC c (xud w W v) C (W + 1) a D := by
  obtain ⟨d, h1, h2, h3, h4, h5⟩ := h
  refine ⟨d, h1, h2, fun k k1 k2 => zokc_w (h3 k k1 k2) (fun i i1 i2 i3 i4 => ⟨by omega, xud_o w v (by omega)⟩), h4, fun i i1 i2 i3 i4 => ?_⟩
  by_cases e : i = W
  · subst e; rw [xud_s] at i3 i4; omega
  · have q : xud w W v i = w i := xud_o w v e
    rw [q] at i3 i4
    unfold zokw
    rw [q]
    exact h5 i i1 (by omega) i3 i4
theorem zokc_c {c c2 w d d2 : Int → Int} {C C2 W k : Int} (h : zokc c w d C W k) (hc : c2 k = c k) (hd : ∀ q, q ≤ C → d2 q = d q) (hk : k < C) (zhC : C ≤ C2) : zokc c2 w d2 C2 W k := by
  unfold zokc at h ⊢
  rw [hc, hd k (by omega), hd (k + 1) (by omega)]
  obtain ⟨h0, h⟩ := h
  refine ⟨h0, ?_⟩
  rcases h with h | h | h | ⟨h1, h2, h3, h4 | h4⟩ | h
  · exact Or.inl h
  · exact Or.inr (Or.inl h)
  · exact Or.inr (Or.inr (Or.inl h))
  · exact Or.inr (Or.inr (Or.inr (Or.inl ⟨h1, h2, h3, Or.inl ⟨h4.1, by omega, by rw [hd _ h4.2.1]; exact h4.2.2⟩⟩)))
  · exact Or.inr (Or.inr (Or.inr (Or.inl ⟨h1, h2, h3, Or.inr h4⟩)))
  · exact Or.inr (Or.inr (Or.inr (Or.inr h)))
/-- one code more, none that jumps -/
theorem zDC_note {c w : Int → Int} {C W a D D2 v : Int} (h : zDC c w C W a D) (ha : a ≤ C) (hv : 0 ≤ v) (hD : (v < 1048583 ∧ D2 = D + 1) ∨ ((10485760 ≤ v ∧ v < 11534336) ∧ 1 ≤ D ∧ D2 = D) ∨ ((2097152 ≤ v ∧ v < 10485760) ∧ 2 ≤ D ∧ D2 = D - 1)) : zDC (xud c C v) w (C + 1) W a D2 := by
  obtain ⟨d, h1, h2, h3, h4, h5⟩ := h
  have hq : ∀ q, q ≤ C → xud d (C + 1) D2 q = d q := fun q h => xud_o d D2 (by omega)
  have hb := h4 C ha (Int.le_refl _)
  refine ⟨xud d (C + 1) D2, by rw [hq _ ha]; exact h1, xud_s _ _ _, fun k k1 k2 => ?_, fun k k1 k2 => ?_, fun i i1 i2 i3 i4 => ?_⟩
  · by_cases e : k = C
    · subst e
      unfold zokc
      rw [xud_s, xud_s, hq _ (Int.le_refl _), h2]
      refine ⟨hv, ?_⟩
      rcases hD with hD | hD | hD
      · by_cases e : v < 1048576
        · exact Or.inl ⟨e, hD.2⟩
        · exact Or.inr (Or.inl ⟨⟨by omega, hD.1⟩, hD.2⟩)
      · exact Or.inr (Or.inr (Or.inl hD))
      · exact Or.inr (Or.inr (Or.inr (Or.inr hD)))
    · exact zokc_c (h3 k k1 (by omega)) (xud_o c v e) hq (by omega) (by omega)
  · by_cases e : k = C + 1
    · subst e
      rw [xud_s]
      rw [h2] at hb
      omega
    · rw [hq k (by omega)]
      exact h4 k k1 (by omega)
  · have q := h5 i i1 i2 i3 i4
    unfold zokw at q ⊢
    rw [hq _ (by omega), xud_o c v (by omega)]
    exact ⟨q.1, by omega, q.2.2⟩
/-- a jump: it waits for its landing -/
theorem zDC_jump {c w : Int → Int} {C W a o : Int} (h : zDC c w C W a 1) (ha : 0 ≤ a ∧ a ≤ C ∧ C < 1048576) (hW : 0 ≤ W) (ho : o = 11 ∨ o = 12) : zDC (xud c C (1048576 * o)) (xud w W (1048576 * o + C)) (C + 1) (W + 1) a 0 := by
  obtain ⟨d, h1, h2, h3, h4, h5⟩ := h
  have hq : ∀ q, q ≤ C → xud d (C + 1) 0 q = d q := fun q h => xud_o d 0 (by omega)
  have hm : (1048576 * o + C) % 1048576 = C := by omega
  refine ⟨xud d (C + 1) 0, by rw [hq _ ha.2.1]; exact h1, xud_s _ _ _, fun k k1 k2 => ?_, fun k k1 k2 => ?_, fun i i1 i2 i3 i4 => ?_⟩
  · by_cases e : k = C
    · subst e
      unfold zokc
      rw [xud_s, xud_s, hq _ (Int.le_refl _), h2]
      exact ⟨by omega, Or.inr (Or.inr (Or.inr (Or.inl ⟨by omega, rfl, rfl, Or.inr ⟨W, hW, by omega, by rw [xud_s]; omega, by rw [xud_s]; omega, by rw [xud_s]; omega⟩⟩)))⟩
    · exact zokc_w (zokc_c (h3 k k1 (by omega)) (xud_o c _ e) hq (by omega) (by omega)) (fun i i1 i2 _ _ => ⟨by omega, xud_o w _ (by omega)⟩)
  · by_cases e : k = C + 1
    · subst e; rw [xud_s]; omega
    · rw [hq k (by omega)]
      exact h4 k k1 (by omega)
  · by_cases e : i = W
    · subst e
      unfold zokw
      rw [xud_s, hm, xud_s, hq _ (Int.le_refl _), h2]
      omega
    · have qw : xud w W (1048576 * o + C) i = w i := xud_o w _ e
      rw [qw] at i3 i4
      have q := h5 i i1 (by omega) i3 i4
      unfold zokw at q ⊢
      rw [qw, hq _ (by omega), xud_o c _ (by omega)]
      exact ⟨q.1, by omega, q.2.2⟩
/-- the last waiting jump lands here -/
theorem zDC_land {c w : Int → Int} {C W a k0 : Int} (h : zDC c w C W a 1) (zhC : 0 ≤ a ∧ C < 1048576) (hW : 1 ≤ W) (hw : 11534336 ≤ w (W - 1) ∧ w (W - 1) < 13631488) (hk : k0 = w (W - 1) % 1048576) : zDC (xud c k0 (1048576 * (c k0 / 1048576) + C)) w C (W - 1) a 1 := by
  obtain ⟨d, h1, h2, h3, h4, h5⟩ := h
  have q0 := h5 (W - 1) (by omega) (by omega) hw.1 hw.2
  unfold zokw at q0
  rw [← hk] at q0
  obtain ⟨q1, q2, q3, q4⟩ := q0
  obtain ⟨v, ev⟩ : ∃ v, v = 1048576 * (c k0 / 1048576) + C := ⟨_, rfl⟩
  rw [← ev]
  have hv : (11534336 ≤ v ∧ v < 13631488) ∧ v % 1048576 = C := by omega
  refine ⟨d, h1, h2, fun k k1 k2 => ?_, h4, fun i i1 i2 i3 i4 => ?_⟩
  · by_cases e : k = k0
    · subst e
      have q5 := h3 k k1 k2
      unfold zokc at q5 ⊢
      rw [xud_s]
      obtain ⟨q6, q7⟩ := q5
      have hd : d (k + 1) = 0 := by
        rcases q7 with q | q | q | q | q <;> omega
      exact ⟨by omega, Or.inr (Or.inr (Or.inr (Or.inl ⟨hv.1, q4, hd, Or.inl ⟨by omega, by omega, by rw [hv.2]; exact h2⟩⟩)))⟩
    · have q5 := h3 k k1 k2
      unfold zokc at q5 ⊢
      rw [xud_o c v e]
      obtain ⟨q6, q7⟩ := q5
      refine ⟨q6, ?_⟩
      rcases q7 with q | q | q | ⟨q, r1, r2, r3 | ⟨i, i1, i2, i3, i4, i5⟩⟩ | q
      · exact Or.inl q
      · exact Or.inr (Or.inl q)
      · exact Or.inr (Or.inr (Or.inl q))
      · exact Or.inr (Or.inr (Or.inr (Or.inl ⟨q, r1, r2, Or.inl r3⟩)))
      · refine Or.inr (Or.inr (Or.inr (Or.inl ⟨q, r1, r2, Or.inr ⟨i, i1, ?_, i3, i4, i5⟩⟩)))
        by_cases e2 : i = W - 1
        · subst e2; omega
        · omega
      · exact Or.inr (Or.inr (Or.inr (Or.inr q)))
  · have q := h5 i i1 (by omega) i3 i4
    unfold zokw at q ⊢
    by_cases e : w i % 1048576 = k0
    · rw [e] at q ⊢
      rw [xud_s]
      exact ⟨q.1, q.2.1, hv.1, q.2.2.2⟩
    · rw [xud_o c v e]
      exact q
theorem zDC_at {c w : Int → Int} {C W a D : Int} (h : zDC c w C W a D) (hW : 1 ≤ W) (hw : 11534336 ≤ w (W - 1) ∧ w (W - 1) < 13631488) : a ≤ w (W - 1) % 1048576 ∧ w (W - 1) % 1048576 < C ∧ 11534336 ≤ c (w (W - 1) % 1048576) ∧ c (w (W - 1) % 1048576) < 13631488 := by
  obtain ⟨d, h1, h2, h3, h4, h5⟩ := h
  have q := h5 (W - 1) (by omega) (by omega) hw.1 hw.2
  exact ⟨q.1, q.2.1, q.2.2.1⟩
theorem zDC_c {c c2 w w2 : Int → Int} {C W a D : Int} (h : zDC c w C W a D) (hw : ∀ i, 0 ≤ i → i < W → w2 i = w i) (hc : c2 = c) : zDC c2 w2 C W a D := by
  subst hc
  obtain ⟨d, h1, h2, h3, h4, h5⟩ := h
  refine ⟨d, h1, h2, fun k k1 k2 => zokc_w (h3 k k1 k2) (fun i i1 i2 _ _ => ⟨i2, hw i i1 i2⟩), h4, fun i i1 i2 i3 i4 => ?_⟩
  rw [hw i i1 i2] at i3 i4
  unfold zokw
  rw [hw i i1 i2]
  exact h5 i i1 i2 i3 i4
/-- where none waits, the code is safe -/
theorem zgS_DC {c d : Int → Int} {w : Int → Int} {a C : Int} (ha : 0 ≤ a ∧ C ≤ 240) (h3 : ∀ k, a ≤ k → k < C → zokc c w d C 0 k) (h4 : ∀ k, a ≤ k → k ≤ C → 0 ≤ d k ∧ d k ≤ k - a) : ∀ (f k : Nat), a ≤ k → k ≤ C → C - k ≤ f → gS c C.toNat f k (d k).toNat
  | 0, k, h1, h2, h => by
    show k = C.toNat
    omega
  | f + 1, k, h1, h2, h => by
    by_cases e : (k : Int) = C
    · exact Or.inl (by omega)
    · have ih := zgS_DC ha h3 h4 f (k + 1) (by omega) (by omega) (by omega)
      have hb := h4 k h1 h2
      obtain ⟨q0, q⟩ := h3 k h1 (by omega)
      rw [show ((k + 1 : Nat) : Int) = (k : Int) + 1 from by omega] at ih
      refine Or.inr ⟨by omega, q0, ?_⟩
      unfold gO gV
      rcases q with q | q | q | ⟨q, r1, r2, r3 | ⟨i, i1, i2, -⟩⟩ | q
      · rw [q.2] at ih
        exact Or.inl ⟨by omega, by omega, (show (d k).toNat + 1 = (d k + 1).toNat from by omega) ▸ ih⟩
      · rw [q.2] at ih
        exact Or.inr (Or.inl ⟨by omega, by omega, by omega, (show (d k).toNat + 1 = (d k + 1).toNat from by omega) ▸ ih⟩)
      · rw [q.2.2] at ih
        exact Or.inr (Or.inr (Or.inl ⟨by omega, by omega, ih⟩))
      · rw [r2] at ih
        have iv := zgS_DC ha h3 h4 f (c k % 1048576).toNat (by omega) (by omega) (by omega)
        rw [show (((c k % 1048576).toNat : Nat) : Int) = c k % 1048576 from by omega, r3.2.2] at iv
        refine Or.inr (Or.inr (Or.inr (Or.inl ⟨by omega, by omega, ⟨(c k % 1048576).toNat, by omega, by omega, by omega, ?_⟩, ?_⟩)))
        · rw [r1]; exact iv
        · rw [r1]; exact ih
      · omega
      · rw [q.2.2] at ih
        exact Or.inr (Or.inr (Or.inr (Or.inr ⟨by omega, by omega, by omega, (show (d k).toNat - 1 = (d k - 1).toNat from by omega) ▸ ih⟩)))
theorem zDC_seg {c w : Int → Int} {a C D : Int} (h : zDC c w C 0 a D) (ha : 0 ≤ a ∧ a ≤ C ∧ C ≤ 240) : segOK c a C := by
  obtain ⟨d, h1, h2, h3, h4, h5⟩ := h
  refine ⟨ha.1, ha.2.1, ha.2.2, ?_⟩
  have q := zgS_DC ⟨ha.1, ha.2.2⟩ h3 h4 (C - a).toNat a.toNat (by omega) (by omega) (by omega)
  rw [show ((a.toNat : Nat) : Int) = a from by omega, h1] at q
  exact q
theorem segOK_0 (c : Int → Int) {a : Int} (h : 0 ≤ a ∧ a ≤ 240) : segOK c a a := ⟨h.1, Int.le_refl _, h.2, by
  rw [show (a - a).toNat = 0 from by omega]
  exact (rfl : a.toNat = a.toNat)⟩
theorem gS_cp {c c2 : Int → Int} {to : Nat} (h : ∀ k : Nat, k < to → c2 k = c k) : ∀ (f k n : Nat), gS c to f k n → gS c2 to f k n
  | 0, _, _, q => q
  | f + 1, k, n, q => by
    rcases q with q | ⟨hk, h0, q⟩
    · exact Or.inl q
    · refine Or.inr ⟨hk, by rw [h k hk]; exact h0, ?_⟩
      rw [h k hk]
      rcases q with ⟨a, a2, b⟩ | ⟨a, a2, a3, b⟩ | ⟨a, a2, b⟩ | ⟨a, a2, ⟨v, v1, v2, v3, v4⟩, b⟩ | ⟨a, a2, a3, b⟩
      · exact Or.inl ⟨a, a2, gS_cp h _ _ _ b⟩
      · exact Or.inr (Or.inl ⟨a, a2, a3, gS_cp h _ _ _ b⟩)
      · exact Or.inr (Or.inr (Or.inl ⟨a, a2, gS_cp h _ _ _ b⟩))
      · exact Or.inr (Or.inr (Or.inr (Or.inl ⟨a, a2, ⟨v, v1, v2, v3, gS_cp h _ _ _ v4⟩, gS_cp h _ _ _ b⟩)))
      · exact Or.inr (Or.inr (Or.inr (Or.inr ⟨a, a2, a3, gS_cp h _ _ _ b⟩)))
theorem segOK_cp {c c2 : Int → Int} {a b : Int} (hq : segOK c a b) (h : ∀ k, 0 ≤ k → k < b → c2 k = c k) : segOK c2 a b :=
  ⟨hq.1, hq.2.1, hq.2.2.1, gS_cp (fun k hk => h k (by omega) (by omega)) _ _ _ hq.2.2.2⟩
/-- within a sum: base b, c0 the code below a, w0 what waits below b, K its claims on the place, D0 the depth before, e whether a value stands -/
def zLS (c0 : Int → Int) (a M : Int) (w0 : Int → Int) (b K D0 e : Int) (σ : xS) : Prop :=
  (0 ≤ σ 268 9 ∧ σ 268 9 ≤ σ 268 10 ∧ σ 268 10 ≤ 240) ∧ σ 268 16 = M ∧ (∀ k, 0 ≤ k → k < a → σ 277 k = c0 k) ∧ (0 ≤ a ∧ a ≤ σ 268 14) ∧
  (0 ≤ b ∧ b ≤ σ 268 15 ∧ σ 268 15 ≤ σ 268 9 ∧ 0 ≤ K ∧ 0 ≤ D0) ∧
  (σ 268 14 + K + zcI 2097152 7340032 (σ 278) b (σ 268 15) ≤ σ 268 9) ∧
  (∀ i, 0 ≤ i → i < b → σ 278 i = w0 i ∧ 10485760 ≤ w0 i ∧ w0 i < 14680064) ∧
  (∀ i, b ≤ i → i < σ 268 15 → (2097152 ≤ σ 278 i ∧ σ 278 i < 7340032) ∨ (14680064 ≤ σ 278 i ∧ σ 278 i < 15728640)) ∧
  zDC (σ 277) (σ 278) (σ 268 14) (σ 268 15) a (D0 + zcI 2097152 7340032 (σ 278) b (σ 268 15) + e)
section XL
variable {c0 w0 : Int → Int} {a M b K D0 e : Int} {σ τ : xS}
theorem zLS.p (h : zLS c0 a M w0 b K D0 e σ) : 0 ≤ σ 268 9 ∧ σ 268 9 ≤ σ 268 10 ∧ σ 268 10 ≤ 240 := h.1
theorem zLS.m (h : zLS c0 a M w0 b K D0 e σ) : σ 268 16 = M := h.2.1
theorem zLS.old (h : zLS c0 a M w0 b K D0 e σ) : ∀ k, 0 ≤ k → k < a → σ 277 k = c0 k := h.2.2.1
theorem zLS.ca (h : zLS c0 a M w0 b K D0 e σ) : 0 ≤ a ∧ a ≤ σ 268 14 := h.2.2.2.1
theorem zLS.wb (h : zLS c0 a M w0 b K D0 e σ) : 0 ≤ b ∧ b ≤ σ 268 15 ∧ σ 268 15 ≤ σ 268 9 ∧ 0 ≤ K ∧ 0 ≤ D0 := h.2.2.2.2.1
theorem zLS.sz (h : zLS c0 a M w0 b K D0 e σ) : σ 268 14 + K + zcI 2097152 7340032 (σ 278) b (σ 268 15) ≤ σ 268 9 := h.2.2.2.2.2.1
theorem zLS.lo (h : zLS c0 a M w0 b K D0 e σ) : ∀ i, 0 ≤ i → i < b → σ 278 i = w0 i ∧ 10485760 ≤ w0 i ∧ w0 i < 14680064 := h.2.2.2.2.2.2.1
theorem zLS.hi (h : zLS c0 a M w0 b K D0 e σ) : ∀ i, b ≤ i → i < σ 268 15 → (2097152 ≤ σ 278 i ∧ σ 278 i < 7340032) ∨ (14680064 ≤ σ 278 i ∧ σ 278 i < 15728640) := h.2.2.2.2.2.2.2.1
theorem zLS.d (h : zLS c0 a M w0 b K D0 e σ) : zDC (σ 277) (σ 278) (σ 268 14) (σ 268 15) a (D0 + zcI 2097152 7340032 (σ 278) b (σ 268 15) + e) := h.2.2.2.2.2.2.2.2
theorem zLS.cw (h : zLS c0 a M w0 b K D0 e σ) : (0 ≤ σ 268 14 ∧ σ 268 14 ≤ 240) ∧ 0 ≤ σ 268 15 ∧ σ 268 15 ≤ 240 := by
  have h1 := h.p; have h2 := h.ca; have h3 := h.wb; have h4 := h.sz
  have h5 : 0 ≤ zcI 2097152 7340032 (σ 278) b (σ 268 15) := zcI_n
  omega
theorem zLS.wt (h : zLS c0 a M w0 b K D0 e σ) : 0 ≤ σ 268 15 ∧ σ 268 15 ≤ 260 ∧ (σ 268 15 = 0 ∨ 0 ≤ σ 278 (σ 268 15 - 1)) := by
  have h1 := h.cw; have h2 := h.wb
  refine ⟨h1.2.1, by omega, ?_⟩
  by_cases e : σ 268 15 = 0
  · exact Or.inl e
  · by_cases e2 : b ≤ σ 268 15 - 1
    · have := h.hi _ e2 (by omega)
      omega
    · have := h.lo (σ 268 15 - 1) (by omega) (by omega)
      omega
theorem zLS.place (h : zLS c0 a M w0 b K D0 e σ) (e9 : σ 268 9 ≤ τ 268 9 ∧ τ 268 9 ≤ σ 268 10) (e10 : τ 268 10 = σ 268 10) (e14 : τ 268 14 = σ 268 14) (e15 : τ 268 15 = σ 268 15) (e16 : τ 268 16 = σ 268 16) (h7 : τ 277 = σ 277) (h8 : τ 278 = σ 278) : zLS c0 a M w0 b K D0 e τ := by
  have h1 := h.p; have h2 := h.wb; have h3 := h.sz
  exact ⟨by omega, by rw [e16]; exact h.m, by rw [h7]; exact h.old, by rw [e14]; exact h.ca, by omega, by rw [e14, h8, e15]; omega, by rw [h8]; exact h.lo, by rw [h8, e15]; exact h.hi, by rw [h7, h8, e14, e15]; exact h.d⟩
theorem zLS.note {v : Int} (h : zLS c0 a M w0 b K D0 0 σ) (e9 : σ 268 9 + 1 ≤ τ 268 9 ∧ τ 268 9 ≤ σ 268 10) (e10 : τ 268 10 = σ 268 10) (e14 : τ 268 14 = σ 268 14 + 1) (e15 : τ 268 15 = σ 268 15) (e16 : τ 268 16 = σ 268 16) (h7 : τ 277 = xud (σ 277) (σ 268 14) v) (h8 : τ 278 = σ 278) (hv : 0 ≤ v ∧ v < 1048583) : zLS c0 a M w0 b K D0 1 τ := by
  have h1 := h.p; have h2 := h.wb; have h3 := h.sz; have h4 := h.ca
  refine ⟨by omega, by rw [e16]; exact h.m, fun k k1 k2 => by rw [h7, xud_o _ _ (by omega)]; exact h.old k k1 k2, by omega, by omega, by rw [e14, h8, e15]; omega, by rw [h8]; exact h.lo, by rw [h8, e15]; exact h.hi, ?_⟩
  rw [h7, h8, e14, e15]
  exact zDC_note h.d h4.2 hv.1 (Or.inl ⟨hv.2, by omega⟩)
theorem zLS.push {v e2 : Int} (h : zLS c0 a M w0 b K D0 e σ) (e9 : τ 268 9 = σ 268 9 + 1 ∧ σ 268 9 < σ 268 10) (e10 : τ 268 10 = σ 268 10) (e14 : τ 268 14 = σ 268 14) (e15 : τ 268 15 = σ 268 15 + 1) (e16 : τ 268 16 = σ 268 16) (h7 : τ 277 = σ 277) (h8 : τ 278 = xud (σ 278) (σ 268 15) v) (hv : ((2097152 ≤ v ∧ v < 7340032) ∧ e = e2 + 1) ∨ ((14680064 ≤ v ∧ v < 15728640) ∧ e = e2)) : zLS c0 a M w0 b K D0 e2 τ := by
  have h1 := h.p; have h2 := h.wb; have h3 := h.sz; have h4 := h.ca
  have hc : zcI 2097152 7340032 (τ 278) b (σ 268 15 + 1) = zcI 2097152 7340032 (σ 278) b (σ 268 15) + (e - e2) := by
    rw [h8]
    rcases hv with hv | hv
    · rw [zcI_y h2.2.1 (by rw [xud_s]; exact hv.1), zcI_xud]; omega
    · rw [zcI_z h2.2.1 (by rw [xud_s]; omega), zcI_xud]; omega
  refine ⟨by omega, by rw [e16]; exact h.m, by rw [h7]; exact h.old, by omega, by omega, by rw [e14, e15, hc]; omega, fun i i1 i2 => by rw [h8, xud_o _ _ (by omega)]; exact h.lo i i1 i2, fun i i1 i2 => ?_, ?_⟩
  · rw [h8]
    by_cases q : i = σ 268 15
    · rw [q, xud_s]; omega
    · rw [xud_o _ _ q]; exact h.hi i i1 (by omega)
  · rw [e14, e15, hc, h7, h8]
    have q := zDC_push (v := v) h.d (by omega)
    rw [show D0 + (zcI 2097152 7340032 (σ 278) b (σ 268 15) + (e - e2)) + e2 = D0 + zcI 2097152 7340032 (σ 278) b (σ 268 15) + e from by omega]
    exact q
theorem zLS.shut (h : zLS c0 a M w0 b K D0 1 σ) (hb : b < σ 268 15) (ht : 14680064 ≤ σ 278 (σ 268 15 - 1)) (e9 : τ 268 9 = σ 268 9 + 1 ∧ σ 268 9 < σ 268 10) (e10 : τ 268 10 = σ 268 10) (e14 : τ 268 14 = σ 268 14) (e15 : τ 268 15 = σ 268 15 - 1) (e16 : τ 268 16 = σ 268 16) (h7 : τ 277 = σ 277) (h8 : τ 278 = σ 278) : zLS c0 a M w0 b K D0 1 τ := by
  have h1 := h.p; have h2 := h.wb; have h3 := h.sz; have h4 := h.ca
  have hc : zcI 2097152 7340032 (σ 278) b (σ 268 15) = zcI 2097152 7340032 (σ 278) b (σ 268 15 - 1) := by
    have q := zcI_z (lo := 2097152) (hi := 7340032) (b := b) (m := σ 268 15 - 1) (w := σ 278) (by omega) (by omega)
    rw [show σ 268 15 - 1 + 1 = σ 268 15 from by omega] at q
    exact q
  refine ⟨by omega, by rw [e16]; exact h.m, by rw [h7]; exact h.old, by omega, by omega, by rw [e14, h8, e15]; omega, by rw [h8]; exact h.lo, fun i i1 i2 => by rw [h8]; exact h.hi i i1 (by omega), ?_⟩
  rw [h7, h8, e14, e15, ← hc]
  exact zDC_pop h.d (by omega)
/-- a bracket of this sum waits -/
def zhO (b : Int) (σ : xS) : Prop := ∃ i, b ≤ i ∧ i < σ 268 15 ∧ 14680064 ≤ σ 278 i
theorem zLS.tb (h : zLS c0 a M w0 b K D0 e σ) (ht : 2 ≤ ztW σ ∧ ztW σ ≤ 6) : b < σ 268 15 ∧ σ 278 (σ 268 15 - 1) < 14680064 := by
  have h2 := h.wb
  by_cases e : σ 268 15 = 0
  · rw [ztW_0 e] at ht; omega
  · rw [ztW_1 e] at ht
    refine ⟨?_, by omega⟩
    by_cases e2 : b < σ 268 15
    · exact e2
    · have := h.lo (σ 268 15 - 1) (by omega) (by omega)
      omega
/-- closed wholly: down to a bracket, or to the base -/
theorem zLS.top (h : zLS c0 a M w0 b K D0 e σ) (ht : ztW σ < 2 ∨ 6 < ztW σ) (ho : zhO b σ) : b < σ 268 15 ∧ 14680064 ≤ σ 278 (σ 268 15 - 1) := by
  obtain ⟨i, i1, i2, i3⟩ := ho
  have h2 := h.wb
  refine ⟨by omega, ?_⟩
  rw [ztW_1 (by omega)] at ht
  have := h.hi (σ 268 15 - 1) (by omega) (by omega)
  omega
theorem zLS.bot (h : zLS c0 a M w0 b K D0 e σ) (ht : ztW σ < 2 ∨ 6 < ztW σ) (ho : ¬ zhO b σ) : σ 268 15 = b := by
  have h2 := h.wb
  by_cases q : σ 268 15 = b
  · exact q
  · exfalso
    rw [ztW_1 (by omega)] at ht
    have := h.hi (σ 268 15 - 1) (by omega) (by omega)
    exact ho ⟨σ 268 15 - 1, by omega, by omega, by omega⟩
/-- between sums: q the claims on the place beside those that wait -/
def zLC (c0 : Int → Int) (a M q D : Int) (σ : xS) : Prop := 0 ≤ q ∧ zLS c0 a M (σ 278) (σ 268 15) (zcI 10485760 11534336 (σ 278) 0 (σ 268 15) + q) D 0 σ
theorem zLC.d {q D : Int} (h : zLC c0 a M q D σ) : zDC (σ 277) (σ 278) (σ 268 14) (σ 268 15) a D := by
  have q := h.2.d
  rw [zcI_0] at q
  rw [show D = D + 0 + 0 from by omega]
  exact q
theorem zLC.mk2 {q D : Int} (h0 : 0 ≤ q) (hp : 0 ≤ σ 268 9 ∧ σ 268 9 ≤ σ 268 10 ∧ σ 268 10 ≤ 240) (hm : σ 268 16 = M) (ho : ∀ k, 0 ≤ k → k < a → σ 277 k = c0 k) (ha : 0 ≤ a ∧ a ≤ σ 268 14) (hw : 0 ≤ σ 268 15 ∧ σ 268 15 ≤ σ 268 9) (hD : 0 ≤ D) (hs : σ 268 14 + (zcI 10485760 11534336 (σ 278) 0 (σ 268 15) + q) ≤ σ 268 9) (hl : ∀ i, 0 ≤ i → i < σ 268 15 → 10485760 ≤ σ 278 i ∧ σ 278 i < 14680064) (hd : zDC (σ 277) (σ 278) (σ 268 14) (σ 268 15) a D) : zLC c0 a M q D σ := by
  have h9 : 0 ≤ zcI 10485760 11534336 (σ 278) 0 (σ 268 15) := zcI_n
  refine ⟨h0, ⟨hp, hm, ho, ha, by omega, by rw [zcI_0]; omega, fun i i1 i2 => ⟨rfl, hl i i1 i2⟩, fun i i1 i2 => by omega, ?_⟩⟩
  rw [zcI_0, show D + 0 + 0 = D from by omega]
  exact hd
theorem zLC.f {q D : Int} (h : zLC c0 a M q D σ) : (0 ≤ σ 268 9 ∧ σ 268 9 ≤ σ 268 10 ∧ σ 268 10 ≤ 240) ∧ (0 ≤ a ∧ a ≤ σ 268 14) ∧ (0 ≤ σ 268 15 ∧ σ 268 15 ≤ σ 268 9) ∧ 0 ≤ D ∧ σ 268 14 + (zcI 10485760 11534336 (σ 278) 0 (σ 268 15) + q) ≤ σ 268 9 ∧ 0 ≤ zcI 10485760 11534336 (σ 278) 0 (σ 268 15) ∧ 0 ≤ q := by
  have h1 := h.2.wb; have h2 := h.2.sz
  rw [zcI_0] at h2
  exact ⟨h.2.p, h.2.ca, by omega, by omega, by omega, zcI_n, h.1⟩
theorem zLC.l {q D : Int} (h : zLC c0 a M q D σ) : ∀ i, 0 ≤ i → i < σ 268 15 → 10485760 ≤ σ 278 i ∧ σ 278 i < 14680064 := fun i i1 i2 => (h.2.lo i i1 i2).2
theorem zLC.place {q q2 D : Int} (h : zLC c0 a M q D σ) (e9 : σ 268 9 + (q2 - q) ≤ τ 268 9 ∧ σ 268 9 ≤ τ 268 9 ∧ τ 268 9 ≤ σ 268 10) (hq : 0 ≤ q2) (e10 : τ 268 10 = σ 268 10) (e14 : τ 268 14 = σ 268 14) (e15 : τ 268 15 = σ 268 15) (e16 : τ 268 16 = σ 268 16) (h7 : τ 277 = σ 277) (h8 : τ 278 = σ 278) : zLC c0 a M q2 D τ := by
  obtain ⟨f1, f2, f3, f4, f5, f6, f7⟩ := h.f
  exact zLC.mk2 hq (by omega) (by rw [e16]; exact h.2.m) (by rw [h7]; exact h.2.old) (by omega) (by omega) f4 (by rw [h8, e15, e14]; omega) (by rw [h8, e15]; exact h.l) (by rw [h7, h8, e14, e15]; exact h.d)
theorem zLC.push {q D v : Int} (h : zLC c0 a M q D σ) (e9 : τ 268 9 = σ 268 9 + 1 ∧ σ 268 9 < σ 268 10) (e10 : τ 268 10 = σ 268 10) (e14 : τ 268 14 = σ 268 14) (e15 : τ 268 15 = σ 268 15 + 1) (e16 : τ 268 16 = σ 268 16) (h7 : τ 277 = σ 277) (h8 : τ 278 = xud (σ 278) (σ 268 15) v) (hv : (10485760 ≤ v ∧ v < 11534336) ∨ (13631488 ≤ v ∧ v < 14680064)) : zLC c0 a M q D τ := by
  obtain ⟨f1, f2, f3, f4, f5, f6, f7⟩ := h.f
  have hc : zcI 10485760 11534336 (τ 278) 0 (σ 268 15 + 1) ≤ zcI 10485760 11534336 (σ 278) 0 (σ 268 15) + 1 := by
    rw [h8]
    rcases hv with hv | hv
    · rw [zcI_y f3.1 (by rw [xud_s]; exact hv), zcI_xud]; omega
    · rw [zcI_z f3.1 (by rw [xud_s]; omega), zcI_xud]; omega
  refine zLC.mk2 f7 (by omega) (by rw [e16]; exact h.2.m) (by rw [h7]; exact h.2.old) (by omega) (by omega) f4 (by rw [e14, e15]; omega) (fun i i1 i2 => ?_) (by rw [h7, h8, e14, e15]; exact zDC_push h.d (by omega))
  rw [h8]
  by_cases e : i = σ 268 15
  · rw [e, xud_s]; omega
  · rw [xud_o _ _ e]; exact h.l i i1 (by omega)
theorem zLC.not {q D : Int} (h : zLC c0 a M q D σ) (hD : 1 ≤ D) (ht : ztW σ = 10) (e9 : τ 268 9 = σ 268 9) (e10 : τ 268 10 = σ 268 10) (e14 : τ 268 14 = σ 268 14 + 1) (e15 : τ 268 15 = σ 268 15 - 1) (e16 : τ 268 16 = σ 268 16) (h7 : τ 277 = xud (σ 277) (σ 268 14) 10485760) (h8 : τ 278 = σ 278) : zLC c0 a M q D τ := by
  obtain ⟨f1, f2, f3, f4, f5, f6, f7⟩ := h.f
  have hW : σ 268 15 ≠ 0 := fun e => by rw [ztW_0 e] at ht; omega
  rw [ztW_1 hW] at ht
  have hc : zcI 10485760 11534336 (σ 278) 0 (σ 268 15) = zcI 10485760 11534336 (σ 278) 0 (σ 268 15 - 1) + 1 := by
    have q := zcI_y (lo := 10485760) (hi := 11534336) (b := 0) (m := σ 268 15 - 1) (w := σ 278) (by omega) (by omega)
    rw [show σ 268 15 - 1 + 1 = σ 268 15 from by omega] at q
    exact q
  refine zLC.mk2 f7 (by omega) (by rw [e16]; exact h.2.m) (fun k k1 k2 => by rw [h7, xud_o _ _ (by omega)]; exact h.2.old k k1 k2) (by omega) (by omega) f4 (by rw [e14, e15, h8]; omega) (fun i i1 i2 => by rw [h8]; exact h.l i i1 (by omega)) ?_
  rw [h7, h8, e14, e15]
  exact zDC_note (zDC_pop h.d (by omega)) f2.2 (by omega) (Or.inr (Or.inl ⟨by omega, hD, rfl⟩))
theorem zLC.jt {q D : Int} (h : zLC c0 a M q D σ) (ht : ztW σ = 11 ∨ ztW σ = 12) : 1 ≤ σ 268 15 ∧ (11534336 ≤ σ 278 (σ 268 15 - 1) ∧ σ 278 (σ 268 15 - 1) < 13631488) ∧ a ≤ σ 278 (σ 268 15 - 1) % 1048576 ∧ σ 278 (σ 268 15 - 1) % 1048576 < σ 268 14 ∧ 11534336 ≤ σ 277 (σ 278 (σ 268 15 - 1) % 1048576) ∧ σ 277 (σ 278 (σ 268 15 - 1) % 1048576) < 13631488 := by
  obtain ⟨f1, f2, f3, f4, f5, f6, f7⟩ := h.f
  have hW : σ 268 15 ≠ 0 := fun e => by rw [ztW_0 e] at ht; omega
  rw [ztW_1 hW] at ht
  have := zDC_at h.d (by omega) (by omega)
  exact ⟨by omega, by omega, this⟩
theorem zLC.land {q k v : Int} (h : zLC c0 a M q 1 σ) (ht : ztW σ = 11 ∨ ztW σ = 12) (e9 : τ 268 9 = σ 268 9) (e10 : τ 268 10 = σ 268 10) (e14 : τ 268 14 = σ 268 14) (e15 : τ 268 15 = σ 268 15 - 1) (e16 : τ 268 16 = σ 268 16) (hk : k = σ 278 (σ 268 15 - 1) % 1048576) (h7 : τ 277 = xud (σ 277) k v) (hv : v = 1048576 * (σ 277 k / 1048576) + σ 268 14) (h8 : τ 278 = σ 278) : zLC c0 a M q 1 τ := by
  obtain ⟨f1, f2, f3, f4, f5, f6, f7⟩ := h.f
  obtain ⟨g1, g2, g3, g4, -⟩ := h.jt ht
  have hc : zcI 10485760 11534336 (σ 278) 0 (σ 268 15) = zcI 10485760 11534336 (σ 278) 0 (σ 268 15 - 1) := by
    have q := zcI_z (lo := 10485760) (hi := 11534336) (b := 0) (m := σ 268 15 - 1) (w := σ 278) (by omega) (by omega)
    rw [show σ 268 15 - 1 + 1 = σ 268 15 from by omega] at q
    exact q
  refine zLC.mk2 f7 (by omega) (by rw [e16]; exact h.2.m) (fun i k1 k2 => by rw [h7, xud_o _ _ (by omega)]; exact h.2.old i k1 k2) (by omega) (by omega) f4 (by rw [e14, e15, h8]; omega) (fun i i1 i2 => by rw [h8]; exact h.l i i1 (by omega)) ?_
  rw [h7, h8, e14, e15, hv]
  exact zDC_land h.d (by omega) g1 g2 hk
theorem zLC.pop {q D : Int} (h : zLC c0 a M q D σ) (hW : 1 ≤ σ 268 15) (ht : ztW σ ≠ 11 ∧ ztW σ ≠ 12) (e9 : σ 268 9 ≤ τ 268 9 ∧ τ 268 9 ≤ σ 268 10 ∧ σ 268 15 ≤ τ 268 9 + 1) (e10 : τ 268 10 = σ 268 10) (e14 : τ 268 14 = σ 268 14) (e15 : τ 268 15 = σ 268 15 - 1) (e16 : τ 268 16 = σ 268 16) (h7 : τ 277 = σ 277) (h8 : τ 278 = σ 278) : zLC c0 a M q D τ := by
  obtain ⟨f1, f2, f3, f4, f5, f6, f7⟩ := h.f
  rw [ztW_1 (by omega)] at ht
  have hl := h.l (σ 268 15 - 1) (by omega) (by omega)
  have hc : zcI 10485760 11534336 (σ 278) 0 (σ 268 15 - 1) ≤ zcI 10485760 11534336 (σ 278) 0 (σ 268 15) := by
    have q := zcI_s (lo := 10485760) (hi := 11534336) (b := 0) (m := σ 268 15 - 1) (w := σ 278) (by omega)
    rw [show σ 268 15 - 1 + 1 = σ 268 15 from by omega] at q
    rw [q]
    split <;> omega
  refine zLC.mk2 f7 (by omega) (by rw [e16]; exact h.2.m) (by rw [h7]; exact h.2.old) (by omega) (by omega) f4 (by rw [e14, e15, h8]; omega) (fun i i1 i2 => by rw [h8]; exact h.l i i1 (by omega)) ?_
  rw [h7, h8, e14, e15]
  exact zDC_pop h.d (by omega)
theorem zLC.jump {q o : Int} (h : zLC c0 a M q 1 σ) (ho : o = 11 ∨ o = 12) (e9 : τ 268 9 = σ 268 9 + 1 ∧ σ 268 9 < σ 268 10) (e10 : τ 268 10 = σ 268 10) (e14 : τ 268 14 = σ 268 14 + 1) (e15 : τ 268 15 = σ 268 15 + 1) (e16 : τ 268 16 = σ 268 16) (h7 : τ 277 = xud (σ 277) (σ 268 14) (1048576 * o)) (h8 : τ 278 = xud (σ 278) (σ 268 15) (1048576 * o + σ 268 14)) : zLC c0 a M q 0 τ := by
  obtain ⟨f1, f2, f3, f4, f5, f6, f7⟩ := h.f
  have hc : zcI 10485760 11534336 (τ 278) 0 (σ 268 15 + 1) = zcI 10485760 11534336 (σ 278) 0 (σ 268 15) := by
    rw [h8, zcI_z f3.1 (by rw [xud_s]; omega), zcI_xud]
  refine zLC.mk2 f7 (by omega) (by rw [e16]; exact h.2.m) (fun k k1 k2 => by rw [h7, xud_o _ _ (by omega)]; exact h.2.old k k1 k2) (by omega) (by omega) (by omega) (by rw [e14, e15]; omega) (fun i i1 i2 => ?_) ?_
  · rw [h8]
    by_cases e : i = σ 268 15
    · rw [e, xud_s]; omega
    · rw [xud_o _ _ e]; exact h.l i i1 (by omega)
  · rw [h7, h8, e14, e15]
    exact zDC_jump h.d (by omega) f3.1 ho
theorem zLC.cmp {q D v : Int} (h : zLC c0 a M 1 D σ) (hD : 2 ≤ D) (hv : 7340032 ≤ v ∧ v < 10485760) (e9 : τ 268 9 = σ 268 9) (e10 : τ 268 10 = σ 268 10) (e14 : τ 268 14 = σ 268 14 + 1) (e15 : τ 268 15 = σ 268 15) (e16 : τ 268 16 = σ 268 16) (h7 : τ 277 = xud (σ 277) (σ 268 14) v) (h8 : τ 278 = σ 278) (hq : q = 0) : zLC c0 a M q (D - 1) τ := by
  obtain ⟨f1, f2, f3, f4, f5, f6, f7⟩ := h.f
  refine zLC.mk2 (by omega) (by omega) (by rw [e16]; exact h.2.m) (fun k k1 k2 => by rw [h7, xud_o _ _ (by omega)]; exact h.2.old k k1 k2) (by omega) (by omega) (by omega) (by rw [e14, e15, h8]; omega) (by rw [h8, e15]; exact h.l) ?_
  rw [h7, h8, e14, e15]
  exact zDC_note h.d f2.2 (by omega) (Or.inr (Or.inr ⟨by omega, hD, rfl⟩))
theorem zLC.new (hp : 0 ≤ σ 268 9 ∧ σ 268 9 ≤ σ 268 10 ∧ σ 268 10 ≤ 240) (hc : 0 ≤ σ 268 14 ∧ σ 268 14 ≤ σ 268 9) (hw : σ 268 15 = 0) (ha : a = σ 268 14) (hm : M = σ 268 16) (h7 : ∀ k, 0 ≤ k → k < a → σ 277 k = c0 k) : zLC c0 a M 0 0 σ := by
  subst ha
  refine zLC.mk2 (by omega) hp hm.symm h7 (by omega) (by omega) (by omega) ?_ (fun i i1 i2 => by omega) ?_
  · rw [hw, zcI_0]; omega
  · rw [hw]; exact zDC_new _ _ _
end XL
/-- the clauses that are read -/
def zLW (σ : xS) : Prop := (0 ≤ σ 268 14 ∧ σ 268 14 ≤ σ 268 9) ∧ (0 ≤ σ 268 16 ∧ σ 268 16 ≤ 16) ∧ ∀ j, 0 ≤ j → j < σ 268 16 → segOK (σ 277) (σ 280 j) (σ 281 j) ∧ segOK (σ 277) (σ 281 j) (σ 282 j) ∧ σ 282 j ≤ σ 268 14
theorem zLW.place {σ τ : xS} (h : zLW σ) (e9 : σ 268 9 ≤ τ 268 9) (e14 : τ 268 14 = σ 268 14) (e16 : τ 268 16 = σ 268 16) (h7 : τ 277 = σ 277) (h0 : τ 280 = σ 280) (h1 : τ 281 = σ 281) (h2 : τ 282 = σ 282) : zLW τ := by
  unfold zLW at h ⊢
  rw [e14, e16, h7, h0, h1, h2]
  exact ⟨by omega, h.2⟩
theorem zLW.new {σ : xS} (h9 : 0 ≤ σ 268 9) (e14 : σ 268 14 = 0) (e16 : σ 268 16 = 0) : zLW σ := ⟨by omega, by omega, fun j j1 j2 => by omega⟩
theorem zLW.add {σ τ : xS} {a C1 C2 M : Int} (h : zLW σ) (ha : a = σ 268 14) (hM : M = σ 268 16 ∧ M < 16) (e16 : τ 268 16 = M + 1) (e14 : τ 268 14 = C2) (h9 : C2 ≤ τ 268 9) (hc : a ≤ C1 ∧ C1 ≤ C2) (s1 : segOK (τ 277) a C1) (s2 : segOK (τ 277) C1 C2) (h7 : ∀ k, 0 ≤ k → k < a → τ 277 k = σ 277 k) (h0 : τ 280 = xud (σ 280) M a) (h1 : τ 281 = xud (σ 281) M C1) (h2 : τ 282 = xud (σ 282) M C2) : zLW τ := by
  obtain ⟨q1, q2, q3⟩ := h
  refine ⟨by omega, by omega, fun j j1 j2 => ?_⟩
  rw [h0, h1, h2, e14]
  by_cases e : j = M
  · subst e
    rw [xud_s, xud_s, xud_s]
    exact ⟨s1, s2, Int.le_refl _⟩
  · rw [xud_o _ _ e, xud_o _ _ e, xud_o _ _ e]
    obtain ⟨r1, r2, r3⟩ := q3 j j1 (by omega)
    exact ⟨segOK_cp r1 (fun k k1 k2 => h7 k k1 (by have := r2.2.1; omega)), segOK_cp r2 (fun k k1 k2 => h7 k k1 (by omega)), by omega⟩
theorem zLW.code {σ τ : xS} (h : zLW σ) (e17 : τ 268 17 = σ 268 16) (h3 : ∀ k, 0 ≤ k → k < σ 268 14 → τ 283 k = σ 277 k) (h5 : ∀ j, 0 ≤ j → j < σ 268 16 → τ 285 j = σ 280 j ∧ τ 286 j = σ 281 j ∧ τ 287 j = σ 282 j) : IMk τ := by
  obtain ⟨q1, q2, q3⟩ := h
  unfold IMk
  rw [e17]
  refine ⟨q2, fun j j1 j2 => ?_⟩
  obtain ⟨r1, r2, r3⟩ := q3 j j1 j2
  obtain ⟨g1, g2, g3⟩ := h5 j j1 j2
  rw [g1, g2, g3]
  exact ⟨segOK_cp r1 (fun k k1 k2 => h3 k k1 (by have := r2.2.1; omega)), segOK_cp r2 (fun k k1 k2 => h3 k k1 (by omega))⟩
set_option maxHeartbeats 4000000 in
set_option maxRecDepth 100000 in
theorem c_X11_here (l : Launch) (D : va_G) (g : xG) (T : Nat × Nat × Nat) (h0 : Nat) (s0 : xS) (hσ : xRR s0) (p0 : IMn s0) (p1 : IMk s0) (p2 : IMo s0) (p3 : IR s0) : Met l yX11_here (xws yX11_here cX11_here 1 (some .int)) { frames := 0, cells := 0, slots := 0, locals := 0 } (xP [.ref (h0 + 268)] D g T h0 s0) (xQi D g h0 (fun r τ => s0 = τ ∧ (r = zhC s0 ∧ -1 ≤ zhC s0 ∧ zhC s0 ≤ 255 ∧ zhC s0 < 256 * (s0 268 10 - s0 268 9)))) 0 0 (xA h0) := by
  refine x_met hσ (by decide) (Nat.le_of_ble_eq_true rfl) ?_
  intro p e s m args below meth c hx hb hr hml hown hT hlk hnm hE hW ls hl
  have hl : lv_has ls 1 [(0, .ref (h0 + 268))] := hl
  obtain ⟨Q, eQ⟩ : ∃ Q, Q = MQ below (xQi D g h0 (fun r τ => s0 = τ ∧ (r = zhC s0 ∧ -1 ≤ zhC s0 ∧ zhC s0 ≤ 255 ∧ zhC s0 < 256 * (s0 268 10 - s0 268 9)))) args s 0 0 (xA h0) := ⟨_, rfl⟩
  rw [← eQ]
  generalize hHe : ([] : List Loc) = locs at hW ⊢
  obtain ⟨H, eH⟩ : ∃ H, H = s.heap := ⟨_, rfl⟩
  rw [← eH] at hW ⊢
  have k268_8 : s0 268 8 = s0 268 8 := rfl
  have k268_58 : s0 268 58 = s0 268 58 := rfl
  refine x_aload_n hx hb hl 0 rfl dX11_here_0 rfl ?_
  refine x_get (j := 9) (v := .int (xJ (s0 268 9))) hx hb hown hT hE hW cls_X11 (Or.inl (by decide)) (so_268 h0 g _) (by decide) rfl wq1194 dX11_here_1 ?_
  refine x_rd hW (fun x1 ex1 rx1 => ?_)
  have bx1 : 0 ≤ x1 ∧ x1 ≤ s0 268 10 ∧ s0 268 10 ≤ 240 := by rw [ex1]; exact p3
  refine x_aload_n hx hb hl 0 rfl dX11_here_4 rfl ?_
  refine x_get (j := 10) (v := .int (xJ (s0 268 10))) hx hb hown hT hE hW cls_X11 (Or.inl (by decide)) (so_268 h0 g _) (by decide) rfl wq1195 dX11_here_5 ?_
  refine x_rd hW (fun x2 ex2 rx2 => ?_)
  refine x_icmp_ge (tgt := 27) hx hb rx1 rx2 dX11_here_8 (by decide) (fun c3 => ?_) (fun c3 => ?_)
  · skip
    refine x_iconst hx hb dX11_here_27 ?_
    rw [eQ]
    exact x_iret hx hb hr hlk hW (by decide) ⟨rfl, by first | (have := zhC_in (σ := s0) (by omega); omega) | (have := zhC_out (σ := s0) (by omega); omega)⟩ dX11_here_28
  refine x_aload_n hx hb hl 0 rfl dX11_here_11 rfl ?_
  refine x_get (j := 7) (v := .ref (h0 + 276)) hx hb hown hT hE hW cls_X11 (Or.inl (by decide)) (so_268 h0 g _) (by decide) rfl wq1192 dX11_here_12 ?_
  refine x_aload_n hx hb hl 0 rfl dX11_here_15 rfl ?_
  refine x_get (j := 9) (v := .int (xJ (s0 268 9))) hx hb hown hT hE hW cls_X11 (Or.inl (by decide)) (so_268 h0 g _) (by decide) rfl wq1194 dX11_here_16 ?_
  refine x_rd hW (fun x4 ex4 rx4 => ?_)
  have bx4 : 0 ≤ x4 ∧ x4 ≤ s0 268 10 ∧ s0 268 10 ≤ 240 := by rw [ex4]; exact p3
  refine x_bald hx hb hE hW (Or.inl (by decide)) (sa_276 h0 g _) (by omega) (by decide) dX11_here_19 ?_
  refine x_rd hW (fun x5 ex5 rx5 => ?_)
  have zx5 : x5 = s0 276 (s0 268 9) := by rw [ex5, show x4 = s0 268 9 from by omega]
  refine x_sipush hx hb dX11_here_20 (by decide) ?_
  refine x_and255 hx hb rx5 dX11_here_23 ?_
  refine x_nm (fun x6 ex6 => ?_)
  refine lv_goto (tgt := 28) hx hb dX11_here_24 (by decide) ?_
  rw [eQ]
  exact x_iret hx hb hr hlk hW (by omega) ⟨rfl, by first | (have := zhC_in (σ := s0) (by omega); omega) | (have := zhC_out (σ := s0) (by omega); omega)⟩ dX11_here_28

