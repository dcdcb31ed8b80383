set_option maxHeartbeats 4000000 in
set_option maxRecDepth 100000 in
theorem c_X10_joinGroupsM (l : Launch) (D : va_G) (g : xG) (T : Nat × Nat × Nat) (h0 : Nat) (s0 : xS) (hσ : xRR s0) (n : Int) (rn : xR n) (a : Int) (ra : xR a) (b : Int) (rb : xR b) (hn : 1 ≤ n ∧ n ≤ 8) (p0 : IC s0) : Met l yX10_joinGroups (xws yX10_joinGroups cX10_joinGroups 5 none) { frames := 0, cells := 0, slots := 0, locals := 0 } (xP [.ref (h0 + 0), .int (xJ n), .int (xJ a), .int (xJ b)] D g T h0 s0) (xQv D g h0 (fun τ => xFr (fun k => k = 267) s0 τ ∧ (((IC τ) ∧ True) ∧ (∀ q : Int, 0 ≤ q → q < n → τ 267 q = jn a b (s0 267) q)))) 0 0 (xA h0) := by
  refine x_met hσ (by decide) (Nat.le_of_ble_eq_true rfl) ?_
  intro p e s m args below meth c hx hb hr hml hown hT hlk hnm hE hW ls hl
  have hl : lv_has ls 5 [(0, .ref (h0 + 0)), (1, .int (xJ n)), (2, .int (xJ a)), (3, .int (xJ b))] := hl
  obtain ⟨Q, eQ⟩ : ∃ Q, Q = MQ below (xQv D g h0 (fun τ => xFr (fun k => k = 267) s0 τ ∧ (((IC τ) ∧ True) ∧ (∀ q : Int, 0 ≤ q → q < n → τ 267 q = jn a b (s0 267) q)))) args s 0 0 (xA h0) := ⟨_, rfl⟩
  rw [← eQ]
  generalize hHe : ([] : List Loc) = locs at hW ⊢
  obtain ⟨H, eH⟩ : ∃ H, H = s.heap := ⟨_, rfl⟩
  rw [← eH] at hW ⊢
  have hF : xFr (fun k => k = 267) s0 s0 := xFr.rf
  have k1_1 : s0 1 1 = s0 1 1 := rfl
  have k1_1 : s0 1 1 = s0 1 1 := rfl
  refine x_iconst hx hb dX10_joinGroups_0 ?_
  refine lv_istore (lv' := [(4, .int (xJ 0)), (0, .ref (h0 + 0)), (1, .int (xJ n)), (2, .int (xJ a)), (3, .int (xJ b))]) hx hb dX10_joinGroups_1 hl (by decide) rfl (fun ls hl => ?_)
  have L3 : ∀ (fu : Nat) (i4_3 : Int) (s_3 : xS) (H : Heap) (locs : List Loc) (ls : Array Slot), (xR i4_3) → (xFr (fun k => k = 267) s0 s_3) → (IC s_3) → (s_3 1 1 = s0 1 1) → (0 ≤ i4_3 ∧ i4_3 ≤ n) → (∀ q : Int, 0 ≤ q → q < i4_3 → s_3 267 q = jn a b (s0 267) q) → (∀ q : Int, i4_3 ≤ q → s_3 267 q = s0 267 q) → (8 - i4_3).toNat < fu → xW D g h0 s H locs s_3 → lv_has ls 5 [(0, .ref (h0 + 0)), (1, .int (xJ n)), (2, .int (xJ a)), (3, .int (xJ b)), (4, .int (xJ i4_3))] → W p l e { frames := 0, cells := 0, slots := 0, locals := 0 } s m args below meth c H locs 0 0 Q (F0 m 3 ls []) := by
    intro fu
    induction fu with
    | zero => intro i4_3 s_3 H locs ls ri4_3 hF_3 q3_0 q3_1 v3_0 v3_1 v3_2 hm; exact absurd hm (Nat.not_lt_zero _)
    | succ fu ih3 =>
      intro i4_3 s_3 H locs ls ri4_3 hF_3 q3_0 q3_1 v3_0 v3_1 v3_2 hm hW hl
      refine x_iload hx hb hl 4 rfl dX10_joinGroups_3 ?_
      refine x_iload_n hx hb hl 1 rfl dX10_joinGroups_5 rfl ?_
      refine x_icmp_ge (tgt := 34) hx hb ri4_3 rn dX10_joinGroups_6 (by decide) (fun c1 => ?_) (fun c1 => ?_)
      · skip
        rw [eQ]
        exact x_vret hx hb hr hlk hW ⟨hF_3, ⟨q3_0, trivial⟩, fun q q1 q2 => v3_1 q q1 (by omega)⟩ dX10_joinGroups_34
      refine x_aload_n hx hb hl 0 rfl dX10_joinGroups_9 rfl ?_
      refine x_get (j := 10) (v := .ref (h0 + 267)) hx hb hown hT hE hW cls_X10 (Or.inl (by decide)) (so_0 h0 g _) (by decide) rfl wq522 dX10_joinGroups_10 ?_
      refine x_iload hx hb hl 4 rfl dX10_joinGroups_13 ?_
      refine x_iald hx hb hE hW (Or.inl (by decide)) (sa_267 h0 g _) (by omega) (by decide) dX10_joinGroups_15 ?_
      refine x_rd hW (fun x2 ex2 rx2 => ?_)
      have V15 : x2 = s0 267 i4_3 := by rw [ex2]; exact v3_2 i4_3 (by omega)
      refine x_iload_n hx hb hl 3 rfl dX10_joinGroups_16 rfl ?_
      refine x_icmp_ne (tgt := 28) hx hb rx2 rb dX10_joinGroups_17 (by decide) (fun c3 => ?_) (fun c3 => ?_)
      · skip
        refine x_iinc (lv' := [(4, .int (xJ (i4_3 + 1))), (0, .ref (h0 + 0)), (1, .int (xJ n)), (2, .int (xJ a)), (3, .int (xJ b))]) hx hb hl 4 rfl dX10_joinGroups_28 (by decide) rfl (fun ls hl => ?_)
        refine lv_goto (tgt := 3) hx hb dX10_joinGroups_31 (by decide) ?_
        exact ih3 (i4_3 + 1) s_3 H locs ls (by omega) hF_3 q3_0 q3_1 (by omega) (by first | exact fun q q1 q2 => (Classical.em (q < i4_3)).elim (fun h => by rw [E27, xU_j _ _ (by omega)]; exact v3_1 q q1 h) (fun h => by rw [show q = i4_3 from by omega, E27, xU_s]; unfold jn; rw [if_pos (by omega)]) | exact fun q q1 q2 => (Classical.em (q < i4_3)).elim (fun h => v3_1 q q1 h) (fun h => by rw [show q = i4_3 from by omega, v3_2 i4_3 (by omega)]; unfold jn; rw [if_neg (by omega)])) (by first | exact fun q q1 => by rw [E27, xU_j _ _ (by omega)]; exact v3_2 q (by omega) | exact fun q q1 => v3_2 q (by omega)) (by omega) hW (lv_sub hl [1, 2, 3, 4, 0] rfl)
      refine x_aload_n hx hb hl 0 rfl dX10_joinGroups_20 rfl ?_
      refine x_get (j := 10) (v := .ref (h0 + 267)) hx hb hown hT hE hW cls_X10 (Or.inl (by decide)) (so_0 h0 g _) (by decide) rfl wq522 dX10_joinGroups_21 ?_
      refine x_iload hx hb hl 4 rfl dX10_joinGroups_24 ?_
      refine x_iload_n hx hb hl 2 rfl dX10_joinGroups_26 rfl ?_
      refine x_iast hx hb hE hW (by decide) (fun σ => sa_267 h0 g σ) (by omega) (by decide) ra dX10_joinGroups_27 (fun H locs s4 es4 hW => ?_)
      have q5 : IC s4 := by rw [es4]; exact IC_o (by decide) q3_0
      have q6 : s4 1 1 = s0 1 1 := (show s4 1 1 = s_3 1 1 from by rw [es4, xU_k _ _ _ (by omega)]).trans q3_1
      have hF7 := hF_3.put es4 (by omega)
      have E27 := es4
      refine x_iinc (lv' := [(4, .int (xJ (i4_3 + 1))), (0, .ref (h0 + 0)), (1, .int (xJ n)), (2, .int (xJ a)), (3, .int (xJ b))]) hx hb hl 4 rfl dX10_joinGroups_28 (by decide) rfl (fun ls hl => ?_)
      refine lv_goto (tgt := 3) hx hb dX10_joinGroups_31 (by decide) ?_
      exact ih3 (i4_3 + 1) s4 H locs ls (by omega) hF7 q5 q6 (by omega) (by first | exact fun q q1 q2 => (Classical.em (q < i4_3)).elim (fun h => by rw [E27, xU_j _ _ (by omega)]; exact v3_1 q q1 h) (fun h => by rw [show q = i4_3 from by omega, E27, xU_s]; unfold jn; rw [if_pos (by omega)]) | exact fun q q1 q2 => (Classical.em (q < i4_3)).elim (fun h => v3_1 q q1 h) (fun h => by rw [show q = i4_3 from by omega, v3_2 i4_3 (by omega)]; unfold jn; rw [if_neg (by omega)])) (by first | exact fun q q1 => by rw [E27, xU_j _ _ (by omega)]; exact v3_2 q (by omega) | exact fun q q1 => v3_2 q (by omega)) (by omega) hW (lv_sub hl [1, 2, 3, 4, 0] rfl)
  exact L3 ((8 - 0 : Int).toNat + 1) 0 s0 H locs ls (by decide) hF p0 k1_1 (by omega) (fun q q1 q2 => absurd q2 (by omega)) (fun q _ => rfl) (Nat.lt_succ_self _) hW (lv_sub hl [1, 2, 3, 4, 0] rfl)
set_option maxHeartbeats 4000000 in
set_option maxRecDepth 100000 in
theorem c_X10_groupSentencesM (l : Launch) (D : va_G) (g : xG) (T : Nat × Nat × Nat) (h0 : Nat) (s0 : xS) (hσ : xRR s0) (n : Int) (rn : xR n) (q : Int) (rq : xR q) (hn : 1 ≤ n ∧ n ≤ 8) (hm : 0 ≤ q ∧ q ≤ 12) (hle : 2 * n + 1 + 2 * q ≤ s0 1 1) (hpl : zpl (s0 2) n q) (p0 : IC s0) : Met l yX10_groupSentences (xws yX10_groupSentences cX10_groupSentences 6 none) { frames := 1, cells := 0, slots := 0, locals := 24 } (xP [.ref (h0 + 0), .int (xJ n), .int (xJ q)] D g T h0 s0) (xQv D g h0 (fun τ => xFr (fun k => k = 267) s0 τ ∧ (((IC τ) ∧ True) ∧ (∀ i : Int, 0 ≤ i → i < n → τ 267 i = zgr (s0 2) n false q.toNat i)))) 0 0 (xA h0) := by
  refine x_met hσ (by decide) (Nat.le_of_ble_eq_true rfl) ?_
  intro p e s m args below meth c hx hb hr hml hown hT hlk hnm hE hW ls hl
  have hl : lv_has ls 6 [(0, .ref (h0 + 0)), (1, .int (xJ n)), (2, .int (xJ q))] := hl
  obtain ⟨Q, eQ⟩ : ∃ Q, Q = MQ below (xQv D g h0 (fun τ => xFr (fun k => k = 267) s0 τ ∧ (((IC τ) ∧ True) ∧ (∀ i : Int, 0 ≤ i → i < n → τ 267 i = zgr (s0 2) n false q.toNat i)))) args s 0 0 (xA h0) := ⟨_, rfl⟩
  rw [← eQ]
  generalize hHe : ([] : List Loc) = locs at hW ⊢
  obtain ⟨H, eH⟩ : ∃ H, H = s.heap := ⟨_, rfl⟩
  rw [← eH] at hW ⊢
  have hF : xFr (fun k => k = 267) s0 s0 := xFr.rf
  have k1_1 : s0 1 1 = s0 1 1 := rfl
  have k1_1 : s0 1 1 = s0 1 1 := rfl
  refine x_iconst hx hb dX10_groupSentences_0 ?_
  refine lv_istore_n (lv' := [(3, .int (xJ 0)), (0, .ref (h0 + 0)), (1, .int (xJ n)), (2, .int (xJ q))]) hx hb dX10_groupSentences_1 rfl hl (by decide) rfl (fun ls hl => ?_)
  have L2 : ∀ (fu : Nat) (i3_2 : Int) (s_2 : xS) (H : Heap) (locs : List Loc) (ls : Array Slot), (xR i3_2) → (xFr (fun k => k = 267) s0 s_2) → (IC s_2) → (s_2 1 1 = s0 1 1) → (0 ≤ i3_2 ∧ i3_2 ≤ n) → (∀ i : Int, 0 ≤ i → i < i3_2 → s_2 267 i = i) → (8 - i3_2).toNat < fu → xW D g h0 s H locs s_2 → lv_has ls 6 [(0, .ref (h0 + 0)), (1, .int (xJ n)), (2, .int (xJ q)), (3, .int (xJ i3_2))] → W p l e { frames := 1, cells := 0, slots := 0, locals := 24 } s m args below meth c H locs 0 0 Q (F0 m 2 ls []) := by
    intro fu
    induction fu with
    | zero => intro i3_2 s_2 H locs ls ri3_2 hF_2 q2_0 q2_1 v2_0 v2_1 hm; exact absurd hm (Nat.not_lt_zero _)
    | succ fu ih2 =>
      intro i3_2 s_2 H locs ls ri3_2 hF_2 q2_0 q2_1 v2_0 v2_1 hm hW hl
      refine x_iload_n hx hb hl 3 rfl dX10_groupSentences_2 rfl ?_
      refine x_iload_n hx hb hl 1 rfl dX10_groupSentences_3 rfl ?_
      refine x_icmp_ge (tgt := 26) hx hb ri3_2 rn dX10_groupSentences_4 (by decide) (fun c1 => ?_) (fun c1 => ?_)
      · skip
        refine x_iconst hx hb dX10_groupSentences_26 ?_
        refine lv_istore_n (lv' := [(3, .int (xJ 0)), (0, .ref (h0 + 0)), (1, .int (xJ n)), (2, .int (xJ q))]) hx hb dX10_groupSentences_27 rfl hl (by decide) rfl (fun ls hl => ?_)
        have L28 : ∀ (fu : Nat) (i3_28 : Int) (s_28 : xS) (H : Heap) (locs : List Loc) (ls : Array Slot), (xR i3_28) → (xFr (fun k => k = 267) s0 s_28) → (IC s_28) → (s_28 1 1 = s0 1 1) → (0 ≤ i3_28 ∧ i3_28 ≤ q) → (∀ i : Int, 0 ≤ i → i < n → s_28 267 i = zgr (s0 2) n false (i3_28).toNat i) → (12 - i3_28).toNat < fu → xW D g h0 s H locs s_28 → lv_has ls 6 [(0, .ref (h0 + 0)), (1, .int (xJ n)), (2, .int (xJ q)), (3, .int (xJ i3_28))] → W p l e { frames := 1, cells := 0, slots := 0, locals := 24 } s m args below meth c H locs 0 0 Q (F0 m 28 ls []) := by
          intro fu
          induction fu with
          | zero => intro i3_28 s_28 H locs ls ri3_28 hF_28 q28_0 q28_1 v28_0 v28_1 hm; exact absurd hm (Nat.not_lt_zero _)
          | succ fu ih28 =>
            intro i3_28 s_28 H locs ls ri3_28 hF_28 q28_0 q28_1 v28_0 v28_1 hm hW hl
            refine x_iload_n hx hb hl 3 rfl dX10_groupSentences_28 rfl ?_
            refine x_iload_n hx hb hl 2 rfl dX10_groupSentences_29 rfl ?_
            refine x_icmp_ge (tgt := 118) hx hb ri3_28 rq dX10_groupSentences_30 (by decide) (fun c2 => ?_) (fun c2 => ?_)
            · skip
              rw [eQ]
              exact x_vret hx hb hr hlk hW ⟨hF_28, ⟨q28_0, trivial⟩, fun i i1 i2 => by rw [show q = i3_28 from by omega]; exact v28_1 i i1 i2⟩ dX10_groupSentences_118
            refine x_aload_n hx hb hl 0 rfl dX10_groupSentences_33 rfl ?_
            refine x_get (j := 0) (v := .ref (h0 + 1)) hx hb hown hT hE hW cls_X10 (Or.inl (by decide)) (so_0 h0 g _) (by decide) rfl wq512 dX10_groupSentences_34 ?_
            refine x_iconst hx hb dX10_groupSentences_37 ?_
            refine x_iload_n hx hb hl 1 rfl dX10_groupSentences_38 rfl ?_
            refine x_imul hx hb dX10_groupSentences_39 ?_
            refine x_iconst hx hb dX10_groupSentences_40 ?_
            refine x_iadd hx hb dX10_groupSentences_41 ?_
            refine x_iconst hx hb dX10_groupSentences_42 ?_
            refine x_iload_n hx hb hl 3 rfl dX10_groupSentences_43 rfl ?_
            refine x_imul hx hb dX10_groupSentences_44 ?_
            refine x_iadd hx hb dX10_groupSentences_45 ?_
            refine x_goi (x_runVN (As := [.int (xJ (((2 * n) + 1) + (2 * i3_28)))]) hx hb hml hown hT hE hW hl.1 (Or.inl (by decide)) (so_1 h0 g _) rfl cf_X8_byteAt wq1084 wq90 wn1082 (c_X8_byteAt l D g T h0 s_28 hW.2.1 (((2 * n) + 1) + (2 * i3_28)) (by omega) q28_0) ⟨rfl, rfl, ⟨by decide, by decide⟩, ⟨by decide, by decide⟩⟩ rfl rfl (Nat.le_of_ble_eq_true rfl) dX10_groupSentences_46) hW (fun x3 s4 H locs rx3 hp5 hW => ?_)
            obtain ⟨es4, hp5⟩ := hp5
            subst es4
            have ghp5 := hp5
            have B46 : x3 = s0 2 (2 * n + 1 + 2 * i3_28) ∧ 0 ≤ x3 ∧ x3 < n := by
              have q9 := congrFun (hF_28 2 (by omega)) (2 * n + 1 + 2 * i3_28)
              have p9 := hpl (2 * i3_28) (by omega) (by omega)
              omega
            refine lv_istore (lv' := [(4, .int (xJ x3)), (0, .ref (h0 + 0)), (1, .int (xJ n)), (2, .int (xJ q)), (3, .int (xJ i3_28))]) hx hb dX10_groupSentences_49 hl (by decide) rfl (fun ls hl => ?_)
            refine x_aload_n hx hb hl 1 rfl dX10_groupSentences_51 rfl ?_
            refine x_get (j := 0) (v := .ref (h0 + 1)) hx hb hown hT hE hW cls_X10 (Or.inl (by decide)) (so_0 h0 g _) (by decide) rfl wq512 dX10_groupSentences_52 ?_
            refine x_iconst hx hb dX10_groupSentences_55 ?_
            refine x_iload_n hx hb hl 2 rfl dX10_groupSentences_56 rfl ?_
            refine x_imul hx hb dX10_groupSentences_57 ?_
            refine x_iconst hx hb dX10_groupSentences_58 ?_
            refine x_iadd hx hb dX10_groupSentences_59 ?_
            refine x_iconst hx hb dX10_groupSentences_60 ?_
            refine x_iload_n hx hb hl 4 rfl dX10_groupSentences_61 rfl ?_
            refine x_imul hx hb dX10_groupSentences_62 ?_
            refine x_iadd hx hb dX10_groupSentences_63 ?_
            refine x_goi (x_runVN (As := [.int (xJ (((2 * n) + 2) + (2 * i3_28)))]) hx hb hml hown hT hE hW hl.1 (Or.inl (by decide)) (so_1 h0 g _) rfl cf_X8_byteAt wq1084 wq90 wn1082 (c_X8_byteAt l D g T h0 s_28 hW.2.1 (((2 * n) + 2) + (2 * i3_28)) (by omega) q28_0) ⟨rfl, rfl, ⟨by decide, by decide⟩, ⟨by decide, by decide⟩⟩ rfl rfl (Nat.le_of_ble_eq_true rfl) dX10_groupSentences_64) hW (fun x6 s7 H locs rx6 hp8 hW => ?_)
            obtain ⟨es7, hp8⟩ := hp8
            subst es7
            have ghp8 := hp8
            have B64 : x6 = s0 2 (2 * n + 2 + 2 * i3_28) ∧ 0 ≤ x6 ∧ x6 < n := by
              have q9 := congrFun (hF_28 2 (by omega)) (2 * n + 2 + 2 * i3_28)
              have p9 := hpl (2 * i3_28 + 1) (by omega) (by omega)
              rw [show 2 * n + 1 + (2 * i3_28 + 1) = 2 * n + 2 + 2 * i3_28 from by omega] at p9
              omega
            refine lv_istore (lv' := [(5, .int (xJ x6)), (4, .int (xJ x3)), (0, .ref (h0 + 0)), (1, .int (xJ n)), (2, .int (xJ q)), (3, .int (xJ i3_28))]) hx hb dX10_groupSentences_67 hl (by decide) rfl (fun ls hl => ?_)
            refine x_iload hx hb hl 1 rfl dX10_groupSentences_69 ?_
            refine x_iconst hx hb dX10_groupSentences_71 ?_
            refine x_iload_n hx hb hl 3 rfl dX10_groupSentences_72 rfl ?_
            refine x_iconst hx hb dX10_groupSentences_73 ?_
            refine x_isub hx hb dX10_groupSentences_74 ?_
            refine x_goi (x_runS (As := [.int (xJ x3), .int (xJ 0), .int (xJ (n - 1))]) hx hb hml hown hT hE hW hl.1 cf_X10_isIn wq562 wq561 (c_X10_isIn l D g T h0 s_28 hW.2.1 x3 rx3 0 (by decide) (n - 1) (by omega)) ⟨rfl, rfl, ⟨by decide, by decide⟩, ⟨by decide, by decide⟩⟩ rfl rfl (Nat.le_of_ble_eq_true rfl) dX10_groupSentences_75) hW (fun x9 s10 H locs rx9 hp11 hW => ?_)
            obtain ⟨es10, hp11⟩ := hp11
            subst es10
            have ghp11 := hp11
            refine x_if_eq (tgt := 112) hx hb rx9 dX10_groupSentences_78 (by decide) (fun c12 => ?_) (fun c12 => ?_)
            · skip
              refine x_iinc (lv' := [(3, .int (xJ (i3_28 + 1))), (5, .int (xJ x6)), (4, .int (xJ x3)), (0, .ref (h0 + 0)), (1, .int (xJ n)), (2, .int (xJ q))]) hx hb hl 5 rfl dX10_groupSentences_112 (by decide) rfl (fun ls hl => ?_)
              refine lv_goto (tgt := 28) hx hb dX10_groupSentences_115 (by decide) ?_
              exact ih28 (i3_28 + 1) s_28 H locs ls (by omega) hF_28 q28_0 q28_1 (by omega) (by first | exact fun i i1 i2 => by rw [H109 i i1 i2, zgr_c _ _ (by omega), ← B46.1, ← B64.1, ← V101, ← V108]; unfold jn; rw [v28_1 i i1 i2] | (exfalso; omega)) (by omega) hW (lv_sub hl [3, 4, 5, 0] rfl)
            refine x_iload hx hb hl 0 rfl dX10_groupSentences_81 ?_
            refine x_iconst hx hb dX10_groupSentences_83 ?_
            refine x_iload_n hx hb hl 3 rfl dX10_groupSentences_84 rfl ?_
            refine x_iconst hx hb dX10_groupSentences_85 ?_
            refine x_isub hx hb dX10_groupSentences_86 ?_
            refine x_goi (x_runS (As := [.int (xJ x6), .int (xJ 0), .int (xJ (n - 1))]) hx hb hml hown hT hE hW hl.1 cf_X10_isIn wq562 wq561 (c_X10_isIn l D g T h0 s_28 hW.2.1 x6 rx6 0 (by decide) (n - 1) (by omega)) ⟨rfl, rfl, ⟨by decide, by decide⟩, ⟨by decide, by decide⟩⟩ rfl rfl (Nat.le_of_ble_eq_true rfl) dX10_groupSentences_87) hW (fun x13 s14 H locs rx13 hp15 hW => ?_)
            obtain ⟨es14, hp15⟩ := hp15
            subst es14
            have ghp15 := hp15
            refine x_if_eq (tgt := 112) hx hb rx13 dX10_groupSentences_90 (by decide) (fun c16 => ?_) (fun c16 => ?_)
            · skip
              refine x_iinc (lv' := [(3, .int (xJ (i3_28 + 1))), (5, .int (xJ x6)), (4, .int (xJ x3)), (0, .ref (h0 + 0)), (1, .int (xJ n)), (2, .int (xJ q))]) hx hb hl 5 rfl dX10_groupSentences_112 (by decide) rfl (fun ls hl => ?_)
              refine lv_goto (tgt := 28) hx hb dX10_groupSentences_115 (by decide) ?_
              exact ih28 (i3_28 + 1) s_28 H locs ls (by omega) hF_28 q28_0 q28_1 (by omega) (by first | exact fun i i1 i2 => by rw [H109 i i1 i2, zgr_c _ _ (by omega), ← B46.1, ← B64.1, ← V101, ← V108]; unfold jn; rw [v28_1 i i1 i2] | (exfalso; omega)) (by omega) hW (lv_sub hl [3, 4, 5, 0] rfl)
            refine x_aload_n hx hb hl 2 rfl dX10_groupSentences_93 rfl ?_
            refine x_iload_n hx hb hl 3 rfl dX10_groupSentences_94 rfl ?_
            refine x_aload_n hx hb hl 2 rfl dX10_groupSentences_95 rfl ?_
            refine x_get (j := 10) (v := .ref (h0 + 267)) hx hb hown hT hE hW cls_X10 (Or.inl (by decide)) (so_0 h0 g _) (by decide) rfl wq522 dX10_groupSentences_96 ?_
            refine x_iload hx hb hl 1 rfl dX10_groupSentences_99 ?_
            refine x_iald hx hb hE hW (Or.inl (by decide)) (sa_267 h0 g _) (by omega) (by decide) dX10_groupSentences_101 ?_
            refine x_rd hW (fun x17 ex17 rx17 => ?_)
            have V101 : x17 = zgr (s0 2) n false (i3_28).toNat x3 := by rw [ex17]; exact v28_1 x3 (by omega) (by omega)
            refine x_aload_n hx hb hl 2 rfl dX10_groupSentences_102 rfl ?_
            refine x_get (j := 10) (v := .ref (h0 + 267)) hx hb hown hT hE hW cls_X10 (Or.inl (by decide)) (so_0 h0 g _) (by decide) rfl wq522 dX10_groupSentences_103 ?_
            refine x_iload hx hb hl 0 rfl dX10_groupSentences_106 ?_
            refine x_iald hx hb hE hW (Or.inl (by decide)) (sa_267 h0 g _) (by omega) (by decide) dX10_groupSentences_108 ?_
            refine x_rd hW (fun x18 ex18 rx18 => ?_)
            have V108 : x18 = zgr (s0 2) n false (i3_28).toNat x6 := by rw [ex18]; exact v28_1 x6 (by omega) (by omega)
            refine x_gov (x_runV (As := [.int (xJ n), .int (xJ x17), .int (xJ x18)]) hx hb hml hown hT hE hW hl.1 (Or.inl (by decide)) (so_0 h0 g _) rfl cf_X10_joinGroups wq1139 wq101 wq1137 (c_X10_joinGroupsM l D g T h0 s_28 hW.2.1 n rn x17 rx17 x18 rx18 (by omega) q28_0) ⟨rfl, rfl, ⟨by decide, by decide⟩, ⟨by decide, by decide⟩⟩ rfl rfl (Nat.le_of_ble_eq_true rfl) dX10_groupSentences_109) hW (fun s20 H locs hp21 hW => ?_)
            obtain ⟨fs20, hp21⟩ := hp21
            have hF22 := hF_28.call fs20 (fun k h => by omega)
            have q23 : s20 1 1 = s0 1 1 := (congrFun (fs20 _ (by omega)) _).trans q28_1
            have ghp21 := hp21.2
            have H109 := ghp21
            refine x_iinc (lv' := [(3, .int (xJ (i3_28 + 1))), (5, .int (xJ x6)), (4, .int (xJ x3)), (0, .ref (h0 + 0)), (1, .int (xJ n)), (2, .int (xJ q))]) hx hb hl 5 rfl dX10_groupSentences_112 (by decide) rfl (fun ls hl => ?_)
            refine lv_goto (tgt := 28) hx hb dX10_groupSentences_115 (by decide) ?_
            exact ih28 (i3_28 + 1) s20 H locs ls (by omega) hF22 hp21.1.1 q23 (by omega) (by first | exact fun i i1 i2 => by rw [H109 i i1 i2, zgr_c _ _ (by omega), ← B46.1, ← B64.1, ← V101, ← V108]; unfold jn; rw [v28_1 i i1 i2] | (exfalso; omega)) (by omega) hW (lv_sub hl [3, 4, 5, 0] rfl)
        exact L28 ((12 - 0 : Int).toNat + 1) 0 s_2 H locs ls (by decide) hF_2 q2_0 q2_1 (by omega) (fun i i1 i2 => v2_1 i i1 (by omega)) (Nat.lt_succ_self _) hW (lv_sub hl [1, 2, 3, 0] rfl)
      refine x_iload_n hx hb hl 3 rfl dX10_groupSentences_7 rfl ?_
      refine x_bipush hx hb dX10_groupSentences_8 (by decide) ?_
      refine x_icmp_ge (tgt := 26) hx hb ri3_2 (by decide) dX10_groupSentences_10 (by decide) (fun c24 => False.elim (by omega)) (fun c24 => ?_)
      refine x_aload_n hx hb hl 0 rfl dX10_groupSentences_13 rfl ?_
      refine x_get (j := 10) (v := .ref (h0 + 267)) hx hb hown hT hE hW cls_X10 (Or.inl (by decide)) (so_0 h0 g _) (by decide) rfl wq522 dX10_groupSentences_14 ?_
      refine x_iload_n hx hb hl 3 rfl dX10_groupSentences_17 rfl ?_
      refine x_iload_n hx hb hl 3 rfl dX10_groupSentences_18 rfl ?_
      refine x_iast hx hb hE hW (by decide) (fun σ => sa_267 h0 g σ) (by omega) (by decide) ri3_2 dX10_groupSentences_19 (fun H locs s25 es25 hW => ?_)
      have q26 : IC s25 := by rw [es25]; exact IC_o (by decide) q2_0
      have q27 : s25 1 1 = s0 1 1 := (show s25 1 1 = s_2 1 1 from by rw [es25, xU_k _ _ _ (by omega)]).trans q2_1
      have hF28 := hF_2.put es25 (by omega)
      have E19 := es25
      refine x_iinc (lv' := [(3, .int (xJ (i3_2 + 1))), (0, .ref (h0 + 0)), (1, .int (xJ n)), (2, .int (xJ q))]) hx hb hl 3 rfl dX10_groupSentences_20 (by decide) rfl (fun ls hl => ?_)
      refine lv_goto (tgt := 2) hx hb dX10_groupSentences_23 (by decide) ?_
      exact ih2 (i3_2 + 1) s25 H locs ls (by omega) hF28 q26 q27 (by omega) (fun i i1 i2 => (Classical.em (i < i3_2)).elim (fun h => by rw [E19, xU_j _ _ (by omega)]; exact v2_1 i i1 h) (fun h => by rw [show i = i3_2 from by omega, E19, xU_s])) (by omega) hW (lv_sub hl [1, 2, 3, 0] rfl)
  exact L2 ((8 - 0 : Int).toNat + 1) 0 s0 H locs ls (by decide) hF p0 k1_1 (by omega) (fun i i1 i2 => absurd i2 (by omega)) (Nat.lt_succ_self _) hW (lv_sub hl [1, 2, 3, 0] rfl)
set_option maxHeartbeats 4000000 in
set_option maxRecDepth 100000 in
theorem c_X10_longestOfGroupM (l : Launch) (D : va_G) (g : xG) (T : Nat × Nat × Nat) (h0 : Nat) (s0 : xS) (hσ : xRR s0) (n : Int) (rn : xR n) (a : Int) (ra : xR a) (hn : 1 ≤ n ∧ n ≤ 8) (hle : 2 * n ≤ s0 1 1) (p0 : IC s0) : Met l yX10_longestOfGroup (xws yX10_longestOfGroup cX10_longestOfGroup 5 (some .int)) { frames := 1, cells := 0, slots := 0, locals := 21 } (xP [.ref (h0 + 0), .int (xJ n), .int (xJ a)] D g T h0 s0) (xQi D g h0 (fun r τ => s0 = τ ∧ (-1 ≤ r ∧ r ≤ 65535 ∧ r = zlg (s0 2) (s0 267) a n.toNat))) 0 0 (xA h0) := by
  refine x_met hσ (by decide) (Nat.le_of_ble_eq_true rfl) ?_
  intro p e s m args below meth c hx hb hr hml hown hT hlk hnm hE hW ls hl
  have hl : lv_has ls 5 [(0, .ref (h0 + 0)), (1, .int (xJ n)), (2, .int (xJ a))] := hl
  obtain ⟨Q, eQ⟩ : ∃ Q, Q = MQ below (xQi D g h0 (fun r τ => s0 = τ ∧ (-1 ≤ r ∧ r ≤ 65535 ∧ r = zlg (s0 2) (s0 267) a n.toNat))) args s 0 0 (xA h0) := ⟨_, rfl⟩
  rw [← eQ]
  generalize hHe : ([] : List Loc) = locs at hW ⊢
  obtain ⟨H, eH⟩ : ∃ H, H = s.heap := ⟨_, rfl⟩
  rw [← eH] at hW ⊢
  have k1_1 : s0 1 1 = s0 1 1 := rfl
  have k1_1 : s0 1 1 = s0 1 1 := rfl
  refine x_iconst hx hb dX10_longestOfGroup_0 ?_
  refine lv_istore_n (lv' := [(3, .int (xJ (-1))), (0, .ref (h0 + 0)), (1, .int (xJ n)), (2, .int (xJ a))]) hx hb dX10_longestOfGroup_1 rfl hl (by decide) rfl (fun ls hl => ?_)
  refine x_iconst hx hb dX10_longestOfGroup_2 ?_
  refine lv_istore (lv' := [(4, .int (xJ 0)), (3, .int (xJ (-1))), (0, .ref (h0 + 0)), (1, .int (xJ n)), (2, .int (xJ a))]) hx hb dX10_longestOfGroup_3 hl (by decide) rfl (fun ls hl => ?_)
  have L5 : ∀ (fu : Nat) (i3_5 : Int) (i4_5 : Int) (H : Heap) (locs : List Loc) (ls : Array Slot), (xR i3_5) → (xR i4_5) → (0 ≤ i4_5 ∧ i4_5 ≤ n) → (-1 ≤ i3_5 ∧ i3_5 ≤ 65535) → (i3_5 = zlg (s0 2) (s0 267) a (i4_5).toNat) → (8 - i4_5).toNat < fu → xW D g h0 s H locs s0 → lv_has ls 5 [(0, .ref (h0 + 0)), (1, .int (xJ n)), (2, .int (xJ a)), (3, .int (xJ i3_5)), (4, .int (xJ i4_5))] → W p l e { frames := 1, cells := 0, slots := 0, locals := 21 } s m args below meth c H locs 0 0 Q (F0 m 5 ls []) := by
    intro fu
    induction fu with
    | zero => intro i3_5 i4_5 H locs ls ri3_5 ri4_5 v5_0 v5_1 v5_2 hm; exact absurd hm (Nat.not_lt_zero _)
    | succ fu ih5 =>
      intro i3_5 i4_5 H locs ls ri3_5 ri4_5 v5_0 v5_1 v5_2 hm hW hl
      refine x_iload hx hb hl 4 rfl dX10_longestOfGroup_5 ?_
      refine x_iload_n hx hb hl 1 rfl dX10_longestOfGroup_7 rfl ?_
      refine x_icmp_ge (tgt := 62) hx hb ri4_5 rn dX10_longestOfGroup_8 (by decide) (fun c1 => ?_) (fun c1 => ?_)
      · skip
        refine x_iload_n hx hb hl 3 rfl dX10_longestOfGroup_62 rfl ?_
        rw [eQ]
        exact x_iret hx hb hr hlk hW ri3_5 ⟨rfl, ⟨by omega, by omega, by rw [show n = i4_5 from by omega]; exact v5_2⟩⟩ dX10_longestOfGroup_63
      refine x_aload_n hx hb hl 0 rfl dX10_longestOfGroup_11 rfl ?_
      refine x_get (j := 10) (v := .ref (h0 + 267)) hx hb hown hT hE hW cls_X10 (Or.inl (by decide)) (so_0 h0 g _) (by decide) rfl wq522 dX10_longestOfGroup_12 ?_
      refine x_iload hx hb hl 4 rfl dX10_longestOfGroup_15 ?_
      refine x_iald hx hb hE hW (Or.inl (by decide)) (sa_267 h0 g _) (by omega) (by decide) dX10_longestOfGroup_17 ?_
      refine x_rd hW (fun x2 ex2 rx2 => ?_)
      refine x_iload_n hx hb hl 2 rfl dX10_longestOfGroup_18 rfl ?_
      refine x_icmp_ne (tgt := 56) hx hb rx2 ra dX10_longestOfGroup_19 (by decide) (fun c3 => ?_) (fun c3 => ?_)
      · skip
        refine x_iinc (lv' := [(4, .int (xJ (i4_5 + 1))), (0, .ref (h0 + 0)), (1, .int (xJ n)), (2, .int (xJ a)), (3, .int (xJ i3_5))]) hx hb hl 4 rfl dX10_longestOfGroup_56 (by decide) rfl (fun ls hl => ?_)
        refine lv_goto (tgt := 5) hx hb dX10_longestOfGroup_59 (by decide) ?_
        exact ih5 i3_5 (i4_5 + 1) H locs ls ri3_5 (by omega) (by omega) (by omega) (by first | (rw [zlg_n (by omega) (by omega)]; omega) | (rw [zlg_y (by omega) (by omega)]; unfold zln; split <;> omega)) (by omega) hW (lv_sub hl [1, 2, 3, 4, 0] rfl)
      refine x_iload_n hx hb hl 3 rfl dX10_longestOfGroup_22 rfl ?_
      refine x_sipush hx hb dX10_longestOfGroup_23 (by decide) ?_
      refine x_aload_n hx hb hl 0 rfl dX10_longestOfGroup_26 rfl ?_
      refine x_get (j := 0) (v := .ref (h0 + 1)) hx hb hown hT hE hW cls_X10 (Or.inl (by decide)) (so_0 h0 g _) (by decide) rfl wq512 dX10_longestOfGroup_27 ?_
      refine x_iconst hx hb dX10_longestOfGroup_30 ?_
      refine x_iload hx hb hl 4 rfl dX10_longestOfGroup_31 ?_
      refine x_imul hx hb dX10_longestOfGroup_33 ?_
      refine x_goi (x_runVN (As := [.int (xJ (2 * i4_5))]) hx hb hml hown hT hE hW hl.1 (Or.inl (by decide)) (so_1 h0 g _) rfl cf_X8_byteAt wq1084 wq90 wn1082 (c_X8_byteAt l D g T h0 s0 hW.2.1 (2 * i4_5) (by omega) p0) ⟨rfl, rfl, ⟨by decide, by decide⟩, ⟨by decide, by decide⟩⟩ rfl rfl (Nat.le_of_ble_eq_true rfl) dX10_longestOfGroup_34) hW (fun x4 s5 H locs rx4 hp6 hW => ?_)
      obtain ⟨es5, hp6⟩ := hp6
      subst es5
      have ghp6 := hp6
      refine x_imul hx hb dX10_longestOfGroup_37 ?_
      refine x_aload_n hx hb hl 0 rfl dX10_longestOfGroup_38 rfl ?_
      refine x_get (j := 0) (v := .ref (h0 + 1)) hx hb hown hT hE hW cls_X10 (Or.inl (by decide)) (so_0 h0 g _) (by decide) rfl wq512 dX10_longestOfGroup_39 ?_
      refine x_iconst hx hb dX10_longestOfGroup_42 ?_
      refine x_iload hx hb hl 4 rfl dX10_longestOfGroup_43 ?_
      refine x_imul hx hb dX10_longestOfGroup_45 ?_
      refine x_iconst hx hb dX10_longestOfGroup_46 ?_
      refine x_iadd hx hb dX10_longestOfGroup_47 ?_
      refine x_goi (x_runVN (As := [.int (xJ ((2 * i4_5) + 1))]) hx hb hml hown hT hE hW hl.1 (Or.inl (by decide)) (so_1 h0 g _) rfl cf_X8_byteAt wq1084 wq90 wn1082 (c_X8_byteAt l D g T h0 s0 hW.2.1 ((2 * i4_5) + 1) (by omega) p0) ⟨rfl, rfl, ⟨by decide, by decide⟩, ⟨by decide, by decide⟩⟩ rfl rfl (Nat.le_of_ble_eq_true rfl) dX10_longestOfGroup_48) hW (fun x7 s8 H locs rx7 hp9 hW => ?_)
      obtain ⟨es8, hp9⟩ := hp9
      subst es8
      have ghp9 := hp9
      refine x_iadd hx hb dX10_longestOfGroup_51 ?_
      refine x_mmax hx hb hml hl.1 hown hT wq1073 wq594 wq180 wq595 ⟨by decide, Nat.le_of_ble_eq_true rfl, by decide, by decide⟩ ri3_5 (by omega) dX10_longestOfGroup_52 ?_
      refine x_nm (fun x10 ex10 => ?_)
      have fx10 : (x10 = i3_5 ∧ ((256 * x4) + x7) ≤ i3_5) ∨ (x10 = ((256 * x4) + x7) ∧ i3_5 ≤ ((256 * x4) + x7)) := by rw [ex10]; split <;> omega
      refine lv_istore_n (lv' := [(3, .int (xJ x10)), (0, .ref (h0 + 0)), (1, .int (xJ n)), (2, .int (xJ a)), (4, .int (xJ i4_5))]) hx hb dX10_longestOfGroup_55 rfl hl (by decide) rfl (fun ls hl => ?_)
      refine x_iinc (lv' := [(4, .int (xJ (i4_5 + 1))), (3, .int (xJ x10)), (0, .ref (h0 + 0)), (1, .int (xJ n)), (2, .int (xJ a))]) hx hb hl 4 rfl dX10_longestOfGroup_56 (by decide) rfl (fun ls hl => ?_)
      refine lv_goto (tgt := 5) hx hb dX10_longestOfGroup_59 (by decide) ?_
      exact ih5 x10 (i4_5 + 1) H locs ls (by omega) (by omega) (by omega) (by omega) (by first | (rw [zlg_n (by omega) (by omega)]; omega) | (rw [zlg_y (by omega) (by omega)]; unfold zln; split <;> omega)) (by omega) hW (lv_sub hl [2, 3, 4, 1, 0] rfl)
  exact L5 ((8 - 0 : Int).toNat + 1) (-1) 0 H locs ls (by decide) (by decide) (by omega) (by omega) (rfl) (Nat.lt_succ_self _) hW (lv_sub hl [2, 3, 4, 1, 0] rfl)
set_option maxHeartbeats 4000000 in
set_option maxRecDepth 100000 in
theorem c_X10_areAllPlacesM (l : Launch) (D : va_G) (g : xG) (T : Nat × Nat × Nat) (h0 : Nat) (s0 : xS) (hσ : xRR s0) (n : Int) (rn : xR n) (q : Int) (rq : xR q) (hn : 1 ≤ n ∧ n ≤ 8) (hm : 0 ≤ q ∧ q ≤ 12) (hle : 2 * n + 1 + 2 * q ≤ s0 1 1) (p0 : IC s0) : Met l yX10_areAllPlaces (xws yX10_areAllPlaces cX10_areAllPlaces 4 (some .boolean)) { frames := 1, cells := 0, slots := 0, locals := 21 } (xP [.ref (h0 + 0), .int (xJ n), .int (xJ q)] D g T h0 s0) (xQi D g h0 (fun r τ => s0 = τ ∧ ((r = 1 ∧ zpl (s0 2) n q) ∨ (r = 0 ∧ ¬ zpl (s0 2) n q)))) 0 0 (xA h0) := by
  refine x_met hσ (by decide) (Nat.le_of_ble_eq_true rfl) ?_
  intro p e s m args below meth c hx hb hr hml hown hT hlk hnm hE hW ls hl
  have hl : lv_has ls 4 [(0, .ref (h0 + 0)), (1, .int (xJ n)), (2, .int (xJ q))] := hl
  obtain ⟨Q, eQ⟩ : ∃ Q, Q = MQ below (xQi D g h0 (fun r τ => s0 = τ ∧ ((r = 1 ∧ zpl (s0 2) n q) ∨ (r = 0 ∧ ¬ zpl (s0 2) n q)))) args s 0 0 (xA h0) := ⟨_, rfl⟩
  rw [← eQ]
  generalize hHe : ([] : List Loc) = locs at hW ⊢
  obtain ⟨H, eH⟩ : ∃ H, H = s.heap := ⟨_, rfl⟩
  rw [← eH] at hW ⊢
  have k1_1 : s0 1 1 = s0 1 1 := rfl
  have k1_1 : s0 1 1 = s0 1 1 := rfl
  refine x_iconst hx hb dX10_areAllPlaces_0 ?_
  refine lv_istore_n (lv' := [(3, .int (xJ 0)), (0, .ref (h0 + 0)), (1, .int (xJ n)), (2, .int (xJ q))]) hx hb dX10_areAllPlaces_1 rfl hl (by decide) rfl (fun ls hl => ?_)
  have L2 : ∀ (fu : Nat) (i3_2 : Int) (H : Heap) (locs : List Loc) (ls : Array Slot), (xR i3_2) → (0 ≤ i3_2) → (∀ i : Int, 0 ≤ i → i < i3_2 → s0 2 (2 * n + 1 + i) < n) → (24 - i3_2).toNat < fu → xW D g h0 s H locs s0 → lv_has ls 4 [(0, .ref (h0 + 0)), (1, .int (xJ n)), (2, .int (xJ q)), (3, .int (xJ i3_2))] → W p l e { frames := 1, cells := 0, slots := 0, locals := 21 } s m args below meth c H locs 0 0 Q (F0 m 2 ls []) := by
    intro fu
    induction fu with
    | zero => intro i3_2 H locs ls ri3_2 v2_0 v2_1 hm; exact absurd hm (Nat.not_lt_zero _)
    | succ fu ih2 =>
      intro i3_2 H locs ls ri3_2 v2_0 v2_1 hm hW hl
      refine x_iload_n hx hb hl 3 rfl dX10_areAllPlaces_2 rfl ?_
      refine x_iconst hx hb dX10_areAllPlaces_3 ?_
      refine x_iload_n hx hb hl 2 rfl dX10_areAllPlaces_4 rfl ?_
      refine x_imul hx hb dX10_areAllPlaces_5 ?_
      refine x_icmp_ge (tgt := 35) hx hb ri3_2 (by omega) dX10_areAllPlaces_6 (by decide) (fun c1 => ?_) (fun c1 => ?_)
      · skip
        refine x_iconst hx hb dX10_areAllPlaces_35 ?_
        rw [eQ]
        exact x_zret hx hb hr hlk hW (by omega) ⟨rfl, Or.inl ⟨by omega, fun i i1 i2 => v2_1 i i1 (by omega)⟩⟩ dX10_areAllPlaces_36
      refine x_aload_n hx hb hl 0 rfl dX10_areAllPlaces_9 rfl ?_
      refine x_get (j := 0) (v := .ref (h0 + 1)) hx hb hown hT hE hW cls_X10 (Or.inl (by decide)) (so_0 h0 g _) (by decide) rfl wq512 dX10_areAllPlaces_10 ?_
      refine x_iconst hx hb dX10_areAllPlaces_13 ?_
      refine x_iload_n hx hb hl 1 rfl dX10_areAllPlaces_14 rfl ?_
      refine x_imul hx hb dX10_areAllPlaces_15 ?_
      refine x_iconst hx hb dX10_areAllPlaces_16 ?_
      refine x_iadd hx hb dX10_areAllPlaces_17 ?_
      refine x_iload_n hx hb hl 3 rfl dX10_areAllPlaces_18 rfl ?_
      refine x_iadd hx hb dX10_areAllPlaces_19 ?_
      refine x_goi (x_runVN (As := [.int (xJ (((2 * n) + 1) + i3_2))]) hx hb hml hown hT hE hW hl.1 (Or.inl (by decide)) (so_1 h0 g _) rfl cf_X8_byteAt wq1084 wq90 wn1082 (c_X8_byteAt l D g T h0 s0 hW.2.1 (((2 * n) + 1) + i3_2) (by omega) p0) ⟨rfl, rfl, ⟨by decide, by decide⟩, ⟨by decide, by decide⟩⟩ rfl rfl (Nat.le_of_ble_eq_true rfl) dX10_areAllPlaces_20) hW (fun x2 s3 H locs rx2 hp4 hW => ?_)
      obtain ⟨es3, hp4⟩ := hp4
      subst es3
      have ghp4 := hp4
      refine x_iload_n hx hb hl 1 rfl dX10_areAllPlaces_23 rfl ?_
      refine x_icmp_lt (tgt := 29) hx hb rx2 rn dX10_areAllPlaces_24 (by decide) (fun c5 => ?_) (fun c5 => ?_)
      · skip
        refine x_iinc (lv' := [(3, .int (xJ (i3_2 + 1))), (0, .ref (h0 + 0)), (1, .int (xJ n)), (2, .int (xJ q))]) hx hb hl 3 rfl dX10_areAllPlaces_29 (by decide) rfl (fun ls hl => ?_)
        refine lv_goto (tgt := 2) hx hb dX10_areAllPlaces_32 (by decide) ?_
        exact ih2 (i3_2 + 1) H locs ls (by omega) (by omega) (fun i i1 i2 => (Classical.em (i < i3_2)).elim (fun h => v2_1 i i1 h) (fun h => by rw [show i = i3_2 from by omega]; omega)) (by omega) hW (lv_sub hl [1, 2, 3, 0] rfl)
      refine x_iconst hx hb dX10_areAllPlaces_27 ?_
      rw [eQ]
      exact x_zret hx hb hr hlk hW (by omega) ⟨rfl, Or.inr ⟨by omega, fun h => by have := h i3_2 (by omega) (by omega); omega⟩⟩ dX10_areAllPlaces_28
  exact L2 ((24 - 0 : Int).toNat + 1) 0 H locs ls (by decide) (by omega) (fun i i1 i2 => absurd i2 (by omega)) (Nat.lt_succ_self _) hW (lv_sub hl [1, 2, 3, 0] rfl)
set_option maxHeartbeats 4000000 in
set_option maxRecDepth 100000 in
theorem c_X10_sentencesTogetherM (l : Launch) (D : va_G) (g : xG) (T : Nat × Nat × Nat) (h0 : Nat) (s0 : xS) (hσ : xRR s0) (n : Int) (rn : xR n) (q : Int) (rq : xR q) (x : Int) (rx : xR x) (hn : 1 ≤ n ∧ n ≤ 8) (hm : 0 ≤ q ∧ q ≤ 12) (hle : 2 * n + 1 + 2 * q ≤ s0 1 1) (hpl : zpl (s0 2) n q) (p0 : IC s0) : Met l yX10_sentencesTogether (xws yX10_sentencesTogether cX10_sentencesTogether 9 (some .int)) { frames := 2, cells := 0, slots := 0, locals := 49 } (xP [.ref (h0 + 0), .int (xJ n), .int (xJ q), .int (xJ x)] D g T h0 s0) (xQi D g h0 (fun r τ => xFr (fun k => k = 267) s0 τ ∧ (((IC τ) ∧ True) ∧ (r = zta (s0 2) (zgr (s0 2) n false q.toNat) n x)))) 0 0 (xA h0) := by
  refine x_met hσ (by decide) (Nat.le_of_ble_eq_true rfl) ?_
  intro p e s m args below meth c hx hb hr hml hown hT hlk hnm hE hW ls hl
  have hl : lv_has ls 9 [(0, .ref (h0 + 0)), (1, .int (xJ n)), (2, .int (xJ q)), (3, .int (xJ x))] := hl
  obtain ⟨Q, eQ⟩ : ∃ Q, Q = MQ below (xQi D g h0 (fun r τ => xFr (fun k => k = 267) s0 τ ∧ (((IC τ) ∧ True) ∧ (r = zta (s0 2) (zgr (s0 2) n false q.toNat) n x)))) args s 0 0 (xA h0) := ⟨_, rfl⟩
  rw [← eQ]
  generalize hHe : ([] : List Loc) = locs at hW ⊢
  obtain ⟨H, eH⟩ : ∃ H, H = s.heap := ⟨_, rfl⟩
  rw [← eH] at hW ⊢
  have hF : xFr (fun k => k = 267) s0 s0 := xFr.rf
  have k1_1 : s0 1 1 = s0 1 1 := rfl
  have k1_1 : s0 1 1 = s0 1 1 := rfl
  have hfz : ∀ i : Int, 0 ≤ i → i < (n.toNat : Int) → 0 ≤ zln (s0 2) i := fun i a b => by
    have b1 := IC.by_ p0 (2 * i) (by omega) (by omega)
    have b2 := IC.by_ p0 (2 * i + 1) (by omega) (by omega)
    unfold zln
    omega
  refine x_aload_n hx hb hl 0 rfl dX10_sentencesTogether_0 rfl ?_
  refine x_iload_n hx hb hl 1 rfl dX10_sentencesTogether_1 rfl ?_
  refine x_iload_n hx hb hl 2 rfl dX10_sentencesTogether_2 rfl ?_
  refine x_gov (x_runV (As := [.int (xJ n), .int (xJ q)]) hx hb hml hown hT hE hW hl.1 (Or.inl (by decide)) (so_0 h0 g _) rfl cf_X10_groupSentences wq1135 wq100 wq1133 (c_X10_groupSentencesM l D g T h0 s0 hW.2.1 n rn q rq (by omega) (by omega) (by omega) (by omega) p0) ⟨rfl, rfl, ⟨by decide, by decide⟩, ⟨by decide, by decide⟩⟩ rfl rfl (Nat.le_of_ble_eq_true rfl) dX10_sentencesTogether_3) hW (fun s2 H locs hp3 hW => ?_)
  obtain ⟨fs2, hp3⟩ := hp3
  have hF4 := hF.call fs2 (fun k h => by omega)
  have q5 : s2 1 1 = s0 1 1 := (congrFun (fs2 _ (by omega)) _).trans k1_1
  have ghp3 := hp3.2
  obtain ⟨G9, eG9⟩ : ∃ G, G = s2 267 := ⟨_, rfl⟩
  have Z3 := ghp3
  rw [← eG9] at Z3
  have Q3 : s2 2 = s0 2 := hF4 2 (by omega)
  refine x_iconst hx hb dX10_sentencesTogether_6 ?_
  refine lv_istore (lv' := [(4, .int (xJ 0)), (0, .ref (h0 + 0)), (1, .int (xJ n)), (2, .int (xJ q)), (3, .int (xJ x))]) hx hb dX10_sentencesTogether_7 hl (by decide) rfl (fun ls hl => ?_)
  refine x_iconst hx hb dX10_sentencesTogether_9 ?_
  refine lv_istore (lv' := [(5, .int (xJ 0)), (4, .int (xJ 0)), (0, .ref (h0 + 0)), (1, .int (xJ n)), (2, .int (xJ q)), (3, .int (xJ x))]) hx hb dX10_sentencesTogether_10 hl (by decide) rfl (fun ls hl => ?_)
  refine x_iconst hx hb dX10_sentencesTogether_12 ?_
  refine lv_istore (lv' := [(6, .int (xJ 0)), (5, .int (xJ 0)), (4, .int (xJ 0)), (0, .ref (h0 + 0)), (1, .int (xJ n)), (2, .int (xJ q)), (3, .int (xJ x))]) hx hb dX10_sentencesTogether_13 hl (by decide) rfl (fun ls hl => ?_)
  refine x_iconst hx hb dX10_sentencesTogether_15 ?_
  refine lv_istore (lv' := [(7, .int (xJ 0)), (6, .int (xJ 0)), (5, .int (xJ 0)), (4, .int (xJ 0)), (0, .ref (h0 + 0)), (1, .int (xJ n)), (2, .int (xJ q)), (3, .int (xJ x))]) hx hb dX10_sentencesTogether_16 hl (by decide) rfl (fun ls hl => ?_)
  have L18 : ∀ (fu : Nat) (i4_18 : Int) (i5_18 : Int) (i6_18 : Int) (i7_18 : Int) (H : Heap) (locs : List Loc) (ls : Array Slot), (xR i4_18) → (xR i5_18) → (xR i6_18) → (xR i7_18) → (0 ≤ i7_18 ∧ i7_18 ≤ n) → (0 ≤ i5_18 ∧ i5_18 ≤ i7_18) → (0 ≤ i4_18 ∧ i4_18 ≤ 65535 * i7_18) → (0 ≤ i6_18 ∧ i6_18 ≤ 65535) → (i4_18 = zsm (zLM (s0 2) G9 n) (i7_18).toNat) → (i5_18 = zsm (zON G9 n) (i7_18).toNat) → (i6_18 = zmx (zLM (s0 2) G9 n) (i7_18).toNat) → (8 - i7_18).toNat < fu → xW D g h0 s H locs s2 → lv_has ls 9 [(0, .ref (h0 + 0)), (1, .int (xJ n)), (3, .int (xJ x)), (4, .int (xJ i4_18)), (5, .int (xJ i5_18)), (6, .int (xJ i6_18)), (7, .int (xJ i7_18))] → W p l e { frames := 2, cells := 0, slots := 0, locals := 49 } s m args below meth c H locs 0 0 Q (F0 m 18 ls []) := by
    intro fu
    induction fu with
    | zero => intro i4_18 i5_18 i6_18 i7_18 H locs ls ri4_18 ri5_18 ri6_18 ri7_18 v18_0 v18_1 v18_2 v18_3 v18_4 v18_5 v18_6 hm; exact absurd hm (Nat.not_lt_zero _)
    | succ fu ih18 =>
      intro i4_18 i5_18 i6_18 i7_18 H locs ls ri4_18 ri5_18 ri6_18 ri7_18 v18_0 v18_1 v18_2 v18_3 v18_4 v18_5 v18_6 hm hW hl
      refine x_iload hx hb hl 6 rfl dX10_sentencesTogether_18 ?_
      refine x_iload_n hx hb hl 1 rfl dX10_sentencesTogether_20 rfl ?_
      refine x_icmp_ge (tgt := 64) hx hb ri7_18 rn dX10_sentencesTogether_21 (by decide) (fun c6 => ?_) (fun c6 => ?_)
      · skip
        refine x_iload_n hx hb hl 2 rfl dX10_sentencesTogether_64 rfl ?_
        refine x_if_ne (tgt := 73) hx hb rx dX10_sentencesTogether_65 (by decide) (fun c7 => ?_) (fun c7 => ?_)
        · skip
          refine x_iload_n hx hb hl 2 rfl dX10_sentencesTogether_73 rfl ?_
          refine x_iconst hx hb dX10_sentencesTogether_74 ?_
          refine x_icmp_ne (tgt := 83) hx hb rx (by decide) dX10_sentencesTogether_75 (by decide) (fun c8 => ?_) (fun c8 => ?_)
          · skip
            refine x_iload hx hb hl 5 rfl dX10_sentencesTogether_83 ?_
            rw [eQ]
            exact x_iret hx hb hr hlk hW ri6_18 ⟨hF4, ⟨hp3.1.1, trivial⟩, (zta_i (G := G9) (i := i7_18) (c := i4_18) (d := i5_18) (e := i6_18) (by omega) v18_4 v18_5 v18_6 (by omega)).trans (zta_g Z3)⟩ dX10_sentencesTogether_85
          refine x_iload hx hb hl 4 rfl dX10_sentencesTogether_78 ?_
          refine lv_goto (tgt := 85) hx hb dX10_sentencesTogether_80 (by decide) ?_
          rw [eQ]
          exact x_iret hx hb hr hlk hW ri5_18 ⟨hF4, ⟨hp3.1.1, trivial⟩, (zta_i (G := G9) (i := i7_18) (c := i4_18) (d := i5_18) (e := i6_18) (by omega) v18_4 v18_5 v18_6 (by omega)).trans (zta_g Z3)⟩ dX10_sentencesTogether_85
        refine x_iload hx hb hl 3 rfl dX10_sentencesTogether_68 ?_
        refine lv_goto (tgt := 85) hx hb dX10_sentencesTogether_70 (by decide) ?_
        rw [eQ]
        exact x_iret hx hb hr hlk hW ri4_18 ⟨hF4, ⟨hp3.1.1, trivial⟩, (zta_i (G := G9) (i := i7_18) (c := i4_18) (d := i5_18) (e := i6_18) (by omega) v18_4 v18_5 v18_6 (by omega)).trans (zta_g Z3)⟩ dX10_sentencesTogether_85
      refine x_aload_n hx hb hl 0 rfl dX10_sentencesTogether_24 rfl ?_
      refine x_iload_n hx hb hl 1 rfl dX10_sentencesTogether_25 rfl ?_
      refine x_iload hx hb hl 6 rfl dX10_sentencesTogether_26 ?_
      refine x_goi (x_runV (As := [.int (xJ n), .int (xJ i7_18)]) hx hb hml hown hT hE hW hl.1 (Or.inl (by decide)) (so_0 h0 g _) rfl cf_X10_longestOfGroup wq1143 wq102 wq1141 (c_X10_longestOfGroupM l D g T h0 s2 hW.2.1 n rn i7_18 ri7_18 (by omega) (by omega) hp3.1.1) ⟨rfl, rfl, ⟨by decide, by decide⟩, ⟨by decide, by decide⟩⟩ rfl rfl (Nat.le_of_ble_eq_true rfl) dX10_sentencesTogether_28) hW (fun x9 s10 H locs rx9 hp11 hW => ?_)
      obtain ⟨es10, hp11⟩ := hp11
      subst es10
      have ghp11 := hp11
      have H28 := ghp11
      rw [Q3, ← eG9] at H28
      have L28 := zlg_m (f := s0 2) (G := G9) (g := i7_18) n.toNat hfz
      have U28 : ((x9 = -1 ∧ zLM (s0 2) G9 n i7_18 = 0 ∧ zON G9 n i7_18 = 0) ∨ (0 ≤ x9 ∧ zLM (s0 2) G9 n i7_18 = x9 ∧ zON G9 n i7_18 = 1)) := by
        by_cases o : zold G9 i7_18 n.toNat = true
        · obtain ⟨a1, a2⟩ := L28.1 o
          exact Or.inr ⟨by omega, by unfold zLM; omega, by unfold zON; exact if_pos o⟩
        · obtain ⟨a1, a2⟩ := L28.2 o
          exact Or.inl ⟨by omega, by unfold zLM; omega, by unfold zON; exact if_neg o⟩
      refine lv_istore (lv' := [(8, .int (xJ x9)), (0, .ref (h0 + 0)), (1, .int (xJ n)), (3, .int (xJ x)), (4, .int (xJ i4_18)), (5, .int (xJ i5_18)), (6, .int (xJ i6_18)), (7, .int (xJ i7_18))]) hx hb dX10_sentencesTogether_31 hl (by decide) rfl (fun ls hl => ?_)
      refine x_iload hx hb hl 0 rfl dX10_sentencesTogether_33 ?_
      refine x_iconst hx hb dX10_sentencesTogether_35 ?_
      refine x_icmp_eq (tgt := 58) hx hb rx9 (by decide) dX10_sentencesTogether_36 (by decide) (fun c12 => ?_) (fun c12 => ?_)
      · skip
        refine x_iinc (lv' := [(7, .int (xJ (i7_18 + 1))), (8, .int (xJ x9)), (0, .ref (h0 + 0)), (1, .int (xJ n)), (3, .int (xJ x)), (4, .int (xJ i4_18)), (5, .int (xJ i5_18)), (6, .int (xJ i6_18))]) hx hb hl 7 rfl dX10_sentencesTogether_58 (by decide) rfl (fun ls hl => ?_)
        refine lv_goto (tgt := 18) hx hb dX10_sentencesTogether_61 (by decide) ?_
        exact ih18 i4_18 i5_18 i6_18 (i7_18 + 1) H locs ls ri4_18 ri5_18 ri6_18 (by omega) (by omega) (by omega) (by omega) (by omega) (by rw [zsm_s (by omega)]; omega) (by rw [zsm_s (by omega)]; omega) (by rw [zmx_s (by omega)]; split <;> omega) (by omega) hW (lv_sub hl [2, 3, 4, 5, 6, 7, 0] rfl)
      refine x_iinc (lv' := [(5, .int (xJ (i5_18 + 1))), (8, .int (xJ x9)), (0, .ref (h0 + 0)), (1, .int (xJ n)), (3, .int (xJ x)), (4, .int (xJ i4_18)), (6, .int (xJ i6_18)), (7, .int (xJ i7_18))]) hx hb hl 5 rfl dX10_sentencesTogether_39 (by decide) rfl (fun ls hl => ?_)
      refine x_iload hx hb hl 5 rfl dX10_sentencesTogether_42 ?_
      refine x_iload hx hb hl 1 rfl dX10_sentencesTogether_44 ?_
      refine x_iadd hx hb dX10_sentencesTogether_46 ?_
      refine x_nm (fun x13 ex13 => ?_)
      refine lv_istore (lv' := [(4, .int (xJ x13)), (5, .int (xJ (i5_18 + 1))), (8, .int (xJ x9)), (0, .ref (h0 + 0)), (1, .int (xJ n)), (3, .int (xJ x)), (6, .int (xJ i6_18)), (7, .int (xJ i7_18))]) hx hb dX10_sentencesTogether_47 hl (by decide) rfl (fun ls hl => ?_)
      refine x_iload hx hb hl 6 rfl dX10_sentencesTogether_49 ?_
      refine x_iload hx hb hl 2 rfl dX10_sentencesTogether_51 ?_
      refine x_mmax hx hb hml hl.1 hown hT wq1073 wq594 wq180 wq595 ⟨by decide, Nat.le_of_ble_eq_true rfl, by decide, by decide⟩ ri6_18 rx9 dX10_sentencesTogether_53 ?_
      refine x_nm (fun x14 ex14 => ?_)
      have fx14 : (x14 = i6_18 ∧ x9 ≤ i6_18) ∨ (x14 = x9 ∧ i6_18 ≤ x9) := by rw [ex14]; split <;> omega
      refine lv_istore (lv' := [(6, .int (xJ x14)), (4, .int (xJ x13)), (5, .int (xJ (i5_18 + 1))), (8, .int (xJ x9)), (0, .ref (h0 + 0)), (1, .int (xJ n)), (3, .int (xJ x)), (7, .int (xJ i7_18))]) hx hb dX10_sentencesTogether_56 hl (by decide) rfl (fun ls hl => ?_)
      refine x_iinc (lv' := [(7, .int (xJ (i7_18 + 1))), (6, .int (xJ x14)), (4, .int (xJ x13)), (5, .int (xJ (i5_18 + 1))), (8, .int (xJ x9)), (0, .ref (h0 + 0)), (1, .int (xJ n)), (3, .int (xJ x))]) hx hb hl 7 rfl dX10_sentencesTogether_58 (by decide) rfl (fun ls hl => ?_)
      refine lv_goto (tgt := 18) hx hb dX10_sentencesTogether_61 (by decide) ?_
      exact ih18 x13 (i5_18 + 1) x14 (i7_18 + 1) H locs ls (by omega) (by omega) (by omega) (by omega) (by omega) (by omega) (by omega) (by omega) (by rw [zsm_s (by omega)]; omega) (by rw [zsm_s (by omega)]; omega) (by rw [zmx_s (by omega)]; split <;> omega) (by omega) hW (lv_sub hl [5, 6, 7, 2, 3, 1, 0] rfl)
  exact L18 ((8 - 0 : Int).toNat + 1) 0 0 0 0 H locs ls (by decide) (by decide) (by decide) (by decide) (by omega) (by omega) (by omega) (by omega) (rfl) (rfl) (rfl) (Nat.lt_succ_self _) hW (lv_sub hl [4, 5, 7, 3, 2, 1, 0] rfl)
set_option maxHeartbeats 4000000 in
set_option maxRecDepth 100000 in
theorem c_X10_togetherM (l : Launch) (D : va_G) (g : xG) (T : Nat × Nat × Nat) (h0 : Nat) (s0 : xS) (hσ : xRR s0) (n : Int) (rn : xR n) (x : Int) (rx : xR x) (p0 : IC s0) : Met l yX10_together (xws yX10_together cX10_together 5 (some .int)) { frames := 3, cells := 0, slots := 0, locals := 77 } (xP [.ref (h0 + 0), .int (xJ n), .int (xJ x)] D g T h0 s0) (xQi D g h0 (fun r τ => xFr (fun k => k = 1 ∨ k = 267) s0 τ ∧ (((IC τ) ∧ True) ∧ (((n < 1 ∨ 8 < n ∨ x < 0 ∨ 2 < x ∨ s0 1 1 < 2 * n + 1 ∨ s0 1 1 < 2 * n + 1 + 2 * s0 2 (2 * n)) ∧ τ 1 1 = s0 1 1 ∧ r = -1) ∨ (¬ (n < 1 ∨ 8 < n ∨ x < 0 ∨ 2 < x ∨ s0 1 1 < 2 * n + 1 ∨ s0 1 1 < 2 * n + 1 + 2 * s0 2 (2 * n)) ∧ τ 1 1 = 0 ∧ ((¬ (s0 2 (2 * n) ≤ 12 ∧ zpl (s0 2) n (s0 2 (2 * n))) ∧ r = -2) ∨ (s0 2 (2 * n) ≤ 12 ∧ zpl (s0 2) n (s0 2 (2 * n)) ∧ r = zta (s0 2) (zgr (s0 2) n false (s0 2 (2 * n)).toNat) n x))))))) 0 0 (xA h0) := by
  refine x_met hσ (by decide) (Nat.le_of_ble_eq_true rfl) ?_
  intro p e s m args below meth c hx hb hr hml hown hT hlk hnm hE hW ls hl
  have hl : lv_has ls 5 [(0, .ref (h0 + 0)), (1, .int (xJ n)), (2, .int (xJ x))] := hl
  obtain ⟨Q, eQ⟩ : ∃ Q, Q = MQ below (xQi D g h0 (fun r τ => xFr (fun k => k = 1 ∨ k = 267) s0 τ ∧ (((IC τ) ∧ True) ∧ (((n < 1 ∨ 8 < n ∨ x < 0 ∨ 2 < x ∨ s0 1 1 < 2 * n + 1 ∨ s0 1 1 < 2 * n + 1 + 2 * s0 2 (2 * n)) ∧ τ 1 1 = s0 1 1 ∧ r = -1) ∨ (¬ (n < 1 ∨ 8 < n ∨ x < 0 ∨ 2 < x ∨ s0 1 1 < 2 * n + 1 ∨ s0 1 1 < 2 * n + 1 + 2 * s0 2 (2 * n)) ∧ τ 1 1 = 0 ∧ ((¬ (s0 2 (2 * n) ≤ 12 ∧ zpl (s0 2) n (s0 2 (2 * n))) ∧ r = -2) ∨ (s0 2 (2 * n) ≤ 12 ∧ zpl (s0 2) n (s0 2 (2 * n)) ∧ r = zta (s0 2) (zgr (s0 2) n false (s0 2 (2 * n)).toNat) n x))))))) args s 0 0 (xA h0) := ⟨_, rfl⟩
  rw [← eQ]
  generalize hHe : ([] : List Loc) = locs at hW ⊢
  obtain ⟨H, eH⟩ : ∃ H, H = s.heap := ⟨_, rfl⟩
  rw [← eH] at hW ⊢
  have hF : xFr (fun k => k = 1 ∨ k = 267) s0 s0 := xFr.rf
  have k1_1 : s0 1 1 = s0 1 1 := rfl
  refine x_iload_n hx hb hl 1 rfl dX10_together_0 rfl ?_
  refine x_iconst hx hb dX10_together_1 ?_
  refine x_bipush hx hb dX10_together_2 (by decide) ?_
  refine x_goi (x_runS (As := [.int (xJ n), .int (xJ 1), .int (xJ 8)]) hx hb hml hown hT hE hW hl.1 cf_X10_isIn wq562 wq561 (c_X10_isIn l D g T h0 s0 hW.2.1 n rn 1 (by decide) 8 (by decide)) ⟨rfl, rfl, ⟨by decide, by decide⟩, ⟨by decide, by decide⟩⟩ rfl rfl (Nat.le_of_ble_eq_true rfl) dX10_together_4) hW (fun x1 s2 H locs rx1 hp3 hW => ?_)
  obtain ⟨es2, hp3⟩ := hp3
  subst es2
  have ghp3 := hp3
  refine x_if_eq (tgt := 34) hx hb rx1 dX10_together_7 (by decide) (fun c4 => ?_) (fun c4 => ?_)
  · skip
    refine x_iconst hx hb dX10_together_34 ?_
    rw [eQ]
    exact x_iret hx hb hr hlk hW (by decide) ⟨hF, ⟨p0, trivial⟩, Or.inl ⟨by omega, by omega, by omega⟩⟩ dX10_together_35
  refine x_iload_n hx hb hl 2 rfl dX10_together_10 rfl ?_
  refine x_iconst hx hb dX10_together_11 ?_
  refine x_iconst hx hb dX10_together_12 ?_
  refine x_goi (x_runS (As := [.int (xJ x), .int (xJ 0), .int (xJ 2)]) hx hb hml hown hT hE hW hl.1 cf_X10_isIn wq562 wq561 (c_X10_isIn l D g T h0 s0 hW.2.1 x rx 0 (by decide) 2 (by decide)) ⟨rfl, rfl, ⟨by decide, by decide⟩, ⟨by decide, by decide⟩⟩ rfl rfl (Nat.le_of_ble_eq_true rfl) dX10_together_13) hW (fun x5 s6 H locs rx5 hp7 hW => ?_)
  obtain ⟨es6, hp7⟩ := hp7
  subst es6
  have ghp7 := hp7
  refine x_if_eq (tgt := 34) hx hb rx5 dX10_together_16 (by decide) (fun c8 => ?_) (fun c8 => ?_)
  · skip
    refine x_iconst hx hb dX10_together_34 ?_
    rw [eQ]
    exact x_iret hx hb hr hlk hW (by decide) ⟨hF, ⟨p0, trivial⟩, Or.inl ⟨by omega, by omega, by omega⟩⟩ dX10_together_35
  refine x_aload_n hx hb hl 0 rfl dX10_together_19 rfl ?_
  refine x_get (j := 0) (v := .ref (h0 + 1)) hx hb hown hT hE hW cls_X10 (Or.inl (by decide)) (so_0 h0 g _) (by decide) rfl wq512 dX10_together_20 ?_
  refine x_getN (j := 1) (v := .int (xJ (s0 1 1))) hx hb hown hT hE hW cls_X8 (Or.inl (by decide)) (so_1 h0 g _) (by decide) rfl wn198 dX10_together_23 ?_
  refine x_rd hW (fun x9 ex9 rx9 => ?_)
  have bx9 : 0 ≤ x9 ∧ x9 ≤ 260 := by rw [ex9]; exact IC.t p0
  have fx9 : x9 = s0 1 1 := ex9.trans k1_1
  refine x_iconst hx hb dX10_together_26 ?_
  refine x_iload_n hx hb hl 1 rfl dX10_together_27 rfl ?_
  refine x_imul hx hb dX10_together_28 ?_
  refine x_iconst hx hb dX10_together_29 ?_
  refine x_iadd hx hb dX10_together_30 ?_
  refine x_icmp_ge (tgt := 36) hx hb rx9 (by omega) dX10_together_31 (by decide) (fun c10 => ?_) (fun c10 => ?_)
  · skip
    refine x_aload_n hx hb hl 0 rfl dX10_together_36 rfl ?_
    refine x_get (j := 0) (v := .ref (h0 + 1)) hx hb hown hT hE hW cls_X10 (Or.inl (by decide)) (so_0 h0 g _) (by decide) rfl wq512 dX10_together_37 ?_
    refine x_iconst hx hb dX10_together_40 ?_
    refine x_iload_n hx hb hl 1 rfl dX10_together_41 rfl ?_
    refine x_imul hx hb dX10_together_42 ?_
    refine x_goi (x_runVN (As := [.int (xJ (2 * n))]) hx hb hml hown hT hE hW hl.1 (Or.inl (by decide)) (so_1 h0 g _) rfl cf_X8_byteAt wq1084 wq90 wn1082 (c_X8_byteAt l D g T h0 s0 hW.2.1 (2 * n) (by omega) p0) ⟨rfl, rfl, ⟨by decide, by decide⟩, ⟨by decide, by decide⟩⟩ rfl rfl (Nat.le_of_ble_eq_true rfl) dX10_together_43) hW (fun x11 s12 H locs rx11 hp13 hW => ?_)
    obtain ⟨es12, hp13⟩ := hp13
    subst es12
    have ghp13 := hp13
    have B43 : x11 = s0 2 (2 * n) ∧ 0 ≤ x11 ∧ x11 ≤ 255 := by omega
    refine lv_istore_n (lv' := [(3, .int (xJ x11)), (0, .ref (h0 + 0)), (1, .int (xJ n)), (2, .int (xJ x))]) hx hb dX10_together_46 rfl hl (by decide) rfl (fun ls hl => ?_)
    refine x_aload_n hx hb hl 1 rfl dX10_together_47 rfl ?_
    refine x_get (j := 0) (v := .ref (h0 + 1)) hx hb hown hT hE hW cls_X10 (Or.inl (by decide)) (so_0 h0 g _) (by decide) rfl wq512 dX10_together_48 ?_
    refine x_getN (j := 1) (v := .int (xJ (s0 1 1))) hx hb hown hT hE hW cls_X8 (Or.inl (by decide)) (so_1 h0 g _) (by decide) rfl wn198 dX10_together_51 ?_
    refine x_rd hW (fun x14 ex14 rx14 => ?_)
    have bx14 : 0 ≤ x14 ∧ x14 ≤ 260 := by rw [ex14]; exact IC.t p0
    have fx14 : x14 = s0 1 1 := ex14.trans k1_1
    refine x_iconst hx hb dX10_together_54 ?_
    refine x_iload_n hx hb hl 2 rfl dX10_together_55 rfl ?_
    refine x_imul hx hb dX10_together_56 ?_
    refine x_iconst hx hb dX10_together_57 ?_
    refine x_iadd hx hb dX10_together_58 ?_
    refine x_iconst hx hb dX10_together_59 ?_
    refine x_iload_n hx hb hl 0 rfl dX10_together_60 rfl ?_
    refine x_imul hx hb dX10_together_61 ?_
    refine x_iadd hx hb dX10_together_62 ?_
    refine x_icmp_ge (tgt := 68) hx hb rx14 (by omega) dX10_together_63 (by decide) (fun c15 => ?_) (fun c15 => ?_)
    · skip
      refine x_bipush hx hb dX10_together_68 (by decide) ?_
      refine lv_istore (lv' := [(4, .int (xJ (-2))), (3, .int (xJ x11)), (0, .ref (h0 + 0)), (1, .int (xJ n)), (2, .int (xJ x))]) hx hb dX10_together_70 hl (by decide) rfl (fun ls hl => ?_)
      refine x_iload_n hx hb hl 1 rfl dX10_together_72 rfl ?_
      refine x_bipush hx hb dX10_together_73 (by decide) ?_
      refine x_icmp_gt (tgt := 96) hx hb rx11 (by decide) dX10_together_75 (by decide) (fun c16 => ?_) (fun c16 => ?_)
      · skip
        refine x_aload_n hx hb hl 2 rfl dX10_together_96 rfl ?_
        refine x_get (j := 0) (v := .ref (h0 + 1)) hx hb hown hT hE hW cls_X10 (Or.inl (by decide)) (so_0 h0 g _) (by decide) rfl wq512 dX10_together_97 ?_
        refine x_gov (x_runVN (As := []) hx hb hml hown hT hE hW hl.1 (Or.inl (by decide)) (so_1 h0 g _) rfl cf_X8_drop wq607 wq7 wn605 (c_X8_dropM l D g T h0 s0 hW.2.1 p0) ⟨rfl, rfl, ⟨by decide, by decide⟩, ⟨by decide, by decide⟩⟩ rfl rfl (Nat.le_of_ble_eq_true rfl) dX10_together_100) hW (fun s18 H locs hp19 hW => ?_)
        obtain ⟨fs18, hp19⟩ := hp19
        have hF20 := hF.call fs18 (fun k h => by omega)
        have ghp19 := hp19.2
        refine x_iload hx hb hl 0 rfl dX10_together_103 ?_
        rw [eQ]
        exact x_iret hx hb hr hlk hW (by decide) ⟨hF20, ⟨hp19.1.1, trivial⟩, by first | exact Or.inr ⟨by omega, by omega, Or.inr ⟨by omega, by rw [← B43.1]; exact (H81.resolve_right (fun q => by omega)).2, H91⟩⟩ | exact Or.inr ⟨by omega, by omega, Or.inl ⟨fun z => by have := z.1; omega, by omega⟩⟩ | exact Or.inr ⟨by omega, by omega, Or.inl ⟨fun z => (H81.resolve_left (fun q => by omega)).2 (by rw [B43.1]; exact z.2), by omega⟩⟩⟩ dX10_together_105
      refine x_aload_n hx hb hl 2 rfl dX10_together_78 rfl ?_
      refine x_iload_n hx hb hl 3 rfl dX10_together_79 rfl ?_
      refine x_iload_n hx hb hl 1 rfl dX10_together_80 rfl ?_
      refine x_goi (x_runV (As := [.int (xJ n), .int (xJ x11)]) hx hb hml hown hT hE hW hl.1 (Or.inl (by decide)) (so_0 h0 g _) rfl cf_X10_areAllPlaces wq1127 wq98 wq1125 (c_X10_areAllPlacesM l D g T h0 s0 hW.2.1 n rn x11 rx11 (by omega) (by omega) (by omega) p0) ⟨rfl, rfl, ⟨by decide, by decide⟩, ⟨by decide, by decide⟩⟩ rfl rfl (Nat.le_of_ble_eq_true rfl) dX10_together_81) hW (fun x21 s22 H locs rx21 hp23 hW => ?_)
      obtain ⟨es22, hp23⟩ := hp23
      subst es22
      have ghp23 := hp23
      have H81 := ghp23
      refine x_if_eq (tgt := 96) hx hb rx21 dX10_together_84 (by decide) (fun c24 => ?_) (fun c24 => ?_)
      · skip
        refine x_aload_n hx hb hl 2 rfl dX10_together_96 rfl ?_
        refine x_get (j := 0) (v := .ref (h0 + 1)) hx hb hown hT hE hW cls_X10 (Or.inl (by decide)) (so_0 h0 g _) (by decide) rfl wq512 dX10_together_97 ?_
        refine x_gov (x_runVN (As := []) hx hb hml hown hT hE hW hl.1 (Or.inl (by decide)) (so_1 h0 g _) rfl cf_X8_drop wq607 wq7 wn605 (c_X8_dropM l D g T h0 s0 hW.2.1 p0) ⟨rfl, rfl, ⟨by decide, by decide⟩, ⟨by decide, by decide⟩⟩ rfl rfl (Nat.le_of_ble_eq_true rfl) dX10_together_100) hW (fun s26 H locs hp27 hW => ?_)
        obtain ⟨fs26, hp27⟩ := hp27
        have hF28 := hF.call fs26 (fun k h => by omega)
        have ghp27 := hp27.2
        refine x_iload hx hb hl 0 rfl dX10_together_103 ?_
        rw [eQ]
        exact x_iret hx hb hr hlk hW (by decide) ⟨hF28, ⟨hp27.1.1, trivial⟩, by first | exact Or.inr ⟨by omega, by omega, Or.inr ⟨by omega, by rw [← B43.1]; exact (H81.resolve_right (fun q => by omega)).2, H91⟩⟩ | exact Or.inr ⟨by omega, by omega, Or.inl ⟨fun z => by have := z.1; omega, by omega⟩⟩ | exact Or.inr ⟨by omega, by omega, Or.inl ⟨fun z => (H81.resolve_left (fun q => by omega)).2 (by rw [B43.1]; exact z.2), by omega⟩⟩⟩ dX10_together_105
      refine x_aload_n hx hb hl 2 rfl dX10_together_87 rfl ?_
      refine x_iload_n hx hb hl 3 rfl dX10_together_88 rfl ?_
      refine x_iload_n hx hb hl 1 rfl dX10_together_89 rfl ?_
      refine x_iload_n hx hb hl 4 rfl dX10_together_90 rfl ?_
      refine x_goi (x_runV (As := [.int (xJ n), .int (xJ x11), .int (xJ x)]) hx hb hml hown hT hE hW hl.1 (Or.inl (by decide)) (so_0 h0 g _) rfl cf_X10_sentencesTogether wq1131 wq99 wq1129 (c_X10_sentencesTogetherM l D g T h0 s0 hW.2.1 n rn x11 rx11 x rx (by omega) (by omega) (by omega) ((H81.resolve_right (fun q => by omega)).2) p0) ⟨rfl, rfl, ⟨by decide, by decide⟩, ⟨by decide, by decide⟩⟩ rfl rfl (Nat.le_of_ble_eq_true rfl) dX10_together_91) hW (fun x29 s30 H locs rx29 hp31 hW => ?_)
      obtain ⟨fs30, hp31⟩ := hp31
      have hF32 := hF.call fs30 (fun k h => by omega)
      have q33 : s30 1 1 = s0 1 1 := (congrFun (fs30 _ (by omega)) _).trans k1_1
      have ghp31 := hp31.2
      have H91 := ghp31
      rw [B43.1] at H91
      refine lv_istore (lv' := [(4, .int (xJ x29)), (3, .int (xJ x11)), (0, .ref (h0 + 0)), (1, .int (xJ n)), (2, .int (xJ x))]) hx hb dX10_together_94 hl (by decide) rfl (fun ls hl => ?_)
      refine x_aload_n hx hb hl 2 rfl dX10_together_96 rfl ?_
      refine x_get (j := 0) (v := .ref (h0 + 1)) hx hb hown hT hE hW cls_X10 (Or.inl (by decide)) (so_0 h0 g _) (by decide) rfl wq512 dX10_together_97 ?_
      refine x_gov (x_runVN (As := []) hx hb hml hown hT hE hW hl.1 (Or.inl (by decide)) (so_1 h0 g _) rfl cf_X8_drop wq607 wq7 wn605 (c_X8_dropM l D g T h0 s30 hW.2.1 hp31.1.1) ⟨rfl, rfl, ⟨by decide, by decide⟩, ⟨by decide, by decide⟩⟩ rfl rfl (Nat.le_of_ble_eq_true rfl) dX10_together_100) hW (fun s35 H locs hp36 hW => ?_)
      obtain ⟨fs35, hp36⟩ := hp36
      have hF37 := hF32.call fs35 (fun k h => by omega)
      have ghp36 := hp36.2
      refine x_iload hx hb hl 0 rfl dX10_together_103 ?_
      rw [eQ]
      exact x_iret hx hb hr hlk hW rx29 ⟨hF37, ⟨hp36.1.1, trivial⟩, by first | exact Or.inr ⟨by omega, by omega, Or.inr ⟨by omega, by rw [← B43.1]; exact (H81.resolve_right (fun q => by omega)).2, H91⟩⟩ | exact Or.inr ⟨by omega, by omega, Or.inl ⟨fun z => by have := z.1; omega, by omega⟩⟩ | exact Or.inr ⟨by omega, by omega, Or.inl ⟨fun z => (H81.resolve_left (fun q => by omega)).2 (by rw [B43.1]; exact z.2), by omega⟩⟩⟩ dX10_together_105
    refine x_iconst hx hb dX10_together_66 ?_
    rw [eQ]
    exact x_iret hx hb hr hlk hW (by decide) ⟨hF, ⟨p0, trivial⟩, Or.inl ⟨by omega, by omega, by omega⟩⟩ dX10_together_67
  refine x_iconst hx hb dX10_together_34 ?_
  rw [eQ]
  exact x_iret hx hb hr hlk hW (by decide) ⟨hF, ⟨p0, trivial⟩, Or.inl ⟨by omega, by omega, by omega⟩⟩ dX10_together_35
