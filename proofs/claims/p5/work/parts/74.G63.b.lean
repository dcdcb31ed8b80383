set_option maxHeartbeats 4000000 in
set_option maxRecDepth 100000 in
theorem c_X9_copyOfStepsJ (l : Launch) (D : va_G) (g : xG) (T : Nat × Nat × Nat) (h0 : Nat) (s0 : xS) (hσ : xRR s0) (hz : 0 ≤ s0 999996 0 ∧ s0 999996 0 ≤ 900000) (p0 : IC s0) : Met l yX9_copyOfSteps (xws yX9_copyOfSteps cX9_copyOfSteps 3 (some (.array .int))) { frames := 1, cells := 1, slots := 60, locals := 30 } (xP [.ref (h0 + 126)] D g T h0 s0) (xQr D g h0 (fun r τ => xFr (fun k => 310 ≤ k) s0 τ ∧ (((IC τ) ∧ True) ∧ (r = 310 + (s0 999996 0).toNat ∧ xAr τ r ∧ τ 999996 0 = s0 999996 0 + 1 ∧ (xlen τ r : Int) = s0 126 2 ∧ (∀ j : Int, 0 ≤ j → j < s0 126 2 → τ r j = s0 127 j) ∧ ∀ k : Nat, k ≠ r → k < 999990 → τ k = s0 k ∧ xlen τ k = xlen s0 k)))) 1 60 (xA h0) := by
  refine x_met hσ (by decide) (Nat.le_of_ble_eq_true rfl) ?_
  intro p e s m args below meth c hx hb hr hml hown hT hlk hnm hE hW ls hl
  have hl : lv_has ls 3 [(0, .ref (h0 + 126))] := hl
  obtain ⟨Q, eQ⟩ : ∃ Q, Q = MQ below (xQr D g h0 (fun r τ => xFr (fun k => 310 ≤ k) s0 τ ∧ (((IC τ) ∧ True) ∧ (r = 310 + (s0 999996 0).toNat ∧ xAr τ r ∧ τ 999996 0 = s0 999996 0 + 1 ∧ (xlen τ r : Int) = s0 126 2 ∧ (∀ j : Int, 0 ≤ j → j < s0 126 2 → τ r j = s0 127 j) ∧ ∀ k : Nat, k ≠ r → k < 999990 → τ k = s0 k ∧ xlen τ k = xlen s0 k)))) args s 1 60 (xA h0) := ⟨_, rfl⟩
  rw [← eQ]
  generalize hHe : ([] : List Loc) = locs at hW ⊢
  obtain ⟨H, eH⟩ : ∃ H, H = s.heap := ⟨_, rfl⟩
  rw [← eH] at hW ⊢
  refine x_iconst hx hb dX9_copyOfSteps_0 ?_
  refine x_aload_n hx hb hl 0 rfl dX9_copyOfSteps_1 rfl ?_
  refine x_get (j := 2) (v := .int (xJ (s0 126 2))) hx hb hown hT hE hW cls_X9 (Or.inl (by decide)) (so_126 h0 g _) (by decide) rfl wq309 dX9_copyOfSteps_2 ?_
  refine x_rd hW (fun x1 ex1 rx1 => ?_)
  have b1 := p0.y
  rw [← ex1] at b1
  refine x_bipush hx hb dX9_copyOfSteps_5 (by decide) ?_
  refine x_mmin hx hb hml hl.1 hown hT wq741 wq569 wq180 wq570 ⟨by decide, Nat.le_of_ble_eq_true rfl, by decide, by decide⟩ rx1 (by decide) dX9_copyOfSteps_7 ?_
  refine x_nm (fun x2 ex2 => ?_)
  have f2 : x2 = x1 := by rw [ex2]; split <;> omega
  refine x_mmax hx hb hml hl.1 hown hT wq742 wq594 wq180 wq595 ⟨by decide, Nat.le_of_ble_eq_true rfl, by decide, by decide⟩ (by decide) (by omega) dX9_copyOfSteps_10 ?_
  refine x_nm (fun x3 ex3 => ?_)
  have f3 : x3 = x1 := by rw [ex3]; split <;> omega
  have f4 : x3 = s0 126 2 := by rw [f3, ex1]
  refine x_newW (a := x3) hx hb hT hE hW wq217 (by omega) hz (by decide) (by decide) dX9_copyOfSteps_13 (fun H n s1 en es1 hW => ?_)
  have hn : 310 ≤ n ∧ n < 999990 := by omega
  have hF : xFr (fun k => 310 ≤ k) s0 s1 := fun k hk => by rw [es1]; exact xN_k s0 x3 (by omega) hn.1
  have a1 : xAr s1 n := Or.inr ⟨hn.1, hn.2, by rw [es1, xN_7 s0 x3 hn.2, if_pos rfl]⟩
  have l1 : (xlen s1 n : Int) = x3 := by
    unfold xlen
    rw [if_neg (by omega), es1, xN_8 s0 x3 hn.2, if_pos rfl]
    omega
  have z1 : s1 999996 0 = s0 999996 0 + 1 := by rw [es1]; exact xN_6 s0 n x3
  have i1 : IC s1 := by
    have hk : ∀ k, k < 310 → s1 k = s0 k := fun k hk => hF k (by omega)
    refine ⟨okT_f (hk 1 (by decide)) (hk 2 (by decide)) p0.1, ?_, ?_, ?_, ?_, fun d hd => ?_⟩
    · unfold okL; rw [hk 109 (by decide)]; exact p0.l1
    · unfold okL; rw [hk 118 (by decide)]; exact p0.l2
    · rw [hk 130 (by decide)]; exact p0.z
    · rw [hk 126 (by decide)]; exact p0.y
    · have hd9 : d < 218 := by unfold xDay at hd; omega
      refine ⟨fun j h1 h2 => ?_, fun j h1 h2 => ?_, ?_, ?_, fun j h1 h2 => ?_⟩
      · rw [hk (d + 2) (by omega)]
        rcases p0.w hd j h1 h2 with h | h
        · exact Or.inl h
        · refine Or.inr ⟨h.1, h.2.1, ?_⟩
          rw [es1, xN_7 s0 x3 hn.2]
          split
          · rfl
          · exact h.2.2
      · rw [hk (d + 5) (by omega)]; exact p0.p hd j h1 h2
      · rw [hk d (by omega)]; exact p0.m hd
      · rw [hk d (by omega)]; exact p0.x hd
      · rw [hk (d + 9) (by omega)]; exact p0.b hd j h1 h2
  have o1 : ∀ k : Nat, k ≠ n → k < 999990 → s1 k = s0 k ∧ xlen s1 k = xlen s0 k := fun k h1 h2 => ⟨by rw [es1]; exact xN_o s0 x3 h1 h2, by
    unfold xlen
    split
    · rfl
    · rw [es1, xN_8 s0 x3 hn.2, if_neg (by omega)]⟩
  refine lv_astore_n (lv' := [(1, .ref (h0 + n)), (0, .ref (h0 + 126))]) hx hb dX9_copyOfSteps_15 rfl hl (by decide) rfl (fun ls hl => ?_)
  refine x_iconst hx hb dX9_copyOfSteps_16 ?_
  refine lv_istore_n (lv' := [(2, .int (xJ 0)), (1, .ref (h0 + n)), (0, .ref (h0 + 126))]) hx hb dX9_copyOfSteps_17 rfl hl (by decide) rfl (fun ls hl => ?_)
  have L18 : ∀ (fu : Nat) (i : Int) (s2 : xS) (H : Heap) (locs : List Loc) (ls : Array Slot), (0 ≤ i ∧ i ≤ 60) → (61 - i).toNat < fu → xFr (fun k => 310 ≤ k) s0 s2 → IC s2 → xAr s2 n → ((xlen s2 n : Int) = x3) → (s2 999996 0 = s0 999996 0 + 1) → (∀ j : Int, 0 ≤ j → j < i → s2 n j = s0 127 j) → (∀ k : Nat, k ≠ n → k < 999990 → s2 k = s0 k ∧ xlen s2 k = xlen s0 k) → xW D g h0 s H locs s2 → lv_has ls 3 [(2, .int (xJ i)), (1, .ref (h0 + n)), (0, .ref (h0 + 126))] → W p l e { frames := 1, cells := 1, slots := 60, locals := 30 } s m args below meth c H locs (0 + 1) (0 + 60) Q (F0 m 18 ls []) := by
    intro fu
    induction fu with
    | zero => intro i s2 H locs ls _ hm; exact absurd hm (Nat.not_lt_zero _)
    | succ fu ih =>
      intro i s2 H locs ls hi hm hF i2 a2 l2 z2 v2 o2 hW hl
      refine x_iload_n hx hb hl 0 rfl dX9_copyOfSteps_18 rfl ?_
      refine x_aload_n hx hb hl 1 rfl dX9_copyOfSteps_19 rfl ?_
      refine x_alen (k := n) (n := xlen s2 n) (t0 := 0) hx hb hE hW a2.v a2.celn rfl rfl dX9_copyOfSteps_20 ?_
      rw [l2]
      by_cases hlt : i ≤ 60
      · refine x_icmp_ge (tgt := 39) hx hb (by omega) (by omega) dX9_copyOfSteps_21 (by decide) (fun c1 => ?_) (fun c1 => ?_)
        · refine x_aload_n hx hb hl 1 rfl dX9_copyOfSteps_39 rfl ?_
          rw [eQ]
          exact x_aret hx hb hr (Or.inr ⟨_, rfl⟩) hlk hW ⟨hF, ⟨i2, trivial⟩, en, a2, z2, by rw [l2, f4], fun j h1 h2 => v2 j h1 (by omega), o2⟩ dX9_copyOfSteps_40
        · refine x_aload_n hx hb hl 1 rfl dX9_copyOfSteps_24 rfl ?_
          refine x_iload_n hx hb hl 0 rfl dX9_copyOfSteps_25 rfl ?_
          refine x_aload_n hx hb hl 2 rfl dX9_copyOfSteps_26 rfl ?_
          refine x_get (j := 1) (v := .ref (h0 + 127)) hx hb hown hT hE hW cls_X9 (Or.inl (by decide)) (so_126 h0 g _) (by decide) rfl wq308 dX9_copyOfSteps_27 ?_
          refine x_iload_n hx hb hl 0 rfl dX9_copyOfSteps_30 rfl ?_
          refine x_iald hx hb hE hW (Or.inl (by decide)) (sa_127 h0 g _) (by omega) (by decide) dX9_copyOfSteps_31 ?_
          refine x_rd hW (fun x4 ex4 rx4 => ?_)
          refine x_iastW (k := n) hx hb hE hW hn a2 (by omega) rx4 dX9_copyOfSteps_32 (fun H locs s3 es3 hW => ?_)
          refine x_iinc (lv' := [(2, .int (xJ (i + 1))), (1, .ref (h0 + n)), (0, .ref (h0 + 126))]) hx hb hl 0 rfl dX9_copyOfSteps_33 (by decide) rfl (fun ls hl => ?_)
          refine lv_goto (tgt := 18) hx hb dX9_copyOfSteps_36 (by decide) ?_
          refine ih (i + 1) s3 H locs ls (by omega) (by omega) (hF.put es3 (by omega)) (by rw [es3]; exact IC_o (by unfold nsC; omega) i2) (a2.f (by rw [es3]; exact xU_k s2 i x4 (by omega))) ?_ ?_ ?_ (fun k h1 h2 => by
            have e8 : xlen s3 k = xlen s2 k := by
              unfold xlen
              rw [es3, xU_k s2 i x4 (show 999998 ≠ n from by omega)]
            rw [e8, es3, xU_k s2 i x4 h1]
            exact o2 k h1 h2) hW hl
          · rw [← l2, es3]
            unfold xlen
            rw [xU_k s2 i x4 (by omega)]
          · rw [es3, xU_k s2 i x4 (by omega)]
            exact z2
          · intro j h1 h2
            rw [es3, xU_i]
            split
            · rename_i h
              rw [h, ex4, hF 127 (by omega)]
            · exact v2 j h1 (by omega)
      · refine x_icmp_ge (tgt := 39) hx hb (by omega) (by omega) dX9_copyOfSteps_21 (by decide) (fun c1 => ?_) (fun c1 => ?_)
        · refine x_aload_n hx hb hl 1 rfl dX9_copyOfSteps_39 rfl ?_
          rw [eQ]
          exact x_aret hx hb hr (Or.inr ⟨_, rfl⟩) hlk hW ⟨hF, ⟨i2, trivial⟩, en, a2, z2, by rw [l2, f4], fun j h1 h2 => v2 j h1 (by omega), o2⟩ dX9_copyOfSteps_40
        · omega
  exact L18 ((61 - 0 : Int).toNat + 1) 0 s1 H locs ls (by omega) (Nat.lt_succ_self _) hF i1 a1 l1 z1 (fun j h1 h2 => by omega) o1 hW hl
set_option maxHeartbeats 4000000 in
set_option maxRecDepth 100000 in
theorem c_X10_walkJ (l : Launch) (D : va_G) (g : xG) (T : Nat × Nat × Nat) (h0 : Nat) (s0 : xS) (hσ : xRR s0) (j : Int) (rj : xR j) (n : Int) (rn : xR n) (hz : 0 ≤ s0 999996 0 ∧ s0 999996 0 ≤ 900000) (p0 : IC s0) : Met l yX10_walk (xws yX10_walk cX10_walk 4 (some .int)) { frames := 8, cells := 1, slots := 60, locals := 188 } (xP [.ref (h0 + 0), .int (xJ j), .int (xJ n)] D g T h0 s0) (xQi D g h0 (fun r τ => xFr (fun k => 310 ≤ k ∨ k = 1 ∨ k = 126 ∨ k = 127 ∨ k = 138 ∨ k = 141) s0 τ ∧ (((IC τ) ∧ True) ∧ ((τ 999996 0 = s0 999996 0 ∨ τ 999996 0 = s0 999996 0 + 1) ∧ (((j < 0 ∨ 1 < j ∨ n < 1 ∨ 80 < n ∨ s0 1 1 < n) ∧ τ 1 1 = s0 1 1 ∧ r = -1 ∧ τ 999996 0 = s0 999996 0 ∧ ∀ k : Nat, k ≠ 1 → k ≠ 126 → k ≠ 127 → τ k = s0 k) ∨ (¬ (j < 0 ∨ 1 < j ∨ n < 1 ∨ 80 < n ∨ s0 1 1 < n) ∧ τ 1 1 = 0 ∧ (((zws (s0 2) n 1 (2 * n + 1).toNat true 0 0 (s0 127) []).1 ≠ 0 ∧ r = (zws (s0 2) n 1 (2 * n + 1).toNat true 0 0 (s0 127) []).1 ∧ τ 999996 0 = s0 999996 0 ∧ ∀ k : Nat, k ≠ 1 → k ≠ 126 → k ≠ 127 → τ k = s0 k) ∨ ((zws (s0 2) n 1 (2 * n + 1).toNat true 0 0 (s0 127) []).1 = 0 ∧ r = (zws (s0 2) n 1 (2 * n + 1).toNat true 0 0 (s0 127) []).2.1 ∧ τ 999996 0 = s0 999996 0 + 1 ∧ τ 138 = xud (s0 138) j (310 + s0 999996 0) ∧ τ 141 = xud (s0 141) j 0 ∧ (xlen τ (310 + (s0 999996 0).toNat) : Int) = (zws (s0 2) n 1 (2 * n + 1).toNat true 0 0 (s0 127) []).2.1 ∧ (∀ i : Int, 0 ≤ i → i < (zws (s0 2) n 1 (2 * n + 1).toNat true 0 0 (s0 127) []).2.1 → τ (310 + (s0 999996 0).toNat) i = (zws (s0 2) n 1 (2 * n + 1).toNat true 0 0 (s0 127) []).2.2 i) ∧ ∀ k : Nat, k ≠ 1 → k ≠ 126 → k ≠ 127 → k ≠ 138 → k ≠ 141 → k ≠ (310 + (s0 999996 0).toNat) → k < 999990 → τ k = s0 k ∧ xlen τ k = xlen s0 k)))))))) 1 60 (xA h0) := by
  refine x_met hσ (by decide) (Nat.le_of_ble_eq_true rfl) ?_
  intro p e s m args below meth c hx hb hr hml hown hT hlk hnm hE hW ls hl
  have hl : lv_has ls 4 [(0, .ref (h0 + 0)), (1, .int (xJ j)), (2, .int (xJ n))] := hl
  obtain ⟨Q, eQ⟩ : ∃ Q, Q = MQ below (xQi D g h0 (fun r τ => xFr (fun k => 310 ≤ k ∨ k = 1 ∨ k = 126 ∨ k = 127 ∨ k = 138 ∨ k = 141) s0 τ ∧ (((IC τ) ∧ True) ∧ ((τ 999996 0 = s0 999996 0 ∨ τ 999996 0 = s0 999996 0 + 1) ∧ (((j < 0 ∨ 1 < j ∨ n < 1 ∨ 80 < n ∨ s0 1 1 < n) ∧ τ 1 1 = s0 1 1 ∧ r = -1 ∧ τ 999996 0 = s0 999996 0 ∧ ∀ k : Nat, k ≠ 1 → k ≠ 126 → k ≠ 127 → τ k = s0 k) ∨ (¬ (j < 0 ∨ 1 < j ∨ n < 1 ∨ 80 < n ∨ s0 1 1 < n) ∧ τ 1 1 = 0 ∧ (((zws (s0 2) n 1 (2 * n + 1).toNat true 0 0 (s0 127) []).1 ≠ 0 ∧ r = (zws (s0 2) n 1 (2 * n + 1).toNat true 0 0 (s0 127) []).1 ∧ τ 999996 0 = s0 999996 0 ∧ ∀ k : Nat, k ≠ 1 → k ≠ 126 → k ≠ 127 → τ k = s0 k) ∨ ((zws (s0 2) n 1 (2 * n + 1).toNat true 0 0 (s0 127) []).1 = 0 ∧ r = (zws (s0 2) n 1 (2 * n + 1).toNat true 0 0 (s0 127) []).2.1 ∧ τ 999996 0 = s0 999996 0 + 1 ∧ τ 138 = xud (s0 138) j (310 + s0 999996 0) ∧ τ 141 = xud (s0 141) j 0 ∧ (xlen τ (310 + (s0 999996 0).toNat) : Int) = (zws (s0 2) n 1 (2 * n + 1).toNat true 0 0 (s0 127) []).2.1 ∧ (∀ i : Int, 0 ≤ i → i < (zws (s0 2) n 1 (2 * n + 1).toNat true 0 0 (s0 127) []).2.1 → τ (310 + (s0 999996 0).toNat) i = (zws (s0 2) n 1 (2 * n + 1).toNat true 0 0 (s0 127) []).2.2 i) ∧ ∀ k : Nat, k ≠ 1 → k ≠ 126 → k ≠ 127 → k ≠ 138 → k ≠ 141 → k ≠ (310 + (s0 999996 0).toNat) → k < 999990 → τ k = s0 k ∧ xlen τ k = xlen s0 k)))))))) args s 1 60 (xA h0) := ⟨_, rfl⟩
  rw [← eQ]
  generalize hHe : ([] : List Loc) = locs at hW ⊢
  obtain ⟨H, eH⟩ : ∃ H, H = s.heap := ⟨_, rfl⟩
  rw [← eH] at hW ⊢
  have hF : xFr (fun k => 310 ≤ k ∨ k = 1 ∨ k = 126 ∨ k = 127 ∨ k = 138 ∨ k = 141) s0 s0 := xFr.rf
  have k1_1 : s0 1 1 = s0 1 1 := rfl
  have k999996_0 : s0 999996 0 = s0 999996 0 := rfl
  refine x_iload_n hx hb hl 1 rfl dX10_walk_0 rfl ?_
  refine x_iconst hx hb dX10_walk_1 ?_
  refine x_iconst hx hb dX10_walk_2 ?_
  refine x_goi (x_runS (As := [.int (xJ j), .int (xJ 0), .int (xJ 1)]) hx hb hml hown hT hE hW hl.1 cf_X10_isIn wq562 wq561 (c_X10_isIn l D g T h0 s0 hW.2.1 j rj 0 (by decide) 1 (by decide)) ⟨rfl, rfl, ⟨by decide, by decide⟩, ⟨by decide, by decide⟩⟩ rfl rfl (Nat.le_of_ble_eq_true rfl) dX10_walk_3) hW (fun x1 s2 H locs rx1 hp3 hW => ?_)
  obtain ⟨es2, hp3⟩ := hp3
  subst es2
  have ghp3 := hp3
  refine x_if_eq (tgt := 30) hx hb rx1 dX10_walk_6 (by decide) (fun c4 => ?_) (fun c4 => ?_)
  · skip
    refine x_iconst hx hb dX10_walk_30 ?_
    refine W.widen (k := 1) (n := 60) (Nat.le_of_ble_eq_true rfl) (Nat.le_of_ble_eq_true rfl) ?_
    rw [eQ]
    exact x_iret hx hb hr hlk hW (by decide) ⟨hF, ⟨p0, trivial⟩, ⟨Or.inl (by omega), Or.inl ⟨by omega, by omega, by omega, rfl, fun k _ _ _ => rfl⟩⟩⟩ dX10_walk_31
  refine x_iload_n hx hb hl 2 rfl dX10_walk_9 rfl ?_
  refine x_iconst hx hb dX10_walk_10 ?_
  refine x_bipush hx hb dX10_walk_11 (by decide) ?_
  refine x_goi (x_runS (As := [.int (xJ n), .int (xJ 1), .int (xJ 80)]) hx hb hml hown hT hE hW hl.1 cf_X10_isIn wq562 wq561 (c_X10_isIn l D g T h0 s0 hW.2.1 n rn 1 (by decide) 80 (by decide)) ⟨rfl, rfl, ⟨by decide, by decide⟩, ⟨by decide, by decide⟩⟩ rfl rfl (Nat.le_of_ble_eq_true rfl) dX10_walk_13) hW (fun x5 s6 H locs rx5 hp7 hW => ?_)
  obtain ⟨es6, hp7⟩ := hp7
  subst es6
  have ghp7 := hp7
  refine x_if_eq (tgt := 30) hx hb rx5 dX10_walk_16 (by decide) (fun c8 => ?_) (fun c8 => ?_)
  · skip
    refine x_iconst hx hb dX10_walk_30 ?_
    refine W.widen (k := 1) (n := 60) (Nat.le_of_ble_eq_true rfl) (Nat.le_of_ble_eq_true rfl) ?_
    rw [eQ]
    exact x_iret hx hb hr hlk hW (by decide) ⟨hF, ⟨p0, trivial⟩, ⟨Or.inl (by omega), Or.inl ⟨by omega, by omega, by omega, rfl, fun k _ _ _ => rfl⟩⟩⟩ dX10_walk_31
  refine x_iload_n hx hb hl 2 rfl dX10_walk_19 rfl ?_
  refine x_aload_n hx hb hl 0 rfl dX10_walk_20 rfl ?_
  refine x_get (j := 0) (v := .ref (h0 + 1)) hx hb hown hT hE hW cls_X10 (Or.inl (by decide)) (so_0 h0 g _) (by decide) rfl wq512 dX10_walk_21 ?_
  refine x_getN (j := 1) (v := .int (xJ (s0 1 1))) hx hb hown hT hE hW cls_X8 (Or.inl (by decide)) (so_1 h0 g _) (by decide) rfl wn198 dX10_walk_24 ?_
  refine x_rd hW (fun x9 ex9 rx9 => ?_)
  have bx9 : 0 ≤ x9 ∧ x9 ≤ 260 := by rw [ex9]; exact IC.t p0
  have fx9 : x9 = s0 1 1 := ex9.trans k1_1
  refine x_icmp_le (tgt := 32) hx hb rn rx9 dX10_walk_27 (by decide) (fun c10 => ?_) (fun c10 => ?_)
  · skip
    refine x_aload_n hx hb hl 0 rfl dX10_walk_32 rfl ?_
    refine x_get (j := 0) (v := .ref (h0 + 1)) hx hb hown hT hE hW cls_X10 (Or.inl (by decide)) (so_0 h0 g _) (by decide) rfl wq512 dX10_walk_33 ?_
    refine x_iload_n hx hb hl 2 rfl dX10_walk_36 rfl ?_
    refine x_gov (x_runVN (As := [.int (xJ n)]) hx hb hml hown hT hE hW hl.1 (Or.inl (by decide)) (so_1 h0 g _) rfl cf_X8_open wq566 wq1 wn564 (c_X8_openM l D g T h0 s0 hW.2.1 n rn (by omega) p0) ⟨rfl, rfl, ⟨by decide, by decide⟩, ⟨by decide, by decide⟩⟩ rfl rfl (Nat.le_of_ble_eq_true rfl) dX10_walk_37) hW (fun s12 H locs hp13 hW => ?_)
    obtain ⟨fs12, hp13⟩ := hp13
    have hF14 := hF.call fs12 (fun k h => by omega)
    have q15 : s12 999996 0 = s0 999996 0 := (congrFun (fs12 _ (by omega)) _).trans k999996_0
    have ghp13 := hp13.2
    have O37 := ghp13
    have P37 : s12 2 = s0 2 ∧ s12 127 = s0 127 := ⟨fs12 2 (by first | decide | omega), fs12 127 (by first | decide | omega)⟩
    have Q37 : ∀ k : Nat, k ≠ 1 → k ≠ 126 → k ≠ 127 → s12 k = s0 k := fun k a b c => fs12 k (by omega)
    refine x_aload_n hx hb hl 0 rfl dX10_walk_40 rfl ?_
    refine x_get (j := 4) (v := .ref (h0 + 126)) hx hb hown hT hE hW cls_X10 (Or.inl (by decide)) (so_0 h0 g _) (by decide) rfl wq516 dX10_walk_41 ?_
    refine x_goi (x_runVN (As := []) hx hb hml hown hT hE hW hl.1 (Or.inl (by decide)) (so_126 h0 g _) rfl cf_X9_readWhole wq717 wq28 wn715 (c_X9_readWholeW l D g T h0 s12 hW.2.1 (by omega) hp13.1.1) ⟨rfl, rfl, ⟨by decide, by decide⟩, ⟨by decide, by decide⟩⟩ rfl rfl (Nat.le_of_ble_eq_true rfl) dX10_walk_44) hW (fun x16 s17 H locs rx16 hp18 hW => ?_)
    obtain ⟨fs17, hp18⟩ := hp18
    have hF19 := hF14.call fs17 (fun k h => by omega)
    have q20 : s17 999996 0 = s0 999996 0 := (congrFun (fs17 _ (by omega)) _).trans q15
    have ghp18 := hp18.2
    have R44 := ghp18
    rw [P37.1, O37.1, P37.2] at R44
    have Q44 : ∀ k : Nat, k ≠ 1 → k ≠ 126 → k ≠ 127 → s17 k = s0 k := fun k a b c => (fs17 k (by omega)).trans (Q37 k a b c)
    refine lv_istore_n (lv' := [(3, .int (xJ x16)), (0, .ref (h0 + 0)), (1, .int (xJ j)), (2, .int (xJ n))]) hx hb dX10_walk_47 rfl hl (by decide) rfl (fun ls hl => ?_)
    refine x_aload_n hx hb hl 1 rfl dX10_walk_48 rfl ?_
    refine x_get (j := 0) (v := .ref (h0 + 1)) hx hb hown hT hE hW cls_X10 (Or.inl (by decide)) (so_0 h0 g _) (by decide) rfl wq512 dX10_walk_49 ?_
    refine x_gov (x_runVN (As := []) hx hb hml hown hT hE hW hl.1 (Or.inl (by decide)) (so_1 h0 g _) rfl cf_X8_drop wq607 wq7 wn605 (c_X8_dropM l D g T h0 s17 hW.2.1 hp18.1.1) ⟨rfl, rfl, ⟨by decide, by decide⟩, ⟨by decide, by decide⟩⟩ rfl rfl (Nat.le_of_ble_eq_true rfl) dX10_walk_52) hW (fun s22 H locs hp23 hW => ?_)
    obtain ⟨fs22, hp23⟩ := hp23
    have hF24 := hF19.call fs22 (fun k h => by omega)
    have q25 : s22 999996 0 = s0 999996 0 := (congrFun (fs22 _ (by omega)) _).trans q20
    have ghp23 := hp23.2
    have R52 : (x16 = 1 ∧ (zws (s0 2) n 1 (2 * n + 1).toNat true 0 0 (s0 127) []).1 = 0 ∧ s22 126 2 = (zws (s0 2) n 1 (2 * n + 1).toNat true 0 0 (s0 127) []).2.1) ∨ (x16 = 0 ∧ (zws (s0 2) n 1 (2 * n + 1).toNat true 0 0 (s0 127) []).1 ≠ 0 ∧ s22 1 4 = (zws (s0 2) n 1 (2 * n + 1).toNat true 0 0 (s0 127) []).1) := by rw [fs22 126 (by first | decide | omega), hp23.1.2.2.1]; exact R44.elim (fun q => Or.inl ⟨q.1, q.2.1, q.2.2.1⟩) (fun q => Or.inr q)
    have V52 : x16 = 1 → s22 127 = (zws (s0 2) n 1 (2 * n + 1).toNat true 0 0 (s0 127) []).2.2 := fun h => (fs22 127 (by first | decide | omega)).trans (R44.resolve_right (fun q => by omega)).2.2.2
    have Q52 : ∀ k : Nat, k ≠ 1 → k ≠ 126 → k ≠ 127 → s22 k = s0 k := fun k a b c => (fs22 k (by omega)).trans (Q44 k a b c)
    obtain ⟨z52, ez52⟩ : ∃ z : Int, z = s22 126 2 := ⟨_, rfl⟩
    rw [← ez52] at R52
    refine x_iload_n hx hb hl 0 rfl dX10_walk_55 rfl ?_
    refine x_if_ne (tgt := 67) hx hb rx16 dX10_walk_56 (by decide) (fun c26 => ?_) (fun c26 => ?_)
    · skip
      refine x_aload_n hx hb hl 1 rfl dX10_walk_67 rfl ?_
      refine x_get (j := 8) (v := .ref (h0 + 136)) hx hb hown hT hE hW cls_X10 (Or.inl (by decide)) (so_0 h0 g _) (by decide) rfl wq520 dX10_walk_68 ?_
      refine x_iload_n hx hb hl 2 rfl dX10_walk_71 rfl ?_
      refine x_aload_n hx hb hl 1 rfl dX10_walk_72 rfl ?_
      refine x_get (j := 4) (v := .ref (h0 + 126)) hx hb hown hT hE hW cls_X10 (Or.inl (by decide)) (so_0 h0 g _) (by decide) rfl wq516 dX10_walk_73 ?_
      refine x_gor (x_runVN (As := []) hx hb hml hown hT hE hW hl.1 (Or.inl (by decide)) (so_126 h0 g _) rfl cf_X9_copyOfSteps wq739 wq32 wn737 (c_X9_copyOfStepsJ l D g T h0 s22 hW.2.1 (by omega) hp23.1.1) ⟨rfl, rfl, ⟨by decide, by decide⟩, ⟨by decide, by decide⟩⟩ rfl rfl (Nat.le_of_ble_eq_true rfl) dX10_walk_76) hW (fun x27 s28 H locs hp29 hW => ?_)
      obtain ⟨fs28, hp29⟩ := hp29
      have hF30 := hF24.call fs28 (fun k h => by omega)
      have q31 : s28 1 1 = 0 := (congrFun (fs28 _ (by omega)) _).trans hp23.1.2.1
      have q32 : s28 1 4 = s17 1 4 := (congrFun (fs28 _ (by omega)) _).trans hp23.1.2.2.1
      have ghp29 := hp29.2
      have E76 : s28 126 2 = z52 := (congrFun (fs28 126 (by first | decide | omega)) 2).trans ez52.symm
      obtain ⟨x76, ex76⟩ : ∃ x : Nat, x = x27 := ⟨_, rfl⟩
      have H76 := ghp29
      rw [← ex76, ← ez52, V52 (by omega)] at H76
      have n76 : x76 = (310 + (s0 999996 0).toNat) := by rw [H76.1, Q52 999996 (by decide) (by decide) (by decide)]
      have K76 : ∀ k : Nat, k ≠ 1 → k ≠ 126 → k ≠ 127 → k ≠ x76 → k < 999990 → s28 k = s0 k ∧ xlen s28 k = xlen s0 k := fun k a b c h h2 => by
        have e := H76.2.2.2.2.2 k h h2
        rw [e.1, e.2, Q52 k a b c]
        exact ⟨rfl, by unfold xlen; rw [Q52 999998 (by decide) (by decide) (by decide)]⟩
      refine x_gov (x_runVN (As := [.int (xJ j), .ref (h0 + x27)]) hx hb hml hown hT hE hW hl.1 (Or.inl (by decide)) (so_136 h0 g _) rfl cf_X2_setWalk wq745 wq33 wn743 (c_X2_setWalkJ l D g T h0 s28 hW.2.1 136 xd_136 j rj ((x27 : Nat) : Int) (by omega) (ghp29.2.1) (by omega) hp29.1.1) ⟨rfl, rfl, ⟨by decide, by decide⟩, ⟨by decide, by decide⟩⟩ rfl rfl (Nat.le_of_ble_eq_true rfl) dX10_walk_79) hW (fun s34 H locs hp35 hW => ?_)
      obtain ⟨fs34, hp35⟩ := hp35
      have hF36 := hF30.call fs34 (fun k h => by omega)
      have q37 : s34 1 1 = 0 := (congrFun (fs34 _ (by omega)) _).trans q31
      have q38 : s34 1 4 = s17 1 4 := (congrFun (fs34 _ (by omega)) _).trans q32
      have q39 : s34 999996 0 = s22 999996 0 + 1 := (congrFun (fs34 _ (by omega)) _).trans ghp29.2.2.1
      have ghp35 := hp35.2
      have E79 : s34 126 2 = z52 := (congrFun (fs34 126 (by first | decide | omega)) 2).trans E76
      have H79 := ghp35
      have N79 : s34 999996 0 = s0 999996 0 + 1 ∧ s34 138 = xud (s0 138) j (310 + s0 999996 0) ∧ s34 141 = xud (s0 141) j 0 ∧ (xlen s34 (310 + (s0 999996 0).toNat) : Int) = (zws (s0 2) n 1 (2 * n + 1).toNat true 0 0 (s0 127) []).2.1 ∧ (∀ i : Int, 0 ≤ i → i < (zws (s0 2) n 1 (2 * n + 1).toNat true 0 0 (s0 127) []).2.1 → s34 (310 + (s0 999996 0).toNat) i = (zws (s0 2) n 1 (2 * n + 1).toNat true 0 0 (s0 127) []).2.2 i) ∧ ∀ k : Nat, k ≠ 1 → k ≠ 126 → k ≠ 127 → k ≠ 138 → k ≠ 141 → k ≠ (310 + (s0 999996 0).toNat) → k < 999990 → s34 k = s0 k ∧ xlen s34 k = xlen s0 k := by
        have z9 := (R52.resolve_right (fun q => by omega)).2
        have l9 : xlen s34 = xlen s28 := funext fun r => by unfold xlen; rw [fs34 999998 (by first | decide | omega)]
        rw [l9, fs34 (310 + (s0 999996 0).toNat) (by omega), ← n76, ← z9.2]
        refine ⟨?_, ?_, ?_, H76.2.2.2.1, H76.2.2.2.2.1, fun k a b c h1 h2 h3 h4 => ?_⟩
        · rw [congrFun (fs34 999996 (by first | decide | omega)) 0, H76.2.2.1, Q52 999996 (by decide) (by decide) (by decide)]
        · refine (show s34 138 = xud (s28 138) j ((x76 : Nat) : Int) from by rw [ex76]; exact H79.1).trans ?_
          rw [(K76 138 (by decide) (by decide) (by decide) (by omega) (by decide)).1]
          congr 1
          omega
        · refine (show s34 141 = xud (s28 141) j 0 from H79.2).trans ?_
          rw [(K76 141 (by decide) (by decide) (by decide) (by omega) (by decide)).1]
        · rw [fs34 k (by omega)]
          exact K76 k a b c h3 h4
      refine x_aload_n hx hb hl 1 rfl dX10_walk_82 rfl ?_
      refine x_get (j := 4) (v := .ref (h0 + 126)) hx hb hown hT hE hW cls_X10 (Or.inl (by decide)) (so_0 h0 g _) (by decide) rfl wq516 dX10_walk_83 ?_
      refine x_getN (j := 2) (v := .int (xJ (s34 126 2))) hx hb hown hT hE hW cls_X9 (Or.inl (by decide)) (so_126 h0 g _) (by decide) rfl wn310 dX10_walk_86 ?_
      refine x_rd hW (fun x40 ex40 rx40 => ?_)
      have bx40 : 0 ≤ x40 ∧ x40 ≤ 60 := by rw [ex40]; exact IC.y hp35.1.1
      refine W.widen (k := 1) (n := 60) (Nat.le_of_ble_eq_true rfl) (Nat.le_of_ble_eq_true rfl) ?_
      rw [eQ]
      exact x_iret hx hb hr hlk hW rx40 ⟨hF36, ⟨hp35.1.1, trivial⟩, ⟨by omega, Or.inr ⟨by omega, by omega, Or.inr ⟨(R52.resolve_right (fun q => by omega)).2.1, by omega, N79⟩⟩⟩⟩ dX10_walk_89
    refine x_aload_n hx hb hl 1 rfl dX10_walk_59 rfl ?_
    refine x_get (j := 0) (v := .ref (h0 + 1)) hx hb hown hT hE hW cls_X10 (Or.inl (by decide)) (so_0 h0 g _) (by decide) rfl wq512 dX10_walk_60 ?_
    refine x_getN (j := 4) (v := .int (xJ (s22 1 4))) hx hb hown hT hE hW cls_X8 (Or.inl (by decide)) (so_1 h0 g _) (by decide) rfl wn205 dX10_walk_63 ?_
    refine x_rd hW (fun x41 ex41 rx41 => ?_)
    have fx41 : x41 = s17 1 4 := ex41.trans hp23.1.2.2.1
    refine W.widen (k := 1) (n := 60) (Nat.le_of_ble_eq_true rfl) (Nat.le_of_ble_eq_true rfl) ?_
    rw [eQ]
    exact x_iret hx hb hr hlk hW rx41 ⟨hF24, ⟨hp23.1.1, trivial⟩, ⟨by omega, Or.inr ⟨by omega, by omega, Or.inl ⟨(R52.resolve_left (fun q => by omega)).2.1, by omega, congrFun (Q52 999996 (by decide) (by decide) (by decide)) 0, Q52⟩⟩⟩⟩ dX10_walk_66
  refine x_iconst hx hb dX10_walk_30 ?_
  refine W.widen (k := 1) (n := 60) (Nat.le_of_ble_eq_true rfl) (Nat.le_of_ble_eq_true rfl) ?_
  rw [eQ]
  exact x_iret hx hb hr hlk hW (by decide) ⟨hF, ⟨p0, trivial⟩, ⟨Or.inl (by omega), Or.inl ⟨by omega, by omega, by omega, rfl, fun k _ _ _ => rfl⟩⟩⟩ dX10_walk_31
set_option maxHeartbeats 4000000 in
set_option maxRecDepth 100000 in
theorem c_X10_sendAwayWhoCannotStandJ (l : Launch) (D : va_G) (g : xG) (T : Nat × Nat × Nat) (h0 : Nat) (s0 : xS) (hσ : xRR s0) (p0 : IC s0) : Met l yX10_sendAwayWhoCannotStand (xws yX10_sendAwayWhoCannotStand cX10_sendAwayWhoCannotStand 2 none) { frames := 2, cells := 0, slots := 0, locals := 43 } (xP [.ref (h0 + 0)] D g T h0 s0) (xQv D g h0 (fun τ => xFr (fun k => k = 129 ∨ k = 137 ∨ k = 142 ∨ k = 143 ∨ k = 144 ∨ k = 145) s0 τ ∧ (((IC τ) ∧ True) ∧ (∀ q : Int, 0 ≤ q → q < 2 → ((0 ≤ s0 137 q ∧ s0 137 q < 100 ∧ s0 4 (s0 137 q) ≠ 1 ∧ s0 4 (s0 137 q) ≠ 3) ∧ τ 137 q = s0 137 q) ∨ (¬ (0 ≤ s0 137 q ∧ s0 137 q < 100 ∧ s0 4 (s0 137 q) ≠ 1 ∧ s0 4 (s0 137 q) ≠ 3) ∧ τ 137 q = -1))))) 0 0 (xA h0) := by
  refine x_met hσ (by decide) (Nat.le_of_ble_eq_true rfl) ?_
  intro p e s m args below meth c hx hb hr hml hown hT hlk hnm hE hW ls hl
  have hl : lv_has ls 2 [(0, .ref (h0 + 0))] := hl
  obtain ⟨Q, eQ⟩ : ∃ Q, Q = MQ below (xQv D g h0 (fun τ => xFr (fun k => k = 129 ∨ k = 137 ∨ k = 142 ∨ k = 143 ∨ k = 144 ∨ k = 145) s0 τ ∧ (((IC τ) ∧ True) ∧ (∀ q : Int, 0 ≤ q → q < 2 → ((0 ≤ s0 137 q ∧ s0 137 q < 100 ∧ s0 4 (s0 137 q) ≠ 1 ∧ s0 4 (s0 137 q) ≠ 3) ∧ τ 137 q = s0 137 q) ∨ (¬ (0 ≤ s0 137 q ∧ s0 137 q < 100 ∧ s0 4 (s0 137 q) ≠ 1 ∧ s0 4 (s0 137 q) ≠ 3) ∧ τ 137 q = -1))))) args s 0 0 (xA h0) := ⟨_, rfl⟩
  rw [← eQ]
  generalize hHe : ([] : List Loc) = locs at hW ⊢
  obtain ⟨H, eH⟩ : ∃ H, H = s.heap := ⟨_, rfl⟩
  rw [← eH] at hW ⊢
  have hF : xFr (fun k => k = 129 ∨ k = 137 ∨ k = 142 ∨ k = 143 ∨ k = 144 ∨ k = 145) s0 s0 := xFr.rf
  have k1_1 : s0 1 1 = s0 1 1 := rfl
  refine x_iconst hx hb dX10_sendAwayWhoCannotStand_0 ?_
  refine lv_istore_n (lv' := [(1, .int (xJ 0)), (0, .ref (h0 + 0))]) hx hb dX10_sendAwayWhoCannotStand_1 rfl hl (by decide) rfl (fun ls hl => ?_)
  have L2 : ∀ (fu : Nat) (i1_2 : Int) (s_2 : xS) (H : Heap) (locs : List Loc) (ls : Array Slot), (xR i1_2) → (xFr (fun k => k = 129 ∨ k = 137 ∨ k = 142 ∨ k = 143 ∨ k = 144 ∨ k = 145) s0 s_2) → (IC s_2) → (s_2 1 1 = s0 1 1) → (0 ≤ i1_2) → (i1_2 ≤ 2) → (∀ q : Int, 0 ≤ q → q < i1_2 → ((0 ≤ s0 137 q ∧ s0 137 q < 100 ∧ s0 4 (s0 137 q) ≠ 1 ∧ s0 4 (s0 137 q) ≠ 3) ∧ s_2 137 q = s0 137 q) ∨ (¬ (0 ≤ s0 137 q ∧ s0 137 q < 100 ∧ s0 4 (s0 137 q) ≠ 1 ∧ s0 4 (s0 137 q) ≠ 3) ∧ s_2 137 q = -1)) → (∀ q : Int, i1_2 ≤ q → q < 2 → s_2 137 q = s0 137 q) → (2 + 1 - i1_2).toNat < fu → xW D g h0 s H locs s_2 → lv_has ls 2 [(0, .ref (h0 + 0)), (1, .int (xJ i1_2))] → W p l e { frames := 2, cells := 0, slots := 0, locals := 43 } s m args below meth c H locs 0 0 Q (F0 m 2 ls []) := by
    intro fu
    induction fu with
    | zero => intro i1_2 s_2 H locs ls ri1_2 hF_2 q2_0 q2_1 v2_0 v2_1 v2_2 v2_3 hm; exact absurd hm (Nat.not_lt_zero _)
    | succ fu ih2 =>
      intro i1_2 s_2 H locs ls ri1_2 hF_2 q2_0 q2_1 v2_0 v2_1 v2_2 v2_3 hm hW hl
      have hm_2 := fun (_ : Unit) => hm
      clear hm
      refine x_iload_n hx hb hl 1 rfl dX10_sendAwayWhoCannotStand_2 rfl ?_
      refine x_iconst hx hb dX10_sendAwayWhoCannotStand_3 ?_
      refine x_icmp_ge (tgt := 42) hx hb ri1_2 (by decide) dX10_sendAwayWhoCannotStand_4 (by decide) (fun c1 => ?_) (fun c1 => ?_)
      · skip
        refine x_iconst hx hb dX10_sendAwayWhoCannotStand_42 ?_
        refine lv_istore_n (lv' := [(1, .int (xJ 0)), (0, .ref (h0 + 0))]) hx hb dX10_sendAwayWhoCannotStand_43 rfl hl (by decide) rfl (fun ls hl => ?_)
        have L44 : ∀ (fu : Nat) (i1_44 : Int) (s_44 : xS) (H : Heap) (locs : List Loc) (ls : Array Slot), (xR i1_44) → (xFr (fun k => k = 129 ∨ k = 137 ∨ k = 142 ∨ k = 143 ∨ k = 144 ∨ k = 145) s0 s_44) → (IC s_44) → (s_44 1 1 = s0 1 1) → (0 ≤ i1_44) → (i1_44 ≤ 10) → (∀ q : Int, 0 ≤ q → q < 2 → ((0 ≤ s0 137 q ∧ s0 137 q < 100 ∧ s0 4 (s0 137 q) ≠ 1 ∧ s0 4 (s0 137 q) ≠ 3) ∧ s_44 137 q = s0 137 q) ∨ (¬ (0 ≤ s0 137 q ∧ s0 137 q < 100 ∧ s0 4 (s0 137 q) ≠ 1 ∧ s0 4 (s0 137 q) ≠ 3) ∧ s_44 137 q = -1)) → (10 + 1 - i1_44).toNat < fu → xW D g h0 s H locs s_44 → lv_has ls 2 [(0, .ref (h0 + 0)), (1, .int (xJ i1_44))] → W p l e { frames := 2, cells := 0, slots := 0, locals := 43 } s m args below meth c H locs 0 0 Q (F0 m 44 ls []) := by
          intro fu
          induction fu with
          | zero => intro i1_44 s_44 H locs ls ri1_44 hF_44 q44_0 q44_1 v44_0 v44_1 v44_2 hm; exact absurd hm (Nat.not_lt_zero _)
          | succ fu ih44 =>
            intro i1_44 s_44 H locs ls ri1_44 hF_44 q44_0 q44_1 v44_0 v44_1 v44_2 hm hW hl
            have hm_44 := fun (_ : Unit) => hm
            clear hm
            refine x_iload_n hx hb hl 1 rfl dX10_sendAwayWhoCannotStand_44 rfl ?_
            refine x_bipush hx hb dX10_sendAwayWhoCannotStand_45 (by decide) ?_
            refine x_icmp_ge (tgt := 85) hx hb ri1_44 (by decide) dX10_sendAwayWhoCannotStand_47 (by decide) (fun c2 => ?_) (fun c2 => ?_)
            · skip
              refine x_iconst hx hb dX10_sendAwayWhoCannotStand_85 ?_
              refine lv_istore_n (lv' := [(1, .int (xJ 0)), (0, .ref (h0 + 0))]) hx hb dX10_sendAwayWhoCannotStand_86 rfl hl (by decide) rfl (fun ls hl => ?_)
              have L87 : ∀ (fu : Nat) (i1_87 : Int) (s_87 : xS) (H : Heap) (locs : List Loc) (ls : Array Slot), (xR i1_87) → (xFr (fun k => k = 129 ∨ k = 137 ∨ k = 142 ∨ k = 143 ∨ k = 144 ∨ k = 145) s0 s_87) → (IC s_87) → (s_87 1 1 = s0 1 1) → (0 ≤ i1_87) → (i1_87 ≤ 4) → (∀ q : Int, 0 ≤ q → q < 2 → ((0 ≤ s0 137 q ∧ s0 137 q < 100 ∧ s0 4 (s0 137 q) ≠ 1 ∧ s0 4 (s0 137 q) ≠ 3) ∧ s_87 137 q = s0 137 q) ∨ (¬ (0 ≤ s0 137 q ∧ s0 137 q < 100 ∧ s0 4 (s0 137 q) ≠ 1 ∧ s0 4 (s0 137 q) ≠ 3) ∧ s_87 137 q = -1)) → (4 + 1 - i1_87).toNat < fu → xW D g h0 s H locs s_87 → lv_has ls 2 [(0, .ref (h0 + 0)), (1, .int (xJ i1_87))] → W p l e { frames := 2, cells := 0, slots := 0, locals := 43 } s m args below meth c H locs 0 0 Q (F0 m 87 ls []) := by
                intro fu
                induction fu with
                | zero => intro i1_87 s_87 H locs ls ri1_87 hF_87 q87_0 q87_1 v87_0 v87_1 v87_2 hm; exact absurd hm (Nat.not_lt_zero _)
                | succ fu ih87 =>
                  intro i1_87 s_87 H locs ls ri1_87 hF_87 q87_0 q87_1 v87_0 v87_1 v87_2 hm hW hl
                  have hm_87 := fun (_ : Unit) => hm
                  clear hm
                  refine x_iload_n hx hb hl 1 rfl dX10_sendAwayWhoCannotStand_87 rfl ?_
                  refine x_iconst hx hb dX10_sendAwayWhoCannotStand_88 ?_
                  refine x_icmp_ge (tgt := 127) hx hb ri1_87 (by decide) dX10_sendAwayWhoCannotStand_89 (by decide) (fun c3 => ?_) (fun c3 => ?_)
                  · skip
                    rw [eQ]
                    exact x_vret hx hb hr hlk hW ⟨hF_87, ⟨q87_0, trivial⟩, v87_2⟩ dX10_sendAwayWhoCannotStand_127
                  refine x_aload_n hx hb hl 0 rfl dX10_sendAwayWhoCannotStand_92 rfl ?_
                  refine x_get (j := 1) (v := .ref (h0 + 3)) hx hb hown hT hE hW cls_X10 (Or.inl (by decide)) (so_0 h0 g _) (by decide) rfl wq513 dX10_sendAwayWhoCannotStand_93 ?_
                  refine x_aload_n hx hb hl 0 rfl dX10_sendAwayWhoCannotStand_96 rfl ?_
                  refine x_get (j := 5) (v := .ref (h0 + 128)) hx hb hown hT hE hW cls_X10 (Or.inl (by decide)) (so_0 h0 g _) (by decide) rfl wq517 dX10_sendAwayWhoCannotStand_97 ?_
                  refine x_getN (j := 2) (v := .ref (h0 + 129)) hx hb hown hT hE hW cls_X0 (Or.inl (by decide)) (so_128 h0 g _) (by decide) rfl wn356 dX10_sendAwayWhoCannotStand_100 ?_
                  refine x_iload_n hx hb hl 1 rfl dX10_sendAwayWhoCannotStand_103 rfl ?_
                  refine x_iald hx hb hE hW (Or.inl (by decide)) (sa_129 h0 g _) (by omega) (by decide) dX10_sendAwayWhoCannotStand_104 ?_
                  refine x_rd hW (fun x4 ex4 rx4 => ?_)
                  refine x_goi (x_runVN (As := [.int (xJ x4)]) hx hb hml hown hT hE hW hl.1 (Or.inl (by decide)) (so_3 h0 g _) rfl cf_X6_isOpen wq615 wq9 wn613 (c_X6_isOpenM l D g T h0 s_87 hW.2.1 x4 rx4 q87_0) ⟨rfl, rfl, ⟨by decide, by decide⟩, ⟨by decide, by decide⟩⟩ rfl rfl (Nat.le_of_ble_eq_true rfl) dX10_sendAwayWhoCannotStand_105) hW (fun x5 s6 H locs rx5 hp7 hW => ?_)
                  obtain ⟨es6, hp7⟩ := hp7
                  subst es6
                  have ghp7 := hp7
                  refine x_if_ne (tgt := 121) hx hb rx5 dX10_sendAwayWhoCannotStand_108 (by decide) (fun c8 => ?_) (fun c8 => ?_)
                  · skip
                    refine x_iinc (lv' := [(1, .int (xJ (i1_87 + 1))), (0, .ref (h0 + 0))]) hx hb hl 1 rfl dX10_sendAwayWhoCannotStand_121 (by decide) rfl (fun ls hl => ?_)
                    refine lv_goto (tgt := 87) hx hb dX10_sendAwayWhoCannotStand_124 (by decide) ?_
                    exact ih87 (i1_87 + 1) s_87 H locs ls (by omega) hF_87 q87_0 q87_1 (by omega) (by omega) (by first | exact v87_2 | (rw [E120]; exact v87_2)) (by have hm := hm_87 (); omega) hW (lv_sub hl [1, 0] rfl)
                  refine x_aload_n hx hb hl 0 rfl dX10_sendAwayWhoCannotStand_111 rfl ?_
                  refine x_get (j := 5) (v := .ref (h0 + 128)) hx hb hown hT hE hW cls_X10 (Or.inl (by decide)) (so_0 h0 g _) (by decide) rfl wq517 dX10_sendAwayWhoCannotStand_112 ?_
                  refine x_getN (j := 2) (v := .ref (h0 + 129)) hx hb hown hT hE hW cls_X0 (Or.inl (by decide)) (so_128 h0 g _) (by decide) rfl wn356 dX10_sendAwayWhoCannotStand_115 ?_
                  refine x_iload_n hx hb hl 1 rfl dX10_sendAwayWhoCannotStand_118 rfl ?_
                  refine x_iconst hx hb dX10_sendAwayWhoCannotStand_119 ?_
                  refine x_iast hx hb hE hW (by decide) (fun σ => sa_129 h0 g σ) (by omega) (by decide) (by decide) dX10_sendAwayWhoCannotStand_120 (fun H locs s9 es9 hW => ?_)
                  have q10 : IC s9 := by rw [es9]; exact IC_o (by decide) q87_0
                  have q11 : s9 1 1 = s0 1 1 := (show s9 1 1 = s_87 1 1 from by rw [es9, xU_k _ _ _ (by first | decide | omega)]).trans q87_1
                  have hF12 := hF_87.put es9 (by omega)
                  have E120 : s9 137 = s_87 137 := by rw [es9, xU_k _ _ _ (by first | decide | omega)]
                  refine x_iinc (lv' := [(1, .int (xJ (i1_87 + 1))), (0, .ref (h0 + 0))]) hx hb hl 1 rfl dX10_sendAwayWhoCannotStand_121 (by decide) rfl (fun ls hl => ?_)
                  refine lv_goto (tgt := 87) hx hb dX10_sendAwayWhoCannotStand_124 (by decide) ?_
                  exact ih87 (i1_87 + 1) s9 H locs ls (by omega) hF12 q10 q11 (by omega) (by omega) (by first | exact v87_2 | (rw [E120]; exact v87_2)) (by have hm := hm_87 (); omega) hW (lv_sub hl [1, 0] rfl)
              exact L87 ((4 + 1 - 0 : Int).toNat + 1) 0 s_44 H locs ls (by decide) hF_44 q44_0 q44_1 (by omega) (by omega) (v44_2) (Nat.lt_succ_self _) hW (lv_sub hl [1, 0] rfl)
            refine x_aload_n hx hb hl 0 rfl dX10_sendAwayWhoCannotStand_50 rfl ?_
            refine x_get (j := 1) (v := .ref (h0 + 3)) hx hb hown hT hE hW cls_X10 (Or.inl (by decide)) (so_0 h0 g _) (by decide) rfl wq513 dX10_sendAwayWhoCannotStand_51 ?_
            refine x_aload_n hx hb hl 0 rfl dX10_sendAwayWhoCannotStand_54 rfl ?_
            refine x_get (j := 8) (v := .ref (h0 + 136)) hx hb hown hT hE hW cls_X10 (Or.inl (by decide)) (so_0 h0 g _) (by decide) rfl wq520 dX10_sendAwayWhoCannotStand_55 ?_
            refine x_getN (j := 3) (v := .ref (h0 + 142)) hx hb hown hT hE hW cls_X2 (Or.inl (by decide)) (so_136 h0 g _) (by decide) rfl wn391 dX10_sendAwayWhoCannotStand_58 ?_
            refine x_iload_n hx hb hl 1 rfl dX10_sendAwayWhoCannotStand_61 rfl ?_
            refine x_iald hx hb hE hW (Or.inl (by decide)) (sa_142 h0 g _) (by omega) (by decide) dX10_sendAwayWhoCannotStand_62 ?_
            refine x_rd hW (fun x13 ex13 rx13 => ?_)
            refine x_goi (x_runVN (As := [.int (xJ x13)]) hx hb hml hown hT hE hW hl.1 (Or.inl (by decide)) (so_3 h0 g _) rfl cf_X6_isOpen wq615 wq9 wn613 (c_X6_isOpenM l D g T h0 s_44 hW.2.1 x13 rx13 q44_0) ⟨rfl, rfl, ⟨by decide, by decide⟩, ⟨by decide, by decide⟩⟩ rfl rfl (Nat.le_of_ble_eq_true rfl) dX10_sendAwayWhoCannotStand_63) hW (fun x14 s15 H locs rx14 hp16 hW => ?_)
            obtain ⟨es15, hp16⟩ := hp16
            subst es15
            have ghp16 := hp16
            refine x_if_ne (tgt := 79) hx hb rx14 dX10_sendAwayWhoCannotStand_66 (by decide) (fun c17 => ?_) (fun c17 => ?_)
            · skip
              refine x_iinc (lv' := [(1, .int (xJ (i1_44 + 1))), (0, .ref (h0 + 0))]) hx hb hl 1 rfl dX10_sendAwayWhoCannotStand_79 (by decide) rfl (fun ls hl => ?_)
              refine lv_goto (tgt := 44) hx hb dX10_sendAwayWhoCannotStand_82 (by decide) ?_
              exact ih44 (i1_44 + 1) s_44 H locs ls (by omega) hF_44 q44_0 q44_1 (by omega) (by omega) (by first | exact v44_2 | (rw [F76]; exact v44_2)) (by have hm := hm_44 (); omega) hW (lv_sub hl [1, 0] rfl)
            refine x_aload_n hx hb hl 0 rfl dX10_sendAwayWhoCannotStand_69 rfl ?_
            refine x_get (j := 8) (v := .ref (h0 + 136)) hx hb hown hT hE hW cls_X10 (Or.inl (by decide)) (so_0 h0 g _) (by decide) rfl wq520 dX10_sendAwayWhoCannotStand_70 ?_
            refine x_iload_n hx hb hl 1 rfl dX10_sendAwayWhoCannotStand_73 rfl ?_
            refine x_iconst hx hb dX10_sendAwayWhoCannotStand_74 ?_
            refine x_iconst hx hb dX10_sendAwayWhoCannotStand_75 ?_
            refine x_gov (x_runVN (As := [.int (xJ i1_44), .int (xJ (-1)), .int (xJ 0)]) hx hb hml hown hT hE hW hl.1 (Or.inl (by decide)) (so_136 h0 g _) rfl cf_X2_setFelon wq623 wq11 wn621 (c_X2_setFelon l D g T h0 s_44 hW.2.1 136 xd_136 i1_44 ri1_44 (-1) (by decide) 0 (by decide) q44_0) ⟨rfl, rfl, ⟨by decide, by decide⟩, ⟨by decide, by decide⟩⟩ rfl rfl (Nat.le_of_ble_eq_true rfl) dX10_sendAwayWhoCannotStand_76) hW (fun s19 H locs hp20 hW => ?_)
            obtain ⟨fs19, hp20⟩ := hp20
            have hF21 := hF_44.call fs19 (fun k h => by omega)
            have q22 : s19 1 1 = s0 1 1 := (congrFun (fs19 _ (by omega)) _).trans q44_1
            have ghp20 := hp20.2
            have F76 := fs19 137 (by first | decide | omega)
            refine x_iinc (lv' := [(1, .int (xJ (i1_44 + 1))), (0, .ref (h0 + 0))]) hx hb hl 1 rfl dX10_sendAwayWhoCannotStand_79 (by decide) rfl (fun ls hl => ?_)
            refine lv_goto (tgt := 44) hx hb dX10_sendAwayWhoCannotStand_82 (by decide) ?_
            exact ih44 (i1_44 + 1) s19 H locs ls (by omega) hF21 hp20.1.1 q22 (by omega) (by omega) (by first | exact v44_2 | (rw [F76]; exact v44_2)) (by have hm := hm_44 (); omega) hW (lv_sub hl [1, 0] rfl)
        exact L44 ((10 + 1 - 0 : Int).toNat + 1) 0 s_2 H locs ls (by decide) hF_2 q2_0 q2_1 (by omega) (by omega) (fun q q1 q2 => v2_2 q q1 (by omega)) (Nat.lt_succ_self _) hW (lv_sub hl [1, 0] rfl)
      refine x_aload_n hx hb hl 0 rfl dX10_sendAwayWhoCannotStand_7 rfl ?_
      refine x_get (j := 1) (v := .ref (h0 + 3)) hx hb hown hT hE hW cls_X10 (Or.inl (by decide)) (so_0 h0 g _) (by decide) rfl wq513 dX10_sendAwayWhoCannotStand_8 ?_
      refine x_aload_n hx hb hl 0 rfl dX10_sendAwayWhoCannotStand_11 rfl ?_
      refine x_get (j := 8) (v := .ref (h0 + 136)) hx hb hown hT hE hW cls_X10 (Or.inl (by decide)) (so_0 h0 g _) (by decide) rfl wq520 dX10_sendAwayWhoCannotStand_12 ?_
      refine x_getN (j := 0) (v := .ref (h0 + 137)) hx hb hown hT hE hW cls_X2 (Or.inl (by decide)) (so_136 h0 g _) (by decide) rfl wn385 dX10_sendAwayWhoCannotStand_15 ?_
      refine x_iload_n hx hb hl 1 rfl dX10_sendAwayWhoCannotStand_18 rfl ?_
      refine x_iald hx hb hE hW (Or.inl (by decide)) (sa_137 h0 g _) (by omega) (by decide) dX10_sendAwayWhoCannotStand_19 ?_
      refine x_rd hW (fun x23 ex23 rx23 => ?_)
      have V19 : x23 = s0 137 i1_2 := by rw [ex23]; exact v2_3 _ (by omega) (by omega)
      refine x_goi (x_runVN (As := [.int (xJ x23)]) hx hb hml hown hT hE hW hl.1 (Or.inl (by decide)) (so_3 h0 g _) rfl cf_X6_isOpen wq615 wq9 wn613 (c_X6_isOpenM l D g T h0 s_2 hW.2.1 x23 rx23 q2_0) ⟨rfl, rfl, ⟨by decide, by decide⟩, ⟨by decide, by decide⟩⟩ rfl rfl (Nat.le_of_ble_eq_true rfl) dX10_sendAwayWhoCannotStand_20) hW (fun x24 s25 H locs rx24 hp26 hW => ?_)
      obtain ⟨es25, hp26⟩ := hp26
      subst es25
      have ghp26 := hp26
      have H20 := ghp26
      rw [V19, hF_2 4 (by first | decide | omega)] at H20
      refine x_if_ne (tgt := 36) hx hb rx24 dX10_sendAwayWhoCannotStand_23 (by decide) (fun c27 => ?_) (fun c27 => ?_)
      · skip
        refine x_iinc (lv' := [(1, .int (xJ (i1_2 + 1))), (0, .ref (h0 + 0))]) hx hb hl 1 rfl dX10_sendAwayWhoCannotStand_36 (by decide) rfl (fun ls hl => ?_)
        refine lv_goto (tgt := 2) hx hb dX10_sendAwayWhoCannotStand_39 (by decide) ?_
        exact ih2 (i1_2 + 1) s_2 H locs ls (by omega) hF_2 q2_0 q2_1 (by omega) (by omega) ((fun q q1 q2 => by
            by_cases h : q = i1_2
            · subst h
              first
                | (rw [E35, xU_s]; exact Or.inr ⟨by first | omega | (rw [← V19]; omega), rfl⟩)
                | exact Or.inl ⟨by first | omega | (rw [← V19]; omega), v2_3 q (by omega) (by omega)⟩
            · first
                | (rw [E35, xU_j _ _ h]; exact v2_2 q q1 (by omega))
                | exact v2_2 q q1 (by omega))) (fun q q1 q2 => by first | (rw [E35, xU_j _ _ (by omega)]; exact v2_3 q (by omega) q2) | exact v2_3 q (by omega) q2) (by have hm := hm_2 (); omega) hW (lv_sub hl [1, 0] rfl)
      refine x_aload_n hx hb hl 0 rfl dX10_sendAwayWhoCannotStand_26 rfl ?_
      refine x_get (j := 8) (v := .ref (h0 + 136)) hx hb hown hT hE hW cls_X10 (Or.inl (by decide)) (so_0 h0 g _) (by decide) rfl wq520 dX10_sendAwayWhoCannotStand_27 ?_
      refine x_getN (j := 0) (v := .ref (h0 + 137)) hx hb hown hT hE hW cls_X2 (Or.inl (by decide)) (so_136 h0 g _) (by decide) rfl wn385 dX10_sendAwayWhoCannotStand_30 ?_
      refine x_iload_n hx hb hl 1 rfl dX10_sendAwayWhoCannotStand_33 rfl ?_
      refine x_iconst hx hb dX10_sendAwayWhoCannotStand_34 ?_
      refine x_iast hx hb hE hW (by decide) (fun σ => sa_137 h0 g σ) (by omega) (by decide) (by decide) dX10_sendAwayWhoCannotStand_35 (fun H locs s28 es28 hW => ?_)
      have q29 : IC s28 := by rw [es28]; exact IC_o (by decide) q2_0
      have q30 : s28 1 1 = s0 1 1 := (show s28 1 1 = s_2 1 1 from by rw [es28, xU_k _ _ _ (by first | decide | omega)]).trans q2_1
      have hF31 := hF_2.put es28 (by omega)
      have E35 := es28
      refine x_iinc (lv' := [(1, .int (xJ (i1_2 + 1))), (0, .ref (h0 + 0))]) hx hb hl 1 rfl dX10_sendAwayWhoCannotStand_36 (by decide) rfl (fun ls hl => ?_)
      refine lv_goto (tgt := 2) hx hb dX10_sendAwayWhoCannotStand_39 (by decide) ?_
      exact ih2 (i1_2 + 1) s28 H locs ls (by omega) hF31 q29 q30 (by omega) (by omega) ((fun q q1 q2 => by
            by_cases h : q = i1_2
            · subst h
              first
                | (rw [E35, xU_s]; exact Or.inr ⟨by first | omega | (rw [← V19]; omega), rfl⟩)
                | exact Or.inl ⟨by first | omega | (rw [← V19]; omega), v2_3 q (by omega) (by omega)⟩
            · first
                | (rw [E35, xU_j _ _ h]; exact v2_2 q q1 (by omega))
                | exact v2_2 q q1 (by omega))) (fun q q1 q2 => by first | (rw [E35, xU_j _ _ (by omega)]; exact v2_3 q (by omega) q2) | exact v2_3 q (by omega) q2) (by have hm := hm_2 (); omega) hW (lv_sub hl [1, 0] rfl)
  exact L2 ((2 + 1 - 0 : Int).toNat + 1) 0 s0 H locs ls (by decide) hF p0 k1_1 (by omega) (by omega) (fun q q1 q2 => absurd q2 (by omega)) (fun q q1 q2 => rfl) (Nat.lt_succ_self _) hW (lv_sub hl [1, 0] rfl)
set_option maxHeartbeats 4000000 in
set_option maxRecDepth 100000 in
theorem c_X10_marketJ (l : Launch) (D : va_G) (g : xG) (T : Nat × Nat × Nat) (h0 : Nat) (s0 : xS) (hσ : xRR s0) (n : Int) (rn : xR n) (p0 : IC s0) : Met l yX10_market (xws yX10_market cX10_market 3 (some .int)) { frames := 3, cells := 0, slots := 0, locals := 71 } (xP [.ref (h0 + 0), .int (xJ n)] D g T h0 s0) (xQi D g h0 (fun r τ => xFr (fun k => k = 0 ∨ k = 1 ∨ k = 107 ∨ k = 129 ∨ k = 137 ∨ k = 142 ∨ k = 143 ∨ k = 144 ∨ k = 145 ∨ k = 4 ∨ k = 5) s0 τ ∧ (((IC τ) ∧ True) ∧ (((n < 1 ∨ 140 < n ∨ s0 1 1 < n) ∧ τ 1 1 = s0 1 1 ∧ r = -1 ∧ τ 5 = s0 5 ∧ τ 4 = s0 4 ∧ τ 0 11 = s0 0 11 ∧ τ 137 = s0 137) ∨ (¬ (n < 1 ∨ 140 < n ∨ s0 1 1 < n) ∧ τ 1 1 = 0 ∧ τ 5 = (zMk (s0 2) n (s0 5)).2.2 ∧ (((zMk (s0 2) n (s0 5)).1 ≠ 0 ∧ r = (zMk (s0 2) n (s0 5)).1 ∧ τ 4 = s0 4 ∧ τ 0 11 = s0 0 11 ∧ τ 137 = s0 137) ∨ ((zMk (s0 2) n (s0 5)).1 = 0 ∧ (∀ j, 0 ≤ j → j < 100 → τ 4 j = (zMk (s0 2) n (s0 5)).2.2 j) ∧ r = 100 - zct (zMk (s0 2) n (s0 5)).2.2 0 100 ∧ τ 0 11 = 0 ∧ ∀ q : Int, 0 ≤ q → q < 2 → ((0 ≤ s0 137 q ∧ s0 137 q < 100 ∧ τ 4 (s0 137 q) ≠ 1 ∧ τ 4 (s0 137 q) ≠ 3) ∧ τ 137 q = s0 137 q) ∨ (¬ (0 ≤ s0 137 q ∧ s0 137 q < 100 ∧ τ 4 (s0 137 q) ≠ 1 ∧ τ 4 (s0 137 q) ≠ 3) ∧ τ 137 q = -1)))))))) 0 0 (xA h0) := by
  refine x_met hσ (by decide) (Nat.le_of_ble_eq_true rfl) ?_
  intro p e s m args below meth c hx hb hr hml hown hT hlk hnm hE hW ls hl
  have hl : lv_has ls 3 [(0, .ref (h0 + 0)), (1, .int (xJ n))] := hl
  obtain ⟨Q, eQ⟩ : ∃ Q, Q = MQ below (xQi D g h0 (fun r τ => xFr (fun k => k = 0 ∨ k = 1 ∨ k = 107 ∨ k = 129 ∨ k = 137 ∨ k = 142 ∨ k = 143 ∨ k = 144 ∨ k = 145 ∨ k = 4 ∨ k = 5) s0 τ ∧ (((IC τ) ∧ True) ∧ (((n < 1 ∨ 140 < n ∨ s0 1 1 < n) ∧ τ 1 1 = s0 1 1 ∧ r = -1 ∧ τ 5 = s0 5 ∧ τ 4 = s0 4 ∧ τ 0 11 = s0 0 11 ∧ τ 137 = s0 137) ∨ (¬ (n < 1 ∨ 140 < n ∨ s0 1 1 < n) ∧ τ 1 1 = 0 ∧ τ 5 = (zMk (s0 2) n (s0 5)).2.2 ∧ (((zMk (s0 2) n (s0 5)).1 ≠ 0 ∧ r = (zMk (s0 2) n (s0 5)).1 ∧ τ 4 = s0 4 ∧ τ 0 11 = s0 0 11 ∧ τ 137 = s0 137) ∨ ((zMk (s0 2) n (s0 5)).1 = 0 ∧ (∀ j, 0 ≤ j → j < 100 → τ 4 j = (zMk (s0 2) n (s0 5)).2.2 j) ∧ r = 100 - zct (zMk (s0 2) n (s0 5)).2.2 0 100 ∧ τ 0 11 = 0 ∧ ∀ q : Int, 0 ≤ q → q < 2 → ((0 ≤ s0 137 q ∧ s0 137 q < 100 ∧ τ 4 (s0 137 q) ≠ 1 ∧ τ 4 (s0 137 q) ≠ 3) ∧ τ 137 q = s0 137 q) ∨ (¬ (0 ≤ s0 137 q ∧ s0 137 q < 100 ∧ τ 4 (s0 137 q) ≠ 1 ∧ τ 4 (s0 137 q) ≠ 3) ∧ τ 137 q = -1)))))))) args s 0 0 (xA h0) := ⟨_, rfl⟩
  rw [← eQ]
  generalize hHe : ([] : List Loc) = locs at hW ⊢
  obtain ⟨H, eH⟩ : ∃ H, H = s.heap := ⟨_, rfl⟩
  rw [← eH] at hW ⊢
  have hF : xFr (fun k => k = 0 ∨ k = 1 ∨ k = 107 ∨ k = 129 ∨ k = 137 ∨ k = 142 ∨ k = 143 ∨ k = 144 ∨ k = 145 ∨ k = 4 ∨ k = 5) s0 s0 := xFr.rf
  have k1_1 : s0 1 1 = s0 1 1 := rfl
  have k0_11 : s0 0 11 = s0 0 11 := rfl
  refine x_iload_n hx hb hl 1 rfl dX10_market_0 rfl ?_
  refine x_iconst hx hb dX10_market_1 ?_
  refine x_sipush hx hb dX10_market_2 (by decide) ?_
  refine x_goi (x_runS (As := [.int (xJ n), .int (xJ 1), .int (xJ 140)]) hx hb hml hown hT hE hW hl.1 cf_X10_isIn wq562 wq561 (c_X10_isIn l D g T h0 s0 hW.2.1 n rn 1 (by decide) 140 (by decide)) ⟨rfl, rfl, ⟨by decide, by decide⟩, ⟨by decide, by decide⟩⟩ rfl rfl (Nat.le_of_ble_eq_true rfl) dX10_market_5) hW (fun x1 s2 H locs rx1 hp3 hW => ?_)
  obtain ⟨es2, hp3⟩ := hp3
  subst es2
  have ghp3 := hp3
  refine x_if_eq (tgt := 22) hx hb rx1 dX10_market_8 (by decide) (fun c4 => ?_) (fun c4 => ?_)
  · skip
    refine x_iconst hx hb dX10_market_22 ?_
    rw [eQ]
    exact x_iret hx hb hr hlk hW (by decide) ⟨hF, ⟨p0, trivial⟩, Or.inl ⟨by omega, by omega, by omega, rfl, rfl, rfl, rfl⟩⟩ dX10_market_23
  refine x_iload_n hx hb hl 1 rfl dX10_market_11 rfl ?_
  refine x_aload_n hx hb hl 0 rfl dX10_market_12 rfl ?_
  refine x_get (j := 0) (v := .ref (h0 + 1)) hx hb hown hT hE hW cls_X10 (Or.inl (by decide)) (so_0 h0 g _) (by decide) rfl wq512 dX10_market_13 ?_
  refine x_getN (j := 1) (v := .int (xJ (s0 1 1))) hx hb hown hT hE hW cls_X8 (Or.inl (by decide)) (so_1 h0 g _) (by decide) rfl wn198 dX10_market_16 ?_
  refine x_rd hW (fun x5 ex5 rx5 => ?_)
  have bx5 : 0 ≤ x5 ∧ x5 ≤ 260 := by rw [ex5]; exact IC.t p0
  have fx5 : x5 = s0 1 1 := ex5.trans k1_1
  refine x_icmp_le (tgt := 24) hx hb rn rx5 dX10_market_19 (by decide) (fun c6 => ?_) (fun c6 => ?_)
  · skip
    refine x_aload_n hx hb hl 0 rfl dX10_market_24 rfl ?_
    refine x_get (j := 0) (v := .ref (h0 + 1)) hx hb hown hT hE hW cls_X10 (Or.inl (by decide)) (so_0 h0 g _) (by decide) rfl wq512 dX10_market_25 ?_
    refine x_iload_n hx hb hl 1 rfl dX10_market_28 rfl ?_
    refine x_gov (x_runVN (As := [.int (xJ n)]) hx hb hml hown hT hE hW hl.1 (Or.inl (by decide)) (so_1 h0 g _) rfl cf_X8_open wq566 wq1 wn564 (c_X8_openM l D g T h0 s0 hW.2.1 n rn (by omega) p0) ⟨rfl, rfl, ⟨by decide, by decide⟩, ⟨by decide, by decide⟩⟩ rfl rfl (Nat.le_of_ble_eq_true rfl) dX10_market_29) hW (fun s8 H locs hp9 hW => ?_)
    obtain ⟨fs8, hp9⟩ := hp9
    have hF10 := hF.call fs8 (fun k h => by omega)
    have q11 : s8 0 11 = s0 0 11 := (congrFun (fs8 _ (by omega)) _).trans k0_11
    have ghp9 := hp9.2
    have O29 := ghp9
    have Q29 : s8 5 = s0 5 ∧ s8 4 = s0 4 ∧ s8 2 = s0 2 := ⟨fs8 5 (by first | decide | omega), fs8 4 (by first | decide | omega), fs8 2 (by first | decide | omega)⟩
    have J29 : s8 137 = s0 137 := fs8 137 (by first | decide | omega)
    refine x_aload_n hx hb hl 0 rfl dX10_market_32 rfl ?_
    refine x_get (j := 1) (v := .ref (h0 + 3)) hx hb hown hT hE hW cls_X10 (Or.inl (by decide)) (so_0 h0 g _) (by decide) rfl wq513 dX10_market_33 ?_
    refine x_aload_n hx hb hl 0 rfl dX10_market_36 rfl ?_
    refine x_get (j := 0) (v := .ref (h0 + 1)) hx hb hown hT hE hW cls_X10 (Or.inl (by decide)) (so_0 h0 g _) (by decide) rfl wq512 dX10_market_37 ?_
    refine x_goi (x_runVN (As := [.ref (h0 + 1)]) hx hb hml hown hT hE hW hl.1 (Or.inl (by decide)) (so_3 h0 g _) rfl cf_X6_readFrom wq573 wq2 wn571 (c_X6_readFromM l D g T h0 s8 hW.2.1 (by omega) hp9.1.1) ⟨rfl, rfl, ⟨by decide, by decide⟩, ⟨by decide, by decide⟩⟩ rfl rfl (Nat.le_of_ble_eq_true rfl) dX10_market_40) hW (fun x12 s13 H locs rx12 hp14 hW => ?_)
    obtain ⟨fs13, hp14⟩ := hp14
    have hF15 := hF10.call fs13 (fun k h => by omega)
    have q16 : s13 0 11 = s0 0 11 := (congrFun (fs13 _ (by omega)) _).trans q11
    have ghp14 := hp14.2
    have R40 := ghp14
    rw [Q29.2.2, O29.1, Q29.1, Q29.2.1] at R40
    have J40 : s13 137 = s0 137 := (fs13 137 (by first | decide | omega)).trans J29
    refine lv_istore_n (lv' := [(2, .int (xJ x12)), (0, .ref (h0 + 0)), (1, .int (xJ n))]) hx hb dX10_market_43 rfl hl (by decide) rfl (fun ls hl => ?_)
    refine x_aload_n hx hb hl 1 rfl dX10_market_44 rfl ?_
    refine x_get (j := 0) (v := .ref (h0 + 1)) hx hb hown hT hE hW cls_X10 (Or.inl (by decide)) (so_0 h0 g _) (by decide) rfl wq512 dX10_market_45 ?_
    refine x_gov (x_runVN (As := []) hx hb hml hown hT hE hW hl.1 (Or.inl (by decide)) (so_1 h0 g _) rfl cf_X8_drop wq607 wq7 wn605 (c_X8_dropM l D g T h0 s13 hW.2.1 hp14.1.1) ⟨rfl, rfl, ⟨by decide, by decide⟩, ⟨by decide, by decide⟩⟩ rfl rfl (Nat.le_of_ble_eq_true rfl) dX10_market_48) hW (fun s18 H locs hp19 hW => ?_)
    obtain ⟨fs18, hp19⟩ := hp19
    have hF20 := hF15.call fs18 (fun k h => by omega)
    have q21 : s18 0 11 = s0 0 11 := (congrFun (fs18 _ (by omega)) _).trans q16
    have ghp19 := hp19.2
    have R48 : s18 5 = (zMk (s0 2) n (s0 5)).2.2 ∧ ((x12 = 1 ∧ (zMk (s0 2) n (s0 5)).1 = 0 ∧ ∀ j, 0 ≤ j → j < 100 → s18 4 j = (zMk (s0 2) n (s0 5)).2.2 j) ∨ (x12 = 0 ∧ (zMk (s0 2) n (s0 5)).1 ≠ 0 ∧ s18 1 4 = (zMk (s0 2) n (s0 5)).1 ∧ s18 4 = s0 4)) := by rw [fs18 5 (by first | decide | omega), fs18 4 (by first | decide | omega), hp19.1.2.2.1]; exact R40
    have J48 : s18 137 = s0 137 := (fs18 137 (by first | decide | omega)).trans J40
    refine x_iload_n hx hb hl 0 rfl dX10_market_51 rfl ?_
    refine x_if_ne (tgt := 63) hx hb rx12 dX10_market_52 (by decide) (fun c22 => ?_) (fun c22 => ?_)
    · skip
      refine x_aload_n hx hb hl 1 rfl dX10_market_63 rfl ?_
      refine x_gov (x_runV (As := []) hx hb hml hown hT hE hW hl.1 (Or.inl (by decide)) (so_0 h0 g _) rfl cf_X10_sendAwayWhoCannotStand wq611 wq8 wq609 (c_X10_sendAwayWhoCannotStandJ l D g T h0 s18 hW.2.1 hp19.1.1) ⟨rfl, rfl, ⟨by decide, by decide⟩, ⟨by decide, by decide⟩⟩ rfl rfl (Nat.le_of_ble_eq_true rfl) dX10_market_64) hW (fun s24 H locs hp25 hW => ?_)
      obtain ⟨fs24, hp25⟩ := hp25
      have hF26 := hF20.call fs24 (fun k h => by omega)
      have q27 : s24 0 11 = s0 0 11 := (congrFun (fs24 _ (by omega)) _).trans q21
      have q28 : s24 1 1 = 0 := (congrFun (fs24 _ (by omega)) _).trans hp19.1.2.1
      have q29 : s24 1 4 = s13 1 4 := (congrFun (fs24 _ (by omega)) _).trans hp19.1.2.2.1
      have ghp25 := hp25.2
      have S64 : s24 5 = (zMk (s0 2) n (s0 5)).2.2 ∧ ∀ j, 0 ≤ j → j < 100 → s24 4 j = (zMk (s0 2) n (s0 5)).2.2 j := by rw [fs24 5 (by first | decide | omega), fs24 4 (by first | decide | omega)]; exact ⟨R48.1, (R48.2.resolve_right (fun q => by omega)).2.2⟩
      have J64 : ∀ q : Int, 0 ≤ q → q < 2 → ((0 ≤ s0 137 q ∧ s0 137 q < 100 ∧ s24 4 (s0 137 q) ≠ 1 ∧ s24 4 (s0 137 q) ≠ 3) ∧ s24 137 q = s0 137 q) ∨ (¬ (0 ≤ s0 137 q ∧ s0 137 q < 100 ∧ s24 4 (s0 137 q) ≠ 1 ∧ s24 4 (s0 137 q) ≠ 3) ∧ s24 137 q = -1) := by rw [fs24 4 (by first | decide | omega), ← J48]; exact ghp25
      refine x_aload_n hx hb hl 1 rfl dX10_market_67 rfl ?_
      refine x_iconst hx hb dX10_market_68 ?_
      refine x_put (j := 11) hx hb hown hT hE hW cls_X10 (by decide) (fun σ => so_0 h0 g σ) (by decide) (st_X10_11 h0 s24 0 0) (ln_X10_11 h0 _ _) wq523 rfl rfl rfl (by decide) dX10_market_69 (fun H locs s30 es30 hW => ?_)
      have q31 : s30 0 11 = 0 := by rw [es30, xU_s]
      have q32 : s30 1 1 = 0 := (show s30 1 1 = s24 1 1 from by rw [es30, xU_k _ _ _ (by first | decide | omega)]).trans q28
      have q33 : s30 1 4 = s13 1 4 := (show s30 1 4 = s24 1 4 from by rw [es30, xU_k _ _ _ (by first | decide | omega)]).trans q29
      have q34 : IC s30 := by rw [es30]; exact IC_o (by decide) hp25.1.1
      have hF35 := hF26.put es30 (by omega)
      have S69 : s30 5 = (zMk (s0 2) n (s0 5)).2.2 ∧ ∀ j, 0 ≤ j → j < 100 → s30 4 j = (zMk (s0 2) n (s0 5)).2.2 j := by rw [es30, xU_k _ _ _ (by first | decide | omega), xU_k _ _ _ (by first | decide | omega)]; exact S64
      have J69 : ∀ q : Int, 0 ≤ q → q < 2 → ((0 ≤ s0 137 q ∧ s0 137 q < 100 ∧ s30 4 (s0 137 q) ≠ 1 ∧ s30 4 (s0 137 q) ≠ 3) ∧ s30 137 q = s0 137 q) ∨ (¬ (0 ≤ s0 137 q ∧ s0 137 q < 100 ∧ s30 4 (s0 137 q) ≠ 1 ∧ s30 4 (s0 137 q) ≠ 3) ∧ s30 137 q = -1) := by rw [es30, xU_k _ _ _ (by first | decide | omega), xU_k _ _ _ (by first | decide | omega)]; exact J64
      refine x_bipush hx hb dX10_market_72 (by decide) ?_
      refine x_aload_n hx hb hl 1 rfl dX10_market_74 rfl ?_
      refine x_get (j := 1) (v := .ref (h0 + 3)) hx hb hown hT hE hW cls_X10 (Or.inl (by decide)) (so_0 h0 g _) (by decide) rfl wq513 dX10_market_75 ?_
      refine x_iconst hx hb dX10_market_78 ?_
      refine x_goi (x_runVN (As := [.int (xJ 0)]) hx hb hml hown hT hE hW hl.1 (Or.inl (by decide)) (so_3 h0 g _) rfl cf_X6_howMany wq627 wq12 wn625 (c_X6_howManyM l D g T h0 s30 hW.2.1 0 (by decide) q34) ⟨rfl, rfl, ⟨by decide, by decide⟩, ⟨by decide, by decide⟩⟩ rfl rfl (Nat.le_of_ble_eq_true rfl) dX10_market_79) hW (fun x36 s37 H locs rx36 hp38 hW => ?_)
      obtain ⟨es37, hp38⟩ := hp38
      subst es37
      have ghp38 := hp38
      have H79 := ghp38
      rw [zct_g 100 (fun i a b => S69.2 i a (by omega))] at H79
      refine x_isub hx hb dX10_market_82 ?_
      rw [eQ]
      exact x_iret hx hb hr hlk hW (by omega) ⟨hF35, ⟨q34, trivial⟩, Or.inr ⟨by omega, by omega, S69.1, Or.inr ⟨(R48.2.resolve_right (fun q => by omega)).2.1, S69.2, by omega, by omega, J69⟩⟩⟩ dX10_market_83
    refine x_aload_n hx hb hl 1 rfl dX10_market_55 rfl ?_
    refine x_get (j := 0) (v := .ref (h0 + 1)) hx hb hown hT hE hW cls_X10 (Or.inl (by decide)) (so_0 h0 g _) (by decide) rfl wq512 dX10_market_56 ?_
    refine x_getN (j := 4) (v := .int (xJ (s18 1 4))) hx hb hown hT hE hW cls_X8 (Or.inl (by decide)) (so_1 h0 g _) (by decide) rfl wn205 dX10_market_59 ?_
    refine x_rd hW (fun x39 ex39 rx39 => ?_)
    have fx39 : x39 = s13 1 4 := ex39.trans hp19.1.2.2.1
    rw [eQ]
    exact x_iret hx hb hr hlk hW rx39 ⟨hF20, ⟨hp19.1.1, trivial⟩, by
        have z := (R48.2.resolve_left (fun q => by omega))
        exact Or.inr ⟨by omega, by omega, R48.1, Or.inl ⟨z.2.1, by omega, z.2.2.2, by omega, J48⟩⟩⟩ dX10_market_62
  refine x_iconst hx hb dX10_market_22 ?_
  rw [eQ]
  exact x_iret hx hb hr hlk hW (by decide) ⟨hF, ⟨p0, trivial⟩, Or.inl ⟨by omega, by omega, by omega, rfl, rfl, rfl, rfl⟩⟩ dX10_market_23
