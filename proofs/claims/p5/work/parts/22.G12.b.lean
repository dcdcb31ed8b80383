theorem gS_end {c : Int → Int} {to f k n : Nat} (h : gS c to f k n) (hk : to ≤ k) : k = to := by
  cases f with
  | zero => exact h
  | succ f => rcases h with h | h
              · exact h
              · omega
theorem gS_go {c : Int → Int} {to f k n : Nat} (h : gS c to f k n) (hk : k < to) : ∃ f2, f = f2 + 1 ∧ 0 ≤ c k ∧
      ((gO (c k) = 0 ∧ n ≤ 258 ∧ gS c to f2 (k + 1) (n + 1)) ∨
       (gO (c k) = 1 ∧ gV (c k) < 7 ∧ n ≤ 258 ∧ gS c to f2 (k + 1) (n + 1)) ∨
       (gO (c k) = 10 ∧ 1 ≤ n ∧ gS c to f2 (k + 1) n) ∨
       ((gO (c k) = 11 ∨ gO (c k) = 12) ∧ 1 ≤ n ∧ (∃ v : Nat, gV (c k) = (v : Int) ∧ k < v ∧ v ≤ to ∧ gS c to f2 v n) ∧ gS c to f2 (k + 1) (n - 1)) ∨
       (2 ≤ gO (c k) ∧ gO (c k) ≤ 9 ∧ 2 ≤ n ∧ gS c to f2 (k + 1) (n - 1))) := by
  cases f with
  | zero => have h : k = to := h
            omega
  | succ f => rcases h with h | h
              · omega
              · exact ⟨f, rfl, h.2⟩
def gDD (v : Int) (c : Int → Int) (to f2 k n : Nat) : Prop :=
      ((gO v = 0 ∧ n ≤ 258 ∧ gS c to f2 (k + 1) (n + 1)) ∨
       (gO v = 1 ∧ gV v < 7 ∧ n ≤ 258 ∧ gS c to f2 (k + 1) (n + 1)) ∨
       (gO v = 10 ∧ 1 ≤ n ∧ gS c to f2 (k + 1) n) ∨
       ((gO v = 11 ∨ gO v = 12) ∧ 1 ≤ n ∧ (∃ w : Nat, gV v = (w : Int) ∧ k < w ∧ w ≤ to ∧ gS c to f2 w n) ∧ gS c to f2 (k + 1) (n - 1)) ∨
       (2 ≤ gO v ∧ gO v ≤ 9 ∧ 2 ≤ n ∧ gS c to f2 (k + 1) (n - 1)))
theorem gS_go2 {c : Int → Int} {to f n : Nat} {k v : Int} (h : gS c to f k.toNat n) (hk : k.toNat < to) (h0 : 0 ≤ k) (hv : c k = v) : ∃ f2, 0 ≤ v ∧ gDD v c to f2 k.toNat n ∧
      ((v / 1048576 = 0 ∧ n ≤ 258) ∨ (v / 1048576 = 1 ∧ v % 1048576 < 7 ∧ n ≤ 258) ∨ (v / 1048576 = 10 ∧ 1 ≤ n) ∨ ((v / 1048576 = 11 ∨ v / 1048576 = 12) ∧ 1 ≤ n ∧ k < v % 1048576 ∧ v % 1048576 ≤ to) ∨ (2 ≤ v / 1048576 ∧ v / 1048576 ≤ 9 ∧ 2 ≤ n)) := by
  obtain ⟨f2, -, g0, gg⟩ := gS_go h hk
  have ek : ((k.toNat : Nat) : Int) = k := Int.toNat_of_nonneg h0
  rw [ek, hv] at g0 gg
  refine ⟨f2, g0, gg, ?_⟩
  unfold gO gV at gg
  rcases gg with ⟨a, b, -⟩ | ⟨a, b, b2, -⟩ | ⟨a, b, -⟩ | ⟨a, b, ⟨w, w1, w2, w3, -⟩, -⟩ | ⟨a, a2, b, -⟩
  · exact Or.inl ⟨a, b⟩
  · exact Or.inr (Or.inl ⟨a, b, b2⟩)
  · exact Or.inr (Or.inr (Or.inl ⟨a, b⟩))
  · exact Or.inr (Or.inr (Or.inr (Or.inl ⟨a, b, by omega, by omega⟩)))
  · exact Or.inr (Or.inr (Or.inr (Or.inr ⟨a, a2, b⟩)))
theorem gO_d (v : Int) : v / 1048576 = gO v := rfl
theorem gV_d (v : Int) : v % 1048576 = gV v := rfl
theorem gV_r (v : Int) : 0 ≤ gV v ∧ gV v < 1048576 := by unfold gV; omega
theorem gS_eq {c : Int → Int} {to f k n k2 n2 : Nat} (h : gS c to f k n) (e1 : k = k2) (e2 : n = n2) : gS c to f k2 n2 := by
  subst e1; subst e2; exact h
set_option maxHeartbeats 4000000 in
set_option maxRecDepth 100000 in
theorem c_X11_comesTo (l : Launch) (D : va_G) (g : xG) (T : Nat × Nat × Nat) (h0 : Nat) (s0 : xS) (hσ : xRR s0) (a : Int) (ra : xR a) (b : Int) (rb : xR b) (hs : segOK (s0 283) a b) (p0 : IMn s0) (p1 : IMk s0) (p2 : IMo s0) : Met l yX11_comesTo (xws yX11_comesTo cX11_comesTo 8 (some .int)) { frames := 1, cells := 0, slots := 0, locals := 22 } (xP [.ref (h0 + 268), .int (xJ a), .int (xJ b)] D g T h0 s0) (xQi D g h0 (fun r τ => xFr (fun k => k = 293) s0 τ ∧ (((IMn τ) ∧ (IMk τ) ∧ (IMo τ) ∧ True) ∧ (True)))) 0 0 (xA h0) := by
  refine x_met hσ (by decide) (Nat.le_of_ble_eq_true rfl) ?_
  intro p e s m args below meth c hx hb hr hml hown hT hlk hnm hE hW ls hl
  have hl : lv_has ls 8 [(0, .ref (h0 + 268)), (1, .int (xJ a)), (2, .int (xJ b))] := hl
  obtain ⟨Q, eQ⟩ : ∃ Q, Q = MQ below (xQi D g h0 (fun r τ => xFr (fun k => k = 293) s0 τ ∧ (((IMn τ) ∧ (IMk τ) ∧ (IMo τ) ∧ True) ∧ (True)))) args s 0 0 (xA h0) := ⟨_, rfl⟩
  rw [← eQ]
  generalize hHe : ([] : List Loc) = locs at hW ⊢
  obtain ⟨H, eH⟩ : ∃ H, H = s.heap := ⟨_, rfl⟩
  rw [← eH] at hW ⊢
  have hF : xFr (fun k => k = 293) s0 s0 := xFr.rf
  have k268_8 : s0 268 8 = s0 268 8 := rfl
  have k268_58 : s0 268 58 = s0 268 58 := rfl
  have hs1 := hs.1
  have hs2 := hs.2.1
  have hs3 := hs.2.2.1
  refine x_iconst hx hb dX11_comesTo_0 ?_
  refine lv_istore_n (lv' := [(3, .int (xJ 0)), (0, .ref (h0 + 268)), (1, .int (xJ a)), (2, .int (xJ b))]) hx hb dX11_comesTo_1 rfl hl (by decide) rfl (fun ls hl => ?_)
  refine x_sipush hx hb dX11_comesTo_2 (by decide) ?_
  refine x_iload_n hx hb hl 2 rfl dX11_comesTo_5 rfl ?_
  refine x_sipush hx hb dX11_comesTo_6 (by decide) ?_
  refine x_idiv hx hb ra (by decide) (by omega) (by decide) dX11_comesTo_9 ?_
  refine x_imul hx hb dX11_comesTo_10 ?_
  refine x_nm (fun x1 ex1 => ?_)
  refine lv_istore (lv' := [(4, .int (xJ x1)), (3, .int (xJ 0)), (0, .ref (h0 + 268)), (1, .int (xJ a)), (2, .int (xJ b))]) hx hb dX11_comesTo_11 hl (by decide) rfl (fun ls hl => ?_)
  refine x_iload_n hx hb hl 3 rfl dX11_comesTo_13 rfl ?_
  refine lv_istore (lv' := [(5, .int (xJ a)), (4, .int (xJ x1)), (3, .int (xJ 0)), (0, .ref (h0 + 268)), (1, .int (xJ a)), (2, .int (xJ b))]) hx hb dX11_comesTo_14 hl (by decide) rfl (fun ls hl => ?_)
  have L16 : ∀ (fu : Nat) (i3_16 : Int) (i5_16 : Int) (s_16 : xS) (H : Heap) (locs : List Loc) (ls : Array Slot), (xR i3_16) → (xR i5_16) → (xFr (fun k => k = 293) s0 s_16) → (IMn s_16) → (IMk s_16) → (IMo s_16) → (s_16 268 8 = s0 268 8) → (s_16 268 58 = s0 268 58) → (0 ≤ i5_16 ∧ i5_16 ≤ b) → (0 ≤ i3_16 ∧ i3_16 ≤ 259) → (∃ f : Nat, gS (s0 283) b.toNat f (i5_16).toNat (i3_16).toNat) → (b - i5_16).toNat < fu → xW D g h0 s H locs s_16 → lv_has ls 8 [(0, .ref (h0 + 268)), (2, .int (xJ b)), (3, .int (xJ i3_16)), (4, .int (xJ x1)), (5, .int (xJ i5_16))] → W p l e { frames := 1, cells := 0, slots := 0, locals := 22 } s m args below meth c H locs 0 0 Q (F0 m 16 ls []) := by
    intro fu
    induction fu with
    | zero => intro i3_16 i5_16 s_16 H locs ls ri3_16 ri5_16 hF_16 q16_0 q16_1 q16_2 q16_3 q16_4 v16_0 v16_1 v16_2 hm; exact absurd hm (Nat.not_lt_zero _)
    | succ fu ih16 =>
      intro i3_16 i5_16 s_16 H locs ls ri3_16 ri5_16 hF_16 q16_0 q16_1 q16_2 q16_3 q16_4 v16_0 v16_1 v16_2 hm hW hl
      refine x_iload hx hb hl 4 rfl dX11_comesTo_16 ?_
      refine x_iload_n hx hb hl 1 rfl dX11_comesTo_18 rfl ?_
      refine x_icmp_ge (tgt := 233) hx hb ri5_16 rb dX11_comesTo_19 (by decide) (fun c2 => ?_) (fun c2 => ?_)
      · skip
        refine x_aload_n hx hb hl 0 rfl dX11_comesTo_233 rfl ?_
        refine x_get (j := 38) (v := .ref (h0 + 293)) hx hb hown hT hE hW cls_X11 (Or.inl (by decide)) (so_268 h0 g _) (by decide) rfl wq1223 dX11_comesTo_234 ?_
        refine x_iconst hx hb dX11_comesTo_237 ?_
        refine x_iald hx hb hE hW (Or.inl (by decide)) (sa_293 h0 g _) ⟨by decide, by decide⟩ (by decide) dX11_comesTo_238 ?_
        refine x_rd hW (fun x3 ex3 rx3 => ?_)
        rw [eQ]
        exact x_iret hx hb hr hlk hW rx3 ⟨hF_16, ⟨q16_0, q16_1, q16_2, trivial⟩, trivial⟩ dX11_comesTo_239
      refine x_aload_n hx hb hl 0 rfl dX11_comesTo_22 rfl ?_
      refine x_get (j := 24) (v := .ref (h0 + 283)) hx hb hown hT hE hW cls_X11 (Or.inl (by decide)) (so_268 h0 g _) (by decide) rfl wq1209 dX11_comesTo_23 ?_
      refine x_iload hx hb hl 4 rfl dX11_comesTo_26 ?_
      refine x_iald hx hb hE hW (Or.inl (by decide)) (sa_283 h0 g _) (by omega) (by decide) dX11_comesTo_28 ?_
      refine x_rd hW (fun x4 ex4 rx4 => ?_)
      obtain ⟨f9, hg⟩ := v16_2
      obtain ⟨f2, g0, gg, ga⟩ := gS_go2 (v := x4) hg (by omega) (by omega) (by rw [ex4, hF_16 283 (by omega)])
      refine lv_ldc (v := xJ 1048576) hx hb hown (hT _ wq1482) dX11_comesTo_29 ?_
      refine x_idiv hx hb rx4 (by decide) (by omega) (by decide) dX11_comesTo_31 ?_
      refine x_nm (fun x5 ex5 => ?_)
      refine lv_istore (lv' := [(6, .int (xJ x5)), (0, .ref (h0 + 268)), (2, .int (xJ b)), (3, .int (xJ i3_16)), (4, .int (xJ x1)), (5, .int (xJ i5_16))]) hx hb dX11_comesTo_32 hl (by decide) rfl (fun ls hl => ?_)
      refine x_aload_n hx hb hl 1 rfl dX11_comesTo_34 rfl ?_
      refine x_get (j := 24) (v := .ref (h0 + 283)) hx hb hown hT hE hW cls_X11 (Or.inl (by decide)) (so_268 h0 g _) (by decide) rfl wq1209 dX11_comesTo_35 ?_
      refine x_iload hx hb hl 5 rfl dX11_comesTo_38 ?_
      refine x_iald hx hb hE hW (Or.inl (by decide)) (sa_283 h0 g _) (by omega) (by decide) dX11_comesTo_40 ?_
      refine x_rd hW (fun x6 ex6 rx6 => ?_)
      refine lv_ldc (v := xJ 1048576) hx hb hown (hT _ wq1482) dX11_comesTo_41 ?_
      refine x_irem hx hb rx6 (by decide) (by omega) (by decide) dX11_comesTo_43 ?_
      refine x_nm (fun x7 ex7 => ?_)
      refine lv_istore (lv' := [(7, .int (xJ x7)), (6, .int (xJ x5)), (0, .ref (h0 + 268)), (2, .int (xJ b)), (3, .int (xJ i3_16)), (4, .int (xJ x1)), (5, .int (xJ i5_16))]) hx hb dX11_comesTo_44 hl (by decide) rfl (fun ls hl => ?_)
      refine x_iload hx hb hl 6 rfl dX11_comesTo_46 ?_
      refine x_iconst hx hb dX11_comesTo_48 ?_
      refine x_iadd hx hb dX11_comesTo_49 ?_
      refine x_nm (fun x8 ex8 => ?_)
      refine lv_istore (lv' := [(5, .int (xJ x8)), (7, .int (xJ x7)), (6, .int (xJ x5)), (0, .ref (h0 + 268)), (2, .int (xJ b)), (3, .int (xJ i3_16)), (4, .int (xJ x1))]) hx hb dX11_comesTo_50 hl (by decide) rfl (fun ls hl => ?_)
      refine x_iload hx hb hl 2 rfl dX11_comesTo_52 ?_
      have J63 : ∀ (ls : Array Slot), (x5 = 0 ∨ x5 = 1) → lv_has ls 8 [(0, .ref (h0 + 268)), (2, .int (xJ b)), (3, .int (xJ i3_16)), (4, .int (xJ x1)), (5, .int (xJ x8)), (6, .int (xJ x5)), (7, .int (xJ x7))] → W p l e { frames := 1, cells := 0, slots := 0, locals := 22 } s m args below meth c H locs 0 0 Q (F0 m 63 ls []) := by
        intro ls v63_0  hl
        refine x_aload_n hx hb hl 0 rfl dX11_comesTo_63 rfl ?_
        refine x_get (j := 38) (v := .ref (h0 + 293)) hx hb hown hT hE hW cls_X11 (Or.inl (by decide)) (so_268 h0 g _) (by decide) rfl wq1223 dX11_comesTo_64 ?_
        refine x_iload_n hx hb hl 2 rfl dX11_comesTo_67 rfl ?_
        refine x_iload hx hb hl 5 rfl dX11_comesTo_68 ?_
        refine x_if_ne (tgt := 78) hx hb (by omega) dX11_comesTo_70 (by decide) (fun c9 => ?_) (fun c9 => ?_)
        · skip
          refine x_aload_n hx hb hl 0 rfl dX11_comesTo_78 rfl ?_
          refine x_get (j := 39) (v := .ref (h0 + 294)) hx hb hown hT hE hW cls_X11 (Or.inl (by decide)) (so_268 h0 g _) (by decide) rfl wq1224 dX11_comesTo_79 ?_
          refine x_iload hx hb hl 6 rfl dX11_comesTo_82 ?_
          refine x_iald hx hb hE hW (Or.inl (by decide)) (sa_294 h0 g _) (by omega) (by decide) dX11_comesTo_84 ?_
          refine x_rd hW (fun x10 ex10 rx10 => ?_)
          refine x_iast hx hb hE hW (by decide) (fun σ => sa_293 h0 g σ) (by omega) (by decide) rx10 dX11_comesTo_85 (fun H locs s11 es11 hW => ?_)
          have q12 : IMn s11 := by rw [es11]; exact IMn_o (by unfold suIMn; omega) q16_0
          have q13 : IMk s11 := by rw [es11]; exact IMk_o (by unfold suIMk; omega) q16_1
          have q14 : IMo s11 := by rw [es11]; exact IMo_o (by unfold suIMo; omega) q16_2
          have q15 : s11 268 8 = s0 268 8 := (show s11 268 8 = s_16 268 8 from by rw [es11, xU_k _ _ _ (by omega)]).trans q16_3
          have q16 : s11 268 58 = s0 268 58 := (show s11 268 58 = s_16 268 58 from by rw [es11, xU_k _ _ _ (by omega)]).trans q16_4
          have hF17 := hF_16.put es11 (by omega)
          refine x_iload_n hx hb hl 2 rfl dX11_comesTo_86 rfl ?_
          refine x_iconst hx hb dX11_comesTo_87 ?_
          refine x_iadd hx hb dX11_comesTo_88 ?_
          refine x_nm (fun x18 ex18 => ?_)
          refine lv_istore_n (lv' := [(3, .int (xJ x18)), (0, .ref (h0 + 268)), (2, .int (xJ b)), (4, .int (xJ x1)), (5, .int (xJ x8)), (6, .int (xJ x5)), (7, .int (xJ x7))]) hx hb dX11_comesTo_89 rfl hl (by decide) rfl (fun ls hl => ?_)
          refine lv_goto (tgt := 230) hx hb dX11_comesTo_90 (by decide) ?_
          refine lv_goto (tgt := 16) hx hb dX11_comesTo_230 (by decide) ?_
          exact ih16 x18 x8 s11 H locs ls (by omega) (by omega) hF17 q12 q13 q14 q15 q16 (by omega) (by omega) (by unfold gDD gO gV at gg; rcases gg with ⟨a1, b1, h9⟩ | ⟨a1, b1, b2, h9⟩ | ⟨a1, b1, h9⟩ | ⟨a1, b1, ⟨w9, w1, w2, w3, w4⟩, h9⟩ | ⟨a1, a2, b1, h9⟩ <;> first | (exfalso; omega) | exact ⟨_, gS_eq h9 (by omega) (by omega)⟩ | exact ⟨_, gS_eq w4 (by omega) (by omega)⟩) (by omega) hW (lv_sub hl [1, 2, 0, 3, 4] rfl)
        refine x_iload hx hb hl 6 rfl dX11_comesTo_73 ?_
        refine lv_goto (tgt := 85) hx hb dX11_comesTo_75 (by decide) ?_
        refine x_iast hx hb hE hW (by decide) (fun σ => sa_293 h0 g σ) (by omega) (by decide) (by omega) dX11_comesTo_85 (fun H locs s19 es19 hW => ?_)
        have q20 : IMn s19 := by rw [es19]; exact IMn_o (by unfold suIMn; omega) q16_0
        have q21 : IMk s19 := by rw [es19]; exact IMk_o (by unfold suIMk; omega) q16_1
        have q22 : IMo s19 := by rw [es19]; exact IMo_o (by unfold suIMo; omega) q16_2
        have q23 : s19 268 8 = s0 268 8 := (show s19 268 8 = s_16 268 8 from by rw [es19, xU_k _ _ _ (by omega)]).trans q16_3
        have q24 : s19 268 58 = s0 268 58 := (show s19 268 58 = s_16 268 58 from by rw [es19, xU_k _ _ _ (by omega)]).trans q16_4
        have hF25 := hF_16.put es19 (by omega)
        refine x_iload_n hx hb hl 2 rfl dX11_comesTo_86 rfl ?_
        refine x_iconst hx hb dX11_comesTo_87 ?_
        refine x_iadd hx hb dX11_comesTo_88 ?_
        refine x_nm (fun x26 ex26 => ?_)
        refine lv_istore_n (lv' := [(3, .int (xJ x26)), (0, .ref (h0 + 268)), (2, .int (xJ b)), (4, .int (xJ x1)), (5, .int (xJ x8)), (6, .int (xJ x5)), (7, .int (xJ x7))]) hx hb dX11_comesTo_89 rfl hl (by decide) rfl (fun ls hl => ?_)
        refine lv_goto (tgt := 230) hx hb dX11_comesTo_90 (by decide) ?_
        refine lv_goto (tgt := 16) hx hb dX11_comesTo_230 (by decide) ?_
        exact ih16 x26 x8 s19 H locs ls (by omega) (by omega) hF25 q20 q21 q22 q23 q24 (by omega) (by omega) (by unfold gDD gO gV at gg; rcases gg with ⟨a1, b1, h9⟩ | ⟨a1, b1, b2, h9⟩ | ⟨a1, b1, h9⟩ | ⟨a1, b1, ⟨w9, w1, w2, w3, w4⟩, h9⟩ | ⟨a1, a2, b1, h9⟩ <;> first | (exfalso; omega) | exact ⟨_, gS_eq h9 (by omega) (by omega)⟩ | exact ⟨_, gS_eq w4 (by omega) (by omega)⟩) (by omega) hW (lv_sub hl [1, 2, 0, 3, 4] rfl)
      refine x_if_eq (tgt := 63) hx hb (by omega) dX11_comesTo_54 (by decide) (fun c27 => ?_) (fun c27 => ?_)
      · skip
        exact J63 ls (by omega)  (lv_sub hl [3, 4, 5, 6, 0, 2, 1] rfl)
      refine x_iload hx hb hl 2 rfl dX11_comesTo_57 ?_
      refine x_iconst hx hb dX11_comesTo_59 ?_
      refine x_icmp_ne (tgt := 93) hx hb (by omega) (by decide) dX11_comesTo_60 (by decide) (fun c28 => ?_) (fun c28 => ?_)
      · skip
        refine x_iload hx hb hl 2 rfl dX11_comesTo_93 ?_
        refine x_bipush hx hb dX11_comesTo_95 (by decide) ?_
        refine x_icmp_ne (tgt := 121) hx hb (by omega) (by decide) dX11_comesTo_97 (by decide) (fun c29 => ?_) (fun c29 => ?_)
        · skip
          refine x_iload hx hb hl 2 rfl dX11_comesTo_121 ?_
          refine x_bipush hx hb dX11_comesTo_123 (by decide) ?_
          have J135 : ∀ (ls : Array Slot), (x5 = 11 ∨ x5 = 12) → lv_has ls 8 [(0, .ref (h0 + 268)), (2, .int (xJ b)), (3, .int (xJ i3_16)), (4, .int (xJ x1)), (5, .int (xJ x8)), (6, .int (xJ x5)), (7, .int (xJ x7))] → W p l e { frames := 1, cells := 0, slots := 0, locals := 22 } s m args below meth c H locs 0 0 Q (F0 m 135 ls []) := by
            intro ls v135_0  hl
            refine x_aload_n hx hb hl 0 rfl dX11_comesTo_135 rfl ?_
            refine x_get (j := 38) (v := .ref (h0 + 293)) hx hb hown hT hE hW cls_X11 (Or.inl (by decide)) (so_268 h0 g _) (by decide) rfl wq1223 dX11_comesTo_136 ?_
            refine x_iload_n hx hb hl 2 rfl dX11_comesTo_139 rfl ?_
            refine x_iconst hx hb dX11_comesTo_140 ?_
            refine x_isub hx hb dX11_comesTo_141 ?_
            refine x_iald hx hb hE hW (Or.inl (by decide)) (sa_293 h0 g _) (by omega) (by decide) dX11_comesTo_142 ?_
            refine x_rd hW (fun x30 ex30 rx30 => ?_)
            refine x_iload hx hb hl 5 rfl dX11_comesTo_143 ?_
            refine x_bipush hx hb dX11_comesTo_145 (by decide) ?_
            have J155 : ∀ (t0_155 : Int) (ls : Array Slot), (xR t0_155) → lv_has ls 8 [(0, .ref (h0 + 268)), (2, .int (xJ b)), (3, .int (xJ i3_16)), (4, .int (xJ x1)), (5, .int (xJ x8)), (7, .int (xJ x7))] → W p l e { frames := 1, cells := 0, slots := 0, locals := 22 } s m args below meth c H locs 0 0 Q (F0 m 155 ls [.int (xJ t0_155), .int (xJ x30)]) := by
              intro t0_155 ls rt0_155  hl
              refine x_icmp_ne (tgt := 168) hx hb rx30 rt0_155 dX11_comesTo_155 (by decide) (fun c31 => ?_) (fun c31 => ?_)
              · skip
                refine x_iload_n hx hb hl 2 rfl dX11_comesTo_168 rfl ?_
                refine x_iconst hx hb dX11_comesTo_169 ?_
                refine x_isub hx hb dX11_comesTo_170 ?_
                refine x_nm (fun x32 ex32 => ?_)
                refine lv_istore_n (lv' := [(3, .int (xJ x32)), (0, .ref (h0 + 268)), (2, .int (xJ b)), (4, .int (xJ x1)), (5, .int (xJ x8)), (7, .int (xJ x7))]) hx hb dX11_comesTo_171 rfl hl (by decide) rfl (fun ls hl => ?_)
                refine lv_goto (tgt := 230) hx hb dX11_comesTo_172 (by decide) ?_
                refine lv_goto (tgt := 16) hx hb dX11_comesTo_230 (by decide) ?_
                exact ih16 x32 x8 s_16 H locs ls (by omega) (by omega) hF_16 q16_0 q16_1 q16_2 q16_3 q16_4 (by omega) (by omega) (by unfold gDD gO gV at gg; rcases gg with ⟨a1, b1, h9⟩ | ⟨a1, b1, b2, h9⟩ | ⟨a1, b1, h9⟩ | ⟨a1, b1, ⟨w9, w1, w2, w3, w4⟩, h9⟩ | ⟨a1, a2, b1, h9⟩ <;> first | (exfalso; omega) | exact ⟨_, gS_eq h9 (by omega) (by omega)⟩ | exact ⟨_, gS_eq w4 (by omega) (by omega)⟩) (by omega) hW (lv_sub hl [1, 2, 0, 3, 4] rfl)
              refine x_iload hx hb hl 3 rfl dX11_comesTo_158 ?_
              refine x_iload hx hb hl 5 rfl dX11_comesTo_160 ?_
              refine x_iadd hx hb dX11_comesTo_162 ?_
              refine x_nm (fun x33 ex33 => ?_)
              refine lv_istore (lv' := [(5, .int (xJ x33)), (0, .ref (h0 + 268)), (2, .int (xJ b)), (3, .int (xJ i3_16)), (4, .int (xJ x1)), (7, .int (xJ x7))]) hx hb dX11_comesTo_163 hl (by decide) rfl (fun ls hl => ?_)
              refine lv_goto (tgt := 230) hx hb dX11_comesTo_165 (by decide) ?_
              refine lv_goto (tgt := 16) hx hb dX11_comesTo_230 (by decide) ?_
              exact ih16 i3_16 x33 s_16 H locs ls ri3_16 (by omega) hF_16 q16_0 q16_1 q16_2 q16_3 q16_4 (by omega) (by omega) (by unfold gDD gO gV at gg; rcases gg with ⟨a1, b1, h9⟩ | ⟨a1, b1, b2, h9⟩ | ⟨a1, b1, h9⟩ | ⟨a1, b1, ⟨w9, w1, w2, w3, w4⟩, h9⟩ | ⟨a1, a2, b1, h9⟩ <;> first | (exfalso; omega) | exact ⟨_, gS_eq h9 (by omega) (by omega)⟩ | exact ⟨_, gS_eq w4 (by omega) (by omega)⟩) (by omega) hW (lv_sub hl [1, 2, 3, 4, 0] rfl)
            refine x_icmp_ne (tgt := 154) hx hb (by omega) (by decide) dX11_comesTo_147 (by decide) (fun c34 => ?_) (fun c34 => ?_)
            · skip
              refine x_iconst hx hb dX11_comesTo_154 ?_
              exact J155 0 ls (by decide)  (lv_sub hl [0, 1, 2, 3, 4, 6] rfl)
            refine x_iconst hx hb dX11_comesTo_150 ?_
            refine lv_goto (tgt := 155) hx hb dX11_comesTo_151 (by decide) ?_
            exact J155 1 ls (by decide)  (lv_sub hl [0, 1, 2, 3, 4, 6] rfl)
          refine x_icmp_eq (tgt := 135) hx hb (by omega) (by decide) dX11_comesTo_125 (by decide) (fun c35 => ?_) (fun c35 => ?_)
          · skip
            exact J135 ls (by omega)  (lv_sub hl [3, 4, 5, 6, 0, 2, 1] rfl)
          refine x_iload hx hb hl 2 rfl dX11_comesTo_128 ?_
          refine x_bipush hx hb dX11_comesTo_130 (by decide) ?_
          refine x_icmp_ne (tgt := 175) hx hb (by omega) (by decide) dX11_comesTo_132 (by decide) (fun c36 => ?_) (fun c36 => ?_)
          · skip
            refine x_iload_n hx hb hl 5 rfl dX11_comesTo_175 rfl ?_
            refine x_iconst hx hb dX11_comesTo_176 ?_
            refine x_isub hx hb dX11_comesTo_177 ?_
            refine x_nm (fun x37 ex37 => ?_)
            refine lv_istore_n (lv' := [(3, .int (xJ x37)), (5, .int (xJ x8)), (7, .int (xJ x7)), (6, .int (xJ x5)), (0, .ref (h0 + 268)), (2, .int (xJ b)), (4, .int (xJ x1))]) hx hb dX11_comesTo_178 rfl hl (by decide) rfl (fun ls hl => ?_)
            refine x_iload hx hb hl 3 rfl dX11_comesTo_179 ?_
            refine x_iconst hx hb dX11_comesTo_181 ?_
            have J203 : ∀ (ls : Array Slot), (s_16 293 x37 ≠ 0 ∨ (x5 ≠ 5 ∧ x5 ≠ 6)) → lv_has ls 8 [(0, .ref (h0 + 268)), (2, .int (xJ b)), (3, .int (xJ x37)), (4, .int (xJ x1)), (5, .int (xJ x8)), (6, .int (xJ x5))] → W p l e { frames := 1, cells := 0, slots := 0, locals := 22 } s m args below meth c H locs 0 0 Q (F0 m 203 ls []) := by
              intro ls v203_0  hl
              refine x_aload_n hx hb hl 0 rfl dX11_comesTo_203 rfl ?_
              refine x_get (j := 38) (v := .ref (h0 + 293)) hx hb hown hT hE hW cls_X11 (Or.inl (by decide)) (so_268 h0 g _) (by decide) rfl wq1223 dX11_comesTo_204 ?_
              refine x_iload_n hx hb hl 2 rfl dX11_comesTo_207 rfl ?_
              refine x_iconst hx hb dX11_comesTo_208 ?_
              refine x_isub hx hb dX11_comesTo_209 ?_
              refine x_iload hx hb hl 5 rfl dX11_comesTo_210 ?_
              refine x_aload_n hx hb hl 0 rfl dX11_comesTo_212 rfl ?_
              refine x_get (j := 38) (v := .ref (h0 + 293)) hx hb hown hT hE hW cls_X11 (Or.inl (by decide)) (so_268 h0 g _) (by decide) rfl wq1223 dX11_comesTo_213 ?_
              refine x_iload_n hx hb hl 2 rfl dX11_comesTo_216 rfl ?_
              refine x_iconst hx hb dX11_comesTo_217 ?_
              refine x_isub hx hb dX11_comesTo_218 ?_
              refine x_iald hx hb hE hW (Or.inl (by decide)) (sa_293 h0 g _) (by omega) (by decide) dX11_comesTo_219 ?_
              refine x_rd hW (fun x38 ex38 rx38 => ?_)
              refine x_aload_n hx hb hl 0 rfl dX11_comesTo_220 rfl ?_
              refine x_get (j := 38) (v := .ref (h0 + 293)) hx hb hown hT hE hW cls_X11 (Or.inl (by decide)) (so_268 h0 g _) (by decide) rfl wq1223 dX11_comesTo_221 ?_
              refine x_iload_n hx hb hl 2 rfl dX11_comesTo_224 rfl ?_
              refine x_iald hx hb hE hW (Or.inl (by decide)) (sa_293 h0 g _) (by omega) (by decide) dX11_comesTo_225 ?_
              refine x_rd hW (fun x39 ex39 rx39 => ?_)
              refine x_goi (x_runS (As := [.int (xJ x5), .int (xJ x38), .int (xJ x39)]) hx hb hml hown hT hE hW hl.1 cf_X11_reckon wq1584 wq1583 (c_X11_reckon l D g T h0 s_16 hW.2.1 x5 (by omega) x38 rx38 x39 rx39 (by omega)) ⟨rfl, rfl, ⟨by decide, by decide⟩, ⟨by decide, by decide⟩⟩ rfl rfl (Nat.le_of_ble_eq_true rfl) dX11_comesTo_226) hW (fun x40 s41 H locs rx40 hp42 hW => ?_)
              obtain ⟨es41, hp42⟩ := hp42
              subst es41
              have ghp42 := hp42
              refine x_iast hx hb hE hW (by decide) (fun σ => sa_293 h0 g σ) (by omega) (by decide) rx40 dX11_comesTo_229 (fun H locs s43 es43 hW => ?_)
              have q44 : IMn s43 := by rw [es43]; exact IMn_o (by unfold suIMn; omega) q16_0
              have q45 : IMk s43 := by rw [es43]; exact IMk_o (by unfold suIMk; omega) q16_1
              have q46 : IMo s43 := by rw [es43]; exact IMo_o (by unfold suIMo; omega) q16_2
              have q47 : s43 268 8 = s0 268 8 := (show s43 268 8 = s_16 268 8 from by rw [es43, xU_k _ _ _ (by omega)]).trans q16_3
              have q48 : s43 268 58 = s0 268 58 := (show s43 268 58 = s_16 268 58 from by rw [es43, xU_k _ _ _ (by omega)]).trans q16_4
              have hF49 := hF_16.put es43 (by omega)
              refine lv_goto (tgt := 16) hx hb dX11_comesTo_230 (by decide) ?_
              exact ih16 x37 x8 s43 H locs ls (by omega) (by omega) hF49 q44 q45 q46 q47 q48 (by omega) (by omega) (by unfold gDD gO gV at gg; rcases gg with ⟨a1, b1, h9⟩ | ⟨a1, b1, b2, h9⟩ | ⟨a1, b1, h9⟩ | ⟨a1, b1, ⟨w9, w1, w2, w3, w4⟩, h9⟩ | ⟨a1, a2, b1, h9⟩ <;> first | (exfalso; omega) | exact ⟨_, gS_eq h9 (by omega) (by omega)⟩ | exact ⟨_, gS_eq w4 (by omega) (by omega)⟩) (by omega) hW (lv_sub hl [0, 1, 2, 3, 4] rfl)
            have J192 : ∀ (ls : Array Slot), lv_has ls 8 [(0, .ref (h0 + 268)), (2, .int (xJ b)), (3, .int (xJ x37)), (4, .int (xJ x1)), (5, .int (xJ x8)), (6, .int (xJ x5))] → W p l e { frames := 1, cells := 0, slots := 0, locals := 22 } s m args below meth c H locs 0 0 Q (F0 m 192 ls []) := by
              intro ls   hl
              refine x_aload_n hx hb hl 0 rfl dX11_comesTo_192 rfl ?_
              refine x_get (j := 38) (v := .ref (h0 + 293)) hx hb hown hT hE hW cls_X11 (Or.inl (by decide)) (so_268 h0 g _) (by decide) rfl wq1223 dX11_comesTo_193 ?_
              refine x_iload_n hx hb hl 2 rfl dX11_comesTo_196 rfl ?_
              refine x_iald hx hb hE hW (Or.inl (by decide)) (sa_293 h0 g _) (by omega) (by decide) dX11_comesTo_197 ?_
              refine x_rd hW (fun x50 ex50 rx50 => ?_)
              refine x_if_ne (tgt := 203) hx hb rx50 dX11_comesTo_198 (by decide) (fun c51 => ?_) (fun c51 => ?_)
              · skip
                exact J203 ls (by omega)  (lv_sub hl [0, 1, 2, 3, 4, 5] rfl)
              refine x_iconst hx hb dX11_comesTo_201 ?_
              rw [eQ]
              exact x_iret hx hb hr hlk hW (by decide) ⟨hF_16, ⟨q16_0, q16_1, q16_2, trivial⟩, trivial⟩ dX11_comesTo_202
            refine x_icmp_eq (tgt := 192) hx hb (by omega) (by decide) dX11_comesTo_182 (by decide) (fun c52 => ?_) (fun c52 => ?_)
            · skip
              exact J192 ls   (lv_sub hl [4, 5, 0, 6, 1, 3] rfl)
            refine x_iload hx hb hl 3 rfl dX11_comesTo_185 ?_
            refine x_bipush hx hb dX11_comesTo_187 (by decide) ?_
            refine x_icmp_ne (tgt := 203) hx hb (by omega) (by decide) dX11_comesTo_189 (by decide) (fun c53 => ?_) (fun c53 => ?_)
            · skip
              exact J203 ls (by omega)  (lv_sub hl [4, 5, 0, 6, 1, 3] rfl)
            exact J192 ls   (lv_sub hl [4, 5, 0, 6, 1, 3] rfl)
          exact J135 ls (by omega)  (lv_sub hl [3, 4, 5, 6, 0, 2, 1] rfl)
        refine x_aload_n hx hb hl 3 rfl dX11_comesTo_100 rfl ?_
        refine x_get (j := 38) (v := .ref (h0 + 293)) hx hb hown hT hE hW cls_X11 (Or.inl (by decide)) (so_268 h0 g _) (by decide) rfl wq1223 dX11_comesTo_101 ?_
        refine x_iload_n hx hb hl 5 rfl dX11_comesTo_104 rfl ?_
        refine x_iconst hx hb dX11_comesTo_105 ?_
        refine x_isub hx hb dX11_comesTo_106 ?_
        refine x_iconst hx hb dX11_comesTo_107 ?_
        refine x_aload_n hx hb hl 3 rfl dX11_comesTo_108 rfl ?_
        refine x_get (j := 38) (v := .ref (h0 + 293)) hx hb hown hT hE hW cls_X11 (Or.inl (by decide)) (so_268 h0 g _) (by decide) rfl wq1223 dX11_comesTo_109 ?_
        refine x_iload_n hx hb hl 5 rfl dX11_comesTo_112 rfl ?_
        refine x_iconst hx hb dX11_comesTo_113 ?_
        refine x_isub hx hb dX11_comesTo_114 ?_
        refine x_iald hx hb hE hW (Or.inl (by decide)) (sa_293 h0 g _) (by omega) (by decide) dX11_comesTo_115 ?_
        refine x_rd hW (fun x54 ex54 rx54 => ?_)
        refine x_isub hx hb dX11_comesTo_116 ?_
        refine x_any (fun x55 rx55 => ?_)
        refine x_iast hx hb hE hW (by decide) (fun σ => sa_293 h0 g σ) (by omega) (by decide) rx55 dX11_comesTo_117 (fun H locs s56 es56 hW => ?_)
        have q57 : IMn s56 := by rw [es56]; exact IMn_o (by unfold suIMn; omega) q16_0
        have q58 : IMk s56 := by rw [es56]; exact IMk_o (by unfold suIMk; omega) q16_1
        have q59 : IMo s56 := by rw [es56]; exact IMo_o (by unfold suIMo; omega) q16_2
        have q60 : s56 268 8 = s0 268 8 := (show s56 268 8 = s_16 268 8 from by rw [es56, xU_k _ _ _ (by omega)]).trans q16_3
        have q61 : s56 268 58 = s0 268 58 := (show s56 268 58 = s_16 268 58 from by rw [es56, xU_k _ _ _ (by omega)]).trans q16_4
        have hF62 := hF_16.put es56 (by omega)
        refine lv_goto (tgt := 230) hx hb dX11_comesTo_118 (by decide) ?_
        refine lv_goto (tgt := 16) hx hb dX11_comesTo_230 (by decide) ?_
        exact ih16 i3_16 x8 s56 H locs ls ri3_16 (by omega) hF62 q57 q58 q59 q60 q61 (by omega) (by omega) (by unfold gDD gO gV at gg; rcases gg with ⟨a1, b1, h9⟩ | ⟨a1, b1, b2, h9⟩ | ⟨a1, b1, h9⟩ | ⟨a1, b1, ⟨w9, w1, w2, w3, w4⟩, h9⟩ | ⟨a1, a2, b1, h9⟩ <;> first | (exfalso; omega) | exact ⟨_, gS_eq h9 (by omega) (by omega)⟩ | exact ⟨_, gS_eq w4 (by omega) (by omega)⟩) (by omega) hW (lv_sub hl [3, 4, 5, 6, 0] rfl)
      exact J63 ls (by omega)  (lv_sub hl [3, 4, 5, 6, 0, 2, 1] rfl)
  exact L16 ((b - a : Int).toNat + 1) 0 a s0 H locs ls (by decide) ra hF p0 p1 p2 k268_8 k268_58 (by omega) (by omega) (⟨_, gS_eq hs.2.2.2 (by omega) (by omega)⟩) (Nat.lt_succ_self _) hW (lv_sub hl [3, 5, 2, 1, 0] rfl)
set_option maxHeartbeats 4000000 in
set_option maxRecDepth 100000 in
theorem c_X11_byLaw (l : Launch) (D : va_G) (g : xG) (T : Nat × Nat × Nat) (h0 : Nat) (s0 : xS) (hσ : xRR s0) (q : Int) (rq : xR q) (w : Int) (rw : xR w) (p0 : IMn s0) (p1 : IMk s0) (p2 : IMo s0) : Met l yX11_byLaw (xws yX11_byLaw cX11_byLaw 5 (some .int)) { frames := 2, cells := 0, slots := 0, locals := 49 } (xP [.ref (h0 + 268), .int (xJ q), .int (xJ w)] D g T h0 s0) (xQi D g h0 (fun r τ => xFr (fun k => k = 293) s0 τ ∧ (((IMn τ) ∧ (IMk τ) ∧ (IMo τ) ∧ True) ∧ (w < 0 ∨ (0 ≤ r ∧ r ≤ w))))) 0 0 (xA h0) := by
  refine x_met hσ (by decide) (Nat.le_of_ble_eq_true rfl) ?_
  intro p e s m args below meth c hx hb hr hml hown hT hlk hnm hE hW ls hl
  have hl : lv_has ls 5 [(0, .ref (h0 + 268)), (1, .int (xJ q)), (2, .int (xJ w))] := hl
  obtain ⟨Q, eQ⟩ : ∃ Q, Q = MQ below (xQi D g h0 (fun r τ => xFr (fun k => k = 293) s0 τ ∧ (((IMn τ) ∧ (IMk τ) ∧ (IMo τ) ∧ True) ∧ (w < 0 ∨ (0 ≤ r ∧ r ≤ w))))) args s 0 0 (xA h0) := ⟨_, rfl⟩
  rw [← eQ]
  generalize hHe : ([] : List Loc) = locs at hW ⊢
  obtain ⟨H, eH⟩ : ∃ H, H = s.heap := ⟨_, rfl⟩
  rw [← eH] at hW ⊢
  have hF : xFr (fun k => k = 293) s0 s0 := xFr.rf
  have k268_8 : s0 268 8 = s0 268 8 := rfl
  have k268_58 : s0 268 58 = s0 268 58 := rfl
  refine x_iconst hx hb dX11_byLaw_0 ?_
  refine lv_istore_n (lv' := [(3, .int (xJ 0)), (0, .ref (h0 + 268)), (1, .int (xJ q)), (2, .int (xJ w))]) hx hb dX11_byLaw_1 rfl hl (by decide) rfl (fun ls hl => ?_)
  have L2 : ∀ (fu : Nat) (i3_2 : Int) (s_2 : xS) (H : Heap) (locs : List Loc) (ls : Array Slot), (xR i3_2) → (xFr (fun k => k = 293) s0 s_2) → (IMn s_2) → (IMk s_2) → (IMo s_2) → (s_2 268 8 = s0 268 8) → (s_2 268 58 = s0 268 58) → (0 ≤ i3_2) → (16 - i3_2).toNat < fu → xW D g h0 s H locs s_2 → lv_has ls 5 [(0, .ref (h0 + 268)), (1, .int (xJ q)), (2, .int (xJ w)), (3, .int (xJ i3_2))] → W p l e { frames := 2, cells := 0, slots := 0, locals := 49 } s m args below meth c H locs 0 0 Q (F0 m 2 ls []) := by
    intro fu
    induction fu with
    | zero => intro i3_2 s_2 H locs ls ri3_2 hF_2 q2_0 q2_1 q2_2 q2_3 q2_4 v2_0 hm; exact absurd hm (Nat.not_lt_zero _)
    | succ fu ih2 =>
      intro i3_2 s_2 H locs ls ri3_2 hF_2 q2_0 q2_1 q2_2 q2_3 q2_4 v2_0 hm hW hl
      refine x_iload_n hx hb hl 3 rfl dX11_byLaw_2 rfl ?_
      refine x_aload_n hx hb hl 0 rfl dX11_byLaw_3 rfl ?_
      refine x_get (j := 17) (v := .int (xJ (s_2 268 17))) hx hb hown hT hE hW cls_X11 (Or.inl (by decide)) (so_268 h0 g _) (by decide) rfl wq1202 dX11_byLaw_4 ?_
      refine x_rd hW (fun x1 ex1 rx1 => ?_)
      have bx1 : 0 ≤ x1 ∧ x1 ≤ 16 := by rw [ex1]; exact IMk.c q2_1
      have q2 : s_2 268 17 = x1 := ex1.symm
      refine x_icmp_ge (tgt := 89) hx hb ri3_2 rx1 dX11_byLaw_7 (by decide) (fun c3 => ?_) (fun c3 => ?_)
      · skip
        refine x_iconst hx hb dX11_byLaw_89 ?_
        rw [eQ]
        exact x_iret hx hb hr hlk hW (by decide) ⟨hF_2, ⟨q2_0, q2_1, q2_2, trivial⟩, by omega⟩ dX11_byLaw_90
      refine x_aload_n hx hb hl 0 rfl dX11_byLaw_10 rfl ?_
      refine x_get (j := 25) (v := .ref (h0 + 284)) hx hb hown hT hE hW cls_X11 (Or.inl (by decide)) (so_268 h0 g _) (by decide) rfl wq1210 dX11_byLaw_11 ?_
      refine x_iload_n hx hb hl 3 rfl dX11_byLaw_14 rfl ?_
      refine x_iald hx hb hE hW (Or.inl (by decide)) (sa_284 h0 g _) (by omega) (by decide) dX11_byLaw_15 ?_
      refine x_rd hW (fun x4 ex4 rx4 => ?_)
      refine x_iload_n hx hb hl 1 rfl dX11_byLaw_16 rfl ?_
      refine x_icmp_ne (tgt := 83) hx hb rx4 rq dX11_byLaw_17 (by decide) (fun c5 => ?_) (fun c5 => ?_)
      · skip
        refine x_iinc (lv' := [(3, .int (xJ (i3_2 + 1))), (0, .ref (h0 + 268)), (1, .int (xJ q)), (2, .int (xJ w))]) hx hb hl 3 rfl dX11_byLaw_83 (by decide) rfl (fun ls hl => ?_)
        refine lv_goto (tgt := 2) hx hb dX11_byLaw_86 (by decide) ?_
        exact ih2 (i3_2 + 1) s_2 H locs ls (by omega) hF_2 q2_0 q2_1 q2_2 q2_3 q2_4 (by omega) (by omega) hW (lv_sub hl [1, 2, 3, 0] rfl)
      refine x_aload_n hx hb hl 0 rfl dX11_byLaw_20 rfl ?_
      refine x_aload_n hx hb hl 0 rfl dX11_byLaw_21 rfl ?_
      refine x_get (j := 27) (v := .ref (h0 + 286)) hx hb hown hT hE hW cls_X11 (Or.inl (by decide)) (so_268 h0 g _) (by decide) rfl wq1212 dX11_byLaw_22 ?_
      refine x_iload_n hx hb hl 3 rfl dX11_byLaw_25 rfl ?_
      refine x_iald hx hb hE hW (Or.inl (by decide)) (sa_286 h0 g _) (by omega) (by decide) dX11_byLaw_26 ?_
      refine x_rd hW (fun x6 ex6 rx6 => ?_)
      refine x_aload_n hx hb hl 0 rfl dX11_byLaw_27 rfl ?_
      refine x_get (j := 28) (v := .ref (h0 + 287)) hx hb hown hT hE hW cls_X11 (Or.inl (by decide)) (so_268 h0 g _) (by decide) rfl wq1213 dX11_byLaw_28 ?_
      refine x_iload_n hx hb hl 3 rfl dX11_byLaw_31 rfl ?_
      refine x_iald hx hb hE hW (Or.inl (by decide)) (sa_287 h0 g _) (by omega) (by decide) dX11_byLaw_32 ?_
      refine x_rd hW (fun x7 ex7 rx7 => ?_)
      refine x_goi (x_runV (As := [.int (xJ x6), .int (xJ x7)]) hx hb hml hown hT hE hW hl.1 (Or.inl (by decide)) (so_268 h0 g _) rfl cf_X11_comesTo wq1581 wq138 wq1579 (c_X11_comesTo l D g T h0 s_2 hW.2.1 x6 rx6 x7 rx7 (by rw [ex6, ex7]; exact (q2_1.2 _ (by omega) (by omega)).2) q2_0 q2_1 q2_2) ⟨rfl, rfl, ⟨by decide, by decide⟩, ⟨by decide, by decide⟩⟩ rfl rfl (Nat.le_of_ble_eq_true rfl) dX11_byLaw_33) hW (fun x8 s9 H locs rx8 hp10 hW => ?_)
      obtain ⟨fs9, hp10⟩ := hp10
      have hF11 := hF_2.call fs9 (fun k h => by omega)
      have q12 : s9 268 8 = s0 268 8 := (congrFun (fs9 _ (by omega)) _).trans q2_3
      have q13 : s9 268 58 = s0 268 58 := (congrFun (fs9 _ (by omega)) _).trans q2_4
      have q14 : s9 268 17 = x1 := (congrFun (fs9 _ (by omega)) _).trans q2
      have ghp10 := hp10.2
      refine x_iconst hx hb dX11_byLaw_36 ?_
      refine x_icmp_eq (tgt := 43) hx hb rx8 (by decide) dX11_byLaw_37 (by decide) (fun c15 => ?_) (fun c15 => ?_)
      · skip
        refine x_aload_n hx hb hl 0 rfl dX11_byLaw_43 rfl ?_
        refine x_aload_n hx hb hl 0 rfl dX11_byLaw_44 rfl ?_
        refine x_get (j := 26) (v := .ref (h0 + 285)) hx hb hown hT hE hW cls_X11 (Or.inl (by decide)) (so_268 h0 g _) (by decide) rfl wq1211 dX11_byLaw_45 ?_
        refine x_iload_n hx hb hl 3 rfl dX11_byLaw_48 rfl ?_
        refine x_iald hx hb hE hW (Or.inl (by decide)) (sa_285 h0 g _) (by omega) (by decide) dX11_byLaw_49 ?_
        refine x_rd hW (fun x16 ex16 rx16 => ?_)
        refine x_aload_n hx hb hl 0 rfl dX11_byLaw_50 rfl ?_
        refine x_get (j := 27) (v := .ref (h0 + 286)) hx hb hown hT hE hW cls_X11 (Or.inl (by decide)) (so_268 h0 g _) (by decide) rfl wq1212 dX11_byLaw_51 ?_
        refine x_iload_n hx hb hl 3 rfl dX11_byLaw_54 rfl ?_
        refine x_iald hx hb hE hW (Or.inl (by decide)) (sa_286 h0 g _) (by omega) (by decide) dX11_byLaw_55 ?_
        refine x_rd hW (fun x17 ex17 rx17 => ?_)
        refine x_goi (x_runV (As := [.int (xJ x16), .int (xJ x17)]) hx hb hml hown hT hE hW hl.1 (Or.inl (by decide)) (so_268 h0 g _) rfl cf_X11_comesTo wq1581 wq138 wq1579 (c_X11_comesTo l D g T h0 s9 hW.2.1 x16 rx16 x17 rx17 (by rw [ex16, ex17]; exact (hp10.1.2.1.2 _ (by omega) (by omega)).1) hp10.1.1 hp10.1.2.1 hp10.1.2.2.1) ⟨rfl, rfl, ⟨by decide, by decide⟩, ⟨by decide, by decide⟩⟩ rfl rfl (Nat.le_of_ble_eq_true rfl) dX11_byLaw_56) hW (fun x18 s19 H locs rx18 hp20 hW => ?_)
        obtain ⟨fs19, hp20⟩ := hp20
        have hF21 := hF11.call fs19 (fun k h => by omega)
        have q22 : s19 268 8 = s0 268 8 := (congrFun (fs19 _ (by omega)) _).trans q12
        have q23 : s19 268 58 = s0 268 58 := (congrFun (fs19 _ (by omega)) _).trans q13
        have q24 : s19 268 17 = x1 := (congrFun (fs19 _ (by omega)) _).trans q14
        have ghp20 := hp20.2
        refine lv_istore (lv' := [(4, .int (xJ x18)), (0, .ref (h0 + 268)), (1, .int (xJ q)), (2, .int (xJ w)), (3, .int (xJ i3_2))]) hx hb dX11_byLaw_59 hl (by decide) rfl (fun ls hl => ?_)
        refine x_iload hx hb hl 0 rfl dX11_byLaw_61 ?_
        refine x_if_ge (tgt := 70) hx hb rx18 dX11_byLaw_63 (by decide) (fun c25 => ?_) (fun c25 => ?_)
        · skip
          refine x_iload hx hb hl 0 rfl dX11_byLaw_70 ?_
          refine x_iload_n hx hb hl 3 rfl dX11_byLaw_72 rfl ?_
          refine x_icmp_le (tgt := 80) hx hb rx18 rw dX11_byLaw_73 (by decide) (fun c26 => ?_) (fun c26 => ?_)
          · skip
            refine x_iload hx hb hl 0 rfl dX11_byLaw_80 ?_
            rw [eQ]
            exact x_iret hx hb hr hlk hW rx18 ⟨hF21, ⟨hp20.1.1, hp20.1.2.1, hp20.1.2.2.1, trivial⟩, by omega⟩ dX11_byLaw_82
          refine x_iload_n hx hb hl 3 rfl dX11_byLaw_76 rfl ?_
          refine lv_goto (tgt := 82) hx hb dX11_byLaw_77 (by decide) ?_
          rw [eQ]
          exact x_iret hx hb hr hlk hW rw ⟨hF21, ⟨hp20.1.1, hp20.1.2.1, hp20.1.2.2.1, trivial⟩, by omega⟩ dX11_byLaw_82
        refine x_iconst hx hb dX11_byLaw_66 ?_
        refine lv_goto (tgt := 82) hx hb dX11_byLaw_67 (by decide) ?_
        rw [eQ]
        exact x_iret hx hb hr hlk hW (by decide) ⟨hF21, ⟨hp20.1.1, hp20.1.2.1, hp20.1.2.2.1, trivial⟩, by omega⟩ dX11_byLaw_82
      refine lv_goto (tgt := 83) hx hb dX11_byLaw_40 (by decide) ?_
      refine x_iinc (lv' := [(3, .int (xJ (i3_2 + 1))), (0, .ref (h0 + 268)), (1, .int (xJ q)), (2, .int (xJ w))]) hx hb hl 3 rfl dX11_byLaw_83 (by decide) rfl (fun ls hl => ?_)
      refine lv_goto (tgt := 2) hx hb dX11_byLaw_86 (by decide) ?_
      exact ih2 (i3_2 + 1) s9 H locs ls (by omega) hF11 hp10.1.1 hp10.1.2.1 hp10.1.2.2.1 q12 q13 (by omega) (by omega) hW (lv_sub hl [1, 2, 3, 0] rfl)
  exact L2 ((16 - 0 : Int).toNat + 1) 0 s0 H locs ls (by decide) hF p0 p1 p2 k268_8 k268_58 (by omega) (Nat.lt_succ_self _) hW (lv_sub hl [1, 2, 3, 0] rfl)
set_option maxHeartbeats 4000000 in
set_option maxRecDepth 100000 in
theorem c_X11_isNight (l : Launch) (D : va_G) (g : xG) (T : Nat × Nat × Nat) (h0 : Nat) (s0 : xS) (hσ : xRR s0) (t : Int) (rt : xR t) (p0 : IMn s0) (p1 : IMk s0) (p2 : IMo s0) : Met l yX11_isNight (xws yX11_isNight cX11_isNight 3 (some .boolean)) { frames := 2, cells := 0, slots := 0, locals := 49 } (xP [.ref (h0 + 268), .int (xJ t)] D g T h0 s0) (xQi D g h0 (fun r τ => xFr (fun k => k = 293 ∨ k = 294) s0 τ ∧ (((IMn τ) ∧ (IMk τ) ∧ (IMo τ) ∧ True) ∧ (r = 0 ∨ r = 1)))) 0 0 (xA h0) := by
  refine x_met hσ (by decide) (Nat.le_of_ble_eq_true rfl) ?_
  intro p e s m args below meth c hx hb hr hml hown hT hlk hnm hE hW ls hl
  have hl : lv_has ls 3 [(0, .ref (h0 + 268)), (1, .int (xJ t))] := hl
  obtain ⟨Q, eQ⟩ : ∃ Q, Q = MQ below (xQi D g h0 (fun r τ => xFr (fun k => k = 293 ∨ k = 294) s0 τ ∧ (((IMn τ) ∧ (IMk τ) ∧ (IMo τ) ∧ True) ∧ (r = 0 ∨ r = 1)))) args s 0 0 (xA h0) := ⟨_, rfl⟩
  rw [← eQ]
  generalize hHe : ([] : List Loc) = locs at hW ⊢
  obtain ⟨H, eH⟩ : ∃ H, H = s.heap := ⟨_, rfl⟩
  rw [← eH] at hW ⊢
  have hF : xFr (fun k => k = 293 ∨ k = 294) s0 s0 := xFr.rf
  have k268_8 : s0 268 8 = s0 268 8 := rfl
  have k268_58 : s0 268 58 = s0 268 58 := rfl
  refine x_aload_n hx hb hl 0 rfl dX11_isNight_0 rfl ?_
  refine x_iload_n hx hb hl 1 rfl dX11_isNight_1 rfl ?_
  refine x_gov (x_runV (As := [.int (xJ t)]) hx hb hml hown hT hE hW hl.1 (Or.inl (by decide)) (so_268 h0 g _) rfl cf_X11_feels wq1573 wq136 wq1571 (c_X11_feels l D g T h0 s0 hW.2.1 t rt p0 p1 p2) ⟨rfl, rfl, ⟨by decide, by decide⟩, ⟨by decide, by decide⟩⟩ rfl rfl (Nat.le_of_ble_eq_true rfl) dX11_isNight_2) hW (fun s2 H locs hp3 hW => ?_)
  obtain ⟨fs2, hp3⟩ := hp3
  have hF4 := hF.call fs2 (fun k h => by omega)
  have q5 : s2 268 8 = s0 268 8 := (congrFun (fs2 _ (by omega)) _).trans k268_8
  have q6 : s2 268 58 = s0 268 58 := (congrFun (fs2 _ (by omega)) _).trans k268_58
  have ghp3 := hp3.2
  refine x_iconst hx hb dX11_isNight_5 ?_
  refine lv_istore_n (lv' := [(2, .int (xJ 0)), (0, .ref (h0 + 268)), (1, .int (xJ t))]) hx hb dX11_isNight_6 rfl hl (by decide) rfl (fun ls hl => ?_)
  have L7 : ∀ (fu : Nat) (i2_7 : Int) (s_7 : xS) (H : Heap) (locs : List Loc) (ls : Array Slot), (xR i2_7) → (xFr (fun k => k = 293 ∨ k = 294) s0 s_7) → (s_7 268 8 = s0 268 8) → (s_7 268 58 = s0 268 58) → (IMn s_7) → (IMk s_7) → (IMo s_7) → (0 ≤ i2_7) → (16 - i2_7).toNat < fu → xW D g h0 s H locs s_7 → lv_has ls 3 [(0, .ref (h0 + 268)), (2, .int (xJ i2_7))] → W p l e { frames := 2, cells := 0, slots := 0, locals := 49 } s m args below meth c H locs 0 0 Q (F0 m 7 ls []) := by
    intro fu
    induction fu with
    | zero => intro i2_7 s_7 H locs ls ri2_7 hF_7 q7_0 q7_1 q7_2 q7_3 q7_4 v7_0 hm; exact absurd hm (Nat.not_lt_zero _)
    | succ fu ih7 =>
      intro i2_7 s_7 H locs ls ri2_7 hF_7 q7_0 q7_1 q7_2 q7_3 q7_4 v7_0 hm hW hl
      refine x_iload_n hx hb hl 1 rfl dX11_isNight_7 rfl ?_
      refine x_aload_n hx hb hl 0 rfl dX11_isNight_8 rfl ?_
      refine x_get (j := 17) (v := .int (xJ (s_7 268 17))) hx hb hown hT hE hW cls_X11 (Or.inl (by decide)) (so_268 h0 g _) (by decide) rfl wq1202 dX11_isNight_9 ?_
      refine x_rd hW (fun x7 ex7 rx7 => ?_)
      have bx7 : 0 ≤ x7 ∧ x7 ≤ 16 := by rw [ex7]; exact IMk.c q7_3
      have q8 : s_7 268 17 = x7 := ex7.symm
      refine x_icmp_ge (tgt := 54) hx hb ri2_7 rx7 dX11_isNight_12 (by decide) (fun c9 => ?_) (fun c9 => ?_)
      · skip
        refine x_iconst hx hb dX11_isNight_54 ?_
        rw [eQ]
        exact x_zret hx hb hr hlk hW (by omega) ⟨hF_7, ⟨q7_2, q7_3, q7_4, trivial⟩, by omega⟩ dX11_isNight_55
      refine x_aload_n hx hb hl 0 rfl dX11_isNight_15 rfl ?_
      refine x_get (j := 25) (v := .ref (h0 + 284)) hx hb hown hT hE hW cls_X11 (Or.inl (by decide)) (so_268 h0 g _) (by decide) rfl wq1210 dX11_isNight_16 ?_
      refine x_iload_n hx hb hl 1 rfl dX11_isNight_19 rfl ?_
      refine x_iald hx hb hE hW (Or.inl (by decide)) (sa_284 h0 g _) (by omega) (by decide) dX11_isNight_20 ?_
      refine x_rd hW (fun x10 ex10 rx10 => ?_)
      refine x_bipush hx hb dX11_isNight_21 (by decide) ?_
      refine x_icmp_ne (tgt := 48) hx hb rx10 (by decide) dX11_isNight_23 (by decide) (fun c11 => ?_) (fun c11 => ?_)
      · skip
        refine x_iinc (lv' := [(2, .int (xJ (i2_7 + 1))), (0, .ref (h0 + 268))]) hx hb hl 1 rfl dX11_isNight_48 (by decide) rfl (fun ls hl => ?_)
        refine lv_goto (tgt := 7) hx hb dX11_isNight_51 (by decide) ?_
        exact ih7 (i2_7 + 1) s_7 H locs ls (by omega) hF_7 q7_0 q7_1 q7_2 q7_3 q7_4 (by omega) (by omega) hW (lv_sub hl [1, 0] rfl)
      refine x_aload_n hx hb hl 0 rfl dX11_isNight_26 rfl ?_
      refine x_aload_n hx hb hl 0 rfl dX11_isNight_27 rfl ?_
      refine x_get (j := 27) (v := .ref (h0 + 286)) hx hb hown hT hE hW cls_X11 (Or.inl (by decide)) (so_268 h0 g _) (by decide) rfl wq1212 dX11_isNight_28 ?_
      refine x_iload_n hx hb hl 1 rfl dX11_isNight_31 rfl ?_
      refine x_iald hx hb hE hW (Or.inl (by decide)) (sa_286 h0 g _) (by omega) (by decide) dX11_isNight_32 ?_
      refine x_rd hW (fun x12 ex12 rx12 => ?_)
      refine x_aload_n hx hb hl 0 rfl dX11_isNight_33 rfl ?_
      refine x_get (j := 28) (v := .ref (h0 + 287)) hx hb hown hT hE hW cls_X11 (Or.inl (by decide)) (so_268 h0 g _) (by decide) rfl wq1213 dX11_isNight_34 ?_
      refine x_iload_n hx hb hl 1 rfl dX11_isNight_37 rfl ?_
      refine x_iald hx hb hE hW (Or.inl (by decide)) (sa_287 h0 g _) (by omega) (by decide) dX11_isNight_38 ?_
      refine x_rd hW (fun x13 ex13 rx13 => ?_)
      refine x_goi (x_runV (As := [.int (xJ x12), .int (xJ x13)]) hx hb hml hown hT hE hW hl.1 (Or.inl (by decide)) (so_268 h0 g _) rfl cf_X11_comesTo wq1581 wq138 wq1579 (c_X11_comesTo l D g T h0 s_7 hW.2.1 x12 rx12 x13 rx13 (by rw [ex12, ex13]; exact (q7_3.2 _ (by omega) (by omega)).2) q7_2 q7_3 q7_4) ⟨rfl, rfl, ⟨by decide, by decide⟩, ⟨by decide, by decide⟩⟩ rfl rfl (Nat.le_of_ble_eq_true rfl) dX11_isNight_39) hW (fun x14 s15 H locs rx14 hp16 hW => ?_)
      obtain ⟨fs15, hp16⟩ := hp16
      have hF17 := hF_7.call fs15 (fun k h => by omega)
      have q18 : s15 268 8 = s0 268 8 := (congrFun (fs15 _ (by omega)) _).trans q7_0
      have q19 : s15 268 58 = s0 268 58 := (congrFun (fs15 _ (by omega)) _).trans q7_1
      have q20 : s15 268 17 = x7 := (congrFun (fs15 _ (by omega)) _).trans q8
      have ghp16 := hp16.2
      refine x_iconst hx hb dX11_isNight_42 ?_
      refine x_icmp_ne (tgt := 48) hx hb rx14 (by decide) dX11_isNight_43 (by decide) (fun c21 => ?_) (fun c21 => ?_)
      · skip
        refine x_iinc (lv' := [(2, .int (xJ (i2_7 + 1))), (0, .ref (h0 + 268))]) hx hb hl 1 rfl dX11_isNight_48 (by decide) rfl (fun ls hl => ?_)
        refine lv_goto (tgt := 7) hx hb dX11_isNight_51 (by decide) ?_
        exact ih7 (i2_7 + 1) s15 H locs ls (by omega) hF17 q18 q19 hp16.1.1 hp16.1.2.1 hp16.1.2.2.1 (by omega) (by omega) hW (lv_sub hl [1, 0] rfl)
      refine x_iconst hx hb dX11_isNight_46 ?_
      rw [eQ]
      exact x_zret hx hb hr hlk hW (by omega) ⟨hF17, ⟨hp16.1.1, hp16.1.2.1, hp16.1.2.2.1, trivial⟩, by omega⟩ dX11_isNight_47
  exact L7 ((16 - 0 : Int).toNat + 1) 0 s2 H locs ls (by decide) hF4 q5 q6 hp3.1.1 hp3.1.2.1 hp3.1.2.2.1 (by omega) (Nat.lt_succ_self _) hW (lv_sub hl [1, 0] rfl)
set_option maxHeartbeats 4000000 in
set_option maxRecDepth 100000 in
theorem c_X11_byFelon (l : Launch) (D : va_G) (g : xG) (T : Nat × Nat × Nat) (h0 : Nat) (s0 : xS) (hσ : xRR s0) (q : Int) (rq : xR q) (w : Int) (rw : xR w) (f : Int) (rf : xR f) (hf : 0 ≤ f ∧ f ≤ 9) (p0 : IMn s0) (p1 : IMk s0) (p2 : IMo s0) : Met l yX11_byFelon (xws yX11_byFelon cX11_byFelon 4 (some .int)) { frames := 3, cells := 0, slots := 0, locals := 73 } (xP [.ref (h0 + 268), .int (xJ q), .int (xJ w), .int (xJ f)] D g T h0 s0) (xQi D g h0 (fun r τ => xFr (fun k => k = 293 ∨ k = 294) s0 τ ∧ (((IMn τ) ∧ (IMk τ) ∧ (IMo τ) ∧ True) ∧ (w < 0 ∨ (0 ≤ r ∧ r ≤ w))))) 0 0 (xA h0) := by
  refine x_met hσ (by decide) (Nat.le_of_ble_eq_true rfl) ?_
  intro p e s m args below meth c hx hb hr hml hown hT hlk hnm hE hW ls hl
  have hl : lv_has ls 4 [(0, .ref (h0 + 268)), (1, .int (xJ q)), (2, .int (xJ w)), (3, .int (xJ f))] := hl
  obtain ⟨Q, eQ⟩ : ∃ Q, Q = MQ below (xQi D g h0 (fun r τ => xFr (fun k => k = 293 ∨ k = 294) s0 τ ∧ (((IMn τ) ∧ (IMk τ) ∧ (IMo τ) ∧ True) ∧ (w < 0 ∨ (0 ≤ r ∧ r ≤ w))))) args s 0 0 (xA h0) := ⟨_, rfl⟩
  rw [← eQ]
  generalize hHe : ([] : List Loc) = locs at hW ⊢
  obtain ⟨H, eH⟩ : ∃ H, H = s.heap := ⟨_, rfl⟩
  rw [← eH] at hW ⊢
  have hF : xFr (fun k => k = 293 ∨ k = 294) s0 s0 := xFr.rf
  have k268_8 : s0 268 8 = s0 268 8 := rfl
  have k268_58 : s0 268 58 = s0 268 58 := rfl
  refine x_aload_n hx hb hl 0 rfl dX11_byFelon_0 rfl ?_
  refine x_aload_n hx hb hl 0 rfl dX11_byFelon_1 rfl ?_
  refine x_get (j := 0) (v := .ref (h0 + 269)) hx hb hown hT hE hW cls_X11 (Or.inl (by decide)) (so_268 h0 g _) (by decide) rfl wq1185 dX11_byFelon_2 ?_
  refine x_bipush hx hb dX11_byFelon_5 (by decide) ?_
  refine x_iald hx hb hE hW (Or.inl (by decide)) (sa_269 h0 g _) ⟨by decide, by decide⟩ (by decide) dX11_byFelon_7 ?_
  refine x_rd hW (fun x1 ex1 rx1 => ?_)
  have bx1 : 0 ≤ x1 ∧ x1 ≤ 9999 := by rw [ex1]; exact (IMn.n1 p0).2.2.2.1
  refine x_gov (x_runV (As := [.int (xJ x1)]) hx hb hml hown hT hE hW hl.1 (Or.inl (by decide)) (so_268 h0 g _) rfl cf_X11_feels wq1573 wq136 wq1571 (c_X11_feels l D g T h0 s0 hW.2.1 x1 rx1 p0 p1 p2) ⟨rfl, rfl, ⟨by decide, by decide⟩, ⟨by decide, by decide⟩⟩ rfl rfl (Nat.le_of_ble_eq_true rfl) dX11_byFelon_8) hW (fun s3 H locs hp4 hW => ?_)
  obtain ⟨fs3, hp4⟩ := hp4
  have hF5 := hF.call fs3 (fun k h => by omega)
  have q6 : s3 268 8 = s0 268 8 := (congrFun (fs3 _ (by omega)) _).trans k268_8
  have q7 : s3 268 58 = s0 268 58 := (congrFun (fs3 _ (by omega)) _).trans k268_58
  have ghp4 := hp4.2
  refine x_aload_n hx hb hl 0 rfl dX11_byFelon_11 rfl ?_
  refine x_get (j := 39) (v := .ref (h0 + 294)) hx hb hown hT hE hW cls_X11 (Or.inl (by decide)) (so_268 h0 g _) (by decide) rfl wq1224 dX11_byFelon_12 ?_
  refine x_iconst hx hb dX11_byFelon_15 ?_
  refine x_iload_n hx hb hl 3 rfl dX11_byFelon_16 rfl ?_
  refine x_iast hx hb hE hW (by decide) (fun σ => sa_294 h0 g σ) ⟨by decide, by decide⟩ (by decide) rf dX11_byFelon_17 (fun H locs s8 es8 hW => ?_)
  have q9 : s8 268 8 = s0 268 8 := (show s8 268 8 = s3 268 8 from by rw [es8, xU_k _ _ _ (by omega)]).trans q6
  have q10 : s8 268 58 = s0 268 58 := (show s8 268 58 = s3 268 58 from by rw [es8, xU_k _ _ _ (by omega)]).trans q7
  have q11 : IMn s8 := by rw [es8]; exact IMn_o (by unfold suIMn; omega) hp4.1.1
  have q12 : IMk s8 := by rw [es8]; exact IMk_o (by unfold suIMk; omega) hp4.1.2.1
  have q13 : IMo s8 := by rw [es8]; exact IMo_o (by unfold suIMo; omega) hp4.1.2.2.1
  have hF14 := hF5.put es8 (by omega)
  refine x_aload_n hx hb hl 0 rfl dX11_byFelon_18 rfl ?_
  refine x_get (j := 39) (v := .ref (h0 + 294)) hx hb hown hT hE hW cls_X11 (Or.inl (by decide)) (so_268 h0 g _) (by decide) rfl wq1224 dX11_byFelon_19 ?_
  refine x_iconst hx hb dX11_byFelon_22 ?_
  refine x_aload_n hx hb hl 0 rfl dX11_byFelon_23 rfl ?_
  refine x_get (j := 0) (v := .ref (h0 + 269)) hx hb hown hT hE hW cls_X11 (Or.inl (by decide)) (so_268 h0 g _) (by decide) rfl wq1185 dX11_byFelon_24 ?_
  refine x_bipush hx hb dX11_byFelon_27 (by decide) ?_
  refine x_iload_n hx hb hl 3 rfl dX11_byFelon_29 rfl ?_
  refine x_iadd hx hb dX11_byFelon_30 ?_
  refine x_iald hx hb hE hW (Or.inl (by decide)) (sa_269 h0 g _) (by omega) (by decide) dX11_byFelon_31 ?_
  refine x_rd hW (fun x15 ex15 rx15 => ?_)
  refine x_iast hx hb hE hW (by decide) (fun σ => sa_294 h0 g σ) ⟨by decide, by decide⟩ (by decide) rx15 dX11_byFelon_32 (fun H locs s16 es16 hW => ?_)
  have q17 : s16 268 8 = s0 268 8 := (show s16 268 8 = s8 268 8 from by rw [es16, xU_k _ _ _ (by omega)]).trans q9
  have q18 : s16 268 58 = s0 268 58 := (show s16 268 58 = s8 268 58 from by rw [es16, xU_k _ _ _ (by omega)]).trans q10
  have q19 : IMn s16 := by rw [es16]; exact IMn_o (by unfold suIMn; omega) q11
  have q20 : IMk s16 := by rw [es16]; exact IMk_o (by unfold suIMk; omega) q12
  have q21 : IMo s16 := by rw [es16]; exact IMo_o (by unfold suIMo; omega) q13
  have hF22 := hF14.put es16 (by omega)
  refine x_aload_n hx hb hl 0 rfl dX11_byFelon_33 rfl ?_
  refine x_get (j := 39) (v := .ref (h0 + 294)) hx hb hown hT hE hW cls_X11 (Or.inl (by decide)) (so_268 h0 g _) (by decide) rfl wq1224 dX11_byFelon_34 ?_
  refine x_iconst hx hb dX11_byFelon_37 ?_
  refine x_aload_n hx hb hl 0 rfl dX11_byFelon_38 rfl ?_
  refine x_get (j := 0) (v := .ref (h0 + 269)) hx hb hown hT hE hW cls_X11 (Or.inl (by decide)) (so_268 h0 g _) (by decide) rfl wq1185 dX11_byFelon_39 ?_
  refine x_bipush hx hb dX11_byFelon_42 (by decide) ?_
  refine x_iload_n hx hb hl 3 rfl dX11_byFelon_44 rfl ?_
  refine x_iadd hx hb dX11_byFelon_45 ?_
  refine x_iald hx hb hE hW (Or.inl (by decide)) (sa_269 h0 g _) (by omega) (by decide) dX11_byFelon_46 ?_
  refine x_rd hW (fun x23 ex23 rx23 => ?_)
  refine x_iast hx hb hE hW (by decide) (fun σ => sa_294 h0 g σ) ⟨by decide, by decide⟩ (by decide) rx23 dX11_byFelon_47 (fun H locs s24 es24 hW => ?_)
  have q25 : s24 268 8 = s0 268 8 := (show s24 268 8 = s16 268 8 from by rw [es24, xU_k _ _ _ (by omega)]).trans q17
  have q26 : s24 268 58 = s0 268 58 := (show s24 268 58 = s16 268 58 from by rw [es24, xU_k _ _ _ (by omega)]).trans q18
  have q27 : IMn s24 := by rw [es24]; exact IMn_o (by unfold suIMn; omega) q19
  have q28 : IMk s24 := by rw [es24]; exact IMk_o (by unfold suIMk; omega) q20
  have q29 : IMo s24 := by rw [es24]; exact IMo_o (by unfold suIMo; omega) q21
  have hF30 := hF22.put es24 (by omega)
  refine x_aload_n hx hb hl 0 rfl dX11_byFelon_48 rfl ?_
  refine x_get (j := 39) (v := .ref (h0 + 294)) hx hb hown hT hE hW cls_X11 (Or.inl (by decide)) (so_268 h0 g _) (by decide) rfl wq1224 dX11_byFelon_49 ?_
  refine x_bipush hx hb dX11_byFelon_52 (by decide) ?_
  refine x_aload_n hx hb hl 0 rfl dX11_byFelon_54 rfl ?_
  refine x_get (j := 3) (v := .ref (h0 + 272)) hx hb hown hT hE hW cls_X11 (Or.inl (by decide)) (so_268 h0 g _) (by decide) rfl wq1188 dX11_byFelon_55 ?_
  refine x_aload_n hx hb hl 0 rfl dX11_byFelon_58 rfl ?_
  refine x_get (j := 0) (v := .ref (h0 + 269)) hx hb hown hT hE hW cls_X11 (Or.inl (by decide)) (so_268 h0 g _) (by decide) rfl wq1185 dX11_byFelon_59 ?_
  refine x_iconst hx hb dX11_byFelon_62 ?_
  refine x_iload_n hx hb hl 3 rfl dX11_byFelon_63 rfl ?_
  refine x_iadd hx hb dX11_byFelon_64 ?_
  refine x_iald hx hb hE hW (Or.inl (by decide)) (sa_269 h0 g _) (by omega) (by decide) dX11_byFelon_65 ?_
  refine x_rd hW (fun x31 ex31 rx31 => ?_)
  have bx31 : 0 ≤ x31 ∧ x31 ≤ 99 := by rw [ex31]; exact (IMn.n1 q27).2.2.1 _ (by omega) (by omega)
  refine x_iald hx hb hE hW (Or.inl (by decide)) (sa_272 h0 g _) (by omega) (by decide) dX11_byFelon_66 ?_
  refine x_rd hW (fun x32 ex32 rx32 => ?_)
  refine x_iconst hx hb dX11_byFelon_67 ?_
  refine x_icmp_ne (tgt := 75) hx hb rx32 (by decide) dX11_byFelon_68 (by decide) (fun c33 => ?_) (fun c33 => ?_)
  · skip
    refine x_iconst hx hb dX11_byFelon_75 ?_
    refine x_iast hx hb hE hW (by decide) (fun σ => sa_294 h0 g σ) ⟨by decide, by decide⟩ (by decide) (by decide) dX11_byFelon_76 (fun H locs s34 es34 hW => ?_)
    have q35 : s34 268 8 = s0 268 8 := (show s34 268 8 = s24 268 8 from by rw [es34, xU_k _ _ _ (by omega)]).trans q25
    have q36 : s34 268 58 = s0 268 58 := (show s34 268 58 = s24 268 58 from by rw [es34, xU_k _ _ _ (by omega)]).trans q26
    have q37 : IMn s34 := by rw [es34]; exact IMn_o (by unfold suIMn; omega) q27
    have q38 : IMk s34 := by rw [es34]; exact IMk_o (by unfold suIMk; omega) q28
    have q39 : IMo s34 := by rw [es34]; exact IMo_o (by unfold suIMo; omega) q29
    have hF40 := hF30.put es34 (by omega)
    refine x_aload_n hx hb hl 0 rfl dX11_byFelon_77 rfl ?_
    refine x_iload_n hx hb hl 1 rfl dX11_byFelon_78 rfl ?_
    refine x_iload_n hx hb hl 2 rfl dX11_byFelon_79 rfl ?_
    refine x_goi (x_runV (As := [.int (xJ q), .int (xJ w)]) hx hb hml hown hT hE hW hl.1 (Or.inl (by decide)) (so_268 h0 g _) rfl cf_X11_byLaw wq1577 wq137 wq1575 (c_X11_byLaw l D g T h0 s34 hW.2.1 q rq w rw q37 q38 q39) ⟨rfl, rfl, ⟨by decide, by decide⟩, ⟨by decide, by decide⟩⟩ rfl rfl (Nat.le_of_ble_eq_true rfl) dX11_byFelon_80) hW (fun x41 s42 H locs rx41 hp43 hW => ?_)
    obtain ⟨fs42, hp43⟩ := hp43
    have hF44 := hF40.call fs42 (fun k h => by omega)
    have q45 : s42 268 8 = s0 268 8 := (congrFun (fs42 _ (by omega)) _).trans q35
    have q46 : s42 268 58 = s0 268 58 := (congrFun (fs42 _ (by omega)) _).trans q36
    have ghp43 := hp43.2
    rw [eQ]
    exact x_iret hx hb hr hlk hW rx41 ⟨hF44, ⟨hp43.1.1, hp43.1.2.1, hp43.1.2.2.1, trivial⟩, by omega⟩ dX11_byFelon_83
  refine x_iconst hx hb dX11_byFelon_71 ?_
  refine lv_goto (tgt := 76) hx hb dX11_byFelon_72 (by decide) ?_
  refine x_iast hx hb hE hW (by decide) (fun σ => sa_294 h0 g σ) ⟨by decide, by decide⟩ (by decide) (by decide) dX11_byFelon_76 (fun H locs s47 es47 hW => ?_)
  have q48 : s47 268 8 = s0 268 8 := (show s47 268 8 = s24 268 8 from by rw [es47, xU_k _ _ _ (by omega)]).trans q25
  have q49 : s47 268 58 = s0 268 58 := (show s47 268 58 = s24 268 58 from by rw [es47, xU_k _ _ _ (by omega)]).trans q26
  have q50 : IMn s47 := by rw [es47]; exact IMn_o (by unfold suIMn; omega) q27
  have q51 : IMk s47 := by rw [es47]; exact IMk_o (by unfold suIMk; omega) q28
  have q52 : IMo s47 := by rw [es47]; exact IMo_o (by unfold suIMo; omega) q29
  have hF53 := hF30.put es47 (by omega)
  refine x_aload_n hx hb hl 0 rfl dX11_byFelon_77 rfl ?_
  refine x_iload_n hx hb hl 1 rfl dX11_byFelon_78 rfl ?_
  refine x_iload_n hx hb hl 2 rfl dX11_byFelon_79 rfl ?_
  refine x_goi (x_runV (As := [.int (xJ q), .int (xJ w)]) hx hb hml hown hT hE hW hl.1 (Or.inl (by decide)) (so_268 h0 g _) rfl cf_X11_byLaw wq1577 wq137 wq1575 (c_X11_byLaw l D g T h0 s47 hW.2.1 q rq w rw q50 q51 q52) ⟨rfl, rfl, ⟨by decide, by decide⟩, ⟨by decide, by decide⟩⟩ rfl rfl (Nat.le_of_ble_eq_true rfl) dX11_byFelon_80) hW (fun x54 s55 H locs rx54 hp56 hW => ?_)
  obtain ⟨fs55, hp56⟩ := hp56
  have hF57 := hF53.call fs55 (fun k h => by omega)
  have q58 : s55 268 8 = s0 268 8 := (congrFun (fs55 _ (by omega)) _).trans q48
  have q59 : s55 268 58 = s0 268 58 := (congrFun (fs55 _ (by omega)) _).trans q49
  have ghp56 := hp56.2
  rw [eQ]
  exact x_iret hx hb hr hlk hW rx54 ⟨hF57, ⟨hp56.1.1, hp56.1.2.1, hp56.1.2.2.1, trivial⟩, by omega⟩ dX11_byFelon_83
set_option maxHeartbeats 4000000 in
set_option maxRecDepth 100000 in
theorem c_X11_fallsOf (l : Launch) (D : va_G) (g : xG) (T : Nat × Nat × Nat) (h0 : Nat) (s0 : xS) (hσ : xRR s0) (j : Int) (rj : xR j) (t : Int) (rt : xR t) (hj : 0 ≤ j ∧ j < 2) (p0 : IMn s0) (p1 : IMk s0) (p2 : IMo s0) : Met l yX11_fallsOf (xws yX11_fallsOf cX11_fallsOf 4 none) { frames := 4, cells := 0, slots := 0, locals := 91 } (xP [.ref (h0 + 268), .int (xJ j), .int (xJ t)] D g T h0 s0) (xQv D g h0 (fun τ => xFr (fun k => k = 293 ∨ k = 294 ∨ k = 295) s0 τ ∧ (((IMn τ) ∧ (IMk τ) ∧ (IMo τ) ∧ True) ∧ (True)))) 0 0 (xA h0) := by
  refine x_met hσ (by decide) (Nat.le_of_ble_eq_true rfl) ?_
  intro p e s m args below meth c hx hb hr hml hown hT hlk hnm hE hW ls hl
  have hl : lv_has ls 4 [(0, .ref (h0 + 268)), (1, .int (xJ j)), (2, .int (xJ t))] := hl
  obtain ⟨Q, eQ⟩ : ∃ Q, Q = MQ below (xQv D g h0 (fun τ => xFr (fun k => k = 293 ∨ k = 294 ∨ k = 295) s0 τ ∧ (((IMn τ) ∧ (IMk τ) ∧ (IMo τ) ∧ True) ∧ (True)))) args s 0 0 (xA h0) := ⟨_, rfl⟩
  rw [← eQ]
  generalize hHe : ([] : List Loc) = locs at hW ⊢
  obtain ⟨H, eH⟩ : ∃ H, H = s.heap := ⟨_, rfl⟩
  rw [← eH] at hW ⊢
  have hF : xFr (fun k => k = 293 ∨ k = 294 ∨ k = 295) s0 s0 := xFr.rf
  have k268_8 : s0 268 8 = s0 268 8 := rfl
  have k268_58 : s0 268 58 = s0 268 58 := rfl
  refine x_aload_n hx hb hl 0 rfl dX11_fallsOf_0 rfl ?_
  refine x_iload_n hx hb hl 2 rfl dX11_fallsOf_1 rfl ?_
  refine x_gov (x_runV (As := [.int (xJ t)]) hx hb hml hown hT hE hW hl.1 (Or.inl (by decide)) (so_268 h0 g _) rfl cf_X11_feels wq1573 wq136 wq1571 (c_X11_feels l D g T h0 s0 hW.2.1 t rt p0 p1 p2) ⟨rfl, rfl, ⟨by decide, by decide⟩, ⟨by decide, by decide⟩⟩ rfl rfl (Nat.le_of_ble_eq_true rfl) dX11_fallsOf_2) hW (fun s2 H locs hp3 hW => ?_)
  obtain ⟨fs2, hp3⟩ := hp3
  have hF4 := hF.call fs2 (fun k h => by omega)
  have q5 : s2 268 8 = s0 268 8 := (congrFun (fs2 _ (by omega)) _).trans k268_8
  have q6 : s2 268 58 = s0 268 58 := (congrFun (fs2 _ (by omega)) _).trans k268_58
  have ghp3 := hp3.2
  refine x_aload_n hx hb hl 0 rfl dX11_fallsOf_5 rfl ?_
  refine x_get (j := 39) (v := .ref (h0 + 294)) hx hb hown hT hE hW cls_X11 (Or.inl (by decide)) (so_268 h0 g _) (by decide) rfl wq1224 dX11_fallsOf_6 ?_
  refine x_iconst hx hb dX11_fallsOf_9 ?_
  refine x_iload_n hx hb hl 1 rfl dX11_fallsOf_10 rfl ?_
  refine x_iast hx hb hE hW (by decide) (fun σ => sa_294 h0 g σ) ⟨by decide, by decide⟩ (by decide) rj dX11_fallsOf_11 (fun H locs s7 es7 hW => ?_)
  have q8 : s7 268 8 = s0 268 8 := (show s7 268 8 = s2 268 8 from by rw [es7, xU_k _ _ _ (by omega)]).trans q5
  have q9 : s7 268 58 = s0 268 58 := (show s7 268 58 = s2 268 58 from by rw [es7, xU_k _ _ _ (by omega)]).trans q6
  have q10 : IMn s7 := by rw [es7]; exact IMn_o (by unfold suIMn; omega) hp3.1.1
  have q11 : IMk s7 := by rw [es7]; exact IMk_o (by unfold suIMk; omega) hp3.1.2.1
  have q12 : IMo s7 := by rw [es7]; exact IMo_o (by unfold suIMo; omega) hp3.1.2.2.1
  have hF13 := hF4.put es7 (by omega)
  refine x_aload_n hx hb hl 0 rfl dX11_fallsOf_12 rfl ?_
  refine x_bipush hx hb dX11_fallsOf_13 (by decide) ?_
  refine x_bipush hx hb dX11_fallsOf_15 (by decide) ?_
  refine x_goi (x_runV (As := [.int (xJ 97), .int (xJ 7)]) hx hb hml hown hT hE hW hl.1 (Or.inl (by decide)) (so_268 h0 g _) rfl cf_X11_byLaw wq1577 wq137 wq1575 (c_X11_byLaw l D g T h0 s7 hW.2.1 97 (by decide) 7 (by decide) q10 q11 q12) ⟨rfl, rfl, ⟨by decide, by decide⟩, ⟨by decide, by decide⟩⟩ rfl rfl (Nat.le_of_ble_eq_true rfl) dX11_fallsOf_17) hW (fun x14 s15 H locs rx14 hp16 hW => ?_)
  obtain ⟨fs15, hp16⟩ := hp16
  have hF17 := hF13.call fs15 (fun k h => by omega)
  have q18 : s15 268 8 = s0 268 8 := (congrFun (fs15 _ (by omega)) _).trans q8
  have q19 : s15 268 58 = s0 268 58 := (congrFun (fs15 _ (by omega)) _).trans q9
  have ghp16 := hp16.2
  refine lv_istore_n (lv' := [(3, .int (xJ x14)), (0, .ref (h0 + 268)), (1, .int (xJ j)), (2, .int (xJ t))]) hx hb dX11_fallsOf_20 rfl hl (by decide) rfl (fun ls hl => ?_)
  refine x_aload_n hx hb hl 1 rfl dX11_fallsOf_21 rfl ?_
  refine x_aload_n hx hb hl 1 rfl dX11_fallsOf_22 rfl ?_
  refine x_get (j := 0) (v := .ref (h0 + 269)) hx hb hown hT hE hW cls_X11 (Or.inl (by decide)) (so_268 h0 g _) (by decide) rfl wq1185 dX11_fallsOf_23 ?_
  refine x_iconst hx hb dX11_fallsOf_26 ?_
  refine x_iload_n hx hb hl 2 rfl dX11_fallsOf_27 rfl ?_
  refine x_iadd hx hb dX11_fallsOf_28 ?_
  refine x_iald hx hb hE hW (Or.inl (by decide)) (sa_269 h0 g _) (by omega) (by decide) dX11_fallsOf_29 ?_
  refine x_rd hW (fun x20 ex20 rx20 => ?_)
  have bx20 : 0 ≤ x20 ∧ x20 ≤ 99 := by rw [ex20]; exact (IMn.n1 hp16.1.1).1 _ (by omega) (by omega)
  refine x_iload_n hx hb hl 0 rfl dX11_fallsOf_30 rfl ?_
  refine x_aload_n hx hb hl 1 rfl dX11_fallsOf_31 rfl ?_
  refine x_bipush hx hb dX11_fallsOf_32 (by decide) ?_
  refine x_bipush hx hb dX11_fallsOf_34 (by decide) ?_
  refine x_goi (x_runV (As := [.int (xJ 108), .int (xJ 9)]) hx hb hml hown hT hE hW hl.1 (Or.inl (by decide)) (so_268 h0 g _) rfl cf_X11_byLaw wq1577 wq137 wq1575 (c_X11_byLaw l D g T h0 s15 hW.2.1 108 (by decide) 9 (by decide) hp16.1.1 hp16.1.2.1 hp16.1.2.2.1) ⟨rfl, rfl, ⟨by decide, by decide⟩, ⟨by decide, by decide⟩⟩ rfl rfl (Nat.le_of_ble_eq_true rfl) dX11_fallsOf_36) hW (fun x21 s22 H locs rx21 hp23 hW => ?_)
  obtain ⟨fs22, hp23⟩ := hp23
  have hF24 := hF17.call fs22 (fun k h => by omega)
  have q25 : s22 268 8 = s0 268 8 := (congrFun (fs22 _ (by omega)) _).trans q18
  have q26 : s22 268 58 = s0 268 58 := (congrFun (fs22 _ (by omega)) _).trans q19
  have ghp23 := hp23.2
  refine x_gov (x_runV (As := [.int (xJ x20), .int (xJ x14), .int (xJ x21)]) hx hb hml hown hT hE hW hl.1 (Or.inl (by decide)) (so_268 h0 g _) rfl cf_X11_falls wq1600 wq142 wq1598 (c_X11_falls l D g T h0 s22 hW.2.1 x20 rx20 x14 rx14 x21 rx21 (by omega) hp23.1.1 hp23.1.2.1 hp23.1.2.2.1) ⟨rfl, rfl, ⟨by decide, by decide⟩, ⟨by decide, by decide⟩⟩ rfl rfl (Nat.le_of_ble_eq_true rfl) dX11_fallsOf_39) hW (fun s28 H locs hp29 hW => ?_)
  obtain ⟨fs28, hp29⟩ := hp29
  have hF30 := hF24.call fs28 (fun k h => by omega)
  have q31 : s28 268 8 = s0 268 8 := (congrFun (fs28 _ (by omega)) _).trans q25
  have q32 : s28 268 58 = s0 268 58 := (congrFun (fs28 _ (by omega)) _).trans q26
  have ghp29 := hp29.2
  rw [eQ]
  exact x_vret hx hb hr hlk hW ⟨hF30, ⟨hp29.1.1, hp29.1.2.1, hp29.1.2.2.1, trivial⟩, trivial⟩ dX11_fallsOf_42
set_option maxHeartbeats 4000000 in
set_option maxRecDepth 100000 in
theorem c_X11_laysShades (l : Launch) (D : va_G) (g : xG) (T : Nat × Nat × Nat) (h0 : Nat) (s0 : xS) (hσ : xRR s0) (t : Int) (rt : xR t) (b : Int) (rb : xR b) (p0 : IMn s0) (p1 : IMk s0) (p2 : IMo s0) : Met l yX11_laysShades (xws yX11_laysShades cX11_laysShades 4 none) { frames := 6, cells := 0, slots := 0, locals := 139 } (xP [.ref (h0 + 268), .int (xJ t), .int (xJ b)] D g T h0 s0) (xQv D g h0 (fun τ => xFr (fun k => k = 293 ∨ k = 294 ∨ k = 295) s0 τ ∧ (((IMn τ) ∧ (IMk τ) ∧ (IMo τ) ∧ True) ∧ (True)))) 0 0 (xA h0) := by
  refine x_met hσ (by decide) (Nat.le_of_ble_eq_true rfl) ?_
  intro p e s m args below meth c hx hb hr hml hown hT hlk hnm hE hW ls hl
  have hl : lv_has ls 4 [(0, .ref (h0 + 268)), (1, .int (xJ t)), (2, .int (xJ b))] := hl
  obtain ⟨Q, eQ⟩ : ∃ Q, Q = MQ below (xQv D g h0 (fun τ => xFr (fun k => k = 293 ∨ k = 294 ∨ k = 295) s0 τ ∧ (((IMn τ) ∧ (IMk τ) ∧ (IMo τ) ∧ True) ∧ (True)))) args s 0 0 (xA h0) := ⟨_, rfl⟩
  rw [← eQ]
  generalize hHe : ([] : List Loc) = locs at hW ⊢
  obtain ⟨H, eH⟩ : ∃ H, H = s.heap := ⟨_, rfl⟩
  rw [← eH] at hW ⊢
  have hF : xFr (fun k => k = 293 ∨ k = 294 ∨ k = 295) s0 s0 := xFr.rf
  have k268_8 : s0 268 8 = s0 268 8 := rfl
  have k268_58 : s0 268 58 = s0 268 58 := rfl
  refine x_aload_n hx hb hl 0 rfl dX11_laysShades_0 rfl ?_
  refine x_gov (x_runV (As := []) hx hb hml hown hT hE hW hl.1 (Or.inl (by decide)) (so_268 h0 g _) rfl cf_X11_bares wq1592 wq140 wq1590 (c_X11_bares l D g T h0 s0 hW.2.1 p0 p1 p2) ⟨rfl, rfl, ⟨by decide, by decide⟩, ⟨by decide, by decide⟩⟩ rfl rfl (Nat.le_of_ble_eq_true rfl) dX11_laysShades_1) hW (fun s2 H locs hp3 hW => ?_)
  obtain ⟨fs2, hp3⟩ := hp3
  have hF4 := hF.call fs2 (fun k h => by omega)
  have q5 : s2 268 8 = s0 268 8 := (congrFun (fs2 _ (by omega)) _).trans k268_8
  have q6 : s2 268 58 = s0 268 58 := (congrFun (fs2 _ (by omega)) _).trans k268_58
  have ghp3 := hp3.2
  refine x_iconst hx hb dX11_laysShades_4 ?_
  refine lv_istore_n (lv' := [(3, .int (xJ 0)), (0, .ref (h0 + 268)), (1, .int (xJ t)), (2, .int (xJ b))]) hx hb dX11_laysShades_5 rfl hl (by decide) rfl (fun ls hl => ?_)
  have L6 : ∀ (fu : Nat) (i3_6 : Int) (s_6 : xS) (H : Heap) (locs : List Loc) (ls : Array Slot), (xR i3_6) → (xFr (fun k => k = 293 ∨ k = 294 ∨ k = 295) s0 s_6) → (s_6 268 8 = s0 268 8) → (s_6 268 58 = s0 268 58) → (IMn s_6) → (IMk s_6) → (IMo s_6) → (0 ≤ i3_6) → (i3_6 ≤ 2) → (2 + 1 - i3_6).toNat < fu → xW D g h0 s H locs s_6 → lv_has ls 4 [(0, .ref (h0 + 268)), (1, .int (xJ t)), (2, .int (xJ b)), (3, .int (xJ i3_6))] → W p l e { frames := 6, cells := 0, slots := 0, locals := 139 } s m args below meth c H locs 0 0 Q (F0 m 6 ls []) := by
    intro fu
    induction fu with
    | zero => intro i3_6 s_6 H locs ls ri3_6 hF_6 q6_0 q6_1 q6_2 q6_3 q6_4 v6_0 v6_1 hm; exact absurd hm (Nat.not_lt_zero _)
    | succ fu ih6 =>
      intro i3_6 s_6 H locs ls ri3_6 hF_6 q6_0 q6_1 q6_2 q6_3 q6_4 v6_0 v6_1 hm hW hl
      refine x_iload_n hx hb hl 3 rfl dX11_laysShades_6 rfl ?_
      refine x_iconst hx hb dX11_laysShades_7 ?_
      refine x_icmp_ge (tgt := 35) hx hb ri3_6 (by decide) dX11_laysShades_8 (by decide) (fun c7 => ?_) (fun c7 => ?_)
      · skip
        refine x_aload_n hx hb hl 0 rfl dX11_laysShades_35 rfl ?_
        refine x_iload_n hx hb hl 1 rfl dX11_laysShades_36 rfl ?_
        refine x_goi (x_runV (As := [.int (xJ t)]) hx hb hml hown hT hE hW hl.1 (Or.inl (by decide)) (so_268 h0 g _) rfl cf_X11_isNight wq1604 wq143 wq1602 (c_X11_isNight l D g T h0 s_6 hW.2.1 t rt q6_2 q6_3 q6_4) ⟨rfl, rfl, ⟨by decide, by decide⟩, ⟨by decide, by decide⟩⟩ rfl rfl (Nat.le_of_ble_eq_true rfl) dX11_laysShades_37) hW (fun x8 s9 H locs rx8 hp10 hW => ?_)
        obtain ⟨fs9, hp10⟩ := hp10
        have hF11 := hF_6.call fs9 (fun k h => by omega)
        have q12 : s9 268 8 = s0 268 8 := (congrFun (fs9 _ (by omega)) _).trans q6_0
        have q13 : s9 268 58 = s0 268 58 := (congrFun (fs9 _ (by omega)) _).trans q6_1
        have ghp10 := hp10.2
        refine x_if_eq (tgt := 47) hx hb rx8 dX11_laysShades_40 (by decide) (fun c14 => ?_) (fun c14 => ?_)
        · skip
          rw [eQ]
          exact x_vret hx hb hr hlk hW ⟨hF11, ⟨hp10.1.1, hp10.1.2.1, hp10.1.2.2.1, trivial⟩, trivial⟩ dX11_laysShades_47
        refine x_aload_n hx hb hl 0 rfl dX11_laysShades_43 rfl ?_
        refine x_gov (x_runV (As := []) hx hb hml hown hT hE hW hl.1 (Or.inl (by decide)) (so_268 h0 g _) rfl cf_X11_fallsByLamps wq1608 wq144 wq1606 (c_X11_fallsByLamps l D g T h0 s9 hW.2.1 hp10.1.1 hp10.1.2.1 hp10.1.2.2.1) ⟨rfl, rfl, ⟨by decide, by decide⟩, ⟨by decide, by decide⟩⟩ rfl rfl (Nat.le_of_ble_eq_true rfl) dX11_laysShades_44) hW (fun s16 H locs hp17 hW => ?_)
        obtain ⟨fs16, hp17⟩ := hp17
        have hF18 := hF11.call fs16 (fun k h => by omega)
        have q19 : s16 268 8 = s0 268 8 := (congrFun (fs16 _ (by omega)) _).trans q12
        have q20 : s16 268 58 = s0 268 58 := (congrFun (fs16 _ (by omega)) _).trans q13
        have ghp17 := hp17.2
        rw [eQ]
        exact x_vret hx hb hr hlk hW ⟨hF18, ⟨hp17.1.1, hp17.1.2.1, hp17.1.2.2.1, trivial⟩, trivial⟩ dX11_laysShades_47
      refine x_aload_n hx hb hl 0 rfl dX11_laysShades_11 rfl ?_
      refine x_iload_n hx hb hl 3 rfl dX11_laysShades_12 rfl ?_
      refine x_goi (x_runV (As := [.int (xJ i3_6)]) hx hb hml hown hT hE hW hl.1 (Or.inl (by decide)) (so_268 h0 g _) rfl cf_X11_isJudge wq1409 wq109 wq1407 (c_X11_isJudge l D g T h0 s_6 hW.2.1 i3_6 ri3_6 q6_2 q6_3 q6_4) ⟨rfl, rfl, ⟨by decide, by decide⟩, ⟨by decide, by decide⟩⟩ rfl rfl (Nat.le_of_ble_eq_true rfl) dX11_laysShades_13) hW (fun x21 s22 H locs rx21 hp23 hW => ?_)
      obtain ⟨es22, hp23⟩ := hp23
      subst es22
      have ghp23 := hp23
      refine x_if_eq (tgt := 29) hx hb rx21 dX11_laysShades_16 (by decide) (fun c24 => ?_) (fun c24 => ?_)
      · skip
        refine x_iinc (lv' := [(3, .int (xJ (i3_6 + 1))), (0, .ref (h0 + 268)), (1, .int (xJ t)), (2, .int (xJ b))]) hx hb hl 3 rfl dX11_laysShades_29 (by decide) rfl (fun ls hl => ?_)
        refine lv_goto (tgt := 6) hx hb dX11_laysShades_32 (by decide) ?_
        exact ih6 (i3_6 + 1) s_6 H locs ls (by omega) hF_6 q6_0 q6_1 q6_2 q6_3 q6_4 (by omega) (by omega) (by omega) hW (lv_sub hl [1, 2, 3, 0] rfl)
      refine x_iload_n hx hb hl 2 rfl dX11_laysShades_19 rfl ?_
      refine x_if_ne (tgt := 29) hx hb rb dX11_laysShades_20 (by decide) (fun c25 => ?_) (fun c25 => ?_)
      · skip
        refine x_iinc (lv' := [(3, .int (xJ (i3_6 + 1))), (0, .ref (h0 + 268)), (1, .int (xJ t)), (2, .int (xJ b))]) hx hb hl 3 rfl dX11_laysShades_29 (by decide) rfl (fun ls hl => ?_)
        refine lv_goto (tgt := 6) hx hb dX11_laysShades_32 (by decide) ?_
        exact ih6 (i3_6 + 1) s_6 H locs ls (by omega) hF_6 q6_0 q6_1 q6_2 q6_3 q6_4 (by omega) (by omega) (by omega) hW (lv_sub hl [1, 2, 3, 0] rfl)
      refine x_aload_n hx hb hl 0 rfl dX11_laysShades_23 rfl ?_
      refine x_iload_n hx hb hl 3 rfl dX11_laysShades_24 rfl ?_
      refine x_iload_n hx hb hl 1 rfl dX11_laysShades_25 rfl ?_
      refine x_gov (x_runV (As := [.int (xJ i3_6), .int (xJ t)]) hx hb hml hown hT hE hW hl.1 (Or.inl (by decide)) (so_268 h0 g _) rfl cf_X11_fallsOf wq1596 wq141 wq1594 (c_X11_fallsOf l D g T h0 s_6 hW.2.1 i3_6 ri3_6 t rt (by omega) q6_2 q6_3 q6_4) ⟨rfl, rfl, ⟨by decide, by decide⟩, ⟨by decide, by decide⟩⟩ rfl rfl (Nat.le_of_ble_eq_true rfl) dX11_laysShades_26) hW (fun s27 H locs hp28 hW => ?_)
      obtain ⟨fs27, hp28⟩ := hp28
      have hF29 := hF_6.call fs27 (fun k h => by omega)
      have q30 : s27 268 8 = s0 268 8 := (congrFun (fs27 _ (by omega)) _).trans q6_0
      have q31 : s27 268 58 = s0 268 58 := (congrFun (fs27 _ (by omega)) _).trans q6_1
      have ghp28 := hp28.2
      refine x_iinc (lv' := [(3, .int (xJ (i3_6 + 1))), (0, .ref (h0 + 268)), (1, .int (xJ t)), (2, .int (xJ b))]) hx hb hl 3 rfl dX11_laysShades_29 (by decide) rfl (fun ls hl => ?_)
      refine lv_goto (tgt := 6) hx hb dX11_laysShades_32 (by decide) ?_
      exact ih6 (i3_6 + 1) s27 H locs ls (by omega) hF29 q30 q31 hp28.1.1 hp28.1.2.1 hp28.1.2.2.1 (by omega) (by omega) (by omega) hW (lv_sub hl [1, 2, 3, 0] rfl)
  exact L6 ((2 + 1 - 0 : Int).toNat + 1) 0 s2 H locs ls (by decide) hF4 q5 q6 hp3.1.1 hp3.1.2.1 hp3.1.2.2.1 (by omega) (by omega) (Nat.lt_succ_self _) hW (lv_sub hl [1, 2, 3, 0] rfl)
set_option maxHeartbeats 4000000 in
set_option maxRecDepth 100000 in
theorem c_X11_laysOrder (l : Launch) (D : va_G) (g : xG) (T : Nat × Nat × Nat) (h0 : Nat) (s0 : xS) (hσ : xRR s0) (p0 : IMn s0) (p1 : IMk s0) (p2 : IMo s0) : Met l yX11_laysOrder (xws yX11_laysOrder cX11_laysOrder 4 (some .int)) { frames := 4, cells := 0, slots := 0, locals := 96 } (xP [.ref (h0 + 268)] D g T h0 s0) (xQi D g h0 (fun r τ => xFr (fun k => k = 293 ∨ k = 294 ∨ k = 297 ∨ k = 298) s0 τ ∧ (((IMn τ) ∧ (IMk τ) ∧ (IMo τ) ∧ True) ∧ (0 ≤ r ∧ r ≤ 10)))) 0 0 (xA h0) := by
  refine x_met hσ (by decide) (Nat.le_of_ble_eq_true rfl) ?_
  intro p e s m args below meth c hx hb hr hml hown hT hlk hnm hE hW ls hl
  have hl : lv_has ls 4 [(0, .ref (h0 + 268))] := hl
  obtain ⟨Q, eQ⟩ : ∃ Q, Q = MQ below (xQi D g h0 (fun r τ => xFr (fun k => k = 293 ∨ k = 294 ∨ k = 297 ∨ k = 298) s0 τ ∧ (((IMn τ) ∧ (IMk τ) ∧ (IMo τ) ∧ True) ∧ (0 ≤ r ∧ r ≤ 10)))) args s 0 0 (xA h0) := ⟨_, rfl⟩
  rw [← eQ]
  generalize hHe : ([] : List Loc) = locs at hW ⊢
  obtain ⟨H, eH⟩ : ∃ H, H = s.heap := ⟨_, rfl⟩
  rw [← eH] at hW ⊢
  have hF : xFr (fun k => k = 293 ∨ k = 294 ∨ k = 297 ∨ k = 298) s0 s0 := xFr.rf
  have k268_8 : s0 268 8 = s0 268 8 := rfl
  have k268_58 : s0 268 58 = s0 268 58 := rfl
  refine x_iconst hx hb dX11_laysOrder_0 ?_
  refine lv_istore_n (lv' := [(1, .int (xJ 0)), (0, .ref (h0 + 268))]) hx hb dX11_laysOrder_1 rfl hl (by decide) rfl (fun ls hl => ?_)
  refine x_iconst hx hb dX11_laysOrder_2 ?_
  refine lv_istore_n (lv' := [(2, .int (xJ 0)), (1, .int (xJ 0)), (0, .ref (h0 + 268))]) hx hb dX11_laysOrder_3 rfl hl (by decide) rfl (fun ls hl => ?_)
  have L4 : ∀ (fu : Nat) (i1_4 : Int) (i2_4 : Int) (s_4 : xS) (H : Heap) (locs : List Loc) (ls : Array Slot), (xR i1_4) → (xR i2_4) → (xFr (fun k => k = 293 ∨ k = 294 ∨ k = 297 ∨ k = 298) s0 s_4) → (IMn s_4) → (IMk s_4) → (IMo s_4) → (s_4 268 8 = s0 268 8) → (s_4 268 58 = s0 268 58) → (0 ≤ i2_4) → (i2_4 ≤ 10) → (0 ≤ i1_4 ∧ i1_4 ≤ i2_4) → (10 + 1 - i2_4).toNat < fu → xW D g h0 s H locs s_4 → lv_has ls 4 [(0, .ref (h0 + 268)), (1, .int (xJ i1_4)), (2, .int (xJ i2_4))] → W p l e { frames := 4, cells := 0, slots := 0, locals := 96 } s m args below meth c H locs 0 0 Q (F0 m 4 ls []) := by
    intro fu
    induction fu with
    | zero => intro i1_4 i2_4 s_4 H locs ls ri1_4 ri2_4 hF_4 q4_0 q4_1 q4_2 q4_3 q4_4 v4_0 v4_1 v4_2 hm; exact absurd hm (Nat.not_lt_zero _)
    | succ fu ih4 =>
      intro i1_4 i2_4 s_4 H locs ls ri1_4 ri2_4 hF_4 q4_0 q4_1 q4_2 q4_3 q4_4 v4_0 v4_1 v4_2 hm hW hl
      refine x_iload_n hx hb hl 2 rfl dX11_laysOrder_4 rfl ?_
      refine x_bipush hx hb dX11_laysOrder_5 (by decide) ?_
      refine x_icmp_ge (tgt := 117) hx hb ri2_4 (by decide) dX11_laysOrder_7 (by decide) (fun c1 => ?_) (fun c1 => ?_)
      · skip
        refine x_iload_n hx hb hl 1 rfl dX11_laysOrder_117 rfl ?_
        rw [eQ]
        exact x_iret hx hb hr hlk hW ri1_4 ⟨hF_4, ⟨q4_0, q4_1, q4_2, trivial⟩, by omega⟩ dX11_laysOrder_118
      refine x_aload_n hx hb hl 0 rfl dX11_laysOrder_10 rfl ?_
      refine x_iload_n hx hb hl 2 rfl dX11_laysOrder_11 rfl ?_
      refine x_goi (x_runV (As := [.int (xJ i2_4)]) hx hb hml hown hT hE hW hl.1 (Or.inl (by decide)) (so_268 h0 g _) rfl cf_X11_owes wq1620 wq147 wq1618 (c_X11_owes l D g T h0 s_4 hW.2.1 i2_4 ri2_4 q4_0 q4_1 q4_2) ⟨rfl, rfl, ⟨by decide, by decide⟩, ⟨by decide, by decide⟩⟩ rfl rfl (Nat.le_of_ble_eq_true rfl) dX11_laysOrder_12) hW (fun x2 s3 H locs rx2 hp4 hW => ?_)
      obtain ⟨es3, hp4⟩ := hp4
      subst es3
      have ghp4 := hp4
      have J111 : ∀ (i1_111 : Int) (s_111 : xS) (H : Heap) (locs : List Loc) (ls : Array Slot), (xR i1_111) → (xFr (fun k => k = 293 ∨ k = 294 ∨ k = 297 ∨ k = 298) s0 s_111) → (IMn s_111) → (IMk s_111) → (IMo s_111) → (s_111 268 8 = s0 268 8) → (s_111 268 58 = s0 268 58) → (0 ≤ i1_111 ∧ i1_111 ≤ i2_4 + 1) → xW D g h0 s H locs s_111 → lv_has ls 4 [(0, .ref (h0 + 268)), (1, .int (xJ i1_111)), (2, .int (xJ i2_4))] → W p l e { frames := 4, cells := 0, slots := 0, locals := 96 } s m args below meth c H locs 0 0 Q (F0 m 111 ls []) := by
        intro i1_111 s_111 H locs ls ri1_111 hF_111 q111_0 q111_1 q111_2 q111_3 q111_4 v111_0 hW hl
        refine x_iinc (lv' := [(2, .int (xJ (i2_4 + 1))), (0, .ref (h0 + 268)), (1, .int (xJ i1_111))]) hx hb hl 2 rfl dX11_laysOrder_111 (by decide) rfl (fun ls hl => ?_)
        refine lv_goto (tgt := 4) hx hb dX11_laysOrder_114 (by decide) ?_
        exact ih4 i1_111 (i2_4 + 1) s_111 H locs ls ri1_111 (by omega) hF_111 q111_0 q111_1 q111_2 q111_3 q111_4 (by omega) (by omega) (by omega) (by omega) hW (lv_sub hl [1, 2, 0] rfl)
      refine x_if_ne (tgt := 21) hx hb rx2 dX11_laysOrder_15 (by decide) (fun c5 => ?_) (fun c5 => ?_)
      · skip
        refine x_aload_n hx hb hl 0 rfl dX11_laysOrder_21 rfl ?_
        refine x_get (j := 47) (v := .ref (h0 + 298)) hx hb hown hT hE hW cls_X11 (Or.inl (by decide)) (so_268 h0 g _) (by decide) rfl wq1232 dX11_laysOrder_22 ?_
        refine x_iload_n hx hb hl 2 rfl dX11_laysOrder_25 rfl ?_
        refine x_iload_n hx hb hl 2 rfl dX11_laysOrder_26 rfl ?_
        refine x_aload_n hx hb hl 0 rfl dX11_laysOrder_27 rfl ?_
        refine x_get (j := 48) (v := .int (xJ (s_4 268 48))) hx hb hown hT hE hW cls_X11 (Or.inl (by decide)) (so_268 h0 g _) (by decide) rfl wq1233 dX11_laysOrder_28 ?_
        refine x_rd hW (fun x6 ex6 rx6 => ?_)
        have J50 : ∀ (t0_50 : Int) (s_50 : xS) (H : Heap) (locs : List Loc) (ls : Array Slot), (xR t0_50) → (xFr (fun k => k = 293 ∨ k = 294 ∨ k = 297 ∨ k = 298) s0 s_50) → (IMn s_50) → (IMk s_50) → (IMo s_50) → (s_50 268 8 = s0 268 8) → (s_50 268 58 = s0 268 58) → xW D g h0 s H locs s_50 → lv_has ls 4 [(0, .ref (h0 + 268)), (1, .int (xJ i1_4)), (2, .int (xJ i2_4))] → W p l e { frames := 4, cells := 0, slots := 0, locals := 96 } s m args below meth c H locs 0 0 Q (F0 m 50 ls [.int (xJ t0_50), .int (xJ i2_4), .ref (h0 + 298)]) := by
          intro t0_50 s_50 H locs ls rt0_50 hF_50 q50_0 q50_1 q50_2 q50_3 q50_4 hW hl
          refine x_iast hx hb hE hW (by decide) (fun σ => sa_298 h0 g σ) (by omega) (by decide) rt0_50 dX11_laysOrder_50 (fun H locs s7 es7 hW => ?_)
          have q8 : IMn s7 := by rw [es7]; exact IMn_o (by unfold suIMn; omega) q50_0
          have q9 : IMk s7 := by rw [es7]; exact IMk_o (by unfold suIMk; omega) q50_1
          have q10 : IMo s7 := by rw [es7]; exact IMo_o (by unfold suIMo; omega) q50_2
          have q11 : s7 268 8 = s0 268 8 := (show s7 268 8 = s_50 268 8 from by rw [es7, xU_k _ _ _ (by omega)]).trans q50_3
          have q12 : s7 268 58 = s0 268 58 := (show s7 268 58 = s_50 268 58 from by rw [es7, xU_k _ _ _ (by omega)]).trans q50_4
          have hF13 := hF_50.put es7 (by omega)
          refine x_iload_n hx hb hl 1 rfl dX11_laysOrder_51 rfl ?_
          refine lv_istore_n (lv' := [(3, .int (xJ i1_4)), (0, .ref (h0 + 268)), (1, .int (xJ i1_4)), (2, .int (xJ i2_4))]) hx hb dX11_laysOrder_52 rfl hl (by decide) rfl (fun ls hl => ?_)
          have L53 : ∀ (fu : Nat) (i3_53 : Int) (s_53 : xS) (H : Heap) (locs : List Loc) (ls : Array Slot), (xR i3_53) → (xFr (fun k => k = 293 ∨ k = 294 ∨ k = 297 ∨ k = 298) s0 s_53) → (IMn s_53) → (IMk s_53) → (IMo s_53) → (s_53 268 8 = s0 268 8) → (s_53 268 58 = s0 268 58) → (0 ≤ i3_53 ∧ i3_53 ≤ i1_4) → (i3_53).toNat < fu → xW D g h0 s H locs s_53 → lv_has ls 4 [(0, .ref (h0 + 268)), (1, .int (xJ i1_4)), (2, .int (xJ i2_4)), (3, .int (xJ i3_53))] → W p l e { frames := 4, cells := 0, slots := 0, locals := 96 } s m args below meth c H locs 0 0 Q (F0 m 53 ls []) := by
            intro fu
            induction fu with
            | zero => intro i3_53 s_53 H locs ls ri3_53 hF_53 q53_0 q53_1 q53_2 q53_3 q53_4 v53_0 hm; exact absurd hm (Nat.not_lt_zero _)
            | succ fu ih53 =>
              intro i3_53 s_53 H locs ls ri3_53 hF_53 q53_0 q53_1 q53_2 q53_3 q53_4 v53_0 hm hW hl
              refine x_iload_n hx hb hl 3 rfl dX11_laysOrder_53 rfl ?_
              have J100 : ∀ (ls : Array Slot), (0 ≤ i3_53 ∧ i3_53 ≤ i1_4) → lv_has ls 4 [(0, .ref (h0 + 268)), (1, .int (xJ i1_4)), (2, .int (xJ i2_4)), (3, .int (xJ i3_53))] → W p l e { frames := 4, cells := 0, slots := 0, locals := 96 } s m args below meth c H locs 0 0 Q (F0 m 100 ls []) := by
                intro ls v100_0  hl
                refine x_aload_n hx hb hl 0 rfl dX11_laysOrder_100 rfl ?_
                refine x_get (j := 46) (v := .ref (h0 + 297)) hx hb hown hT hE hW cls_X11 (Or.inl (by decide)) (so_268 h0 g _) (by decide) rfl wq1231 dX11_laysOrder_101 ?_
                refine x_iload_n hx hb hl 3 rfl dX11_laysOrder_104 rfl ?_
                refine x_iload_n hx hb hl 2 rfl dX11_laysOrder_105 rfl ?_
                refine x_iast hx hb hE hW (by decide) (fun σ => sa_297 h0 g σ) (by omega) (by decide) ri2_4 dX11_laysOrder_106 (fun H locs s14 es14 hW => ?_)
                have q15 : IMn s14 := by rw [es14]; exact IMn_o (by unfold suIMn; omega) q53_0
                have q16 : IMk s14 := by rw [es14]; exact IMk_o (by unfold suIMk; omega) q53_1
                have q17 : IMo s14 := by rw [es14]; exact IMo_297 q53_2 (by omega)
                have q18 : s14 268 8 = s0 268 8 := (show s14 268 8 = s_53 268 8 from by rw [es14, xU_k _ _ _ (by omega)]).trans q53_3
                have q19 : s14 268 58 = s0 268 58 := (show s14 268 58 = s_53 268 58 from by rw [es14, xU_k _ _ _ (by omega)]).trans q53_4
                have hF20 := hF_53.put es14 (by omega)
                refine x_iload_n hx hb hl 1 rfl dX11_laysOrder_107 rfl ?_
                refine x_iconst hx hb dX11_laysOrder_108 ?_
                refine x_iadd hx hb dX11_laysOrder_109 ?_
                refine x_nm (fun x21 ex21 => ?_)
                refine lv_istore_n (lv' := [(1, .int (xJ x21)), (0, .ref (h0 + 268)), (2, .int (xJ i2_4)), (3, .int (xJ i3_53))]) hx hb dX11_laysOrder_110 rfl hl (by decide) rfl (fun ls hl => ?_)
                exact J111 x21 s14 H locs ls (by omega) hF20 q15 q16 q17 q18 q19 (by omega) hW (lv_sub hl [1, 0, 2] rfl)
              refine x_if_le (tgt := 100) hx hb ri3_53 dX11_laysOrder_54 (by decide) (fun c22 => ?_) (fun c22 => ?_)
              · skip
                exact J100 ls (by omega)  (lv_sub hl [0, 1, 2, 3] rfl)
              refine x_aload_n hx hb hl 0 rfl dX11_laysOrder_57 rfl ?_
              refine x_get (j := 47) (v := .ref (h0 + 298)) hx hb hown hT hE hW cls_X11 (Or.inl (by decide)) (so_268 h0 g _) (by decide) rfl wq1232 dX11_laysOrder_58 ?_
              refine x_aload_n hx hb hl 0 rfl dX11_laysOrder_61 rfl ?_
              refine x_get (j := 46) (v := .ref (h0 + 297)) hx hb hown hT hE hW cls_X11 (Or.inl (by decide)) (so_268 h0 g _) (by decide) rfl wq1231 dX11_laysOrder_62 ?_
              refine x_iload_n hx hb hl 3 rfl dX11_laysOrder_65 rfl ?_
              refine x_iconst hx hb dX11_laysOrder_66 ?_
              refine x_isub hx hb dX11_laysOrder_67 ?_
              refine x_iald hx hb hE hW (Or.inl (by decide)) (sa_297 h0 g _) (by omega) (by decide) dX11_laysOrder_68 ?_
              refine x_rd hW (fun x23 ex23 rx23 => ?_)
              have bx23 : 0 ≤ x23 ∧ x23 ≤ 9 := by rw [ex23]; exact IMo.a q53_2 _ (by omega) (by omega)
              refine x_iald hx hb hE hW (Or.inl (by decide)) (sa_298 h0 g _) (by omega) (by decide) dX11_laysOrder_69 ?_
              refine x_rd hW (fun x24 ex24 rx24 => ?_)
              refine x_aload_n hx hb hl 0 rfl dX11_laysOrder_70 rfl ?_
              refine x_get (j := 47) (v := .ref (h0 + 298)) hx hb hown hT hE hW cls_X11 (Or.inl (by decide)) (so_268 h0 g _) (by decide) rfl wq1232 dX11_laysOrder_71 ?_
              refine x_iload_n hx hb hl 2 rfl dX11_laysOrder_74 rfl ?_
              refine x_iald hx hb hE hW (Or.inl (by decide)) (sa_298 h0 g _) (by omega) (by decide) dX11_laysOrder_75 ?_
              refine x_rd hW (fun x25 ex25 rx25 => ?_)
              refine x_icmp_ge (tgt := 100) hx hb rx24 rx25 dX11_laysOrder_76 (by decide) (fun c26 => ?_) (fun c26 => ?_)
              · skip
                exact J100 ls (by omega)  (lv_sub hl [0, 1, 2, 3] rfl)
              refine x_aload_n hx hb hl 0 rfl dX11_laysOrder_79 rfl ?_
              refine x_get (j := 46) (v := .ref (h0 + 297)) hx hb hown hT hE hW cls_X11 (Or.inl (by decide)) (so_268 h0 g _) (by decide) rfl wq1231 dX11_laysOrder_80 ?_
              refine x_iload_n hx hb hl 3 rfl dX11_laysOrder_83 rfl ?_
              refine x_aload_n hx hb hl 0 rfl dX11_laysOrder_84 rfl ?_
              refine x_get (j := 46) (v := .ref (h0 + 297)) hx hb hown hT hE hW cls_X11 (Or.inl (by decide)) (so_268 h0 g _) (by decide) rfl wq1231 dX11_laysOrder_85 ?_
              refine x_iload_n hx hb hl 3 rfl dX11_laysOrder_88 rfl ?_
              refine x_iconst hx hb dX11_laysOrder_89 ?_
              refine x_isub hx hb dX11_laysOrder_90 ?_
              refine x_iald hx hb hE hW (Or.inl (by decide)) (sa_297 h0 g _) (by omega) (by decide) dX11_laysOrder_91 ?_
              refine x_rd hW (fun x27 ex27 rx27 => ?_)
              have bx27 : 0 ≤ x27 ∧ x27 ≤ 9 := by rw [ex27]; exact IMo.a q53_2 _ (by omega) (by omega)
              refine x_iast hx hb hE hW (by decide) (fun σ => sa_297 h0 g σ) (by omega) (by decide) rx27 dX11_laysOrder_92 (fun H locs s28 es28 hW => ?_)
              have q29 : IMn s28 := by rw [es28]; exact IMn_o (by unfold suIMn; omega) q53_0
              have q30 : IMk s28 := by rw [es28]; exact IMk_o (by unfold suIMk; omega) q53_1
              have q31 : IMo s28 := by rw [es28]; exact IMo_297 q53_2 (by omega)
              have q32 : s28 268 8 = s0 268 8 := (show s28 268 8 = s_53 268 8 from by rw [es28, xU_k _ _ _ (by omega)]).trans q53_3
              have q33 : s28 268 58 = s0 268 58 := (show s28 268 58 = s_53 268 58 from by rw [es28, xU_k _ _ _ (by omega)]).trans q53_4
              have hF34 := hF_53.put es28 (by omega)
              refine x_iload_n hx hb hl 3 rfl dX11_laysOrder_93 rfl ?_
              refine x_iconst hx hb dX11_laysOrder_94 ?_
              refine x_isub hx hb dX11_laysOrder_95 ?_
              refine x_nm (fun x35 ex35 => ?_)
              refine lv_istore_n (lv' := [(3, .int (xJ x35)), (0, .ref (h0 + 268)), (1, .int (xJ i1_4)), (2, .int (xJ i2_4))]) hx hb dX11_laysOrder_96 rfl hl (by decide) rfl (fun ls hl => ?_)
              refine lv_goto (tgt := 53) hx hb dX11_laysOrder_97 (by decide) ?_
              exact ih53 x35 s28 H locs ls (by omega) hF34 q29 q30 q31 q32 q33 (by omega) (by omega) hW (lv_sub hl [1, 2, 3, 0] rfl)
          exact L53 ((i1_4 : Int).toNat + 1) i1_4 s7 H locs ls ri1_4 hF13 q8 q9 q10 q11 q12 (by omega) (Nat.lt_succ_self _) hW (lv_sub hl [1, 2, 3, 0] rfl)
        refine x_icmp_ne (tgt := 40) hx hb ri2_4 rx6 dX11_laysOrder_31 (by decide) (fun c36 => ?_) (fun c36 => ?_)
        · skip
          refine x_aload_n hx hb hl 0 rfl dX11_laysOrder_40 rfl ?_
          refine x_bipush hx hb dX11_laysOrder_41 (by decide) ?_
          refine x_sipush hx hb dX11_laysOrder_43 (by decide) ?_
          refine x_iload_n hx hb hl 2 rfl dX11_laysOrder_46 rfl ?_
          refine x_goi (x_runV (As := [.int (xJ 111), .int (xJ 999), .int (xJ i2_4)]) hx hb hml hown hT hE hW hl.1 (Or.inl (by decide)) (so_268 h0 g _) rfl cf_X11_byFelon wq1625 wq148 wq1623 (c_X11_byFelon l D g T h0 s_4 hW.2.1 111 (by decide) 999 (by decide) i2_4 ri2_4 (by omega) q4_0 q4_1 q4_2) ⟨rfl, rfl, ⟨by decide, by decide⟩, ⟨by decide, by decide⟩⟩ rfl rfl (Nat.le_of_ble_eq_true rfl) dX11_laysOrder_47) hW (fun x37 s38 H locs rx37 hp39 hW => ?_)
          obtain ⟨fs38, hp39⟩ := hp39
          have hF40 := hF_4.call fs38 (fun k h => by omega)
          have q41 : s38 268 8 = s0 268 8 := (congrFun (fs38 _ (by omega)) _).trans q4_3
          have q42 : s38 268 58 = s0 268 58 := (congrFun (fs38 _ (by omega)) _).trans q4_4
          have ghp39 := hp39.2
          exact J50 x37 s38 H locs ls rx37 hF40 hp39.1.1 hp39.1.2.1 hp39.1.2.2.1 q41 q42 hW (lv_sub hl [0, 1, 2] rfl)
        refine lv_ldcw (v := xJ 1000000000) hx hb hown (hT _ wq1622) dX11_laysOrder_34 ?_
        refine lv_goto (tgt := 50) hx hb dX11_laysOrder_37 (by decide) ?_
        exact J50 1000000000 s_4 H locs ls (by decide) hF_4 q4_0 q4_1 q4_2 q4_3 q4_4 hW (lv_sub hl [0, 1, 2] rfl)
      refine lv_goto (tgt := 111) hx hb dX11_laysOrder_18 (by decide) ?_
      exact J111 i1_4 s_4 H locs ls ri1_4 hF_4 q4_0 q4_1 q4_2 q4_3 q4_4 (by omega) hW (lv_sub hl [0, 1, 2] rfl)
  exact L4 ((10 + 1 - 0 : Int).toNat + 1) 0 0 s0 H locs ls (by decide) (by decide) hF p0 p1 p2 k268_8 k268_58 (by omega) (by omega) (by omega) (Nat.lt_succ_self _) hW (lv_sub hl [2, 1, 0] rfl)
set_option maxHeartbeats 4000000 in
set_option maxRecDepth 100000 in
theorem c_X11_findsFor (l : Launch) (D : va_G) (g : xG) (T : Nat × Nat × Nat) (h0 : Nat) (s0 : xS) (hσ : xRR s0) (f : Int) (rf : xR f) (hf : 0 ≤ f ∧ f ≤ 9) (p0 : IMn s0) (p1 : IMk s0) (p2 : IMo s0) : Met l yX11_findsFor (xws yX11_findsFor cX11_findsFor 4 (some .int)) { frames := 4, cells := 0, slots := 0, locals := 96 } (xP [.ref (h0 + 268), .int (xJ f)] D g T h0 s0) (xQi D g h0 (fun r τ => xFr (fun k => k = 293 ∨ k = 294 ∨ k = 296) s0 τ ∧ (((IMn τ) ∧ (IMk τ) ∧ (IMo τ) ∧ True) ∧ (-1 ≤ r ∧ r ≤ 99)))) 0 0 (xA h0) := by
  refine x_met hσ (by decide) (Nat.le_of_ble_eq_true rfl) ?_
  intro p e s m args below meth c hx hb hr hml hown hT hlk hnm hE hW ls hl
  have hl : lv_has ls 4 [(0, .ref (h0 + 268)), (1, .int (xJ f))] := hl
  obtain ⟨Q, eQ⟩ : ∃ Q, Q = MQ below (xQi D g h0 (fun r τ => xFr (fun k => k = 293 ∨ k = 294 ∨ k = 296) s0 τ ∧ (((IMn τ) ∧ (IMk τ) ∧ (IMo τ) ∧ True) ∧ (-1 ≤ r ∧ r ≤ 99)))) args s 0 0 (xA h0) := ⟨_, rfl⟩
  rw [← eQ]
  generalize hHe : ([] : List Loc) = locs at hW ⊢
  obtain ⟨H, eH⟩ : ∃ H, H = s.heap := ⟨_, rfl⟩
  rw [← eH] at hW ⊢
  have hF : xFr (fun k => k = 293 ∨ k = 294 ∨ k = 296) s0 s0 := xFr.rf
  have k268_8 : s0 268 8 = s0 268 8 := rfl
  have k268_58 : s0 268 58 = s0 268 58 := rfl
  refine x_aload_n hx hb hl 0 rfl dX11_findsFor_0 rfl ?_
  refine x_aload_n hx hb hl 0 rfl dX11_findsFor_1 rfl ?_
  refine x_get (j := 0) (v := .ref (h0 + 269)) hx hb hown hT hE hW cls_X11 (Or.inl (by decide)) (so_268 h0 g _) (by decide) rfl wq1185 dX11_findsFor_2 ?_
  refine x_iconst hx hb dX11_findsFor_5 ?_
  refine x_iload_n hx hb hl 1 rfl dX11_findsFor_6 rfl ?_
  refine x_iadd hx hb dX11_findsFor_7 ?_
  refine x_iald hx hb hE hW (Or.inl (by decide)) (sa_269 h0 g _) (by omega) (by decide) dX11_findsFor_8 ?_
  refine x_rd hW (fun x1 ex1 rx1 => ?_)
  have bx1 : 0 ≤ x1 ∧ x1 ≤ 99 := by rw [ex1]; exact (IMn.n1 p0).2.2.1 _ (by omega) (by omega)
  refine x_aload_n hx hb hl 0 rfl dX11_findsFor_9 rfl ?_
  refine x_bipush hx hb dX11_findsFor_10 (by decide) ?_
  refine x_iconst hx hb dX11_findsFor_12 ?_
  refine x_iload_n hx hb hl 1 rfl dX11_findsFor_13 rfl ?_
  refine x_goi (x_runV (As := [.int (xJ 118), .int (xJ 3), .int (xJ f)]) hx hb hml hown hT hE hW hl.1 (Or.inl (by decide)) (so_268 h0 g _) rfl cf_X11_byFelon wq1625 wq148 wq1623 (c_X11_byFelon l D g T h0 s0 hW.2.1 118 (by decide) 3 (by decide) f rf (by omega) p0 p1 p2) ⟨rfl, rfl, ⟨by decide, by decide⟩, ⟨by decide, by decide⟩⟩ rfl rfl (Nat.le_of_ble_eq_true rfl) dX11_findsFor_14) hW (fun x2 s3 H locs rx2 hp4 hW => ?_)
  obtain ⟨fs3, hp4⟩ := hp4
  have hF5 := hF.call fs3 (fun k h => by omega)
  have q6 : s3 268 8 = s0 268 8 := (congrFun (fs3 _ (by omega)) _).trans k268_8
  have q7 : s3 268 58 = s0 268 58 := (congrFun (fs3 _ (by omega)) _).trans k268_58
  have ghp4 := hp4.2
  refine x_iconst hx hb dX11_findsFor_17 ?_
  refine x_gov (x_runV (As := [.int (xJ x1), .int (xJ x2), .int (xJ 0)]) hx hb hml hown hT hE hW hl.1 (Or.inl (by decide)) (so_268 h0 g _) rfl cf_X11_laysCosts wq1637 wq151 wq1635 (c_X11_laysCosts l D g T h0 s3 hW.2.1 x1 rx1 x2 rx2 0 (by decide) hp4.1.1 hp4.1.2.1 hp4.1.2.2.1) ⟨rfl, rfl, ⟨by decide, by decide⟩, ⟨by decide, by decide⟩⟩ rfl rfl (Nat.le_of_ble_eq_true rfl) dX11_findsFor_18) hW (fun s9 H locs hp10 hW => ?_)
  obtain ⟨fs9, hp10⟩ := hp10
  have hF11 := hF5.call fs9 (fun k h => by omega)
  have q12 : s9 268 8 = s0 268 8 := (congrFun (fs9 _ (by omega)) _).trans q6
  have q13 : s9 268 58 = s0 268 58 := (congrFun (fs9 _ (by omega)) _).trans q7
  have ghp10 := hp10.2
  refine x_iconst hx hb dX11_findsFor_21 ?_
  refine lv_istore_n (lv' := [(2, .int (xJ (-1))), (0, .ref (h0 + 268)), (1, .int (xJ f))]) hx hb dX11_findsFor_22 rfl hl (by decide) rfl (fun ls hl => ?_)
  refine x_iconst hx hb dX11_findsFor_23 ?_
  refine lv_istore_n (lv' := [(3, .int (xJ 0)), (2, .int (xJ (-1))), (0, .ref (h0 + 268)), (1, .int (xJ f))]) hx hb dX11_findsFor_24 rfl hl (by decide) rfl (fun ls hl => ?_)
  have L25 : ∀ (fu : Nat) (i2_25 : Int) (i3_25 : Int) (ls : Array Slot), (xR i2_25) → (xR i3_25) → (0 ≤ i3_25) → (i3_25 ≤ 100) → (-1 ≤ i2_25 ∧ i2_25 < 100) → (100 + 1 - i3_25).toNat < fu → lv_has ls 4 [(0, .ref (h0 + 268)), (2, .int (xJ i2_25)), (3, .int (xJ i3_25))] → W p l e { frames := 4, cells := 0, slots := 0, locals := 96 } s m args below meth c H locs 0 0 Q (F0 m 25 ls []) := by
    intro fu
    induction fu with
    | zero => intro i2_25 i3_25 ls ri2_25 ri3_25 v25_0 v25_1 v25_2 hm; exact absurd hm (Nat.not_lt_zero _)
    | succ fu ih25 =>
      intro i2_25 i3_25 ls ri2_25 ri3_25 v25_0 v25_1 v25_2 hm  hl
      refine x_iload_n hx hb hl 2 rfl dX11_findsFor_25 rfl ?_
      refine x_bipush hx hb dX11_findsFor_26 (by decide) ?_
      refine x_icmp_ge (tgt := 89) hx hb ri3_25 (by decide) dX11_findsFor_28 (by decide) (fun c14 => ?_) (fun c14 => ?_)
      · skip
        refine x_iload_n hx hb hl 1 rfl dX11_findsFor_89 rfl ?_
        rw [eQ]
        exact x_iret hx hb hr hlk hW ri2_25 ⟨hF11, ⟨hp10.1.1, hp10.1.2.1, hp10.1.2.2.1, trivial⟩, by omega⟩ dX11_findsFor_90
      refine x_aload_n hx hb hl 0 rfl dX11_findsFor_31 rfl ?_
      refine x_get (j := 40) (v := .ref (h0 + 295)) hx hb hown hT hE hW cls_X11 (Or.inl (by decide)) (so_268 h0 g _) (by decide) rfl wq1225 dX11_findsFor_32 ?_
      refine x_iload_n hx hb hl 2 rfl dX11_findsFor_35 rfl ?_
      refine x_iald hx hb hE hW (Or.inl (by decide)) (sa_295 h0 g _) (by omega) (by decide) dX11_findsFor_36 ?_
      refine x_rd hW (fun x15 ex15 rx15 => ?_)
      refine x_if_le (tgt := 83) hx hb rx15 dX11_findsFor_37 (by decide) (fun c16 => ?_) (fun c16 => ?_)
      · skip
        refine x_iinc (lv' := [(3, .int (xJ (i3_25 + 1))), (0, .ref (h0 + 268)), (2, .int (xJ i2_25))]) hx hb hl 2 rfl dX11_findsFor_83 (by decide) rfl (fun ls hl => ?_)
        refine lv_goto (tgt := 25) hx hb dX11_findsFor_86 (by decide) ?_
        exact ih25 i2_25 (i3_25 + 1) ls ri2_25 (by omega) (by omega) (by omega) (by omega) (by omega)  (lv_sub hl [1, 2, 0] rfl)
      refine x_aload_n hx hb hl 0 rfl dX11_findsFor_40 rfl ?_
      refine x_get (j := 49) (v := .ref (h0 + 299)) hx hb hown hT hE hW cls_X11 (Or.inl (by decide)) (so_268 h0 g _) (by decide) rfl wq1234 dX11_findsFor_41 ?_
      refine x_iload_n hx hb hl 2 rfl dX11_findsFor_44 rfl ?_
      refine x_zald hx hb hE hW (Or.inl (by decide)) (sa_299 h0 g _) (by omega) (by decide) dX11_findsFor_45 ?_
      refine x_rd hW (fun x17 ex17 rx17 => ?_)
      refine x_if_ne (tgt := 83) hx hb rx17 dX11_findsFor_46 (by decide) (fun c18 => ?_) (fun c18 => ?_)
      · skip
        refine x_iinc (lv' := [(3, .int (xJ (i3_25 + 1))), (0, .ref (h0 + 268)), (2, .int (xJ i2_25))]) hx hb hl 2 rfl dX11_findsFor_83 (by decide) rfl (fun ls hl => ?_)
        refine lv_goto (tgt := 25) hx hb dX11_findsFor_86 (by decide) ?_
        exact ih25 i2_25 (i3_25 + 1) ls ri2_25 (by omega) (by omega) (by omega) (by omega) (by omega)  (lv_sub hl [1, 2, 0] rfl)
      refine x_aload_n hx hb hl 0 rfl dX11_findsFor_49 rfl ?_
      refine x_get (j := 45) (v := .ref (h0 + 296)) hx hb hown hT hE hW cls_X11 (Or.inl (by decide)) (so_268 h0 g _) (by decide) rfl wq1230 dX11_findsFor_50 ?_
      refine x_iload_n hx hb hl 2 rfl dX11_findsFor_53 rfl ?_
      refine x_iald hx hb hE hW (Or.inl (by decide)) (sa_296 h0 g _) (by omega) (by decide) dX11_findsFor_54 ?_
      refine x_rd hW (fun x19 ex19 rx19 => ?_)
      refine lv_ldcw (v := xJ 1000000000) hx hb hown (hT _ wq1622) dX11_findsFor_55 ?_
      refine x_icmp_ge (tgt := 83) hx hb rx19 (by decide) dX11_findsFor_58 (by decide) (fun c20 => ?_) (fun c20 => ?_)
      · skip
        refine x_iinc (lv' := [(3, .int (xJ (i3_25 + 1))), (0, .ref (h0 + 268)), (2, .int (xJ i2_25))]) hx hb hl 2 rfl dX11_findsFor_83 (by decide) rfl (fun ls hl => ?_)
        refine lv_goto (tgt := 25) hx hb dX11_findsFor_86 (by decide) ?_
        exact ih25 i2_25 (i3_25 + 1) ls ri2_25 (by omega) (by omega) (by omega) (by omega) (by omega)  (lv_sub hl [1, 2, 0] rfl)
      refine x_iload_n hx hb hl 1 rfl dX11_findsFor_61 rfl ?_
      refine x_iconst hx hb dX11_findsFor_62 ?_
      refine x_icmp_eq (tgt := 81) hx hb ri2_25 (by decide) dX11_findsFor_63 (by decide) (fun c21 => ?_) (fun c21 => ?_)
      · skip
        refine x_iload_n hx hb hl 2 rfl dX11_findsFor_81 rfl ?_
        refine lv_istore_n (lv' := [(2, .int (xJ i3_25)), (0, .ref (h0 + 268)), (3, .int (xJ i3_25))]) hx hb dX11_findsFor_82 rfl hl (by decide) rfl (fun ls hl => ?_)
        refine x_iinc (lv' := [(3, .int (xJ (i3_25 + 1))), (2, .int (xJ i3_25)), (0, .ref (h0 + 268))]) hx hb hl 2 rfl dX11_findsFor_83 (by decide) rfl (fun ls hl => ?_)
        refine lv_goto (tgt := 25) hx hb dX11_findsFor_86 (by decide) ?_
        exact ih25 i3_25 (i3_25 + 1) ls ri3_25 (by omega) (by omega) (by omega) (by omega) (by omega)  (lv_sub hl [2, 1, 0] rfl)
      refine x_aload_n hx hb hl 0 rfl dX11_findsFor_66 rfl ?_
      refine x_get (j := 45) (v := .ref (h0 + 296)) hx hb hown hT hE hW cls_X11 (Or.inl (by decide)) (so_268 h0 g _) (by decide) rfl wq1230 dX11_findsFor_67 ?_
      refine x_iload_n hx hb hl 2 rfl dX11_findsFor_70 rfl ?_
      refine x_iald hx hb hE hW (Or.inl (by decide)) (sa_296 h0 g _) (by omega) (by decide) dX11_findsFor_71 ?_
      refine x_rd hW (fun x22 ex22 rx22 => ?_)
      refine x_aload_n hx hb hl 0 rfl dX11_findsFor_72 rfl ?_
      refine x_get (j := 45) (v := .ref (h0 + 296)) hx hb hown hT hE hW cls_X11 (Or.inl (by decide)) (so_268 h0 g _) (by decide) rfl wq1230 dX11_findsFor_73 ?_
      refine x_iload_n hx hb hl 1 rfl dX11_findsFor_76 rfl ?_
      refine x_iald hx hb hE hW (Or.inl (by decide)) (sa_296 h0 g _) (by omega) (by decide) dX11_findsFor_77 ?_
      refine x_rd hW (fun x23 ex23 rx23 => ?_)
      refine x_icmp_ge (tgt := 83) hx hb rx22 rx23 dX11_findsFor_78 (by decide) (fun c24 => ?_) (fun c24 => ?_)
      · skip
        refine x_iinc (lv' := [(3, .int (xJ (i3_25 + 1))), (0, .ref (h0 + 268)), (2, .int (xJ i2_25))]) hx hb hl 2 rfl dX11_findsFor_83 (by decide) rfl (fun ls hl => ?_)
        refine lv_goto (tgt := 25) hx hb dX11_findsFor_86 (by decide) ?_
        exact ih25 i2_25 (i3_25 + 1) ls ri2_25 (by omega) (by omega) (by omega) (by omega) (by omega)  (lv_sub hl [1, 2, 0] rfl)
      refine x_iload_n hx hb hl 2 rfl dX11_findsFor_81 rfl ?_
      refine lv_istore_n (lv' := [(2, .int (xJ i3_25)), (0, .ref (h0 + 268)), (3, .int (xJ i3_25))]) hx hb dX11_findsFor_82 rfl hl (by decide) rfl (fun ls hl => ?_)
      refine x_iinc (lv' := [(3, .int (xJ (i3_25 + 1))), (2, .int (xJ i3_25)), (0, .ref (h0 + 268))]) hx hb hl 2 rfl dX11_findsFor_83 (by decide) rfl (fun ls hl => ?_)
      refine lv_goto (tgt := 25) hx hb dX11_findsFor_86 (by decide) ?_
      exact ih25 i3_25 (i3_25 + 1) ls ri3_25 (by omega) (by omega) (by omega) (by omega) (by omega)  (lv_sub hl [2, 1, 0] rfl)
  exact L25 ((100 + 1 - 0 : Int).toNat + 1) (-1) 0 ls (by decide) (by decide) (by omega) (by omega) (by omega) (Nat.lt_succ_self _)  (lv_sub hl [2, 1, 0] rfl)
set_option maxHeartbeats 4000000 in
set_option maxRecDepth 100000 in
theorem c_X11_servesOf (l : Launch) (D : va_G) (g : xG) (T : Nat × Nat × Nat) (h0 : Nat) (s0 : xS) (hσ : xRR s0) (f : Int) (rf : xR f) (b : Int) (rb : xR b) (hf : 0 ≤ f ∧ f ≤ 9) (p0 : IMn s0) (p1 : IMk s0) (p2 : IMo s0) : Met l yX11_servesOf (xws yX11_servesOf cX11_servesOf 5 none) { frames := 5, cells := 0, slots := 0, locals := 119 } (xP [.ref (h0 + 268), .int (xJ f), .int (xJ b)] D g T h0 s0) (xQv D g h0 (fun τ => xFr (fun k => k = 268 ∨ k = 269 ∨ k = 293 ∨ k = 294 ∨ k = 296 ∨ k = 299) s0 τ ∧ (((IMn τ) ∧ (IMk τ) ∧ (IMo τ) ∧ (τ 268 8 = s0 268 8) ∧ (τ 268 58 = s0 268 58) ∧ (τ 269 37 = s0 269 37) ∧ True) ∧ (True)))) 0 0 (xA h0) := by
  refine x_met hσ (by decide) (Nat.le_of_ble_eq_true rfl) ?_
  intro p e s m args below meth c hx hb hr hml hown hT hlk hnm hE hW ls hl
  have hl : lv_has ls 5 [(0, .ref (h0 + 268)), (1, .int (xJ f)), (2, .int (xJ b))] := hl
  obtain ⟨Q, eQ⟩ : ∃ Q, Q = MQ below (xQv D g h0 (fun τ => xFr (fun k => k = 268 ∨ k = 269 ∨ k = 293 ∨ k = 294 ∨ k = 296 ∨ k = 299) s0 τ ∧ (((IMn τ) ∧ (IMk τ) ∧ (IMo τ) ∧ (τ 268 8 = s0 268 8) ∧ (τ 268 58 = s0 268 58) ∧ (τ 269 37 = s0 269 37) ∧ True) ∧ (True)))) args s 0 0 (xA h0) := ⟨_, rfl⟩
  rw [← eQ]
  generalize hHe : ([] : List Loc) = locs at hW ⊢
  obtain ⟨H, eH⟩ : ∃ H, H = s.heap := ⟨_, rfl⟩
  rw [← eH] at hW ⊢
  have hF : xFr (fun k => k = 268 ∨ k = 269 ∨ k = 293 ∨ k = 294 ∨ k = 296 ∨ k = 299) s0 s0 := xFr.rf
  have k268_8 : s0 268 8 = s0 268 8 := rfl
  have k268_58 : s0 268 58 = s0 268 58 := rfl
  have k269_37 : s0 269 37 = s0 269 37 := rfl
  refine x_aload_n hx hb hl 0 rfl dX11_servesOf_0 rfl ?_
  refine x_iload_n hx hb hl 1 rfl dX11_servesOf_1 rfl ?_
  refine x_goi (x_runV (As := [.int (xJ f)]) hx hb hml hown hT hE hW hl.1 (Or.inl (by decide)) (so_268 h0 g _) rfl cf_X11_findsFor wq1633 wq150 wq1631 (c_X11_findsFor l D g T h0 s0 hW.2.1 f rf (by omega) p0 p1 p2) ⟨rfl, rfl, ⟨by decide, by decide⟩, ⟨by decide, by decide⟩⟩ rfl rfl (Nat.le_of_ble_eq_true rfl) dX11_servesOf_2) hW (fun x1 s2 H locs rx1 hp3 hW => ?_)
  obtain ⟨fs2, hp3⟩ := hp3
  have hF4 := hF.call fs2 (fun k h => by omega)
  have q5 : s2 268 8 = s0 268 8 := (congrFun (fs2 _ (by omega)) _).trans k268_8
  have q6 : s2 268 58 = s0 268 58 := (congrFun (fs2 _ (by omega)) _).trans k268_58
  have q7 : s2 269 37 = s0 269 37 := (congrFun (fs2 _ (by omega)) _).trans k269_37
  have ghp3 := hp3.2
  refine lv_istore_n (lv' := [(3, .int (xJ x1)), (0, .ref (h0 + 268)), (1, .int (xJ f)), (2, .int (xJ b))]) hx hb dX11_servesOf_5 rfl hl (by decide) rfl (fun ls hl => ?_)
  refine x_iload_n hx hb hl 0 rfl dX11_servesOf_6 rfl ?_
  refine x_iconst hx hb dX11_servesOf_7 ?_
  refine x_icmp_ne (tgt := 48) hx hb rx1 (by decide) dX11_servesOf_8 (by decide) (fun c8 => ?_) (fun c8 => ?_)
  · skip
    refine x_aload_n hx hb hl 1 rfl dX11_servesOf_48 rfl ?_
    refine x_get (j := 49) (v := .ref (h0 + 299)) hx hb hown hT hE hW cls_X11 (Or.inl (by decide)) (so_268 h0 g _) (by decide) rfl wq1234 dX11_servesOf_49 ?_
    refine x_iload_n hx hb hl 0 rfl dX11_servesOf_52 rfl ?_
    refine x_iconst hx hb dX11_servesOf_53 ?_
    refine x_zast hx hb hE hW (by decide) (fun σ => sa_299 h0 g σ) (by omega) (by decide) (by omega) dX11_servesOf_54 (fun H locs s9 es9 hW => ?_)
    have q10 : s9 268 8 = s0 268 8 := (show s9 268 8 = s2 268 8 from by rw [es9, xU_k _ _ _ (by omega)]).trans q5
    have q11 : s9 268 58 = s0 268 58 := (show s9 268 58 = s2 268 58 from by rw [es9, xU_k _ _ _ (by omega)]).trans q6
    have q12 : s9 269 37 = s0 269 37 := (show s9 269 37 = s2 269 37 from by rw [es9, xU_k _ _ _ (by omega)]).trans q7
    have q13 : IMn s9 := by rw [es9]; exact IMn_o (by unfold suIMn; omega) hp3.1.1
    have q14 : IMk s9 := by rw [es9]; exact IMk_o (by unfold suIMk; omega) hp3.1.2.1
    have q15 : IMo s9 := by rw [es9]; exact IMo_o (by unfold suIMo; omega) hp3.1.2.2.1
    have hF16 := hF4.put es9 (by omega)
    refine x_aload_n hx hb hl 1 rfl dX11_servesOf_55 rfl ?_
    refine x_aload_n hx hb hl 1 rfl dX11_servesOf_56 rfl ?_
    refine x_get (j := 44) (v := .int (xJ (s9 268 44))) hx hb hown hT hE hW cls_X11 (Or.inl (by decide)) (so_268 h0 g _) (by decide) rfl wq1229 dX11_servesOf_57 ?_
    refine x_rd hW (fun x17 ex17 rx17 => ?_)
    refine x_aload_n hx hb hl 1 rfl dX11_servesOf_60 rfl ?_
    refine x_get (j := 45) (v := .ref (h0 + 296)) hx hb hown hT hE hW cls_X11 (Or.inl (by decide)) (so_268 h0 g _) (by decide) rfl wq1230 dX11_servesOf_61 ?_
    refine x_iload_n hx hb hl 0 rfl dX11_servesOf_64 rfl ?_
    refine x_iald hx hb hE hW (Or.inl (by decide)) (sa_296 h0 g _) (by omega) (by decide) dX11_servesOf_65 ?_
    refine x_rd hW (fun x18 ex18 rx18 => ?_)
    refine x_iadd hx hb dX11_servesOf_66 ?_
    refine x_any (fun x19 rx19 => ?_)
    refine x_put (j := 44) hx hb hown hT hE hW cls_X11 (by decide) (fun σ => so_268 h0 g σ) (by decide) (st_X11_44 h0 s9 268 x19) (ln_X11_44 h0 _ _) wq1229 rfl rfl rfl rx19 dX11_servesOf_67 (fun H locs s20 es20 hW => ?_)
    have q21 : s20 268 8 = s0 268 8 := (show s20 268 8 = s9 268 8 from by rw [es20, xU_j _ _ (by decide)]).trans q10
    have q22 : s20 268 58 = s0 268 58 := (show s20 268 58 = s9 268 58 from by rw [es20, xU_j _ _ (by decide)]).trans q11
    have q23 : s20 269 37 = s0 269 37 := (show s20 269 37 = s9 269 37 from by rw [es20, xU_k _ _ _ (by omega)]).trans q12
    have q24 : IMn s20 := by rw [es20]; exact IMn_268 q13 (by omega)
    have q25 : IMk s20 := by rw [es20]; exact IMk_268 q14 (by omega)
    have q26 : IMo s20 := by rw [es20]; exact IMo_o (by unfold suIMo; omega) q15
    have hF27 := hF16.put es20 (by omega)
    refine x_aload_n hx hb hl 1 rfl dX11_servesOf_70 rfl ?_
    refine x_get (j := 0) (v := .ref (h0 + 269)) hx hb hown hT hE hW cls_X11 (Or.inl (by decide)) (so_268 h0 g _) (by decide) rfl wq1185 dX11_servesOf_71 ?_
    refine x_iconst hx hb dX11_servesOf_74 ?_
    refine x_iload_n hx hb hl 2 rfl dX11_servesOf_75 rfl ?_
    refine x_iadd hx hb dX11_servesOf_76 ?_
    refine x_iload_n hx hb hl 0 rfl dX11_servesOf_77 rfl ?_
    refine x_iast hx hb hE hW (by decide) (fun σ => sa_269 h0 g σ) (by omega) (by decide) rx1 dX11_servesOf_78 (fun H locs s28 es28 hW => ?_)
    have q29 : s28 268 8 = s0 268 8 := (show s28 268 8 = s20 268 8 from by rw [es28, xU_k _ _ _ (by omega)]).trans q21
    have q30 : s28 268 58 = s0 268 58 := (show s28 268 58 = s20 268 58 from by rw [es28, xU_k _ _ _ (by omega)]).trans q22
    have q31 : s28 269 37 = s0 269 37 := (show s28 269 37 = s20 269 37 from by rw [es28, xU_j _ _ (by omega)]).trans q23
    have q32 : IMn s28 := by rw [es28]; exact IMn_N269 q24 (by omega)
    have q33 : IMk s28 := by rw [es28]; exact IMk_o (by unfold suIMk; omega) q25
    have q34 : IMo s28 := by rw [es28]; exact IMo_o (by unfold suIMo; omega) q26
    have hF35 := hF27.put es28 (by omega)
    refine x_aload_n hx hb hl 1 rfl dX11_servesOf_79 rfl ?_
    refine x_get (j := 0) (v := .ref (h0 + 269)) hx hb hown hT hE hW cls_X11 (Or.inl (by decide)) (so_268 h0 g _) (by decide) rfl wq1185 dX11_servesOf_80 ?_
    refine x_bipush hx hb dX11_servesOf_83 (by decide) ?_
    refine x_iload_n hx hb hl 2 rfl dX11_servesOf_85 rfl ?_
    refine x_iadd hx hb dX11_servesOf_86 ?_
    refine x_iald hx hb hE hW (Or.inl (by decide)) (sa_269 h0 g _) (by omega) (by decide) dX11_servesOf_87 ?_
    refine x_rd hW (fun x36 ex36 rx36 => ?_)
    refine x_iload_n hx hb hl 3 rfl dX11_servesOf_88 rfl ?_
    have J118 : ∀ (t0_118 : Int) (ls : Array Slot), (xR t0_118) → lv_has ls 5 [(0, .ref (h0 + 268)), (1, .int (xJ f)), (3, .int (xJ x1))] → W p l e { frames := 5, cells := 0, slots := 0, locals := 119 } s m args below meth c H locs 0 0 Q (F0 m 118 ls [.int (xJ t0_118), .int (xJ x36)]) := by
      intro t0_118 ls rt0_118  hl
      refine x_goi (x_runS (As := [.int (xJ x36), .int (xJ t0_118)]) hx hb hml hown hT hE hW hl.1 cf_X11_min wq1640 wq1639 (c_X11_min l D g T h0 s28 hW.2.1 x36 rx36 t0_118 rt0_118) ⟨rfl, rfl, ⟨by decide, by decide⟩, ⟨by decide, by decide⟩⟩ rfl rfl (Nat.le_of_ble_eq_true rfl) dX11_servesOf_118) hW (fun x37 s38 H locs rx37 hp39 hW => ?_)
      obtain ⟨es38, hp39⟩ := hp39
      subst es38
      have ghp39 := hp39
      refine lv_istore (lv' := [(4, .int (xJ x37)), (0, .ref (h0 + 268)), (1, .int (xJ f)), (3, .int (xJ x1))]) hx hb dX11_servesOf_121 hl (by decide) rfl (fun ls hl => ?_)
      refine x_aload_n hx hb hl 1 rfl dX11_servesOf_123 rfl ?_
      refine x_get (j := 0) (v := .ref (h0 + 269)) hx hb hown hT hE hW cls_X11 (Or.inl (by decide)) (so_268 h0 g _) (by decide) rfl wq1185 dX11_servesOf_124 ?_
      refine x_bipush hx hb dX11_servesOf_127 (by decide) ?_
      refine x_iload_n hx hb hl 2 rfl dX11_servesOf_129 rfl ?_
      refine x_iadd hx hb dX11_servesOf_130 ?_
      refine x_aload_n hx hb hl 1 rfl dX11_servesOf_131 rfl ?_
      refine x_get (j := 0) (v := .ref (h0 + 269)) hx hb hown hT hE hW cls_X11 (Or.inl (by decide)) (so_268 h0 g _) (by decide) rfl wq1185 dX11_servesOf_132 ?_
      refine x_bipush hx hb dX11_servesOf_135 (by decide) ?_
      refine x_iload_n hx hb hl 2 rfl dX11_servesOf_137 rfl ?_
      refine x_iadd hx hb dX11_servesOf_138 ?_
      refine x_iald hx hb hE hW (Or.inl (by decide)) (sa_269 h0 g _) (by omega) (by decide) dX11_servesOf_139 ?_
      refine x_rd hW (fun x40 ex40 rx40 => ?_)
      refine x_iload hx hb hl 0 rfl dX11_servesOf_140 ?_
      refine x_isub hx hb dX11_servesOf_142 ?_
      refine x_any (fun x41 rx41 => ?_)
      refine x_iast hx hb hE hW (by decide) (fun σ => sa_269 h0 g σ) (by omega) (by decide) rx41 dX11_servesOf_143 (fun H locs s42 es42 hW => ?_)
      have q43 : s42 268 8 = s0 268 8 := (show s42 268 8 = s28 268 8 from by rw [es42, xU_k _ _ _ (by omega)]).trans q29
      have q44 : s42 268 58 = s0 268 58 := (show s42 268 58 = s28 268 58 from by rw [es42, xU_k _ _ _ (by omega)]).trans q30
      have q45 : s42 269 37 = s0 269 37 := (show s42 269 37 = s28 269 37 from by rw [es42, xU_j _ _ (by omega)]).trans q31
      have q46 : IMn s42 := by rw [es42]; exact IMn_N269 q32 (by omega)
      have q47 : IMk s42 := by rw [es42]; exact IMk_o (by unfold suIMk; omega) q33
      have q48 : IMo s42 := by rw [es42]; exact IMo_o (by unfold suIMo; omega) q34
      have hF49 := hF35.put es42 (by omega)
      refine x_aload_n hx hb hl 1 rfl dX11_servesOf_144 rfl ?_
      refine x_aload_n hx hb hl 1 rfl dX11_servesOf_145 rfl ?_
      refine x_get (j := 41) (v := .int (xJ (s42 268 41))) hx hb hown hT hE hW cls_X11 (Or.inl (by decide)) (so_268 h0 g _) (by decide) rfl wq1226 dX11_servesOf_146 ?_
      refine x_rd hW (fun x50 ex50 rx50 => ?_)
      refine x_iload hx hb hl 0 rfl dX11_servesOf_149 ?_
      refine x_iadd hx hb dX11_servesOf_151 ?_
      refine x_any (fun x51 rx51 => ?_)
      refine x_put (j := 41) hx hb hown hT hE hW cls_X11 (by decide) (fun σ => so_268 h0 g σ) (by decide) (st_X11_41 h0 s42 268 x51) (ln_X11_41 h0 _ _) wq1226 rfl rfl rfl rx51 dX11_servesOf_152 (fun H locs s52 es52 hW => ?_)
      have q53 : s52 268 8 = s0 268 8 := (show s52 268 8 = s42 268 8 from by rw [es52, xU_j _ _ (by decide)]).trans q43
      have q54 : s52 268 58 = s0 268 58 := (show s52 268 58 = s42 268 58 from by rw [es52, xU_j _ _ (by decide)]).trans q44
      have q55 : s52 269 37 = s0 269 37 := (show s52 269 37 = s42 269 37 from by rw [es52, xU_k _ _ _ (by omega)]).trans q45
      have q56 : IMn s52 := by rw [es52]; exact IMn_268 q46 (by omega)
      have q57 : IMk s52 := by rw [es52]; exact IMk_268 q47 (by omega)
      have q58 : IMo s52 := by rw [es52]; exact IMo_o (by unfold suIMo; omega) q48
      have hF59 := hF49.put es52 (by omega)
      refine x_aload_n hx hb hl 1 rfl dX11_servesOf_155 rfl ?_
      refine x_get (j := 3) (v := .ref (h0 + 272)) hx hb hown hT hE hW cls_X11 (Or.inl (by decide)) (so_268 h0 g _) (by decide) rfl wq1188 dX11_servesOf_156 ?_
      refine x_iload_n hx hb hl 3 rfl dX11_servesOf_159 rfl ?_
      refine x_iald hx hb hE hW (Or.inl (by decide)) (sa_272 h0 g _) (by omega) (by decide) dX11_servesOf_160 ?_
      refine x_rd hW (fun x60 ex60 rx60 => ?_)
      refine x_iconst hx hb dX11_servesOf_161 ?_
      refine x_icmp_ne (tgt := 183) hx hb rx60 (by decide) dX11_servesOf_162 (by decide) (fun c61 => ?_) (fun c61 => ?_)
      · skip
        rw [eQ]
        exact x_vret hx hb hr hlk hW ⟨hF59, ⟨q56, q57, q58, q53, q54, q55, trivial⟩, trivial⟩ dX11_servesOf_183
      refine x_aload_n hx hb hl 1 rfl dX11_servesOf_165 rfl ?_
      refine x_get (j := 0) (v := .ref (h0 + 269)) hx hb hown hT hE hW cls_X11 (Or.inl (by decide)) (so_268 h0 g _) (by decide) rfl wq1185 dX11_servesOf_166 ?_
      refine x_bipush hx hb dX11_servesOf_169 (by decide) ?_
      refine x_aload_n hx hb hl 1 rfl dX11_servesOf_171 rfl ?_
      refine x_get (j := 0) (v := .ref (h0 + 269)) hx hb hown hT hE hW cls_X11 (Or.inl (by decide)) (so_268 h0 g _) (by decide) rfl wq1185 dX11_servesOf_172 ?_
      refine x_bipush hx hb dX11_servesOf_175 (by decide) ?_
      refine x_iald hx hb hE hW (Or.inl (by decide)) (sa_269 h0 g _) ⟨by decide, by decide⟩ (by decide) dX11_servesOf_177 ?_
      refine x_rd hW (fun x62 ex62 rx62 => ?_)
      refine x_iconst hx hb dX11_servesOf_178 ?_
      refine x_iload_n hx hb hl 2 rfl dX11_servesOf_179 rfl ?_
      refine lv_ishl hx hb dX11_servesOf_180 ?_
      refine x_any (fun x63 rx63 => ?_)
      refine lv_ior hx hb dX11_servesOf_181 ?_
      refine x_any (fun x64 rx64 => ?_)
      refine x_iast hx hb hE hW (by decide) (fun σ => sa_269 h0 g σ) ⟨by decide, by decide⟩ (by decide) rx64 dX11_servesOf_182 (fun H locs s65 es65 hW => ?_)
      have q66 : s65 268 8 = s0 268 8 := (show s65 268 8 = s52 268 8 from by rw [es65, xU_k _ _ _ (by omega)]).trans q53
      have q67 : s65 268 58 = s0 268 58 := (show s65 268 58 = s52 268 58 from by rw [es65, xU_k _ _ _ (by omega)]).trans q54
      have q68 : s65 269 37 = s0 269 37 := (show s65 269 37 = s52 269 37 from by rw [es65, xU_j _ _ (by decide)]).trans q55
      have q69 : IMn s65 := by rw [es65]; exact IMn_N269 q56 (by omega)
      have q70 : IMk s65 := by rw [es65]; exact IMk_o (by unfold suIMk; omega) q57
      have q71 : IMo s65 := by rw [es65]; exact IMo_o (by unfold suIMo; omega) q58
      have hF72 := hF59.put es65 (by omega)
      rw [eQ]
      exact x_vret hx hb hr hlk hW ⟨hF72, ⟨q69, q70, q71, q66, q67, q68, trivial⟩, trivial⟩ dX11_servesOf_183
    refine x_if_eq (tgt := 112) hx hb rb dX11_servesOf_89 (by decide) (fun c73 => ?_) (fun c73 => ?_)
    · skip
      refine x_aload_n hx hb hl 1 rfl dX11_servesOf_112 rfl ?_
      refine x_get (j := 40) (v := .ref (h0 + 295)) hx hb hown hT hE hW cls_X11 (Or.inl (by decide)) (so_268 h0 g _) (by decide) rfl wq1225 dX11_servesOf_113 ?_
      refine x_iload_n hx hb hl 0 rfl dX11_servesOf_116 rfl ?_
      refine x_iald hx hb hE hW (Or.inl (by decide)) (sa_295 h0 g _) (by omega) (by decide) dX11_servesOf_117 ?_
      refine x_rd hW (fun x74 ex74 rx74 => ?_)
      exact J118 x74 ls rx74  (lv_sub hl [1, 2, 0] rfl)
    refine x_aload_n hx hb hl 1 rfl dX11_servesOf_92 rfl ?_
    refine x_get (j := 0) (v := .ref (h0 + 269)) hx hb hown hT hE hW cls_X11 (Or.inl (by decide)) (so_268 h0 g _) (by decide) rfl wq1185 dX11_servesOf_93 ?_
    refine x_bipush hx hb dX11_servesOf_96 (by decide) ?_
    refine x_iald hx hb hE hW (Or.inl (by decide)) (sa_269 h0 g _) ⟨by decide, by decide⟩ (by decide) dX11_servesOf_98 ?_
    refine x_rd hW (fun x75 ex75 rx75 => ?_)
    have bx75 : 0 ≤ x75 ∧ x75 ≤ 9999 := by rw [ex75]; exact (IMn.n1 q32).2.2.2.1
    have fx75 : x75 = s0 269 37 := ex75.trans q31
    refine x_iconst hx hb dX11_servesOf_99 ?_
    refine x_irem hx hb rx75 (by decide) (by omega) (by decide) dX11_servesOf_100 ?_
    refine x_if_ne (tgt := 108) hx hb (by omega) dX11_servesOf_101 (by decide) (fun c76 => ?_) (fun c76 => ?_)
    · skip
      refine x_iconst hx hb dX11_servesOf_108 ?_
      refine lv_goto (tgt := 118) hx hb dX11_servesOf_109 (by decide) ?_
      exact J118 0 ls (by decide)  (lv_sub hl [1, 2, 0] rfl)
    refine x_iconst hx hb dX11_servesOf_104 ?_
    refine lv_goto (tgt := 118) hx hb dX11_servesOf_105 (by decide) ?_
    exact J118 1 ls (by decide)  (lv_sub hl [1, 2, 0] rfl)
  refine x_aload_n hx hb hl 1 rfl dX11_servesOf_11 rfl ?_
  refine x_get (j := 0) (v := .ref (h0 + 269)) hx hb hown hT hE hW cls_X11 (Or.inl (by decide)) (so_268 h0 g _) (by decide) rfl wq1185 dX11_servesOf_12 ?_
  refine x_bipush hx hb dX11_servesOf_15 (by decide) ?_
  refine x_iload_n hx hb hl 2 rfl dX11_servesOf_17 rfl ?_
  refine x_iadd hx hb dX11_servesOf_18 ?_
  refine x_sipush hx hb dX11_servesOf_19 (by decide) ?_
  refine x_aload_n hx hb hl 1 rfl dX11_servesOf_22 rfl ?_
  refine x_get (j := 0) (v := .ref (h0 + 269)) hx hb hown hT hE hW cls_X11 (Or.inl (by decide)) (so_268 h0 g _) (by decide) rfl wq1185 dX11_servesOf_23 ?_
  refine x_bipush hx hb dX11_servesOf_26 (by decide) ?_
  refine x_iload_n hx hb hl 2 rfl dX11_servesOf_28 rfl ?_
  refine x_iadd hx hb dX11_servesOf_29 ?_
  refine x_iald hx hb hE hW (Or.inl (by decide)) (sa_269 h0 g _) (by omega) (by decide) dX11_servesOf_30 ?_
  refine x_rd hW (fun x77 ex77 rx77 => ?_)
  refine x_iconst hx hb dX11_servesOf_31 ?_
  refine x_iadd hx hb dX11_servesOf_32 ?_
  refine x_any (fun x78 rx78 => ?_)
  refine x_goi (x_runS (As := [.int (xJ 999), .int (xJ x78)]) hx hb hml hown hT hE hW hl.1 cf_X11_min wq1640 wq1639 (c_X11_min l D g T h0 s2 hW.2.1 999 (by decide) x78 rx78) ⟨rfl, rfl, ⟨by decide, by decide⟩, ⟨by decide, by decide⟩⟩ rfl rfl (Nat.le_of_ble_eq_true rfl) dX11_servesOf_33) hW (fun x79 s80 H locs rx79 hp81 hW => ?_)
  obtain ⟨es80, hp81⟩ := hp81
  subst es80
  have ghp81 := hp81
  refine x_iast hx hb hE hW (by decide) (fun σ => sa_269 h0 g σ) (by omega) (by decide) rx79 dX11_servesOf_36 (fun H locs s82 es82 hW => ?_)
  have q83 : s82 268 8 = s0 268 8 := (show s82 268 8 = s2 268 8 from by rw [es82, xU_k _ _ _ (by omega)]).trans q5
  have q84 : s82 268 58 = s0 268 58 := (show s82 268 58 = s2 268 58 from by rw [es82, xU_k _ _ _ (by omega)]).trans q6
  have q85 : s82 269 37 = s0 269 37 := (show s82 269 37 = s2 269 37 from by rw [es82, xU_j _ _ (by omega)]).trans q7
  have q86 : IMn s82 := by rw [es82]; exact IMn_N269 hp3.1.1 (by omega)
  have q87 : IMk s82 := by rw [es82]; exact IMk_o (by unfold suIMk; omega) hp3.1.2.1
  have q88 : IMo s82 := by rw [es82]; exact IMo_o (by unfold suIMo; omega) hp3.1.2.2.1
  have hF89 := hF4.put es82 (by omega)
  refine x_aload_n hx hb hl 1 rfl dX11_servesOf_37 rfl ?_
  refine x_aload_n hx hb hl 1 rfl dX11_servesOf_38 rfl ?_
  refine x_get (j := 42) (v := .int (xJ (s82 268 42))) hx hb hown hT hE hW cls_X11 (Or.inl (by decide)) (so_268 h0 g _) (by decide) rfl wq1227 dX11_servesOf_39 ?_
  refine x_rd hW (fun x90 ex90 rx90 => ?_)
  refine x_iconst hx hb dX11_servesOf_42 ?_
  refine x_iadd hx hb dX11_servesOf_43 ?_
  refine x_any (fun x91 rx91 => ?_)
  refine x_put (j := 42) hx hb hown hT hE hW cls_X11 (by decide) (fun σ => so_268 h0 g σ) (by decide) (st_X11_42 h0 s82 268 x91) (ln_X11_42 h0 _ _) wq1227 rfl rfl rfl rx91 dX11_servesOf_44 (fun H locs s92 es92 hW => ?_)
  have q93 : s92 268 8 = s0 268 8 := (show s92 268 8 = s82 268 8 from by rw [es92, xU_j _ _ (by decide)]).trans q83
  have q94 : s92 268 58 = s0 268 58 := (show s92 268 58 = s82 268 58 from by rw [es92, xU_j _ _ (by decide)]).trans q84
  have q95 : s92 269 37 = s0 269 37 := (show s92 269 37 = s82 269 37 from by rw [es92, xU_k _ _ _ (by omega)]).trans q85
  have q96 : IMn s92 := by rw [es92]; exact IMn_268 q86 (by omega)
  have q97 : IMk s92 := by rw [es92]; exact IMk_268 q87 (by omega)
  have q98 : IMo s92 := by rw [es92]; exact IMo_o (by unfold suIMo; omega) q88
  have hF99 := hF89.put es92 (by omega)
  rw [eQ]
  exact x_vret hx hb hr hlk hW ⟨hF99, ⟨q96, q97, q98, q93, q94, q95, trivial⟩, trivial⟩ dX11_servesOf_47
