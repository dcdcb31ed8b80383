set_option maxHeartbeats 4000000 in
set_option maxRecDepth 100000 in
theorem c_X11_reckonV (l : Launch) (D : va_G) (g : xG) (T : Nat × Nat × Nat) (h0 : Nat) (s0 : xS) (hσ : xRR s0) (q : Int) (rq : xR q) (a : Int) (ra : xR a) (b : Int) (rb : xR b) (hq : 2 ≤ q ∧ q ≤ 9 ∧ ((q = 5 ∨ q = 6) → b ≠ 0)) : Met l yX11_reckon (xws yX11_reckon cX11_reckon 3 (some .int)) { frames := 0, cells := 0, slots := 0, locals := 0 } (xP [.int (xJ q), .int (xJ a), .int (xJ b)] D g T h0 s0) (xQi D g h0 (fun r τ => s0 = τ ∧ (r = zrk q a b))) 0 0 (xA h0) := by
  refine x_met hσ (by decide) (Nat.le_of_ble_eq_true rfl) ?_
  intro p e s m args below meth c hx hb hr hml hown hT hlk hnm hE hW ls hl
  have hl : lv_has ls 3 [(0, .int (xJ q)), (1, .int (xJ a)), (2, .int (xJ b))] := hl
  obtain ⟨Q, eQ⟩ : ∃ Q, Q = MQ below (xQi D g h0 (fun r τ => s0 = τ ∧ (r = zrk q a b))) args s 0 0 (xA h0) := ⟨_, rfl⟩
  rw [← eQ]
  generalize hHe : ([] : List Loc) = locs at hW ⊢
  obtain ⟨H, eH⟩ : ∃ H, H = s.heap := ⟨_, rfl⟩
  rw [← eH] at hW ⊢
  refine x_iload_n hx hb hl 0 rfl dX11_reckon_0 rfl ?_
  rcases (show (q < 2 ∨ 8 < q) ∨ q = 2 ∨ q = 3 ∨ q = 4 ∨ q = 5 ∨ q = 6 ∨ q = 7 ∨ q = 8 from by omega) with c1 | c1 | c1 | c1 | c1 | c1 | c1 | c1
  · refine x_tabOut (tgt := 86) hx hb rq dX11_reckon_1 c1 (by decide) ?_
    refine x_iload_n hx hb hl 1 rfl dX11_reckon_86 rfl ?_
    refine x_iload_n hx hb hl 2 rfl dX11_reckon_87 rfl ?_
    refine x_icmp_ne (tgt := 95) hx hb ra rb dX11_reckon_88 (by decide) (fun c2 => ?_) (fun c2 => ?_)
    · skip
      refine x_iconst hx hb dX11_reckon_95 ?_
      rw [eQ]
      exact x_iret hx hb hr hlk hW (by decide) ⟨rfl, by first | (rw [show q = 2 from by omega]; assumption) | (rw [show q = 3 from by omega]; assumption) | (rw [show q = 4 from by omega]; assumption) | (rw [show q = 5 from by omega]; assumption) | (rw [show q = 6 from by omega]; assumption) | (rw [show q = 7 from by omega]; show _ = if a < b then (1 : Int) else 0; first | rw [if_pos (by omega)] | rw [if_neg (by omega)]) | (rw [show q = 8 from by omega]; show _ = if b < a then (1 : Int) else 0; first | rw [if_pos (by omega)] | rw [if_neg (by omega)]) | (rw [show q = 9 from by omega]; show _ = if a = b then (1 : Int) else 0; first | rw [if_pos (by omega)] | rw [if_neg (by omega)])⟩ dX11_reckon_96
    refine x_iconst hx hb dX11_reckon_91 ?_
    refine lv_goto (tgt := 96) hx hb dX11_reckon_92 (by decide) ?_
    rw [eQ]
    exact x_iret hx hb hr hlk hW (by decide) ⟨rfl, by first | (rw [show q = 2 from by omega]; assumption) | (rw [show q = 3 from by omega]; assumption) | (rw [show q = 4 from by omega]; assumption) | (rw [show q = 5 from by omega]; assumption) | (rw [show q = 6 from by omega]; assumption) | (rw [show q = 7 from by omega]; show _ = if a < b then (1 : Int) else 0; first | rw [if_pos (by omega)] | rw [if_neg (by omega)]) | (rw [show q = 8 from by omega]; show _ = if b < a then (1 : Int) else 0; first | rw [if_pos (by omega)] | rw [if_neg (by omega)]) | (rw [show q = 9 from by omega]; show _ = if a = b then (1 : Int) else 0; first | rw [if_pos (by omega)] | rw [if_neg (by omega)])⟩ dX11_reckon_96
  · refine x_tabIn (v := 2) (tgt := 44) hx hb rq c1 dX11_reckon_1 (by decide) rfl (by decide) ?_
    refine x_iload_n hx hb hl 1 rfl dX11_reckon_44 rfl ?_
    refine x_iload_n hx hb hl 2 rfl dX11_reckon_45 rfl ?_
    refine x_iadd hx hb dX11_reckon_46 ?_
    refine x_wv (fun x3 ex3 rx3 => ?_)
    rw [eQ]
    exact x_iret hx hb hr hlk hW rx3 ⟨rfl, by first | (rw [show q = 2 from by omega]; assumption) | (rw [show q = 3 from by omega]; assumption) | (rw [show q = 4 from by omega]; assumption) | (rw [show q = 5 from by omega]; assumption) | (rw [show q = 6 from by omega]; assumption) | (rw [show q = 7 from by omega]; show _ = if a < b then (1 : Int) else 0; first | rw [if_pos (by omega)] | rw [if_neg (by omega)]) | (rw [show q = 8 from by omega]; show _ = if b < a then (1 : Int) else 0; first | rw [if_pos (by omega)] | rw [if_neg (by omega)]) | (rw [show q = 9 from by omega]; show _ = if a = b then (1 : Int) else 0; first | rw [if_pos (by omega)] | rw [if_neg (by omega)])⟩ dX11_reckon_47
  · refine x_tabIn (v := 3) (tgt := 48) hx hb rq c1 dX11_reckon_1 (by decide) rfl (by decide) ?_
    refine x_iload_n hx hb hl 1 rfl dX11_reckon_48 rfl ?_
    refine x_iload_n hx hb hl 2 rfl dX11_reckon_49 rfl ?_
    refine x_isub hx hb dX11_reckon_50 ?_
    refine x_wv (fun x4 ex4 rx4 => ?_)
    rw [eQ]
    exact x_iret hx hb hr hlk hW rx4 ⟨rfl, by first | (rw [show q = 2 from by omega]; assumption) | (rw [show q = 3 from by omega]; assumption) | (rw [show q = 4 from by omega]; assumption) | (rw [show q = 5 from by omega]; assumption) | (rw [show q = 6 from by omega]; assumption) | (rw [show q = 7 from by omega]; show _ = if a < b then (1 : Int) else 0; first | rw [if_pos (by omega)] | rw [if_neg (by omega)]) | (rw [show q = 8 from by omega]; show _ = if b < a then (1 : Int) else 0; first | rw [if_pos (by omega)] | rw [if_neg (by omega)]) | (rw [show q = 9 from by omega]; show _ = if a = b then (1 : Int) else 0; first | rw [if_pos (by omega)] | rw [if_neg (by omega)])⟩ dX11_reckon_51
  · refine x_tabIn (v := 4) (tgt := 52) hx hb rq c1 dX11_reckon_1 (by decide) rfl (by decide) ?_
    refine x_iload_n hx hb hl 1 rfl dX11_reckon_52 rfl ?_
    refine x_iload_n hx hb hl 2 rfl dX11_reckon_53 rfl ?_
    refine x_imul hx hb dX11_reckon_54 ?_
    refine x_wv (fun x5 ex5 rx5 => ?_)
    rw [eQ]
    exact x_iret hx hb hr hlk hW rx5 ⟨rfl, by first | (rw [show q = 2 from by omega]; assumption) | (rw [show q = 3 from by omega]; assumption) | (rw [show q = 4 from by omega]; assumption) | (rw [show q = 5 from by omega]; assumption) | (rw [show q = 6 from by omega]; assumption) | (rw [show q = 7 from by omega]; show _ = if a < b then (1 : Int) else 0; first | rw [if_pos (by omega)] | rw [if_neg (by omega)]) | (rw [show q = 8 from by omega]; show _ = if b < a then (1 : Int) else 0; first | rw [if_pos (by omega)] | rw [if_neg (by omega)]) | (rw [show q = 9 from by omega]; show _ = if a = b then (1 : Int) else 0; first | rw [if_pos (by omega)] | rw [if_neg (by omega)])⟩ dX11_reckon_55
  · refine x_tabIn (v := 5) (tgt := 56) hx hb rq c1 dX11_reckon_1 (by decide) rfl (by decide) ?_
    refine x_iload_n hx hb hl 1 rfl dX11_reckon_56 rfl ?_
    refine x_iload_n hx hb hl 2 rfl dX11_reckon_57 rfl ?_
    refine x_idivE hx hb rb (by omega) dX11_reckon_58 (fun x6 ex6 rx6 => ?_)
    rw [eQ]
    exact x_iret hx hb hr hlk hW rx6 ⟨rfl, by first | (rw [show q = 2 from by omega]; assumption) | (rw [show q = 3 from by omega]; assumption) | (rw [show q = 4 from by omega]; assumption) | (rw [show q = 5 from by omega]; assumption) | (rw [show q = 6 from by omega]; assumption) | (rw [show q = 7 from by omega]; show _ = if a < b then (1 : Int) else 0; first | rw [if_pos (by omega)] | rw [if_neg (by omega)]) | (rw [show q = 8 from by omega]; show _ = if b < a then (1 : Int) else 0; first | rw [if_pos (by omega)] | rw [if_neg (by omega)]) | (rw [show q = 9 from by omega]; show _ = if a = b then (1 : Int) else 0; first | rw [if_pos (by omega)] | rw [if_neg (by omega)])⟩ dX11_reckon_59
  · refine x_tabIn (v := 6) (tgt := 60) hx hb rq c1 dX11_reckon_1 (by decide) rfl (by decide) ?_
    refine x_iload_n hx hb hl 1 rfl dX11_reckon_60 rfl ?_
    refine x_iload_n hx hb hl 2 rfl dX11_reckon_61 rfl ?_
    refine x_iremE hx hb rb (by omega) dX11_reckon_62 (fun x7 ex7 rx7 => ?_)
    rw [eQ]
    exact x_iret hx hb hr hlk hW rx7 ⟨rfl, by first | (rw [show q = 2 from by omega]; assumption) | (rw [show q = 3 from by omega]; assumption) | (rw [show q = 4 from by omega]; assumption) | (rw [show q = 5 from by omega]; assumption) | (rw [show q = 6 from by omega]; assumption) | (rw [show q = 7 from by omega]; show _ = if a < b then (1 : Int) else 0; first | rw [if_pos (by omega)] | rw [if_neg (by omega)]) | (rw [show q = 8 from by omega]; show _ = if b < a then (1 : Int) else 0; first | rw [if_pos (by omega)] | rw [if_neg (by omega)]) | (rw [show q = 9 from by omega]; show _ = if a = b then (1 : Int) else 0; first | rw [if_pos (by omega)] | rw [if_neg (by omega)])⟩ dX11_reckon_63
  · refine x_tabIn (v := 7) (tgt := 64) hx hb rq c1 dX11_reckon_1 (by decide) rfl (by decide) ?_
    refine x_iload_n hx hb hl 1 rfl dX11_reckon_64 rfl ?_
    refine x_iload_n hx hb hl 2 rfl dX11_reckon_65 rfl ?_
    refine x_icmp_ge (tgt := 73) hx hb ra rb dX11_reckon_66 (by decide) (fun c8 => ?_) (fun c8 => ?_)
    · skip
      refine x_iconst hx hb dX11_reckon_73 ?_
      rw [eQ]
      exact x_iret hx hb hr hlk hW (by decide) ⟨rfl, by first | (rw [show q = 2 from by omega]; assumption) | (rw [show q = 3 from by omega]; assumption) | (rw [show q = 4 from by omega]; assumption) | (rw [show q = 5 from by omega]; assumption) | (rw [show q = 6 from by omega]; assumption) | (rw [show q = 7 from by omega]; show _ = if a < b then (1 : Int) else 0; first | rw [if_pos (by omega)] | rw [if_neg (by omega)]) | (rw [show q = 8 from by omega]; show _ = if b < a then (1 : Int) else 0; first | rw [if_pos (by omega)] | rw [if_neg (by omega)]) | (rw [show q = 9 from by omega]; show _ = if a = b then (1 : Int) else 0; first | rw [if_pos (by omega)] | rw [if_neg (by omega)])⟩ dX11_reckon_74
    refine x_iconst hx hb dX11_reckon_69 ?_
    refine lv_goto (tgt := 74) hx hb dX11_reckon_70 (by decide) ?_
    rw [eQ]
    exact x_iret hx hb hr hlk hW (by decide) ⟨rfl, by first | (rw [show q = 2 from by omega]; assumption) | (rw [show q = 3 from by omega]; assumption) | (rw [show q = 4 from by omega]; assumption) | (rw [show q = 5 from by omega]; assumption) | (rw [show q = 6 from by omega]; assumption) | (rw [show q = 7 from by omega]; show _ = if a < b then (1 : Int) else 0; first | rw [if_pos (by omega)] | rw [if_neg (by omega)]) | (rw [show q = 8 from by omega]; show _ = if b < a then (1 : Int) else 0; first | rw [if_pos (by omega)] | rw [if_neg (by omega)]) | (rw [show q = 9 from by omega]; show _ = if a = b then (1 : Int) else 0; first | rw [if_pos (by omega)] | rw [if_neg (by omega)])⟩ dX11_reckon_74
  · refine x_tabIn (v := 8) (tgt := 75) hx hb rq c1 dX11_reckon_1 (by decide) rfl (by decide) ?_
    refine x_iload_n hx hb hl 1 rfl dX11_reckon_75 rfl ?_
    refine x_iload_n hx hb hl 2 rfl dX11_reckon_76 rfl ?_
    refine x_icmp_le (tgt := 84) hx hb ra rb dX11_reckon_77 (by decide) (fun c9 => ?_) (fun c9 => ?_)
    · skip
      refine x_iconst hx hb dX11_reckon_84 ?_
      rw [eQ]
      exact x_iret hx hb hr hlk hW (by decide) ⟨rfl, by first | (rw [show q = 2 from by omega]; assumption) | (rw [show q = 3 from by omega]; assumption) | (rw [show q = 4 from by omega]; assumption) | (rw [show q = 5 from by omega]; assumption) | (rw [show q = 6 from by omega]; assumption) | (rw [show q = 7 from by omega]; show _ = if a < b then (1 : Int) else 0; first | rw [if_pos (by omega)] | rw [if_neg (by omega)]) | (rw [show q = 8 from by omega]; show _ = if b < a then (1 : Int) else 0; first | rw [if_pos (by omega)] | rw [if_neg (by omega)]) | (rw [show q = 9 from by omega]; show _ = if a = b then (1 : Int) else 0; first | rw [if_pos (by omega)] | rw [if_neg (by omega)])⟩ dX11_reckon_85
    refine x_iconst hx hb dX11_reckon_80 ?_
    refine lv_goto (tgt := 85) hx hb dX11_reckon_81 (by decide) ?_
    rw [eQ]
    exact x_iret hx hb hr hlk hW (by decide) ⟨rfl, by first | (rw [show q = 2 from by omega]; assumption) | (rw [show q = 3 from by omega]; assumption) | (rw [show q = 4 from by omega]; assumption) | (rw [show q = 5 from by omega]; assumption) | (rw [show q = 6 from by omega]; assumption) | (rw [show q = 7 from by omega]; show _ = if a < b then (1 : Int) else 0; first | rw [if_pos (by omega)] | rw [if_neg (by omega)]) | (rw [show q = 8 from by omega]; show _ = if b < a then (1 : Int) else 0; first | rw [if_pos (by omega)] | rw [if_neg (by omega)]) | (rw [show q = 9 from by omega]; show _ = if a = b then (1 : Int) else 0; first | rw [if_pos (by omega)] | rw [if_neg (by omega)])⟩ dX11_reckon_85
set_option maxHeartbeats 4000000 in
set_option maxRecDepth 100000 in
theorem c_X11_comesToV (l : Launch) (D : va_G) (g : xG) (T : Nat × Nat × Nat) (h0 : Nat) (s0 : xS) (hσ : xRR s0) (a : Int) (ra : xR a) (b : Int) (rb : xR b) (m9 : Bool) (d9 : Int → Int) (hg : zGD (s0 283) a b m9 d9) (p0 : IMn s0) (p1 : IMk s0) (p2 : IMo s0) : Met l yX11_comesTo (xws yX11_comesTo cX11_comesTo 8 (some .int)) { frames := 1, cells := 0, slots := 0, locals := 22 } (xP [.ref (h0 + 268), .int (xJ a), .int (xJ b)] D g T h0 s0) (xQi D g h0 (fun r τ => xFr (fun k => k = 293) s0 τ ∧ (((IMn τ) ∧ (IMk τ) ∧ (IMo τ) ∧ True) ∧ (r = (zEV (s0 283) (s0 294) a b))))) 0 0 (xA h0) := by
  refine x_met hσ (by decide) (Nat.le_of_ble_eq_true rfl) ?_
  intro p e s m args below meth c hx hb hr hml hown hT hlk hnm hE hW ls hl
  have hl : lv_has ls 8 [(0, .ref (h0 + 268)), (1, .int (xJ a)), (2, .int (xJ b))] := hl
  obtain ⟨Q, eQ⟩ : ∃ Q, Q = MQ below (xQi D g h0 (fun r τ => xFr (fun k => k = 293) s0 τ ∧ (((IMn τ) ∧ (IMk τ) ∧ (IMo τ) ∧ True) ∧ (r = (zEV (s0 283) (s0 294) a b))))) args s 0 0 (xA h0) := ⟨_, rfl⟩
  rw [← eQ]
  generalize hHe : ([] : List Loc) = locs at hW ⊢
  obtain ⟨H, eH⟩ : ∃ H, H = s.heap := ⟨_, rfl⟩
  rw [← eH] at hW ⊢
  have hF : xFr (fun k => k = 293) s0 s0 := xFr.rf
  have k268_8 : s0 268 8 = s0 268 8 := rfl
  have k268_58 : s0 268 58 = s0 268 58 := rfl
  have hg1 := hg.1
  have hg2 := hg.2.1
  obtain ⟨V0, eV0⟩ : ∃ v : Int, v = (zEV (s0 283) (s0 294) a b) := ⟨_, rfl⟩
  refine x_iconst hx hb dX11_comesTo_0 ?_
  refine lv_istore_n (lv' := [(3, .int (xJ 0)), (0, .ref (h0 + 268)), (1, .int (xJ a)), (2, .int (xJ b))]) hx hb dX11_comesTo_1 rfl hl (by decide) rfl (fun ls hl => ?_)
  refine x_sipush hx hb dX11_comesTo_2 (by decide) ?_
  refine x_iload_n hx hb hl 2 rfl dX11_comesTo_5 rfl ?_
  refine x_sipush hx hb dX11_comesTo_6 (by decide) ?_
  refine x_idiv hx hb ra (by decide) (by omega) (by decide) dX11_comesTo_9 ?_
  refine x_imul hx hb dX11_comesTo_10 ?_
  refine x_nm (fun x1 ex1 => ?_)
  refine lv_istore (lv' := [(4, .int (xJ x1)), (3, .int (xJ 0)), (0, .ref (h0 + 268)), (1, .int (xJ a)), (2, .int (xJ b))]) hx hb dX11_comesTo_11 hl (by decide) rfl (fun ls hl => ?_)
  refine x_iload_n hx hb hl 3 rfl dX11_comesTo_13 rfl ?_
  refine lv_istore (lv' := [(5, .int (xJ a)), (4, .int (xJ x1)), (3, .int (xJ 0)), (0, .ref (h0 + 268)), (1, .int (xJ a)), (2, .int (xJ b))]) hx hb dX11_comesTo_14 hl (by decide) rfl (fun ls hl => ?_)
  have L16 : ∀ (fu : Nat) (i3_16 : Int) (i5_16 : Int) (s_16 : xS) (H : Heap) (locs : List Loc) (ls : Array Slot), (xR i3_16) → (xR i5_16) → (xFr (fun k => k = 293) s0 s_16) → (IMn s_16) → (IMk s_16) → (IMo s_16) → (s_16 268 8 = s0 268 8) → (s_16 268 58 = s0 268 58) → (a ≤ i5_16 ∧ i5_16 ≤ b) → (0 ≤ i3_16 ∧ i3_16 ≤ 40) → (zVS (s0 283) (s0 294) d9 a b V0 i5_16 (zl0 (s_16 293) i3_16)) → (b - i5_16).toNat < fu → xW D g h0 s H locs s_16 → lv_has ls 8 [(0, .ref (h0 + 268)), (2, .int (xJ b)), (3, .int (xJ i3_16)), (4, .int (xJ x1)), (5, .int (xJ i5_16))] → W p l e { frames := 1, cells := 0, slots := 0, locals := 22 } s m args below meth c H locs 0 0 Q (F0 m 16 ls []) := by
    intro fu
    induction fu with
    | zero => intro i3_16 i5_16 s_16 H locs ls ri3_16 ri5_16 hF_16 q16_0 q16_1 q16_2 q16_3 q16_4 v16_0 v16_1 v16_2 hm; exact absurd hm (Nat.not_lt_zero _)
    | succ fu ih16 =>
      intro i3_16 i5_16 s_16 H locs ls ri3_16 ri5_16 hF_16 q16_0 q16_1 q16_2 q16_3 q16_4 v16_0 v16_1 v16_2 hm hW hl
      have hm_16 := fun (_ : Unit) => hm
      clear hm
      have n16 := v16_2.2.2.1
      rw [zl0_l _ (by omega)] at n16
      refine x_iload hx hb hl 4 rfl dX11_comesTo_16 ?_
      refine x_iload_n hx hb hl 1 rfl dX11_comesTo_18 rfl ?_
      refine x_icmp_ge (tgt := 233) hx hb ri5_16 rb dX11_comesTo_19 (by decide) (fun c2 => ?_) (fun c2 => ?_)
      · skip
        refine x_aload_n hx hb hl 0 rfl dX11_comesTo_233 rfl ?_
        refine x_get (j := 38) (v := .ref (h0 + 293)) hx hb hown hT hE hW cls_X11 (Or.inl (by decide)) (so_268 h0 g _) (by decide) rfl wq1223 dX11_comesTo_234 ?_
        refine x_iconst hx hb dX11_comesTo_237 ?_
        refine x_iald hx hb hE hW (Or.inl (by decide)) (sa_293 h0 g _) ⟨by decide, by decide⟩ (by decide) dX11_comesTo_238 ?_
        refine x_rd hW (fun x3 ex3 rx3 => ?_)
        have V238 := ex3
        rw [eQ]
        exact x_iret hx hb hr hlk hW rx3 ⟨hF_16, ⟨q16_0, q16_1, q16_2, trivial⟩, by
            rw [← eV0]
            have e9 : i5_16 = b := by omega
            rw [e9] at n16
            have y := v16_2.fin e9
            rw [y, zl0_pop _ (by omega), V238, show i3_16 - 1 = 0 from by omega]
            rfl⟩ dX11_comesTo_239
      refine x_aload_n hx hb hl 0 rfl dX11_comesTo_22 rfl ?_
      refine x_get (j := 24) (v := .ref (h0 + 283)) hx hb hown hT hE hW cls_X11 (Or.inl (by decide)) (so_268 h0 g _) (by decide) rfl wq1209 dX11_comesTo_23 ?_
      refine x_iload hx hb hl 4 rfl dX11_comesTo_26 ?_
      refine x_iald hx hb hE hW (Or.inl (by decide)) (sa_283 h0 g _) (by omega) (by decide) dX11_comesTo_28 ?_
      refine x_rd hW (fun x4 ex4 rx4 => ?_)
      have V28 : x4 = s0 283 i5_16 := by rw [ex4, hF_16 283 (by first | decide | omega)]
      obtain ⟨c9, ec9⟩ : ∃ c : Int, c = s0 283 i5_16 := ⟨_, rfl⟩
      have A28 := hg.at_ (p := i5_16) (by omega) (by omega)
      rw [← ec9] at A28 V28
      have T28 : 10485760 ≤ c9 → (s_16 293 (i3_16 - 1) = 0 ∨ s_16 293 (i3_16 - 1) = 1) := fun e => by
        have q := v16_2.top hg (by omega) (by rw [← ec9]; exact e)
        rw [zl0_l _ (by omega)] at q
        have q2 := q.2
        rw [zl0_pop _ q.1] at q2
        exact q2
      have L28 : 1 ≤ i3_16 → zl0 (s_16 293) i3_16 = s_16 293 (i3_16 - 1) :: zl0 (s_16 293) (i3_16 - 1) := fun h => zl0_pop _ h
      refine lv_ldc (v := xJ 1048576) hx hb hown (hT _ wq1482) dX11_comesTo_29 ?_
      refine x_idiv hx hb rx4 (by decide) (by omega) (by decide) dX11_comesTo_31 ?_
      refine x_nm (fun x5 ex5 => ?_)
      refine lv_istore (lv' := [(6, .int (xJ x5)), (0, .ref (h0 + 268)), (2, .int (xJ b)), (3, .int (xJ i3_16)), (4, .int (xJ x1)), (5, .int (xJ i5_16))]) hx hb dX11_comesTo_32 hl (by decide) rfl (fun ls hl => ?_)
      refine x_aload_n hx hb hl 1 rfl dX11_comesTo_34 rfl ?_
      refine x_get (j := 24) (v := .ref (h0 + 283)) hx hb hown hT hE hW cls_X11 (Or.inl (by decide)) (so_268 h0 g _) (by decide) rfl wq1209 dX11_comesTo_35 ?_
      refine x_iload hx hb hl 5 rfl dX11_comesTo_38 ?_
      refine x_iald hx hb hE hW (Or.inl (by decide)) (sa_283 h0 g _) (by omega) (by decide) dX11_comesTo_40 ?_
      refine x_rd hW (fun x6 ex6 rx6 => ?_)
      have V40 : x6 = c9 := by rw [ex6, hF_16 283 (by first | decide | omega)]; exact ec9.symm
      refine lv_ldc (v := xJ 1048576) hx hb hown (hT _ wq1482) dX11_comesTo_41 ?_
      refine x_irem hx hb rx6 (by decide) (by omega) (by decide) dX11_comesTo_43 ?_
      refine x_nm (fun x7 ex7 => ?_)
      refine lv_istore (lv' := [(7, .int (xJ x7)), (6, .int (xJ x5)), (0, .ref (h0 + 268)), (2, .int (xJ b)), (3, .int (xJ i3_16)), (4, .int (xJ x1)), (5, .int (xJ i5_16))]) hx hb dX11_comesTo_44 hl (by decide) rfl (fun ls hl => ?_)
      refine x_iload hx hb hl 6 rfl dX11_comesTo_46 ?_
      refine x_iconst hx hb dX11_comesTo_48 ?_
      refine x_iadd hx hb dX11_comesTo_49 ?_
      refine x_nm (fun x8 ex8 => ?_)
      refine lv_istore (lv' := [(5, .int (xJ x8)), (7, .int (xJ x7)), (6, .int (xJ x5)), (0, .ref (h0 + 268)), (2, .int (xJ b)), (3, .int (xJ i3_16)), (4, .int (xJ x1))]) hx hb dX11_comesTo_50 hl (by decide) rfl (fun ls hl => ?_)
      refine x_iload hx hb hl 2 rfl dX11_comesTo_52 ?_
      refine x_if_eq (tgt := 63) hx hb (by omega) dX11_comesTo_54 (by decide) (fun c9 => ?_) (fun c9 => ?_)
      · skip
        refine x_aload_n hx hb hl 3 rfl dX11_comesTo_63 rfl ?_
        refine x_get (j := 38) (v := .ref (h0 + 293)) hx hb hown hT hE hW cls_X11 (Or.inl (by decide)) (so_268 h0 g _) (by decide) rfl wq1223 dX11_comesTo_64 ?_
        refine x_iload_n hx hb hl 5 rfl dX11_comesTo_67 rfl ?_
        refine x_iload hx hb hl 2 rfl dX11_comesTo_68 ?_
        refine x_if_ne (tgt := 78) hx hb (by omega) dX11_comesTo_70 (by decide) (fun c10 => ?_) (fun c10 => ?_)
        · skip
          refine x_aload_n hx hb hl 3 rfl dX11_comesTo_78 rfl ?_
          refine x_get (j := 39) (v := .ref (h0 + 294)) hx hb hown hT hE hW cls_X11 (Or.inl (by decide)) (so_268 h0 g _) (by decide) rfl wq1224 dX11_comesTo_79 ?_
          refine x_iload hx hb hl 1 rfl dX11_comesTo_82 ?_
          refine x_iald hx hb hE hW (Or.inl (by decide)) (sa_294 h0 g _) (by omega) (by decide) dX11_comesTo_84 ?_
          refine x_rd hW (fun x11 ex11 rx11 => ?_)
          have V84 : x11 = s0 294 x7 := by rw [ex11, hF_16 294 (by first | decide | omega)]
          refine x_iast hx hb hE hW (by decide) (fun σ => sa_293 h0 g σ) (by omega) (by decide) rx11 dX11_comesTo_85 (fun H locs s12 es12 hW => ?_)
          have q13 : IMn s12 := by rw [es12]; exact IMn_o (by unfold suIMn; first | decide | omega) q16_0
          have q14 : IMk s12 := by rw [es12]; exact IMk_o (by unfold suIMk; first | decide | omega) q16_1
          have q15 : IMo s12 := by rw [es12]; exact IMo_o (by unfold suIMo; first | decide | omega) q16_2
          have q16 : s12 268 8 = s0 268 8 := (show s12 268 8 = s_16 268 8 from by rw [es12, xU_k _ _ _ (by first | decide | omega)]).trans q16_3
          have q17 : s12 268 58 = s0 268 58 := (show s12 268 58 = s_16 268 58 from by rw [es12, xU_k _ _ _ (by first | decide | omega)]).trans q16_4
          have hF18 := hF_16.put es12 (by omega)
          have X85 : zl0 (s12 293) (i3_16 + 1) = x11 :: zl0 (s_16 293) i3_16 := by rw [es12, xU_xud]; exact zl0_push _ rfl rfl (by omega)
          refine x_iload_n hx hb hl 5 rfl dX11_comesTo_86 rfl ?_
          refine x_iconst hx hb dX11_comesTo_87 ?_
          refine x_iadd hx hb dX11_comesTo_88 ?_
          refine x_nm (fun x19 ex19 => ?_)
          refine lv_istore_n (lv' := [(3, .int (xJ x19)), (5, .int (xJ x8)), (7, .int (xJ x7)), (6, .int (xJ x5)), (0, .ref (h0 + 268)), (2, .int (xJ b)), (4, .int (xJ x1))]) hx hb dX11_comesTo_89 rfl hl (by decide) rfl (fun ls hl => ?_)
          refine lv_goto (tgt := 230) hx hb dX11_comesTo_90 (by decide) ?_
          refine lv_goto (tgt := 16) hx hb dX11_comesTo_230 (by decide) ?_
          exact ih16 x19 x8 s12 H locs ls (by omega) (by omega) hF18 q13 q14 q15 q16 q17 (by omega) (by omega) (by first | (exfalso; omega) | exact (by
              rw [X85]
              exact v16_2.num hg (by omega) (by rw [← ec9]; omega) (by rw [← ec9]; omega) (by omega)) | exact (by
              rw [X85]
              exact v16_2.let_ hg (by omega) (by rw [← ec9]; omega) (by rw [V84, ← ec9]; congr 1; omega) (by omega)) | exact (by
              have tp := T28 (by omega)
              rw [X117]
              exact v16_2.not hg (by omega) (by rw [← ec9]; omega) (by rw [L28 (by omega)]; show _ = 1 - s_16 293 (i3_16 - 1); omega) (by rw [L28 (by omega)]; rfl) (by omega)) | exact (by
              have tp := T28 (by omega)
              have hh : zhd (zl0 (s_16 293) i3_16) = s_16 293 (i3_16 - 1) := by rw [L28 (by omega)]; rfl
              exact (v16_2.jmp hg (by omega) (by rw [← ec9, hh]; omega) (by rw [← ec9]; omega)).1) | exact (by
              have hh : zhd (zl0 (s_16 293) i3_16) = s_16 293 (i3_16 - 1) := by rw [L28 (by omega)]; rfl
              rw [show x19 = i3_16 - 1 from by omega]
              exact v16_2.stay hg (by omega) (by rw [← ec9, hh]; omega) (by rw [hh]; exact L28 (by omega)) (by omega)) | exact (by
              have e1 := L28 (by omega)
              have hh : zhd (zl0 (s_16 293) i3_16) = s_16 293 (i3_16 - 1) := by rw [e1]; rfl
              have e2 := zl0_pop (s_16 293) (n := i3_16 - 1) (by omega)
              rw [e2] at e1
              rw [X229]
              exact v16_2.op hg (by omega) (by rw [← ec9]; omega) (by rw [← ec9, hh]; omega) e1 (by rw [← ec9]; exact W229) (by omega))) (by have hm := hm_16 (); omega) hW (lv_sub hl [4, 5, 0, 6, 1] rfl)
        refine x_iload hx hb hl 1 rfl dX11_comesTo_73 ?_
        refine lv_goto (tgt := 85) hx hb dX11_comesTo_75 (by decide) ?_
        refine x_iast hx hb hE hW (by decide) (fun σ => sa_293 h0 g σ) (by omega) (by decide) (by omega) dX11_comesTo_85 (fun H locs s20 es20 hW => ?_)
        have q21 : IMn s20 := by rw [es20]; exact IMn_o (by unfold suIMn; first | decide | omega) q16_0
        have q22 : IMk s20 := by rw [es20]; exact IMk_o (by unfold suIMk; first | decide | omega) q16_1
        have q23 : IMo s20 := by rw [es20]; exact IMo_o (by unfold suIMo; first | decide | omega) q16_2
        have q24 : s20 268 8 = s0 268 8 := (show s20 268 8 = s_16 268 8 from by rw [es20, xU_k _ _ _ (by first | decide | omega)]).trans q16_3
        have q25 : s20 268 58 = s0 268 58 := (show s20 268 58 = s_16 268 58 from by rw [es20, xU_k _ _ _ (by first | decide | omega)]).trans q16_4
        have hF26 := hF_16.put es20 (by omega)
        have X85 : zl0 (s20 293) (i3_16 + 1) = x7 :: zl0 (s_16 293) i3_16 := by rw [es20, xU_xud]; exact zl0_push _ rfl rfl (by omega)
        refine x_iload_n hx hb hl 5 rfl dX11_comesTo_86 rfl ?_
        refine x_iconst hx hb dX11_comesTo_87 ?_
        refine x_iadd hx hb dX11_comesTo_88 ?_
        refine x_nm (fun x27 ex27 => ?_)
        refine lv_istore_n (lv' := [(3, .int (xJ x27)), (5, .int (xJ x8)), (7, .int (xJ x7)), (6, .int (xJ x5)), (0, .ref (h0 + 268)), (2, .int (xJ b)), (4, .int (xJ x1))]) hx hb dX11_comesTo_89 rfl hl (by decide) rfl (fun ls hl => ?_)
        refine lv_goto (tgt := 230) hx hb dX11_comesTo_90 (by decide) ?_
        refine lv_goto (tgt := 16) hx hb dX11_comesTo_230 (by decide) ?_
        exact ih16 x27 x8 s20 H locs ls (by omega) (by omega) hF26 q21 q22 q23 q24 q25 (by omega) (by omega) (by first | (exfalso; omega) | exact (by
            rw [X85]
            exact v16_2.num hg (by omega) (by rw [← ec9]; omega) (by rw [← ec9]; omega) (by omega)) | exact (by
            rw [X85]
            exact v16_2.let_ hg (by omega) (by rw [← ec9]; omega) (by rw [V84, ← ec9]; congr 1; omega) (by omega)) | exact (by
            have tp := T28 (by omega)
            rw [X117]
            exact v16_2.not hg (by omega) (by rw [← ec9]; omega) (by rw [L28 (by omega)]; show _ = 1 - s_16 293 (i3_16 - 1); omega) (by rw [L28 (by omega)]; rfl) (by omega)) | exact (by
            have tp := T28 (by omega)
            have hh : zhd (zl0 (s_16 293) i3_16) = s_16 293 (i3_16 - 1) := by rw [L28 (by omega)]; rfl
            exact (v16_2.jmp hg (by omega) (by rw [← ec9, hh]; omega) (by rw [← ec9]; omega)).1) | exact (by
            have hh : zhd (zl0 (s_16 293) i3_16) = s_16 293 (i3_16 - 1) := by rw [L28 (by omega)]; rfl
            rw [show x27 = i3_16 - 1 from by omega]
            exact v16_2.stay hg (by omega) (by rw [← ec9, hh]; omega) (by rw [hh]; exact L28 (by omega)) (by omega)) | exact (by
            have e1 := L28 (by omega)
            have hh : zhd (zl0 (s_16 293) i3_16) = s_16 293 (i3_16 - 1) := by rw [e1]; rfl
            have e2 := zl0_pop (s_16 293) (n := i3_16 - 1) (by omega)
            rw [e2] at e1
            rw [X229]
            exact v16_2.op hg (by omega) (by rw [← ec9]; omega) (by rw [← ec9, hh]; omega) e1 (by rw [← ec9]; exact W229) (by omega))) (by have hm := hm_16 (); omega) hW (lv_sub hl [4, 5, 0, 6, 1] rfl)
      refine x_iload hx hb hl 2 rfl dX11_comesTo_57 ?_
      refine x_iconst hx hb dX11_comesTo_59 ?_
      refine x_icmp_ne (tgt := 93) hx hb (by omega) (by decide) dX11_comesTo_60 (by decide) (fun c28 => ?_) (fun c28 => ?_)
      · skip
        refine x_iload hx hb hl 2 rfl dX11_comesTo_93 ?_
        refine x_bipush hx hb dX11_comesTo_95 (by decide) ?_
        refine x_icmp_ne (tgt := 121) hx hb (by omega) (by decide) dX11_comesTo_97 (by decide) (fun c29 => ?_) (fun c29 => ?_)
        · skip
          refine x_iload hx hb hl 2 rfl dX11_comesTo_121 ?_
          refine x_bipush hx hb dX11_comesTo_123 (by decide) ?_
          refine x_icmp_eq (tgt := 135) hx hb (by omega) (by decide) dX11_comesTo_125 (by decide) (fun c30 => ?_) (fun c30 => ?_)
          · skip
            refine x_aload_n hx hb hl 3 rfl dX11_comesTo_135 rfl ?_
            refine x_get (j := 38) (v := .ref (h0 + 293)) hx hb hown hT hE hW cls_X11 (Or.inl (by decide)) (so_268 h0 g _) (by decide) rfl wq1223 dX11_comesTo_136 ?_
            refine x_iload_n hx hb hl 5 rfl dX11_comesTo_139 rfl ?_
            refine x_iconst hx hb dX11_comesTo_140 ?_
            refine x_isub hx hb dX11_comesTo_141 ?_
            refine x_iald hx hb hE hW (Or.inl (by decide)) (sa_293 h0 g _) (by omega) (by decide) dX11_comesTo_142 ?_
            refine x_rd hW (fun x31 ex31 rx31 => ?_)
            have V142 : x31 = s_16 293 (i3_16 - 1) := ex31
            refine x_iload hx hb hl 2 rfl dX11_comesTo_143 ?_
            refine x_bipush hx hb dX11_comesTo_145 (by decide) ?_
            refine x_icmp_ne (tgt := 154) hx hb (by omega) (by decide) dX11_comesTo_147 (by decide) (fun c32 => ?_) (fun c32 => ?_)
            · skip
              refine x_iconst hx hb dX11_comesTo_154 ?_
              refine x_icmp_ne (tgt := 168) hx hb rx31 (by decide) dX11_comesTo_155 (by decide) (fun c33 => ?_) (fun c33 => ?_)
              · skip
                refine x_iload_n hx hb hl 5 rfl dX11_comesTo_168 rfl ?_
                refine x_iconst hx hb dX11_comesTo_169 ?_
                refine x_isub hx hb dX11_comesTo_170 ?_
                refine x_nm (fun x34 ex34 => ?_)
                refine lv_istore_n (lv' := [(3, .int (xJ x34)), (5, .int (xJ x8)), (7, .int (xJ x7)), (6, .int (xJ x5)), (0, .ref (h0 + 268)), (2, .int (xJ b)), (4, .int (xJ x1))]) hx hb dX11_comesTo_171 rfl hl (by decide) rfl (fun ls hl => ?_)
                refine lv_goto (tgt := 230) hx hb dX11_comesTo_172 (by decide) ?_
                refine lv_goto (tgt := 16) hx hb dX11_comesTo_230 (by decide) ?_
                exact ih16 x34 x8 s_16 H locs ls (by omega) (by omega) hF_16 q16_0 q16_1 q16_2 q16_3 q16_4 (by omega) (by omega) (by first | (exfalso; omega) | exact (by
                    rw [X85]
                    exact v16_2.num hg (by omega) (by rw [← ec9]; omega) (by rw [← ec9]; omega) (by omega)) | exact (by
                    rw [X85]
                    exact v16_2.let_ hg (by omega) (by rw [← ec9]; omega) (by rw [V84, ← ec9]; congr 1; omega) (by omega)) | exact (by
                    have tp := T28 (by omega)
                    rw [X117]
                    exact v16_2.not hg (by omega) (by rw [← ec9]; omega) (by rw [L28 (by omega)]; show _ = 1 - s_16 293 (i3_16 - 1); omega) (by rw [L28 (by omega)]; rfl) (by omega)) | exact (by
                    have tp := T28 (by omega)
                    have hh : zhd (zl0 (s_16 293) i3_16) = s_16 293 (i3_16 - 1) := by rw [L28 (by omega)]; rfl
                    exact (v16_2.jmp hg (by omega) (by rw [← ec9, hh]; omega) (by rw [← ec9]; omega)).1) | exact (by
                    have hh : zhd (zl0 (s_16 293) i3_16) = s_16 293 (i3_16 - 1) := by rw [L28 (by omega)]; rfl
                    rw [show x34 = i3_16 - 1 from by omega]
                    exact v16_2.stay hg (by omega) (by rw [← ec9, hh]; omega) (by rw [hh]; exact L28 (by omega)) (by omega)) | exact (by
                    have e1 := L28 (by omega)
                    have hh : zhd (zl0 (s_16 293) i3_16) = s_16 293 (i3_16 - 1) := by rw [e1]; rfl
                    have e2 := zl0_pop (s_16 293) (n := i3_16 - 1) (by omega)
                    rw [e2] at e1
                    rw [X229]
                    exact v16_2.op hg (by omega) (by rw [← ec9]; omega) (by rw [← ec9, hh]; omega) e1 (by rw [← ec9]; exact W229) (by omega))) (by have hm := hm_16 (); omega) hW (lv_sub hl [4, 5, 0, 6, 1] rfl)
              refine x_iload hx hb hl 6 rfl dX11_comesTo_158 ?_
              refine x_iload hx hb hl 1 rfl dX11_comesTo_160 ?_
              refine x_iadd hx hb dX11_comesTo_162 ?_
              refine x_nm (fun x35 ex35 => ?_)
              refine lv_istore (lv' := [(5, .int (xJ x35)), (7, .int (xJ x7)), (6, .int (xJ x5)), (0, .ref (h0 + 268)), (2, .int (xJ b)), (3, .int (xJ i3_16)), (4, .int (xJ x1))]) hx hb dX11_comesTo_163 hl (by decide) rfl (fun ls hl => ?_)
              refine lv_goto (tgt := 230) hx hb dX11_comesTo_165 (by decide) ?_
              refine lv_goto (tgt := 16) hx hb dX11_comesTo_230 (by decide) ?_
              exact ih16 i3_16 x35 s_16 H locs ls ri3_16 (by omega) hF_16 q16_0 q16_1 q16_2 q16_3 q16_4 (by omega) (by omega) (by first | (exfalso; omega) | exact (by
                  rw [X85]
                  exact v16_2.num hg (by omega) (by rw [← ec9]; omega) (by rw [← ec9]; omega) (by omega)) | exact (by
                  rw [X85]
                  exact v16_2.let_ hg (by omega) (by rw [← ec9]; omega) (by rw [V84, ← ec9]; congr 1; omega) (by omega)) | exact (by
                  have tp := T28 (by omega)
                  rw [X117]
                  exact v16_2.not hg (by omega) (by rw [← ec9]; omega) (by rw [L28 (by omega)]; show _ = 1 - s_16 293 (i3_16 - 1); omega) (by rw [L28 (by omega)]; rfl) (by omega)) | exact (by
                  have tp := T28 (by omega)
                  have hh : zhd (zl0 (s_16 293) i3_16) = s_16 293 (i3_16 - 1) := by rw [L28 (by omega)]; rfl
                  exact (v16_2.jmp hg (by omega) (by rw [← ec9, hh]; omega) (by rw [← ec9]; omega)).1) | exact (by
                  have hh : zhd (zl0 (s_16 293) i3_16) = s_16 293 (i3_16 - 1) := by rw [L28 (by omega)]; rfl
                  rw [show i3_16 = i3_16 - 1 from by omega]
                  exact v16_2.stay hg (by omega) (by rw [← ec9, hh]; omega) (by rw [hh]; exact L28 (by omega)) (by omega)) | exact (by
                  have e1 := L28 (by omega)
                  have hh : zhd (zl0 (s_16 293) i3_16) = s_16 293 (i3_16 - 1) := by rw [e1]; rfl
                  have e2 := zl0_pop (s_16 293) (n := i3_16 - 1) (by omega)
                  rw [e2] at e1
                  rw [X229]
                  exact v16_2.op hg (by omega) (by rw [← ec9]; omega) (by rw [← ec9, hh]; omega) e1 (by rw [← ec9]; exact W229) (by omega))) (by have hm := hm_16 (); omega) hW (lv_sub hl [3, 4, 5, 6, 0] rfl)
            refine x_iconst hx hb dX11_comesTo_150 ?_
            refine lv_goto (tgt := 155) hx hb dX11_comesTo_151 (by decide) ?_
            refine x_icmp_ne (tgt := 168) hx hb rx31 (by decide) dX11_comesTo_155 (by decide) (fun c36 => ?_) (fun c36 => ?_)
            · skip
              refine x_iload_n hx hb hl 5 rfl dX11_comesTo_168 rfl ?_
              refine x_iconst hx hb dX11_comesTo_169 ?_
              refine x_isub hx hb dX11_comesTo_170 ?_
              refine x_nm (fun x37 ex37 => ?_)
              refine lv_istore_n (lv' := [(3, .int (xJ x37)), (5, .int (xJ x8)), (7, .int (xJ x7)), (6, .int (xJ x5)), (0, .ref (h0 + 268)), (2, .int (xJ b)), (4, .int (xJ x1))]) hx hb dX11_comesTo_171 rfl hl (by decide) rfl (fun ls hl => ?_)
              refine lv_goto (tgt := 230) hx hb dX11_comesTo_172 (by decide) ?_
              refine lv_goto (tgt := 16) hx hb dX11_comesTo_230 (by decide) ?_
              exact ih16 x37 x8 s_16 H locs ls (by omega) (by omega) hF_16 q16_0 q16_1 q16_2 q16_3 q16_4 (by omega) (by omega) (by first | (exfalso; omega) | exact (by
                  rw [X85]
                  exact v16_2.num hg (by omega) (by rw [← ec9]; omega) (by rw [← ec9]; omega) (by omega)) | exact (by
                  rw [X85]
                  exact v16_2.let_ hg (by omega) (by rw [← ec9]; omega) (by rw [V84, ← ec9]; congr 1; omega) (by omega)) | exact (by
                  have tp := T28 (by omega)
                  rw [X117]
                  exact v16_2.not hg (by omega) (by rw [← ec9]; omega) (by rw [L28 (by omega)]; show _ = 1 - s_16 293 (i3_16 - 1); omega) (by rw [L28 (by omega)]; rfl) (by omega)) | exact (by
                  have tp := T28 (by omega)
                  have hh : zhd (zl0 (s_16 293) i3_16) = s_16 293 (i3_16 - 1) := by rw [L28 (by omega)]; rfl
                  exact (v16_2.jmp hg (by omega) (by rw [← ec9, hh]; omega) (by rw [← ec9]; omega)).1) | exact (by
                  have hh : zhd (zl0 (s_16 293) i3_16) = s_16 293 (i3_16 - 1) := by rw [L28 (by omega)]; rfl
                  rw [show x37 = i3_16 - 1 from by omega]
                  exact v16_2.stay hg (by omega) (by rw [← ec9, hh]; omega) (by rw [hh]; exact L28 (by omega)) (by omega)) | exact (by
                  have e1 := L28 (by omega)
                  have hh : zhd (zl0 (s_16 293) i3_16) = s_16 293 (i3_16 - 1) := by rw [e1]; rfl
                  have e2 := zl0_pop (s_16 293) (n := i3_16 - 1) (by omega)
                  rw [e2] at e1
                  rw [X229]
                  exact v16_2.op hg (by omega) (by rw [← ec9]; omega) (by rw [← ec9, hh]; omega) e1 (by rw [← ec9]; exact W229) (by omega))) (by have hm := hm_16 (); omega) hW (lv_sub hl [4, 5, 0, 6, 1] rfl)
            refine x_iload hx hb hl 6 rfl dX11_comesTo_158 ?_
            refine x_iload hx hb hl 1 rfl dX11_comesTo_160 ?_
            refine x_iadd hx hb dX11_comesTo_162 ?_
            refine x_nm (fun x38 ex38 => ?_)
            refine lv_istore (lv' := [(5, .int (xJ x38)), (7, .int (xJ x7)), (6, .int (xJ x5)), (0, .ref (h0 + 268)), (2, .int (xJ b)), (3, .int (xJ i3_16)), (4, .int (xJ x1))]) hx hb dX11_comesTo_163 hl (by decide) rfl (fun ls hl => ?_)
            refine lv_goto (tgt := 230) hx hb dX11_comesTo_165 (by decide) ?_
            refine lv_goto (tgt := 16) hx hb dX11_comesTo_230 (by decide) ?_
            exact ih16 i3_16 x38 s_16 H locs ls ri3_16 (by omega) hF_16 q16_0 q16_1 q16_2 q16_3 q16_4 (by omega) (by omega) (by first | (exfalso; omega) | exact (by
                rw [X85]
                exact v16_2.num hg (by omega) (by rw [← ec9]; omega) (by rw [← ec9]; omega) (by omega)) | exact (by
                rw [X85]
                exact v16_2.let_ hg (by omega) (by rw [← ec9]; omega) (by rw [V84, ← ec9]; congr 1; omega) (by omega)) | exact (by
                have tp := T28 (by omega)
                rw [X117]
                exact v16_2.not hg (by omega) (by rw [← ec9]; omega) (by rw [L28 (by omega)]; show _ = 1 - s_16 293 (i3_16 - 1); omega) (by rw [L28 (by omega)]; rfl) (by omega)) | exact (by
                have tp := T28 (by omega)
                have hh : zhd (zl0 (s_16 293) i3_16) = s_16 293 (i3_16 - 1) := by rw [L28 (by omega)]; rfl
                exact (v16_2.jmp hg (by omega) (by rw [← ec9, hh]; omega) (by rw [← ec9]; omega)).1) | exact (by
                have hh : zhd (zl0 (s_16 293) i3_16) = s_16 293 (i3_16 - 1) := by rw [L28 (by omega)]; rfl
                rw [show i3_16 = i3_16 - 1 from by omega]
                exact v16_2.stay hg (by omega) (by rw [← ec9, hh]; omega) (by rw [hh]; exact L28 (by omega)) (by omega)) | exact (by
                have e1 := L28 (by omega)
                have hh : zhd (zl0 (s_16 293) i3_16) = s_16 293 (i3_16 - 1) := by rw [e1]; rfl
                have e2 := zl0_pop (s_16 293) (n := i3_16 - 1) (by omega)
                rw [e2] at e1
                rw [X229]
                exact v16_2.op hg (by omega) (by rw [← ec9]; omega) (by rw [← ec9, hh]; omega) e1 (by rw [← ec9]; exact W229) (by omega))) (by have hm := hm_16 (); omega) hW (lv_sub hl [3, 4, 5, 6, 0] rfl)
          refine x_iload hx hb hl 2 rfl dX11_comesTo_128 ?_
          refine x_bipush hx hb dX11_comesTo_130 (by decide) ?_
          refine x_icmp_ne (tgt := 175) hx hb (by omega) (by decide) dX11_comesTo_132 (by decide) (fun c39 => ?_) (fun c39 => ?_)
          · skip
            refine x_iload_n hx hb hl 5 rfl dX11_comesTo_175 rfl ?_
            refine x_iconst hx hb dX11_comesTo_176 ?_
            refine x_isub hx hb dX11_comesTo_177 ?_
            refine x_nm (fun x40 ex40 => ?_)
            refine lv_istore_n (lv' := [(3, .int (xJ x40)), (5, .int (xJ x8)), (7, .int (xJ x7)), (6, .int (xJ x5)), (0, .ref (h0 + 268)), (2, .int (xJ b)), (4, .int (xJ x1))]) hx hb dX11_comesTo_178 rfl hl (by decide) rfl (fun ls hl => ?_)
            refine x_iload hx hb hl 3 rfl dX11_comesTo_179 ?_
            refine x_iconst hx hb dX11_comesTo_181 ?_
            refine x_icmp_eq (tgt := 192) hx hb (by omega) (by decide) dX11_comesTo_182 (by decide) (fun c41 => ?_) (fun c41 => ?_)
            · skip
              refine x_aload_n hx hb hl 4 rfl dX11_comesTo_192 rfl ?_
              refine x_get (j := 38) (v := .ref (h0 + 293)) hx hb hown hT hE hW cls_X11 (Or.inl (by decide)) (so_268 h0 g _) (by decide) rfl wq1223 dX11_comesTo_193 ?_
              refine x_iload_n hx hb hl 0 rfl dX11_comesTo_196 rfl ?_
              have V196 : x6 = s_16 293 (i3_16 - 1) := by rw [ex6, show x40 = i3_16 - 1 from by omega]
              refine x_iald hx hb hE hW (Or.inl (by decide)) (sa_293 h0 g _) (by omega) (by decide) dX11_comesTo_197 ?_
              refine x_rd hW (fun x42 ex42 rx42 => ?_)
              refine x_if_ne (tgt := 203) hx hb rx42 dX11_comesTo_198 (by decide) (fun c43 => ?_) (fun c43 => ?_)
              · skip
                refine x_aload_n hx hb hl 4 rfl dX11_comesTo_203 rfl ?_
                refine x_get (j := 38) (v := .ref (h0 + 293)) hx hb hown hT hE hW cls_X11 (Or.inl (by decide)) (so_268 h0 g _) (by decide) rfl wq1223 dX11_comesTo_204 ?_
                refine x_iload_n hx hb hl 0 rfl dX11_comesTo_207 rfl ?_
                refine x_iconst hx hb dX11_comesTo_208 ?_
                refine x_isub hx hb dX11_comesTo_209 ?_
                refine x_iload hx hb hl 3 rfl dX11_comesTo_210 ?_
                refine x_aload_n hx hb hl 4 rfl dX11_comesTo_212 rfl ?_
                refine x_get (j := 38) (v := .ref (h0 + 293)) hx hb hown hT hE hW cls_X11 (Or.inl (by decide)) (so_268 h0 g _) (by decide) rfl wq1223 dX11_comesTo_213 ?_
                refine x_iload_n hx hb hl 0 rfl dX11_comesTo_216 rfl ?_
                refine x_iconst hx hb dX11_comesTo_217 ?_
                refine x_isub hx hb dX11_comesTo_218 ?_
                refine x_iald hx hb hE hW (Or.inl (by decide)) (sa_293 h0 g _) (by omega) (by decide) dX11_comesTo_219 ?_
                refine x_rd hW (fun x44 ex44 rx44 => ?_)
                have V219 : x44 = s_16 293 (i3_16 - 1 - 1) := by rw [ex44, show x40 = i3_16 - 1 from by omega]
                refine x_aload_n hx hb hl 4 rfl dX11_comesTo_220 rfl ?_
                refine x_get (j := 38) (v := .ref (h0 + 293)) hx hb hown hT hE hW cls_X11 (Or.inl (by decide)) (so_268 h0 g _) (by decide) rfl wq1223 dX11_comesTo_221 ?_
                refine x_iload_n hx hb hl 0 rfl dX11_comesTo_224 rfl ?_
                refine x_iald hx hb hE hW (Or.inl (by decide)) (sa_293 h0 g _) (by omega) (by decide) dX11_comesTo_225 ?_
                refine x_rd hW (fun x45 ex45 rx45 => ?_)
                have V225 : x45 = s_16 293 (i3_16 - 1) := by rw [ex45, show x40 = i3_16 - 1 from by omega]
                refine x_goi (x_runS (As := [.int (xJ x5), .int (xJ x44), .int (xJ x45)]) hx hb hml hown hT hE hW hl.1 cf_X11_reckon wq1584 wq1583 (c_X11_reckonV l D g T h0 s_16 hW.2.1 x5 (by omega) x44 rx44 x45 rx45 (⟨by omega, by omega, fun _ => by omega⟩)) ⟨rfl, rfl, ⟨by decide, by decide⟩, ⟨by decide, by decide⟩⟩ rfl rfl (Nat.le_of_ble_eq_true rfl) dX11_comesTo_226) hW (fun x46 s47 H locs rx46 hp48 hW => ?_)
                obtain ⟨es47, hp48⟩ := hp48
                subst es47
                have ghp48 := hp48
                have H226 := ghp48
                rw [show x5 = c9 / 1048576 from by omega, V219, V225] at H226
                refine x_iast hx hb hE hW (by decide) (fun σ => sa_293 h0 g σ) (by omega) (by decide) rx46 dX11_comesTo_229 (fun H locs s49 es49 hW => ?_)
                have q50 : IMn s49 := by rw [es49]; exact IMn_o (by unfold suIMn; first | decide | omega) q16_0
                have q51 : IMk s49 := by rw [es49]; exact IMk_o (by unfold suIMk; first | decide | omega) q16_1
                have q52 : IMo s49 := by rw [es49]; exact IMo_o (by unfold suIMo; first | decide | omega) q16_2
                have q53 : s49 268 8 = s0 268 8 := (show s49 268 8 = s_16 268 8 from by rw [es49, xU_k _ _ _ (by first | decide | omega)]).trans q16_3
                have q54 : s49 268 58 = s0 268 58 := (show s49 268 58 = s_16 268 58 from by rw [es49, xU_k _ _ _ (by first | decide | omega)]).trans q16_4
                have hF55 := hF_16.put es49 (by omega)
                have X229 : zl0 (s49 293) x40 = x46 :: zl0 (s_16 293) (i3_16 - 1 - 1) := by rw [es49, xU_xud, show x40 = i3_16 - 1 from by omega]; exact zl0_put _ rfl (by omega)
                have W229 := H226
                refine lv_goto (tgt := 16) hx hb dX11_comesTo_230 (by decide) ?_
                exact ih16 x40 x8 s49 H locs ls (by omega) (by omega) hF55 q50 q51 q52 q53 q54 (by omega) (by omega) (by first | (exfalso; omega) | exact (by
                    rw [X85]
                    exact v16_2.num hg (by omega) (by rw [← ec9]; omega) (by rw [← ec9]; omega) (by omega)) | exact (by
                    rw [X85]
                    exact v16_2.let_ hg (by omega) (by rw [← ec9]; omega) (by rw [V84, ← ec9]; congr 1; omega) (by omega)) | exact (by
                    have tp := T28 (by omega)
                    rw [X117]
                    exact v16_2.not hg (by omega) (by rw [← ec9]; omega) (by rw [L28 (by omega)]; show _ = 1 - s_16 293 (i3_16 - 1); omega) (by rw [L28 (by omega)]; rfl) (by omega)) | exact (by
                    have tp := T28 (by omega)
                    have hh : zhd (zl0 (s_16 293) i3_16) = s_16 293 (i3_16 - 1) := by rw [L28 (by omega)]; rfl
                    exact (v16_2.jmp hg (by omega) (by rw [← ec9, hh]; omega) (by rw [← ec9]; omega)).1) | exact (by
                    have hh : zhd (zl0 (s_16 293) i3_16) = s_16 293 (i3_16 - 1) := by rw [L28 (by omega)]; rfl
                    rw [show x40 = i3_16 - 1 from by omega]
                    exact v16_2.stay hg (by omega) (by rw [← ec9, hh]; omega) (by rw [hh]; exact L28 (by omega)) (by omega)) | exact (by
                    have e1 := L28 (by omega)
                    have hh : zhd (zl0 (s_16 293) i3_16) = s_16 293 (i3_16 - 1) := by rw [e1]; rfl
                    have e2 := zl0_pop (s_16 293) (n := i3_16 - 1) (by omega)
                    rw [e2] at e1
                    rw [X229]
                    exact v16_2.op hg (by omega) (by rw [← ec9]; omega) (by rw [← ec9, hh]; omega) e1 (by rw [← ec9]; exact W229) (by omega))) (by have hm := hm_16 (); omega) hW (lv_sub hl [4, 5, 0, 6, 1] rfl)
              refine x_iconst hx hb dX11_comesTo_201 ?_
              rw [eQ]
              exact x_iret hx hb hr hlk hW (by decide) ⟨hF_16, ⟨q16_0, q16_1, q16_2, trivial⟩, by
                  rw [← eV0]
                  have z := v16_2.zero (by omega) (by rw [← ec9]; omega) (by rw [L28 (by omega)]; show s_16 293 (i3_16 - 1) = 0; omega)
                  omega⟩ dX11_comesTo_202
            refine x_iload hx hb hl 3 rfl dX11_comesTo_185 ?_
            refine x_bipush hx hb dX11_comesTo_187 (by decide) ?_
            refine x_icmp_ne (tgt := 203) hx hb (by omega) (by decide) dX11_comesTo_189 (by decide) (fun c56 => ?_) (fun c56 => ?_)
            · skip
              refine x_aload_n hx hb hl 4 rfl dX11_comesTo_203 rfl ?_
              refine x_get (j := 38) (v := .ref (h0 + 293)) hx hb hown hT hE hW cls_X11 (Or.inl (by decide)) (so_268 h0 g _) (by decide) rfl wq1223 dX11_comesTo_204 ?_
              refine x_iload_n hx hb hl 0 rfl dX11_comesTo_207 rfl ?_
              refine x_iconst hx hb dX11_comesTo_208 ?_
              refine x_isub hx hb dX11_comesTo_209 ?_
              refine x_iload hx hb hl 3 rfl dX11_comesTo_210 ?_
              refine x_aload_n hx hb hl 4 rfl dX11_comesTo_212 rfl ?_
              refine x_get (j := 38) (v := .ref (h0 + 293)) hx hb hown hT hE hW cls_X11 (Or.inl (by decide)) (so_268 h0 g _) (by decide) rfl wq1223 dX11_comesTo_213 ?_
              refine x_iload_n hx hb hl 0 rfl dX11_comesTo_216 rfl ?_
              refine x_iconst hx hb dX11_comesTo_217 ?_
              refine x_isub hx hb dX11_comesTo_218 ?_
              refine x_iald hx hb hE hW (Or.inl (by decide)) (sa_293 h0 g _) (by omega) (by decide) dX11_comesTo_219 ?_
              refine x_rd hW (fun x57 ex57 rx57 => ?_)
              have V219 : x57 = s_16 293 (i3_16 - 1 - 1) := by rw [ex57, show x40 = i3_16 - 1 from by omega]
              refine x_aload_n hx hb hl 4 rfl dX11_comesTo_220 rfl ?_
              refine x_get (j := 38) (v := .ref (h0 + 293)) hx hb hown hT hE hW cls_X11 (Or.inl (by decide)) (so_268 h0 g _) (by decide) rfl wq1223 dX11_comesTo_221 ?_
              refine x_iload_n hx hb hl 0 rfl dX11_comesTo_224 rfl ?_
              refine x_iald hx hb hE hW (Or.inl (by decide)) (sa_293 h0 g _) (by omega) (by decide) dX11_comesTo_225 ?_
              refine x_rd hW (fun x58 ex58 rx58 => ?_)
              have V225 : x58 = s_16 293 (i3_16 - 1) := by rw [ex58, show x40 = i3_16 - 1 from by omega]
              refine x_goi (x_runS (As := [.int (xJ x5), .int (xJ x57), .int (xJ x58)]) hx hb hml hown hT hE hW hl.1 cf_X11_reckon wq1584 wq1583 (c_X11_reckonV l D g T h0 s_16 hW.2.1 x5 (by omega) x57 rx57 x58 rx58 (⟨by omega, by omega, fun _ => by omega⟩)) ⟨rfl, rfl, ⟨by decide, by decide⟩, ⟨by decide, by decide⟩⟩ rfl rfl (Nat.le_of_ble_eq_true rfl) dX11_comesTo_226) hW (fun x59 s60 H locs rx59 hp61 hW => ?_)
              obtain ⟨es60, hp61⟩ := hp61
              subst es60
              have ghp61 := hp61
              have H226 := ghp61
              rw [show x5 = c9 / 1048576 from by omega, V219, V225] at H226
              refine x_iast hx hb hE hW (by decide) (fun σ => sa_293 h0 g σ) (by omega) (by decide) rx59 dX11_comesTo_229 (fun H locs s62 es62 hW => ?_)
              have q63 : IMn s62 := by rw [es62]; exact IMn_o (by unfold suIMn; first | decide | omega) q16_0
              have q64 : IMk s62 := by rw [es62]; exact IMk_o (by unfold suIMk; first | decide | omega) q16_1
              have q65 : IMo s62 := by rw [es62]; exact IMo_o (by unfold suIMo; first | decide | omega) q16_2
              have q66 : s62 268 8 = s0 268 8 := (show s62 268 8 = s_16 268 8 from by rw [es62, xU_k _ _ _ (by first | decide | omega)]).trans q16_3
              have q67 : s62 268 58 = s0 268 58 := (show s62 268 58 = s_16 268 58 from by rw [es62, xU_k _ _ _ (by first | decide | omega)]).trans q16_4
              have hF68 := hF_16.put es62 (by omega)
              have X229 : zl0 (s62 293) x40 = x59 :: zl0 (s_16 293) (i3_16 - 1 - 1) := by rw [es62, xU_xud, show x40 = i3_16 - 1 from by omega]; exact zl0_put _ rfl (by omega)
              have W229 := H226
              refine lv_goto (tgt := 16) hx hb dX11_comesTo_230 (by decide) ?_
              exact ih16 x40 x8 s62 H locs ls (by omega) (by omega) hF68 q63 q64 q65 q66 q67 (by omega) (by omega) (by first | (exfalso; omega) | exact (by
                  rw [X85]
                  exact v16_2.num hg (by omega) (by rw [← ec9]; omega) (by rw [← ec9]; omega) (by omega)) | exact (by
                  rw [X85]
                  exact v16_2.let_ hg (by omega) (by rw [← ec9]; omega) (by rw [V84, ← ec9]; congr 1; omega) (by omega)) | exact (by
                  have tp := T28 (by omega)
                  rw [X117]
                  exact v16_2.not hg (by omega) (by rw [← ec9]; omega) (by rw [L28 (by omega)]; show _ = 1 - s_16 293 (i3_16 - 1); omega) (by rw [L28 (by omega)]; rfl) (by omega)) | exact (by
                  have tp := T28 (by omega)
                  have hh : zhd (zl0 (s_16 293) i3_16) = s_16 293 (i3_16 - 1) := by rw [L28 (by omega)]; rfl
                  exact (v16_2.jmp hg (by omega) (by rw [← ec9, hh]; omega) (by rw [← ec9]; omega)).1) | exact (by
                  have hh : zhd (zl0 (s_16 293) i3_16) = s_16 293 (i3_16 - 1) := by rw [L28 (by omega)]; rfl
                  rw [show x40 = i3_16 - 1 from by omega]
                  exact v16_2.stay hg (by omega) (by rw [← ec9, hh]; omega) (by rw [hh]; exact L28 (by omega)) (by omega)) | exact (by
                  have e1 := L28 (by omega)
                  have hh : zhd (zl0 (s_16 293) i3_16) = s_16 293 (i3_16 - 1) := by rw [e1]; rfl
                  have e2 := zl0_pop (s_16 293) (n := i3_16 - 1) (by omega)
                  rw [e2] at e1
                  rw [X229]
                  exact v16_2.op hg (by omega) (by rw [← ec9]; omega) (by rw [← ec9, hh]; omega) e1 (by rw [← ec9]; exact W229) (by omega))) (by have hm := hm_16 (); omega) hW (lv_sub hl [4, 5, 0, 6, 1] rfl)
            refine x_aload_n hx hb hl 4 rfl dX11_comesTo_192 rfl ?_
            refine x_get (j := 38) (v := .ref (h0 + 293)) hx hb hown hT hE hW cls_X11 (Or.inl (by decide)) (so_268 h0 g _) (by decide) rfl wq1223 dX11_comesTo_193 ?_
            refine x_iload_n hx hb hl 0 rfl dX11_comesTo_196 rfl ?_
            have V196 : x6 = s_16 293 (i3_16 - 1) := by rw [ex6, show x40 = i3_16 - 1 from by omega]
            refine x_iald hx hb hE hW (Or.inl (by decide)) (sa_293 h0 g _) (by omega) (by decide) dX11_comesTo_197 ?_
            refine x_rd hW (fun x69 ex69 rx69 => ?_)
            refine x_if_ne (tgt := 203) hx hb rx69 dX11_comesTo_198 (by decide) (fun c70 => ?_) (fun c70 => ?_)
            · skip
              refine x_aload_n hx hb hl 4 rfl dX11_comesTo_203 rfl ?_
              refine x_get (j := 38) (v := .ref (h0 + 293)) hx hb hown hT hE hW cls_X11 (Or.inl (by decide)) (so_268 h0 g _) (by decide) rfl wq1223 dX11_comesTo_204 ?_
              refine x_iload_n hx hb hl 0 rfl dX11_comesTo_207 rfl ?_
              refine x_iconst hx hb dX11_comesTo_208 ?_
              refine x_isub hx hb dX11_comesTo_209 ?_
              refine x_iload hx hb hl 3 rfl dX11_comesTo_210 ?_
              refine x_aload_n hx hb hl 4 rfl dX11_comesTo_212 rfl ?_
              refine x_get (j := 38) (v := .ref (h0 + 293)) hx hb hown hT hE hW cls_X11 (Or.inl (by decide)) (so_268 h0 g _) (by decide) rfl wq1223 dX11_comesTo_213 ?_
              refine x_iload_n hx hb hl 0 rfl dX11_comesTo_216 rfl ?_
              refine x_iconst hx hb dX11_comesTo_217 ?_
              refine x_isub hx hb dX11_comesTo_218 ?_
              refine x_iald hx hb hE hW (Or.inl (by decide)) (sa_293 h0 g _) (by omega) (by decide) dX11_comesTo_219 ?_
              refine x_rd hW (fun x71 ex71 rx71 => ?_)
              have V219 : x71 = s_16 293 (i3_16 - 1 - 1) := by rw [ex71, show x40 = i3_16 - 1 from by omega]
              refine x_aload_n hx hb hl 4 rfl dX11_comesTo_220 rfl ?_
              refine x_get (j := 38) (v := .ref (h0 + 293)) hx hb hown hT hE hW cls_X11 (Or.inl (by decide)) (so_268 h0 g _) (by decide) rfl wq1223 dX11_comesTo_221 ?_
              refine x_iload_n hx hb hl 0 rfl dX11_comesTo_224 rfl ?_
              refine x_iald hx hb hE hW (Or.inl (by decide)) (sa_293 h0 g _) (by omega) (by decide) dX11_comesTo_225 ?_
              refine x_rd hW (fun x72 ex72 rx72 => ?_)
              have V225 : x72 = s_16 293 (i3_16 - 1) := by rw [ex72, show x40 = i3_16 - 1 from by omega]
              refine x_goi (x_runS (As := [.int (xJ x5), .int (xJ x71), .int (xJ x72)]) hx hb hml hown hT hE hW hl.1 cf_X11_reckon wq1584 wq1583 (c_X11_reckonV l D g T h0 s_16 hW.2.1 x5 (by omega) x71 rx71 x72 rx72 (⟨by omega, by omega, fun _ => by omega⟩)) ⟨rfl, rfl, ⟨by decide, by decide⟩, ⟨by decide, by decide⟩⟩ rfl rfl (Nat.le_of_ble_eq_true rfl) dX11_comesTo_226) hW (fun x73 s74 H locs rx73 hp75 hW => ?_)
              obtain ⟨es74, hp75⟩ := hp75
              subst es74
              have ghp75 := hp75
              have H226 := ghp75
              rw [show x5 = c9 / 1048576 from by omega, V219, V225] at H226
              refine x_iast hx hb hE hW (by decide) (fun σ => sa_293 h0 g σ) (by omega) (by decide) rx73 dX11_comesTo_229 (fun H locs s76 es76 hW => ?_)
              have q77 : IMn s76 := by rw [es76]; exact IMn_o (by unfold suIMn; first | decide | omega) q16_0
              have q78 : IMk s76 := by rw [es76]; exact IMk_o (by unfold suIMk; first | decide | omega) q16_1
              have q79 : IMo s76 := by rw [es76]; exact IMo_o (by unfold suIMo; first | decide | omega) q16_2
              have q80 : s76 268 8 = s0 268 8 := (show s76 268 8 = s_16 268 8 from by rw [es76, xU_k _ _ _ (by first | decide | omega)]).trans q16_3
              have q81 : s76 268 58 = s0 268 58 := (show s76 268 58 = s_16 268 58 from by rw [es76, xU_k _ _ _ (by first | decide | omega)]).trans q16_4
              have hF82 := hF_16.put es76 (by omega)
              have X229 : zl0 (s76 293) x40 = x73 :: zl0 (s_16 293) (i3_16 - 1 - 1) := by rw [es76, xU_xud, show x40 = i3_16 - 1 from by omega]; exact zl0_put _ rfl (by omega)
              have W229 := H226
              refine lv_goto (tgt := 16) hx hb dX11_comesTo_230 (by decide) ?_
              exact ih16 x40 x8 s76 H locs ls (by omega) (by omega) hF82 q77 q78 q79 q80 q81 (by omega) (by omega) (by first | (exfalso; omega) | exact (by
                  rw [X85]
                  exact v16_2.num hg (by omega) (by rw [← ec9]; omega) (by rw [← ec9]; omega) (by omega)) | exact (by
                  rw [X85]
                  exact v16_2.let_ hg (by omega) (by rw [← ec9]; omega) (by rw [V84, ← ec9]; congr 1; omega) (by omega)) | exact (by
                  have tp := T28 (by omega)
                  rw [X117]
                  exact v16_2.not hg (by omega) (by rw [← ec9]; omega) (by rw [L28 (by omega)]; show _ = 1 - s_16 293 (i3_16 - 1); omega) (by rw [L28 (by omega)]; rfl) (by omega)) | exact (by
                  have tp := T28 (by omega)
                  have hh : zhd (zl0 (s_16 293) i3_16) = s_16 293 (i3_16 - 1) := by rw [L28 (by omega)]; rfl
                  exact (v16_2.jmp hg (by omega) (by rw [← ec9, hh]; omega) (by rw [← ec9]; omega)).1) | exact (by
                  have hh : zhd (zl0 (s_16 293) i3_16) = s_16 293 (i3_16 - 1) := by rw [L28 (by omega)]; rfl
                  rw [show x40 = i3_16 - 1 from by omega]
                  exact v16_2.stay hg (by omega) (by rw [← ec9, hh]; omega) (by rw [hh]; exact L28 (by omega)) (by omega)) | exact (by
                  have e1 := L28 (by omega)
                  have hh : zhd (zl0 (s_16 293) i3_16) = s_16 293 (i3_16 - 1) := by rw [e1]; rfl
                  have e2 := zl0_pop (s_16 293) (n := i3_16 - 1) (by omega)
                  rw [e2] at e1
                  rw [X229]
                  exact v16_2.op hg (by omega) (by rw [← ec9]; omega) (by rw [← ec9, hh]; omega) e1 (by rw [← ec9]; exact W229) (by omega))) (by have hm := hm_16 (); omega) hW (lv_sub hl [4, 5, 0, 6, 1] rfl)
            refine x_iconst hx hb dX11_comesTo_201 ?_
            rw [eQ]
            exact x_iret hx hb hr hlk hW (by decide) ⟨hF_16, ⟨q16_0, q16_1, q16_2, trivial⟩, by
                rw [← eV0]
                have z := v16_2.zero (by omega) (by rw [← ec9]; omega) (by rw [L28 (by omega)]; show s_16 293 (i3_16 - 1) = 0; omega)
                omega⟩ dX11_comesTo_202
          refine x_aload_n hx hb hl 3 rfl dX11_comesTo_135 rfl ?_
          refine x_get (j := 38) (v := .ref (h0 + 293)) hx hb hown hT hE hW cls_X11 (Or.inl (by decide)) (so_268 h0 g _) (by decide) rfl wq1223 dX11_comesTo_136 ?_
          refine x_iload_n hx hb hl 5 rfl dX11_comesTo_139 rfl ?_
          refine x_iconst hx hb dX11_comesTo_140 ?_
          refine x_isub hx hb dX11_comesTo_141 ?_
          refine x_iald hx hb hE hW (Or.inl (by decide)) (sa_293 h0 g _) (by omega) (by decide) dX11_comesTo_142 ?_
          refine x_rd hW (fun x83 ex83 rx83 => ?_)
          have V142 : x83 = s_16 293 (i3_16 - 1) := ex83
          refine x_iload hx hb hl 2 rfl dX11_comesTo_143 ?_
          refine x_bipush hx hb dX11_comesTo_145 (by decide) ?_
          refine x_icmp_ne (tgt := 154) hx hb (by omega) (by decide) dX11_comesTo_147 (by decide) (fun c84 => ?_) (fun c84 => ?_)
          · skip
            refine x_iconst hx hb dX11_comesTo_154 ?_
            refine x_icmp_ne (tgt := 168) hx hb rx83 (by decide) dX11_comesTo_155 (by decide) (fun c85 => ?_) (fun c85 => ?_)
            · skip
              refine x_iload_n hx hb hl 5 rfl dX11_comesTo_168 rfl ?_
              refine x_iconst hx hb dX11_comesTo_169 ?_
              refine x_isub hx hb dX11_comesTo_170 ?_
              refine x_nm (fun x86 ex86 => ?_)
              refine lv_istore_n (lv' := [(3, .int (xJ x86)), (5, .int (xJ x8)), (7, .int (xJ x7)), (6, .int (xJ x5)), (0, .ref (h0 + 268)), (2, .int (xJ b)), (4, .int (xJ x1))]) hx hb dX11_comesTo_171 rfl hl (by decide) rfl (fun ls hl => ?_)
              refine lv_goto (tgt := 230) hx hb dX11_comesTo_172 (by decide) ?_
              refine lv_goto (tgt := 16) hx hb dX11_comesTo_230 (by decide) ?_
              exact ih16 x86 x8 s_16 H locs ls (by omega) (by omega) hF_16 q16_0 q16_1 q16_2 q16_3 q16_4 (by omega) (by omega) (by first | (exfalso; omega) | exact (by
                  rw [X85]
                  exact v16_2.num hg (by omega) (by rw [← ec9]; omega) (by rw [← ec9]; omega) (by omega)) | exact (by
                  rw [X85]
                  exact v16_2.let_ hg (by omega) (by rw [← ec9]; omega) (by rw [V84, ← ec9]; congr 1; omega) (by omega)) | exact (by
                  have tp := T28 (by omega)
                  rw [X117]
                  exact v16_2.not hg (by omega) (by rw [← ec9]; omega) (by rw [L28 (by omega)]; show _ = 1 - s_16 293 (i3_16 - 1); omega) (by rw [L28 (by omega)]; rfl) (by omega)) | exact (by
                  have tp := T28 (by omega)
                  have hh : zhd (zl0 (s_16 293) i3_16) = s_16 293 (i3_16 - 1) := by rw [L28 (by omega)]; rfl
                  exact (v16_2.jmp hg (by omega) (by rw [← ec9, hh]; omega) (by rw [← ec9]; omega)).1) | exact (by
                  have hh : zhd (zl0 (s_16 293) i3_16) = s_16 293 (i3_16 - 1) := by rw [L28 (by omega)]; rfl
                  rw [show x86 = i3_16 - 1 from by omega]
                  exact v16_2.stay hg (by omega) (by rw [← ec9, hh]; omega) (by rw [hh]; exact L28 (by omega)) (by omega)) | exact (by
                  have e1 := L28 (by omega)
                  have hh : zhd (zl0 (s_16 293) i3_16) = s_16 293 (i3_16 - 1) := by rw [e1]; rfl
                  have e2 := zl0_pop (s_16 293) (n := i3_16 - 1) (by omega)
                  rw [e2] at e1
                  rw [X229]
                  exact v16_2.op hg (by omega) (by rw [← ec9]; omega) (by rw [← ec9, hh]; omega) e1 (by rw [← ec9]; exact W229) (by omega))) (by have hm := hm_16 (); omega) hW (lv_sub hl [4, 5, 0, 6, 1] rfl)
            refine x_iload hx hb hl 6 rfl dX11_comesTo_158 ?_
            refine x_iload hx hb hl 1 rfl dX11_comesTo_160 ?_
            refine x_iadd hx hb dX11_comesTo_162 ?_
            refine x_nm (fun x87 ex87 => ?_)
            refine lv_istore (lv' := [(5, .int (xJ x87)), (7, .int (xJ x7)), (6, .int (xJ x5)), (0, .ref (h0 + 268)), (2, .int (xJ b)), (3, .int (xJ i3_16)), (4, .int (xJ x1))]) hx hb dX11_comesTo_163 hl (by decide) rfl (fun ls hl => ?_)
            refine lv_goto (tgt := 230) hx hb dX11_comesTo_165 (by decide) ?_
            refine lv_goto (tgt := 16) hx hb dX11_comesTo_230 (by decide) ?_
            exact ih16 i3_16 x87 s_16 H locs ls ri3_16 (by omega) hF_16 q16_0 q16_1 q16_2 q16_3 q16_4 (by omega) (by omega) (by first | (exfalso; omega) | exact (by
                rw [X85]
                exact v16_2.num hg (by omega) (by rw [← ec9]; omega) (by rw [← ec9]; omega) (by omega)) | exact (by
                rw [X85]
                exact v16_2.let_ hg (by omega) (by rw [← ec9]; omega) (by rw [V84, ← ec9]; congr 1; omega) (by omega)) | exact (by
                have tp := T28 (by omega)
                rw [X117]
                exact v16_2.not hg (by omega) (by rw [← ec9]; omega) (by rw [L28 (by omega)]; show _ = 1 - s_16 293 (i3_16 - 1); omega) (by rw [L28 (by omega)]; rfl) (by omega)) | exact (by
                have tp := T28 (by omega)
                have hh : zhd (zl0 (s_16 293) i3_16) = s_16 293 (i3_16 - 1) := by rw [L28 (by omega)]; rfl
                exact (v16_2.jmp hg (by omega) (by rw [← ec9, hh]; omega) (by rw [← ec9]; omega)).1) | exact (by
                have hh : zhd (zl0 (s_16 293) i3_16) = s_16 293 (i3_16 - 1) := by rw [L28 (by omega)]; rfl
                rw [show i3_16 = i3_16 - 1 from by omega]
                exact v16_2.stay hg (by omega) (by rw [← ec9, hh]; omega) (by rw [hh]; exact L28 (by omega)) (by omega)) | exact (by
                have e1 := L28 (by omega)
                have hh : zhd (zl0 (s_16 293) i3_16) = s_16 293 (i3_16 - 1) := by rw [e1]; rfl
                have e2 := zl0_pop (s_16 293) (n := i3_16 - 1) (by omega)
                rw [e2] at e1
                rw [X229]
                exact v16_2.op hg (by omega) (by rw [← ec9]; omega) (by rw [← ec9, hh]; omega) e1 (by rw [← ec9]; exact W229) (by omega))) (by have hm := hm_16 (); omega) hW (lv_sub hl [3, 4, 5, 6, 0] rfl)
          refine x_iconst hx hb dX11_comesTo_150 ?_
          refine lv_goto (tgt := 155) hx hb dX11_comesTo_151 (by decide) ?_
          refine x_icmp_ne (tgt := 168) hx hb rx83 (by decide) dX11_comesTo_155 (by decide) (fun c88 => ?_) (fun c88 => ?_)
          · skip
            refine x_iload_n hx hb hl 5 rfl dX11_comesTo_168 rfl ?_
            refine x_iconst hx hb dX11_comesTo_169 ?_
            refine x_isub hx hb dX11_comesTo_170 ?_
            refine x_nm (fun x89 ex89 => ?_)
            refine lv_istore_n (lv' := [(3, .int (xJ x89)), (5, .int (xJ x8)), (7, .int (xJ x7)), (6, .int (xJ x5)), (0, .ref (h0 + 268)), (2, .int (xJ b)), (4, .int (xJ x1))]) hx hb dX11_comesTo_171 rfl hl (by decide) rfl (fun ls hl => ?_)
            refine lv_goto (tgt := 230) hx hb dX11_comesTo_172 (by decide) ?_
            refine lv_goto (tgt := 16) hx hb dX11_comesTo_230 (by decide) ?_
            exact ih16 x89 x8 s_16 H locs ls (by omega) (by omega) hF_16 q16_0 q16_1 q16_2 q16_3 q16_4 (by omega) (by omega) (by first | (exfalso; omega) | exact (by
                rw [X85]
                exact v16_2.num hg (by omega) (by rw [← ec9]; omega) (by rw [← ec9]; omega) (by omega)) | exact (by
                rw [X85]
                exact v16_2.let_ hg (by omega) (by rw [← ec9]; omega) (by rw [V84, ← ec9]; congr 1; omega) (by omega)) | exact (by
                have tp := T28 (by omega)
                rw [X117]
                exact v16_2.not hg (by omega) (by rw [← ec9]; omega) (by rw [L28 (by omega)]; show _ = 1 - s_16 293 (i3_16 - 1); omega) (by rw [L28 (by omega)]; rfl) (by omega)) | exact (by
                have tp := T28 (by omega)
                have hh : zhd (zl0 (s_16 293) i3_16) = s_16 293 (i3_16 - 1) := by rw [L28 (by omega)]; rfl
                exact (v16_2.jmp hg (by omega) (by rw [← ec9, hh]; omega) (by rw [← ec9]; omega)).1) | exact (by
                have hh : zhd (zl0 (s_16 293) i3_16) = s_16 293 (i3_16 - 1) := by rw [L28 (by omega)]; rfl
                rw [show x89 = i3_16 - 1 from by omega]
                exact v16_2.stay hg (by omega) (by rw [← ec9, hh]; omega) (by rw [hh]; exact L28 (by omega)) (by omega)) | exact (by
                have e1 := L28 (by omega)
                have hh : zhd (zl0 (s_16 293) i3_16) = s_16 293 (i3_16 - 1) := by rw [e1]; rfl
                have e2 := zl0_pop (s_16 293) (n := i3_16 - 1) (by omega)
                rw [e2] at e1
                rw [X229]
                exact v16_2.op hg (by omega) (by rw [← ec9]; omega) (by rw [← ec9, hh]; omega) e1 (by rw [← ec9]; exact W229) (by omega))) (by have hm := hm_16 (); omega) hW (lv_sub hl [4, 5, 0, 6, 1] rfl)
          refine x_iload hx hb hl 6 rfl dX11_comesTo_158 ?_
          refine x_iload hx hb hl 1 rfl dX11_comesTo_160 ?_
          refine x_iadd hx hb dX11_comesTo_162 ?_
          refine x_nm (fun x90 ex90 => ?_)
          refine lv_istore (lv' := [(5, .int (xJ x90)), (7, .int (xJ x7)), (6, .int (xJ x5)), (0, .ref (h0 + 268)), (2, .int (xJ b)), (3, .int (xJ i3_16)), (4, .int (xJ x1))]) hx hb dX11_comesTo_163 hl (by decide) rfl (fun ls hl => ?_)
          refine lv_goto (tgt := 230) hx hb dX11_comesTo_165 (by decide) ?_
          refine lv_goto (tgt := 16) hx hb dX11_comesTo_230 (by decide) ?_
          exact ih16 i3_16 x90 s_16 H locs ls ri3_16 (by omega) hF_16 q16_0 q16_1 q16_2 q16_3 q16_4 (by omega) (by omega) (by first | (exfalso; omega) | exact (by
              rw [X85]
              exact v16_2.num hg (by omega) (by rw [← ec9]; omega) (by rw [← ec9]; omega) (by omega)) | exact (by
              rw [X85]
              exact v16_2.let_ hg (by omega) (by rw [← ec9]; omega) (by rw [V84, ← ec9]; congr 1; omega) (by omega)) | exact (by
              have tp := T28 (by omega)
              rw [X117]
              exact v16_2.not hg (by omega) (by rw [← ec9]; omega) (by rw [L28 (by omega)]; show _ = 1 - s_16 293 (i3_16 - 1); omega) (by rw [L28 (by omega)]; rfl) (by omega)) | exact (by
              have tp := T28 (by omega)
              have hh : zhd (zl0 (s_16 293) i3_16) = s_16 293 (i3_16 - 1) := by rw [L28 (by omega)]; rfl
              exact (v16_2.jmp hg (by omega) (by rw [← ec9, hh]; omega) (by rw [← ec9]; omega)).1) | exact (by
              have hh : zhd (zl0 (s_16 293) i3_16) = s_16 293 (i3_16 - 1) := by rw [L28 (by omega)]; rfl
              rw [show i3_16 = i3_16 - 1 from by omega]
              exact v16_2.stay hg (by omega) (by rw [← ec9, hh]; omega) (by rw [hh]; exact L28 (by omega)) (by omega)) | exact (by
              have e1 := L28 (by omega)
              have hh : zhd (zl0 (s_16 293) i3_16) = s_16 293 (i3_16 - 1) := by rw [e1]; rfl
              have e2 := zl0_pop (s_16 293) (n := i3_16 - 1) (by omega)
              rw [e2] at e1
              rw [X229]
              exact v16_2.op hg (by omega) (by rw [← ec9]; omega) (by rw [← ec9, hh]; omega) e1 (by rw [← ec9]; exact W229) (by omega))) (by have hm := hm_16 (); omega) hW (lv_sub hl [3, 4, 5, 6, 0] rfl)
        refine x_aload_n hx hb hl 3 rfl dX11_comesTo_100 rfl ?_
        refine x_get (j := 38) (v := .ref (h0 + 293)) hx hb hown hT hE hW cls_X11 (Or.inl (by decide)) (so_268 h0 g _) (by decide) rfl wq1223 dX11_comesTo_101 ?_
        refine x_iload_n hx hb hl 5 rfl dX11_comesTo_104 rfl ?_
        refine x_iconst hx hb dX11_comesTo_105 ?_
        refine x_isub hx hb dX11_comesTo_106 ?_
        refine x_iconst hx hb dX11_comesTo_107 ?_
        refine x_aload_n hx hb hl 3 rfl dX11_comesTo_108 rfl ?_
        refine x_get (j := 38) (v := .ref (h0 + 293)) hx hb hown hT hE hW cls_X11 (Or.inl (by decide)) (so_268 h0 g _) (by decide) rfl wq1223 dX11_comesTo_109 ?_
        refine x_iload_n hx hb hl 5 rfl dX11_comesTo_112 rfl ?_
        refine x_iconst hx hb dX11_comesTo_113 ?_
        refine x_isub hx hb dX11_comesTo_114 ?_
        refine x_iald hx hb hE hW (Or.inl (by decide)) (sa_293 h0 g _) (by omega) (by decide) dX11_comesTo_115 ?_
        refine x_rd hW (fun x91 ex91 rx91 => ?_)
        have V115 : x91 = s_16 293 (i3_16 - 1) := ex91
        refine x_isub hx hb dX11_comesTo_116 ?_
        refine x_iast hx hb hE hW (by decide) (fun σ => sa_293 h0 g σ) (by omega) (by decide) (by omega) dX11_comesTo_117 (fun H locs s92 es92 hW => ?_)
        have q93 : IMn s92 := by rw [es92]; exact IMn_o (by unfold suIMn; first | decide | omega) q16_0
        have q94 : IMk s92 := by rw [es92]; exact IMk_o (by unfold suIMk; first | decide | omega) q16_1
        have q95 : IMo s92 := by rw [es92]; exact IMo_o (by unfold suIMo; first | decide | omega) q16_2
        have q96 : s92 268 8 = s0 268 8 := (show s92 268 8 = s_16 268 8 from by rw [es92, xU_k _ _ _ (by first | decide | omega)]).trans q16_3
        have q97 : s92 268 58 = s0 268 58 := (show s92 268 58 = s_16 268 58 from by rw [es92, xU_k _ _ _ (by first | decide | omega)]).trans q16_4
        have hF98 := hF_16.put es92 (by omega)
        have X117 : zl0 (s92 293) i3_16 = (1 - x91) :: zl0 (s_16 293) (i3_16 - 1) := by rw [es92, xU_xud]; exact zl0_put _ rfl (by omega)
        refine lv_goto (tgt := 230) hx hb dX11_comesTo_118 (by decide) ?_
        refine lv_goto (tgt := 16) hx hb dX11_comesTo_230 (by decide) ?_
        exact ih16 i3_16 x8 s92 H locs ls ri3_16 (by omega) hF98 q93 q94 q95 q96 q97 (by omega) (by omega) (by first | (exfalso; omega) | exact (by
            rw [X85]
            exact v16_2.num hg (by omega) (by rw [← ec9]; omega) (by rw [← ec9]; omega) (by omega)) | exact (by
            rw [X85]
            exact v16_2.let_ hg (by omega) (by rw [← ec9]; omega) (by rw [V84, ← ec9]; congr 1; omega) (by omega)) | exact (by
            have tp := T28 (by omega)
            rw [X117]
            exact v16_2.not hg (by omega) (by rw [← ec9]; omega) (by rw [L28 (by omega)]; show _ = 1 - s_16 293 (i3_16 - 1); omega) (by rw [L28 (by omega)]; rfl) (by omega)) | exact (by
            have tp := T28 (by omega)
            have hh : zhd (zl0 (s_16 293) i3_16) = s_16 293 (i3_16 - 1) := by rw [L28 (by omega)]; rfl
            exact (v16_2.jmp hg (by omega) (by rw [← ec9, hh]; omega) (by rw [← ec9]; omega)).1) | exact (by
            have hh : zhd (zl0 (s_16 293) i3_16) = s_16 293 (i3_16 - 1) := by rw [L28 (by omega)]; rfl
            rw [show i3_16 = i3_16 - 1 from by omega]
            exact v16_2.stay hg (by omega) (by rw [← ec9, hh]; omega) (by rw [hh]; exact L28 (by omega)) (by omega)) | exact (by
            have e1 := L28 (by omega)
            have hh : zhd (zl0 (s_16 293) i3_16) = s_16 293 (i3_16 - 1) := by rw [e1]; rfl
            have e2 := zl0_pop (s_16 293) (n := i3_16 - 1) (by omega)
            rw [e2] at e1
            rw [X229]
            exact v16_2.op hg (by omega) (by rw [← ec9]; omega) (by rw [← ec9, hh]; omega) e1 (by rw [← ec9]; exact W229) (by omega))) (by have hm := hm_16 (); omega) hW (lv_sub hl [3, 4, 5, 6, 0] rfl)
      refine x_aload_n hx hb hl 3 rfl dX11_comesTo_63 rfl ?_
      refine x_get (j := 38) (v := .ref (h0 + 293)) hx hb hown hT hE hW cls_X11 (Or.inl (by decide)) (so_268 h0 g _) (by decide) rfl wq1223 dX11_comesTo_64 ?_
      refine x_iload_n hx hb hl 5 rfl dX11_comesTo_67 rfl ?_
      refine x_iload hx hb hl 2 rfl dX11_comesTo_68 ?_
      refine x_if_ne (tgt := 78) hx hb (by omega) dX11_comesTo_70 (by decide) (fun c99 => ?_) (fun c99 => ?_)
      · skip
        refine x_aload_n hx hb hl 3 rfl dX11_comesTo_78 rfl ?_
        refine x_get (j := 39) (v := .ref (h0 + 294)) hx hb hown hT hE hW cls_X11 (Or.inl (by decide)) (so_268 h0 g _) (by decide) rfl wq1224 dX11_comesTo_79 ?_
        refine x_iload hx hb hl 1 rfl dX11_comesTo_82 ?_
        refine x_iald hx hb hE hW (Or.inl (by decide)) (sa_294 h0 g _) (by omega) (by decide) dX11_comesTo_84 ?_
        refine x_rd hW (fun x100 ex100 rx100 => ?_)
        have V84 : x100 = s0 294 x7 := by rw [ex100, hF_16 294 (by first | decide | omega)]
        refine x_iast hx hb hE hW (by decide) (fun σ => sa_293 h0 g σ) (by omega) (by decide) rx100 dX11_comesTo_85 (fun H locs s101 es101 hW => ?_)
        have q102 : IMn s101 := by rw [es101]; exact IMn_o (by unfold suIMn; first | decide | omega) q16_0
        have q103 : IMk s101 := by rw [es101]; exact IMk_o (by unfold suIMk; first | decide | omega) q16_1
        have q104 : IMo s101 := by rw [es101]; exact IMo_o (by unfold suIMo; first | decide | omega) q16_2
        have q105 : s101 268 8 = s0 268 8 := (show s101 268 8 = s_16 268 8 from by rw [es101, xU_k _ _ _ (by first | decide | omega)]).trans q16_3
        have q106 : s101 268 58 = s0 268 58 := (show s101 268 58 = s_16 268 58 from by rw [es101, xU_k _ _ _ (by first | decide | omega)]).trans q16_4
        have hF107 := hF_16.put es101 (by omega)
        have X85 : zl0 (s101 293) (i3_16 + 1) = x100 :: zl0 (s_16 293) i3_16 := by rw [es101, xU_xud]; exact zl0_push _ rfl rfl (by omega)
        refine x_iload_n hx hb hl 5 rfl dX11_comesTo_86 rfl ?_
        refine x_iconst hx hb dX11_comesTo_87 ?_
        refine x_iadd hx hb dX11_comesTo_88 ?_
        refine x_nm (fun x108 ex108 => ?_)
        refine lv_istore_n (lv' := [(3, .int (xJ x108)), (5, .int (xJ x8)), (7, .int (xJ x7)), (6, .int (xJ x5)), (0, .ref (h0 + 268)), (2, .int (xJ b)), (4, .int (xJ x1))]) hx hb dX11_comesTo_89 rfl hl (by decide) rfl (fun ls hl => ?_)
        refine lv_goto (tgt := 230) hx hb dX11_comesTo_90 (by decide) ?_
        refine lv_goto (tgt := 16) hx hb dX11_comesTo_230 (by decide) ?_
        exact ih16 x108 x8 s101 H locs ls (by omega) (by omega) hF107 q102 q103 q104 q105 q106 (by omega) (by omega) (by first | (exfalso; omega) | exact (by
            rw [X85]
            exact v16_2.num hg (by omega) (by rw [← ec9]; omega) (by rw [← ec9]; omega) (by omega)) | exact (by
            rw [X85]
            exact v16_2.let_ hg (by omega) (by rw [← ec9]; omega) (by rw [V84, ← ec9]; congr 1; omega) (by omega)) | exact (by
            have tp := T28 (by omega)
            rw [X117]
            exact v16_2.not hg (by omega) (by rw [← ec9]; omega) (by rw [L28 (by omega)]; show _ = 1 - s_16 293 (i3_16 - 1); omega) (by rw [L28 (by omega)]; rfl) (by omega)) | exact (by
            have tp := T28 (by omega)
            have hh : zhd (zl0 (s_16 293) i3_16) = s_16 293 (i3_16 - 1) := by rw [L28 (by omega)]; rfl
            exact (v16_2.jmp hg (by omega) (by rw [← ec9, hh]; omega) (by rw [← ec9]; omega)).1) | exact (by
            have hh : zhd (zl0 (s_16 293) i3_16) = s_16 293 (i3_16 - 1) := by rw [L28 (by omega)]; rfl
            rw [show x108 = i3_16 - 1 from by omega]
            exact v16_2.stay hg (by omega) (by rw [← ec9, hh]; omega) (by rw [hh]; exact L28 (by omega)) (by omega)) | exact (by
            have e1 := L28 (by omega)
            have hh : zhd (zl0 (s_16 293) i3_16) = s_16 293 (i3_16 - 1) := by rw [e1]; rfl
            have e2 := zl0_pop (s_16 293) (n := i3_16 - 1) (by omega)
            rw [e2] at e1
            rw [X229]
            exact v16_2.op hg (by omega) (by rw [← ec9]; omega) (by rw [← ec9, hh]; omega) e1 (by rw [← ec9]; exact W229) (by omega))) (by have hm := hm_16 (); omega) hW (lv_sub hl [4, 5, 0, 6, 1] rfl)
      refine x_iload hx hb hl 1 rfl dX11_comesTo_73 ?_
      refine lv_goto (tgt := 85) hx hb dX11_comesTo_75 (by decide) ?_
      refine x_iast hx hb hE hW (by decide) (fun σ => sa_293 h0 g σ) (by omega) (by decide) (by omega) dX11_comesTo_85 (fun H locs s109 es109 hW => ?_)
      have q110 : IMn s109 := by rw [es109]; exact IMn_o (by unfold suIMn; first | decide | omega) q16_0
      have q111 : IMk s109 := by rw [es109]; exact IMk_o (by unfold suIMk; first | decide | omega) q16_1
      have q112 : IMo s109 := by rw [es109]; exact IMo_o (by unfold suIMo; first | decide | omega) q16_2
      have q113 : s109 268 8 = s0 268 8 := (show s109 268 8 = s_16 268 8 from by rw [es109, xU_k _ _ _ (by first | decide | omega)]).trans q16_3
      have q114 : s109 268 58 = s0 268 58 := (show s109 268 58 = s_16 268 58 from by rw [es109, xU_k _ _ _ (by first | decide | omega)]).trans q16_4
      have hF115 := hF_16.put es109 (by omega)
      have X85 : zl0 (s109 293) (i3_16 + 1) = x7 :: zl0 (s_16 293) i3_16 := by rw [es109, xU_xud]; exact zl0_push _ rfl rfl (by omega)
      refine x_iload_n hx hb hl 5 rfl dX11_comesTo_86 rfl ?_
      refine x_iconst hx hb dX11_comesTo_87 ?_
      refine x_iadd hx hb dX11_comesTo_88 ?_
      refine x_nm (fun x116 ex116 => ?_)
      refine lv_istore_n (lv' := [(3, .int (xJ x116)), (5, .int (xJ x8)), (7, .int (xJ x7)), (6, .int (xJ x5)), (0, .ref (h0 + 268)), (2, .int (xJ b)), (4, .int (xJ x1))]) hx hb dX11_comesTo_89 rfl hl (by decide) rfl (fun ls hl => ?_)
      refine lv_goto (tgt := 230) hx hb dX11_comesTo_90 (by decide) ?_
      refine lv_goto (tgt := 16) hx hb dX11_comesTo_230 (by decide) ?_
      exact ih16 x116 x8 s109 H locs ls (by omega) (by omega) hF115 q110 q111 q112 q113 q114 (by omega) (by omega) (by first | (exfalso; omega) | exact (by
          rw [X85]
          exact v16_2.num hg (by omega) (by rw [← ec9]; omega) (by rw [← ec9]; omega) (by omega)) | exact (by
          rw [X85]
          exact v16_2.let_ hg (by omega) (by rw [← ec9]; omega) (by rw [V84, ← ec9]; congr 1; omega) (by omega)) | exact (by
          have tp := T28 (by omega)
          rw [X117]
          exact v16_2.not hg (by omega) (by rw [← ec9]; omega) (by rw [L28 (by omega)]; show _ = 1 - s_16 293 (i3_16 - 1); omega) (by rw [L28 (by omega)]; rfl) (by omega)) | exact (by
          have tp := T28 (by omega)
          have hh : zhd (zl0 (s_16 293) i3_16) = s_16 293 (i3_16 - 1) := by rw [L28 (by omega)]; rfl
          exact (v16_2.jmp hg (by omega) (by rw [← ec9, hh]; omega) (by rw [← ec9]; omega)).1) | exact (by
          have hh : zhd (zl0 (s_16 293) i3_16) = s_16 293 (i3_16 - 1) := by rw [L28 (by omega)]; rfl
          rw [show x116 = i3_16 - 1 from by omega]
          exact v16_2.stay hg (by omega) (by rw [← ec9, hh]; omega) (by rw [hh]; exact L28 (by omega)) (by omega)) | exact (by
          have e1 := L28 (by omega)
          have hh : zhd (zl0 (s_16 293) i3_16) = s_16 293 (i3_16 - 1) := by rw [e1]; rfl
          have e2 := zl0_pop (s_16 293) (n := i3_16 - 1) (by omega)
          rw [e2] at e1
          rw [X229]
          exact v16_2.op hg (by omega) (by rw [← ec9]; omega) (by rw [← ec9, hh]; omega) e1 (by rw [← ec9]; exact W229) (by omega))) (by have hm := hm_16 (); omega) hW (lv_sub hl [4, 5, 0, 6, 1] rfl)
  exact L16 ((b - a : Int).toNat + 1) 0 a s0 H locs ls (by decide) ra hF p0 p1 p2 k268_8 k268_58 (by omega) (by omega) (by rw [eV0, zl0_0 _ (by omega)]; exact zVS.new hg) (Nat.lt_succ_self _) hW (lv_sub hl [3, 5, 2, 1, 0] rfl)
