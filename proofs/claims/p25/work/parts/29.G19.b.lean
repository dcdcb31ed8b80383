set_option maxHeartbeats 4000000 in
set_option maxRecDepth 100000 in
theorem c_X11_readsSum (l : Launch) (D : va_G) (g : xG) (T : Nat × Nat × Nat) (h0 : Nat) (s0 : xS) (hσ : xRR s0) (c0 : Int → Int) (a : Int) (M : Int) (q : Int) (D1 : Int) (hlc : zLC c0 a M q D1 s0) (p0 : IMn s0) (p1 : IMk s0) (p2 : IMo s0) (p3 : IR s0) : Met l yX11_readsSum (xws yX11_readsSum cX11_readsSum 3 (some .boolean)) { frames := 4, cells := 0, slots := 0, locals := 82 } (xP [.ref (h0 + 268)] D g T h0 s0) (xQi D g h0 (fun r τ => xFr (fun k => k = 268 ∨ k = 277 ∨ k = 278) s0 τ ∧ (((IMn τ) ∧ (IMk τ) ∧ (IMo τ) ∧ (IR τ) ∧ (τ 268 8 = s0 268 8) ∧ (τ 268 58 = s0 268 58) ∧ (τ 268 10 = s0 268 10) ∧ (τ 268 16 = s0 268 16) ∧ (τ 268 34 = s0 268 34) ∧ (τ 268 35 = s0 268 35) ∧ (τ 268 36 = s0 268 36) ∧ (τ 268 37 = s0 268 37) ∧ True) ∧ ((r = 0 ∧ s0 268 9 ≤ τ 268 9) ∨ (r = 1 ∧ s0 268 9 + 1 ≤ τ 268 9 ∧ τ 268 15 = s0 268 15 ∧ zLC c0 a M q (D1 + 1) τ ∧ ∀ i, 0 ≤ i → i < s0 268 15 → τ 278 i = s0 278 i))))) 0 0 (xA h0) := by
  refine x_met hσ (by decide) (Nat.le_of_ble_eq_true rfl) ?_
  intro p e s m args below meth c hx hb hr hml hown hT hlk hnm hE hW ls hl
  have hl : lv_has ls 3 [(0, .ref (h0 + 268))] := hl
  obtain ⟨Q, eQ⟩ : ∃ Q, Q = MQ below (xQi D g h0 (fun r τ => xFr (fun k => k = 268 ∨ k = 277 ∨ k = 278) s0 τ ∧ (((IMn τ) ∧ (IMk τ) ∧ (IMo τ) ∧ (IR τ) ∧ (τ 268 8 = s0 268 8) ∧ (τ 268 58 = s0 268 58) ∧ (τ 268 10 = s0 268 10) ∧ (τ 268 16 = s0 268 16) ∧ (τ 268 34 = s0 268 34) ∧ (τ 268 35 = s0 268 35) ∧ (τ 268 36 = s0 268 36) ∧ (τ 268 37 = s0 268 37) ∧ True) ∧ ((r = 0 ∧ s0 268 9 ≤ τ 268 9) ∨ (r = 1 ∧ s0 268 9 + 1 ≤ τ 268 9 ∧ τ 268 15 = s0 268 15 ∧ zLC c0 a M q (D1 + 1) τ ∧ ∀ i, 0 ≤ i → i < s0 268 15 → τ 278 i = s0 278 i))))) args s 0 0 (xA h0) := ⟨_, rfl⟩
  rw [← eQ]
  generalize hHe : ([] : List Loc) = locs at hW ⊢
  obtain ⟨H, eH⟩ : ∃ H, H = s.heap := ⟨_, rfl⟩
  rw [← eH] at hW ⊢
  have hF : xFr (fun k => k = 268 ∨ k = 277 ∨ k = 278) s0 s0 := xFr.rf
  have k268_8 : s0 268 8 = s0 268 8 := rfl
  have k268_58 : s0 268 58 = s0 268 58 := rfl
  have k268_10 : s0 268 10 = s0 268 10 := rfl
  have k268_16 : s0 268 16 = s0 268 16 := rfl
  have k268_34 : s0 268 34 = s0 268 34 := rfl
  have k268_35 : s0 268 35 = s0 268 35 := rfl
  have k268_36 : s0 268 36 = s0 268 36 := rfl
  have k268_37 : s0 268 37 = s0 268 37 := rfl
  have k268_9 : s0 268 9 = s0 268 9 := rfl
  have k268_14 : s0 268 14 = s0 268 14 := rfl
  have k268_15 : s0 268 15 = s0 268 15 := rfl
  refine x_aload_n hx hb hl 0 rfl dX11_readsSum_0 rfl ?_
  refine x_get (j := 15) (v := .int (xJ (s0 268 15))) hx hb hown hT hE hW cls_X11 (Or.inl (by decide)) (so_268 h0 g _) (by decide) rfl wq1200 dX11_readsSum_1 ?_
  refine x_rd hW (fun x1 ex1 rx1 => ?_)
  have fx1 : x1 = s0 268 15 := ex1.trans k268_15
  refine lv_istore_n (lv' := [(1, .int (xJ x1)), (0, .ref (h0 + 268))]) hx hb dX11_readsSum_4 rfl hl (by decide) rfl (fun ls hl => ?_)
  have hl2 : zLS c0 a M (s0 278) x1 (zcI 10485760 11534336 (s0 278) 0 x1 + q) D1 0 s0 := by rw [show x1 = s0 268 15 from by omega]; exact hlc.2
  refine x_aload_n hx hb hl 1 rfl dX11_readsSum_5 rfl ?_
  refine x_goi (x_runV (As := []) hx hb hml hown hT hE hW hl.1 (Or.inl (by decide)) (so_268 h0 g _) rfl cf_X11_readsFactor wq1476 wq117 wq1474 (c_X11_readsFactor l D g T h0 s0 hW.2.1 c0 a M (s0 278) x1 (zcI 10485760 11534336 (s0 278) 0 x1 + q) D1 (hl2) p0 p1 p2 p3) ⟨rfl, rfl, ⟨by decide, by decide⟩, ⟨by decide, by decide⟩⟩ rfl rfl (Nat.le_of_ble_eq_true rfl) dX11_readsSum_6) hW (fun x2 s3 H locs rx2 hp4 hW => ?_)
  obtain ⟨fs3, hp4⟩ := hp4
  have hF5 := hF.call fs3 (fun k h => by omega)
  have ghp4 := hp4.2
  have A6 := ghp4
  refine x_if_ne (tgt := 14) hx hb rx2 dX11_readsSum_9 (by decide) (fun c6 => ?_) (fun c6 => ?_)
  · skip
    have L14 : ∀ (fu : Nat) (s_14 : xS) (H : Heap) (locs : List Loc) (ls : Array Slot), (xFr (fun k => k = 268 ∨ k = 277 ∨ k = 278) s0 s_14) → (IMn s_14) → (IMk s_14) → (IMo s_14) → (IR s_14) → (s_14 268 8 = s0 268 8) → (s_14 268 58 = s0 268 58) → (s_14 268 10 = s0 268 10) → (s_14 268 16 = s0 268 16) → (s_14 268 34 = s0 268 34) → (s_14 268 35 = s0 268 35) → (s_14 268 36 = s0 268 36) → (s_14 268 37 = s0 268 37) → (zLS c0 a M (s0 278) x1 (zcI 10485760 11534336 (s0 278) 0 x1 + q) D1 1 s_14) → (s0 268 9 + 1 ≤ s_14 268 9) → (241 - s_14 268 9).toNat < fu → xW D g h0 s H locs s_14 → lv_has ls 3 [(0, .ref (h0 + 268)), (1, .int (xJ x1))] → W p l e { frames := 4, cells := 0, slots := 0, locals := 82 } s m args below meth c H locs 0 0 Q (F0 m 14 ls []) := by
      intro fu
      induction fu with
      | zero => intro s_14 H locs ls hF_14 q14_0 q14_1 q14_2 q14_3 q14_4 q14_5 q14_6 q14_7 q14_8 q14_9 q14_10 q14_11 v14_0 v14_1 hm; exact absurd hm (Nat.not_lt_zero _)
      | succ fu ih14 =>
        intro s_14 H locs ls hF_14 q14_0 q14_1 q14_2 q14_3 q14_4 q14_5 q14_6 q14_7 q14_8 q14_9 q14_10 q14_11 v14_0 v14_1 hm hW hl
        have pb := v14_0.p
        have wb := v14_0.wb
        refine x_aload_n hx hb hl 0 rfl dX11_readsSum_14 rfl ?_
        refine x_goi (x_runV (As := []) hx hb hml hown hT hE hW hl.1 (Or.inl (by decide)) (so_268 h0 g _) rfl cf_X11_here wq1391 wq106 wq1389 (c_X11_here l D g T h0 s_14 hW.2.1 q14_0 q14_1 q14_2 q14_3) ⟨rfl, rfl, ⟨by decide, by decide⟩, ⟨by decide, by decide⟩⟩ rfl rfl (Nat.le_of_ble_eq_true rfl) dX11_readsSum_15) hW (fun x7 s8 H locs rx7 hp9 hW => ?_)
        obtain ⟨es8, hp9⟩ := hp9
        subst es8
        have ghp9 := hp9
        have q10 : s_14 268 9 = s_14 268 9 := rfl
        refine x_goi (x_runS (As := [.int (xJ x7)]) hx hb hml hown hT hE hW hl.1 cf_X11_sumSign wq1499 wq1498 (c_X11_sumSign l D g T h0 s_14 hW.2.1 x7 rx7) ⟨rfl, rfl, ⟨by decide, by decide⟩, ⟨by decide, by decide⟩⟩ rfl rfl (Nat.le_of_ble_eq_true rfl) dX11_readsSum_18) hW (fun x11 s12 H locs rx11 hp13 hW => ?_)
        obtain ⟨es12, hp13⟩ := hp13
        subst es12
        have ghp13 := hp13
        refine lv_istore_n (lv' := [(2, .int (xJ x11)), (0, .ref (h0 + 268)), (1, .int (xJ x1))]) hx hb dX11_readsSum_21 rfl hl (by decide) rfl (fun ls hl => ?_)
        refine x_iload_n hx hb hl 0 rfl dX11_readsSum_22 rfl ?_
        refine x_iconst hx hb dX11_readsSum_23 ?_
        refine x_icmp_eq (tgt := 83) hx hb rx11 (by decide) dX11_readsSum_24 (by decide) (fun c14 => ?_) (fun c14 => ?_)
        · skip
          refine x_aload_n hx hb hl 1 rfl dX11_readsSum_83 rfl ?_
          refine x_goi (x_runV (As := []) hx hb hml hown hT hE hW hl.1 (Or.inl (by decide)) (so_268 h0 g _) rfl cf_X11_here wq1391 wq106 wq1389 (c_X11_here l D g T h0 s_14 hW.2.1 q14_0 q14_1 q14_2 q14_3) ⟨rfl, rfl, ⟨by decide, by decide⟩, ⟨by decide, by decide⟩⟩ rfl rfl (Nat.le_of_ble_eq_true rfl) dX11_readsSum_84) hW (fun x15 s16 H locs rx15 hp17 hW => ?_)
          obtain ⟨es16, hp17⟩ := hp17
          subst es16
          have ghp17 := hp17
          refine x_bipush hx hb dX11_readsSum_87 (by decide) ?_
          have J138 : ∀ (H : Heap) (locs : List Loc) (ls : Array Slot), xW D g h0 s H locs s_14 → lv_has ls 3 [(0, .ref (h0 + 268)), (1, .int (xJ x1))] → W p l e { frames := 4, cells := 0, slots := 0, locals := 82 } s m args below meth c H locs 0 0 Q (F0 m 138 ls []) := by
            intro H locs ls  hW hl
            refine x_aload_n hx hb hl 0 rfl dX11_readsSum_138 rfl ?_
            refine x_iload_n hx hb hl 1 rfl dX11_readsSum_139 rfl ?_
            refine x_goi (x_runV (As := [.int (xJ x1)]) hx hb hml hown hT hE hW hl.1 (Or.inl (by decide)) (so_268 h0 g _) rfl cf_X11_hasOpenSum wq1511 wq124 wq1509 (c_X11_hasOpenSum l D g T h0 s_14 hW.2.1 x1 rx1 c0 a M (s0 278) (zcI 10485760 11534336 (s0 278) 0 x1 + q) D1 1 (v14_0) q14_0 q14_1 q14_2 q14_3) ⟨rfl, rfl, ⟨by decide, by decide⟩, ⟨by decide, by decide⟩⟩ rfl rfl (Nat.le_of_ble_eq_true rfl) dX11_readsSum_140) hW (fun x18 s19 H locs rx18 hp20 hW => ?_)
            obtain ⟨es19, hp20⟩ := hp20
            subst es19
            have ghp20 := hp20
            have A140 := ghp20
            refine x_if_eq (tgt := 156) hx hb rx18 dX11_readsSum_143 (by decide) (fun c21 => ?_) (fun c21 => ?_)
            · skip
              refine x_aload_n hx hb hl 0 rfl dX11_readsSum_156 rfl ?_
              refine x_iconst hx hb dX11_readsSum_157 ?_
              refine x_gov (x_runV (As := [.int (xJ 1)]) hx hb hml hown hT hE hW hl.1 (Or.inl (by decide)) (so_268 h0 g _) rfl cf_X11_closesSums wq1503 wq122 wq1501 (c_X11_closesSums l D g T h0 s_14 hW.2.1 1 (by decide) c0 a M (s0 278) x1 (zcI 10485760 11534336 (s0 278) 0 x1 + q) D1 (v14_0) (by omega) q14_0 q14_1 q14_2 q14_3) ⟨rfl, rfl, ⟨by decide, by decide⟩, ⟨by decide, by decide⟩⟩ rfl rfl (Nat.le_of_ble_eq_true rfl) dX11_readsSum_158) hW (fun s23 H locs hp24 hW => ?_)
              obtain ⟨fs23, hp24⟩ := hp24
              have hF25 := hF_14.call fs23 (fun k h => by omega)
              have ghp24 := hp24.2
              have A158 := ghp24
              have bt := A158.1.bot (by omega) (fun q => (A140.resolve_left (fun q => absurd q.1 (by omega))).2 (A158.2.1.mp q))
              refine x_iconst hx hb dX11_readsSum_161 ?_
              rw [eQ]
              exact x_zret hx hb hr hlk hW (by omega) ⟨hF25, ⟨hp24.1.1, hp24.1.2.1, hp24.1.2.2.1, hp24.1.2.2.2.1, (hp24.1.2.2.2.2.1.trans q14_4), (hp24.1.2.2.2.2.2.1.trans q14_5), (hp24.1.2.2.2.2.2.2.2.1.trans q14_6), (hp24.1.2.2.2.2.2.2.2.2.1.trans q14_7), (hp24.1.2.2.2.2.2.2.2.2.2.1.trans q14_8), (hp24.1.2.2.2.2.2.2.2.2.2.2.1.trans q14_9), (hp24.1.2.2.2.2.2.2.2.2.2.2.2.1.trans q14_10), (hp24.1.2.2.2.2.2.2.2.2.2.2.2.2.1.trans q14_11), trivial⟩, Or.inr ⟨rfl, by omega, by omega, A158.1.toC bt rfl hlc.1, fun i i1 i2 => (A158.1.lo i i1 (by omega)).1⟩⟩ dX11_readsSum_162
            refine x_aload_n hx hb hl 0 rfl dX11_readsSum_146 rfl ?_
            refine x_iconst hx hb dX11_readsSum_147 ?_
            refine x_aload_n hx hb hl 0 rfl dX11_readsSum_148 rfl ?_
            refine x_get (j := 9) (v := .int (xJ (s_14 268 9))) hx hb hown hT hE hW cls_X11 (Or.inl (by decide)) (so_268 h0 g _) (by decide) rfl wq1194 dX11_readsSum_149 ?_
            refine x_rd hW (fun x26 ex26 rx26 => ?_)
            have bx26 : 0 ≤ x26 ∧ x26 ≤ s_14 268 10 ∧ s_14 268 10 ≤ 240 := by rw [ex26]; exact q14_3
            have fx26 : x26 = s_14 268 9 := ex26.trans q10
            refine x_goi (x_runV (As := [.int (xJ 1), .int (xJ x26)]) hx hb hml hown hT hE hW hl.1 (Or.inl (by decide)) (so_268 h0 g _) rfl cf_X11_wrongAt wq1401 wq107 wq1399 (c_X11_wrongAt l D g T h0 s_14 hW.2.1 1 (by decide) x26 rx26 q14_0 q14_1 q14_2 q14_3) ⟨rfl, rfl, ⟨by decide, by decide⟩, ⟨by decide, by decide⟩⟩ rfl rfl (Nat.le_of_ble_eq_true rfl) dX11_readsSum_152) hW (fun x27 s28 H locs rx27 hp29 hW => ?_)
            obtain ⟨fs28, hp29⟩ := hp29
            have hF30 := hF_14.call fs28 (fun k h => by omega)
            have ghp29 := hp29.2
            rw [eQ]
            exact x_zret hx hb hr hlk hW (by omega) ⟨hF30, ⟨hp29.1.1, hp29.1.2.1, hp29.1.2.2.1, hp29.1.2.2.2.1, (hp29.1.2.2.2.2.1.trans q14_4), (hp29.1.2.2.2.2.2.1.trans q14_5), (hp29.1.2.2.2.2.2.2.2.1.trans q14_6), (hp29.1.2.2.2.2.2.2.2.2.2.2.1.trans q14_7), (hp29.1.2.2.2.2.2.2.2.2.2.2.2.1.trans q14_8), (hp29.1.2.2.2.2.2.2.2.2.2.2.2.2.1.trans q14_9), (hp29.1.2.2.2.2.2.2.2.2.2.2.2.2.2.1.trans q14_10), (hp29.1.2.2.2.2.2.2.2.2.2.2.2.2.2.2.1.trans q14_11), trivial⟩, Or.inl ⟨by omega, by omega⟩⟩ dX11_readsSum_155
          refine x_icmp_ne (tgt := 138) hx hb rx15 (by decide) dX11_readsSum_89 (by decide) (fun c31 => ?_) (fun c31 => ?_)
          · skip
            exact J138 H locs ls  hW (lv_sub hl [1, 2] rfl)
          refine x_aload_n hx hb hl 1 rfl dX11_readsSum_92 rfl ?_
          refine x_iload_n hx hb hl 2 rfl dX11_readsSum_93 rfl ?_
          refine x_goi (x_runV (As := [.int (xJ x1)]) hx hb hml hown hT hE hW hl.1 (Or.inl (by decide)) (so_268 h0 g _) rfl cf_X11_hasOpenSum wq1511 wq124 wq1509 (c_X11_hasOpenSum l D g T h0 s_14 hW.2.1 x1 rx1 c0 a M (s0 278) (zcI 10485760 11534336 (s0 278) 0 x1 + q) D1 1 (v14_0) q14_0 q14_1 q14_2 q14_3) ⟨rfl, rfl, ⟨by decide, by decide⟩, ⟨by decide, by decide⟩⟩ rfl rfl (Nat.le_of_ble_eq_true rfl) dX11_readsSum_94) hW (fun x32 s33 H locs rx32 hp34 hW => ?_)
          obtain ⟨es33, hp34⟩ := hp34
          subst es33
          have ghp34 := hp34
          have A94 := ghp34
          refine x_if_eq (tgt := 138) hx hb rx32 dX11_readsSum_97 (by decide) (fun c35 => ?_) (fun c35 => ?_)
          · skip
            exact J138 H locs ls  hW (lv_sub hl [1, 2] rfl)
          refine x_aload_n hx hb hl 1 rfl dX11_readsSum_100 rfl ?_
          refine x_iconst hx hb dX11_readsSum_101 ?_
          refine x_gov (x_runV (As := [.int (xJ 1)]) hx hb hml hown hT hE hW hl.1 (Or.inl (by decide)) (so_268 h0 g _) rfl cf_X11_closesSums wq1503 wq122 wq1501 (c_X11_closesSums l D g T h0 s_14 hW.2.1 1 (by decide) c0 a M (s0 278) x1 (zcI 10485760 11534336 (s0 278) 0 x1 + q) D1 (v14_0) (by omega) q14_0 q14_1 q14_2 q14_3) ⟨rfl, rfl, ⟨by decide, by decide⟩, ⟨by decide, by decide⟩⟩ rfl rfl (Nat.le_of_ble_eq_true rfl) dX11_readsSum_102) hW (fun s37 H locs hp38 hW => ?_)
          obtain ⟨fs37, hp38⟩ := hp38
          have hF39 := hF_14.call fs37 (fun k h => by omega)
          have ghp38 := hp38.2
          have A102 := ghp38
          have tp := A102.1.top (by omega) (A102.2.1.mpr (A94.resolve_right (fun q => absurd q.1 (by omega))).2)
          refine x_aload_n hx hb hl 1 rfl dX11_readsSum_105 rfl ?_
          refine x_aload_n hx hb hl 1 rfl dX11_readsSum_106 rfl ?_
          refine x_get (j := 15) (v := .int (xJ (s37 268 15))) hx hb hown hT hE hW cls_X11 (Or.inl (by decide)) (so_268 h0 g _) (by decide) rfl wq1200 dX11_readsSum_107 ?_
          refine x_rd hW (fun x40 ex40 rx40 => ?_)
          have q41 : s37 268 15 = x40 := ex40.symm
          refine x_iconst hx hb dX11_readsSum_110 ?_
          refine x_isub hx hb dX11_readsSum_111 ?_
          refine x_put (j := 15) hx hb hown hT hE hW cls_X11 (by decide) (fun σ => so_268 h0 g σ) (by decide) (st_X11_15 h0 s37 268 (x40 - 1)) (ln_X11_15 h0 _ _) wq1200 rfl rfl rfl (by omega) dX11_readsSum_112 (fun H locs s42 es42 hW => ?_)
          have q43 : IMn s42 := by rw [es42]; exact IMn_268 hp38.1.1 (by omega)
          have q44 : IMk s42 := by rw [es42]; exact IMk_268 hp38.1.2.1 (by omega)
          have q45 : IMo s42 := by rw [es42]; exact IMo_o (by unfold suIMo; omega) hp38.1.2.2.1
          have q46 : IR s42 := by rw [es42]; exact IR_268 hp38.1.2.2.2.1 (by omega)
          have q47 : s42 268 8 = s0 268 8 := (show s42 268 8 = s37 268 8 from by rw [es42, xU_j _ _ (by decide)]).trans (hp38.1.2.2.2.2.1.trans q14_4)
          have q48 : s42 268 58 = s0 268 58 := (show s42 268 58 = s37 268 58 from by rw [es42, xU_j _ _ (by decide)]).trans (hp38.1.2.2.2.2.2.1.trans q14_5)
          have q49 : s42 268 9 = s_14 268 9 := (show s42 268 9 = s37 268 9 from by rw [es42, xU_j _ _ (by decide)]).trans (hp38.1.2.2.2.2.2.2.1.trans q10)
          have q50 : s42 268 10 = s0 268 10 := (show s42 268 10 = s37 268 10 from by rw [es42, xU_j _ _ (by decide)]).trans (hp38.1.2.2.2.2.2.2.2.1.trans q14_6)
          have q51 : s42 268 16 = s0 268 16 := (show s42 268 16 = s37 268 16 from by rw [es42, xU_j _ _ (by decide)]).trans (hp38.1.2.2.2.2.2.2.2.2.1.trans q14_7)
          have q52 : s42 268 34 = s0 268 34 := (show s42 268 34 = s37 268 34 from by rw [es42, xU_j _ _ (by decide)]).trans (hp38.1.2.2.2.2.2.2.2.2.2.1.trans q14_8)
          have q53 : s42 268 35 = s0 268 35 := (show s42 268 35 = s37 268 35 from by rw [es42, xU_j _ _ (by decide)]).trans (hp38.1.2.2.2.2.2.2.2.2.2.2.1.trans q14_9)
          have q54 : s42 268 36 = s0 268 36 := (show s42 268 36 = s37 268 36 from by rw [es42, xU_j _ _ (by decide)]).trans (hp38.1.2.2.2.2.2.2.2.2.2.2.2.1.trans q14_10)
          have q55 : s42 268 37 = s0 268 37 := (show s42 268 37 = s37 268 37 from by rw [es42, xU_j _ _ (by decide)]).trans (hp38.1.2.2.2.2.2.2.2.2.2.2.2.2.1.trans q14_11)
          have q56 : s42 268 15 = (x40 - 1) := by rw [es42, xU_s]
          have hF57 := hF39.put es42 (by omega)
          have E112 := es42
          refine x_aload_n hx hb hl 1 rfl dX11_readsSum_115 rfl ?_
          refine x_aload_n hx hb hl 1 rfl dX11_readsSum_116 rfl ?_
          refine x_get (j := 13) (v := .int (xJ (s42 268 13))) hx hb hown hT hE hW cls_X11 (Or.inl (by decide)) (so_268 h0 g _) (by decide) rfl wq1198 dX11_readsSum_117 ?_
          refine x_rd hW (fun x58 ex58 rx58 => ?_)
          refine x_iconst hx hb dX11_readsSum_120 ?_
          refine x_isub hx hb dX11_readsSum_121 ?_
          refine x_any (fun x59 rx59 => ?_)
          refine x_put (j := 13) hx hb hown hT hE hW cls_X11 (by decide) (fun σ => so_268 h0 g σ) (by decide) (st_X11_13 h0 s42 268 x59) (ln_X11_13 h0 _ _) wq1198 rfl rfl rfl rx59 dX11_readsSum_122 (fun H locs s60 es60 hW => ?_)
          have q61 : IMn s60 := by rw [es60]; exact IMn_268 q43 (by omega)
          have q62 : IMk s60 := by rw [es60]; exact IMk_268 q44 (by omega)
          have q63 : IMo s60 := by rw [es60]; exact IMo_o (by unfold suIMo; omega) q45
          have q64 : IR s60 := by rw [es60]; exact IR_268 q46 (by omega)
          have q65 : s60 268 8 = s0 268 8 := (show s60 268 8 = s42 268 8 from by rw [es60, xU_j _ _ (by decide)]).trans q47
          have q66 : s60 268 58 = s0 268 58 := (show s60 268 58 = s42 268 58 from by rw [es60, xU_j _ _ (by decide)]).trans q48
          have q67 : s60 268 9 = s_14 268 9 := (show s60 268 9 = s42 268 9 from by rw [es60, xU_j _ _ (by decide)]).trans q49
          have q68 : s60 268 10 = s0 268 10 := (show s60 268 10 = s42 268 10 from by rw [es60, xU_j _ _ (by decide)]).trans q50
          have q69 : s60 268 16 = s0 268 16 := (show s60 268 16 = s42 268 16 from by rw [es60, xU_j _ _ (by decide)]).trans q51
          have q70 : s60 268 34 = s0 268 34 := (show s60 268 34 = s42 268 34 from by rw [es60, xU_j _ _ (by decide)]).trans q52
          have q71 : s60 268 35 = s0 268 35 := (show s60 268 35 = s42 268 35 from by rw [es60, xU_j _ _ (by decide)]).trans q53
          have q72 : s60 268 36 = s0 268 36 := (show s60 268 36 = s42 268 36 from by rw [es60, xU_j _ _ (by decide)]).trans q54
          have q73 : s60 268 37 = s0 268 37 := (show s60 268 37 = s42 268 37 from by rw [es60, xU_j _ _ (by decide)]).trans q55
          have q74 : s60 268 15 = (x40 - 1) := (show s60 268 15 = s42 268 15 from by rw [es60, xU_j _ _ (by decide)]).trans q56
          have hF75 := hF57.put es60 (by omega)
          have E122 := es60
          refine x_aload_n hx hb hl 1 rfl dX11_readsSum_125 rfl ?_
          refine x_aload_n hx hb hl 1 rfl dX11_readsSum_126 rfl ?_
          refine x_get (j := 9) (v := .int (xJ (s60 268 9))) hx hb hown hT hE hW cls_X11 (Or.inl (by decide)) (so_268 h0 g _) (by decide) rfl wq1194 dX11_readsSum_127 ?_
          refine x_rd hW (fun x76 ex76 rx76 => ?_)
          have bx76 : 0 ≤ x76 ∧ x76 ≤ s60 268 10 ∧ s60 268 10 ≤ 240 := by rw [ex76]; exact q64
          have fx76 : x76 = s_14 268 9 := ex76.trans q67
          refine x_iconst hx hb dX11_readsSum_130 ?_
          refine x_iadd hx hb dX11_readsSum_131 ?_
          refine x_put (j := 9) hx hb hown hT hE hW cls_X11 (by decide) (fun σ => so_268 h0 g σ) (by decide) (st_X11_9 h0 s60 268 (x76 + 1)) (ln_X11_9 h0 _ _) wq1194 rfl rfl rfl (by omega) dX11_readsSum_132 (fun H locs s77 es77 hW => ?_)
          have q78 : IMn s77 := by rw [es77]; exact IMn_268 q61 (by omega)
          have q79 : IMk s77 := by rw [es77]; exact IMk_268 q62 (by omega)
          have q80 : IMo s77 := by rw [es77]; exact IMo_o (by unfold suIMo; omega) q63
          have q81 : IR s77 := by rw [es77]; exact IR_268 q64 (by omega)
          have q82 : s77 268 8 = s0 268 8 := (show s77 268 8 = s60 268 8 from by rw [es77, xU_j _ _ (by decide)]).trans q65
          have q83 : s77 268 58 = s0 268 58 := (show s77 268 58 = s60 268 58 from by rw [es77, xU_j _ _ (by decide)]).trans q66
          have q84 : s77 268 9 = (x76 + 1) := by rw [es77, xU_s]
          have q85 : s77 268 10 = s0 268 10 := (show s77 268 10 = s60 268 10 from by rw [es77, xU_j _ _ (by decide)]).trans q68
          have q86 : s77 268 16 = s0 268 16 := (show s77 268 16 = s60 268 16 from by rw [es77, xU_j _ _ (by decide)]).trans q69
          have q87 : s77 268 34 = s0 268 34 := (show s77 268 34 = s60 268 34 from by rw [es77, xU_j _ _ (by decide)]).trans q70
          have q88 : s77 268 35 = s0 268 35 := (show s77 268 35 = s60 268 35 from by rw [es77, xU_j _ _ (by decide)]).trans q71
          have q89 : s77 268 36 = s0 268 36 := (show s77 268 36 = s60 268 36 from by rw [es77, xU_j _ _ (by decide)]).trans q72
          have q90 : s77 268 37 = s0 268 37 := (show s77 268 37 = s60 268 37 from by rw [es77, xU_j _ _ (by decide)]).trans q73
          have q91 : s77 268 15 = (x40 - 1) := (show s77 268 15 = s60 268 15 from by rw [es77, xU_j _ _ (by decide)]).trans q74
          have hF92 := hF75.put es77 (by omega)
          have E132 := es77
          have B132 : zLS c0 a M (s0 278) x1 (zcI 10485760 11534336 (s0 278) 0 x1 + q) D1 1 s77 := A102.1.shut tp.1 tp.2 ⟨by omega, by omega⟩ (by omega) (by simp [E132, E122, E112, xU]) (by omega) (by omega) (by rw [E132, xU_k _ _ _ (by omega), E122, xU_k _ _ _ (by omega), E112, xU_k _ _ _ (by omega)]) (by rw [E132, xU_k _ _ _ (by omega), E122, xU_k _ _ _ (by omega), E112, xU_k _ _ _ (by omega)])
          refine lv_goto (tgt := 163) hx hb dX11_readsSum_135 (by decide) ?_
          refine lv_goto (tgt := 14) hx hb dX11_readsSum_163 (by decide) ?_
          exact ih14 s77 H locs ls hF92 q78 q79 q80 q81 q82 q83 q85 q86 q87 q88 q89 q90 (by first | exact (A75.resolve_left (fun q => absurd q.1 (by omega))).2.2 | exact B132) (by omega) (by omega) hW (lv_sub hl [1, 2] rfl)
        refine x_aload_n hx hb hl 1 rfl dX11_readsSum_27 rfl ?_
        refine x_iload_n hx hb hl 0 rfl dX11_readsSum_28 rfl ?_
        refine x_iconst hx hb dX11_readsSum_29 ?_
        have J38 : ∀ (t0_38 : Int) (ls : Array Slot), (xR t0_38) → (t0_38 = 0 ∨ t0_38 = 1) → lv_has ls 3 [(0, .ref (h0 + 268)), (1, .int (xJ x1)), (2, .int (xJ x11))] → W p l e { frames := 4, cells := 0, slots := 0, locals := 82 } s m args below meth c H locs 0 0 Q (F0 m 38 ls [.int (xJ t0_38), .ref (h0 + 268)]) := by
          intro t0_38 ls rt0_38 v38_0  hl
          refine x_gov (x_runV (As := [.int (xJ t0_38)]) hx hb hml hown hT hE hW hl.1 (Or.inl (by decide)) (so_268 h0 g _) rfl cf_X11_closesSums wq1503 wq122 wq1501 (c_X11_closesSums l D g T h0 s_14 hW.2.1 t0_38 rt0_38 c0 a M (s0 278) x1 (zcI 10485760 11534336 (s0 278) 0 x1 + q) D1 (v14_0) (by omega) q14_0 q14_1 q14_2 q14_3) ⟨rfl, rfl, ⟨by decide, by decide⟩, ⟨by decide, by decide⟩⟩ rfl rfl (Nat.le_of_ble_eq_true rfl) dX11_readsSum_38) hW (fun s94 H locs hp95 hW => ?_)
          obtain ⟨fs94, hp95⟩ := hp95
          have hF96 := hF_14.call fs94 (fun k h => by omega)
          have ghp95 := hp95.2
          have A38 := ghp95
          have cw38 := A38.1.cw
          refine x_aload_n hx hb hl 0 rfl dX11_readsSum_41 rfl ?_
          refine x_get (j := 19) (v := .ref (h0 + 278)) hx hb hown hT hE hW cls_X11 (Or.inl (by decide)) (so_268 h0 g _) (by decide) rfl wq1204 dX11_readsSum_42 ?_
          refine x_aload_n hx hb hl 0 rfl dX11_readsSum_45 rfl ?_
          refine x_get (j := 15) (v := .int (xJ (s94 268 15))) hx hb hown hT hE hW cls_X11 (Or.inl (by decide)) (so_268 h0 g _) (by decide) rfl wq1200 dX11_readsSum_46 ?_
          refine x_rd hW (fun x97 ex97 rx97 => ?_)
          have q98 : s94 268 15 = x97 := ex97.symm
          have X46 := ex97
          refine lv_ldc (v := xJ 1048576) hx hb hown (hT _ wq1482) dX11_readsSum_49 ?_
          refine x_iload_n hx hb hl 2 rfl dX11_readsSum_51 rfl ?_
          refine x_imul hx hb dX11_readsSum_52 ?_
          refine x_iast hx hb hE hW (by decide) (fun σ => sa_278 h0 g σ) (by omega) (by decide) (by omega) dX11_readsSum_53 (fun H locs s99 es99 hW => ?_)
          have q100 : IMn s99 := by rw [es99]; exact IMn_o (by unfold suIMn; omega) hp95.1.1
          have q101 : IMk s99 := by rw [es99]; exact IMk_o (by unfold suIMk; omega) hp95.1.2.1
          have q102 : IMo s99 := by rw [es99]; exact IMo_o (by unfold suIMo; omega) hp95.1.2.2.1
          have q103 : IR s99 := by rw [es99]; exact IR_o (by unfold suIR; omega) hp95.1.2.2.2.1
          have q104 : s99 268 8 = s0 268 8 := (show s99 268 8 = s94 268 8 from by rw [es99, xU_k _ _ _ (by omega)]).trans (hp95.1.2.2.2.2.1.trans q14_4)
          have q105 : s99 268 58 = s0 268 58 := (show s99 268 58 = s94 268 58 from by rw [es99, xU_k _ _ _ (by omega)]).trans (hp95.1.2.2.2.2.2.1.trans q14_5)
          have q106 : s99 268 9 = s_14 268 9 := (show s99 268 9 = s94 268 9 from by rw [es99, xU_k _ _ _ (by omega)]).trans (hp95.1.2.2.2.2.2.2.1.trans q10)
          have q107 : s99 268 10 = s0 268 10 := (show s99 268 10 = s94 268 10 from by rw [es99, xU_k _ _ _ (by omega)]).trans (hp95.1.2.2.2.2.2.2.2.1.trans q14_6)
          have q108 : s99 268 16 = s0 268 16 := (show s99 268 16 = s94 268 16 from by rw [es99, xU_k _ _ _ (by omega)]).trans (hp95.1.2.2.2.2.2.2.2.2.1.trans q14_7)
          have q109 : s99 268 34 = s0 268 34 := (show s99 268 34 = s94 268 34 from by rw [es99, xU_k _ _ _ (by omega)]).trans (hp95.1.2.2.2.2.2.2.2.2.2.1.trans q14_8)
          have q110 : s99 268 35 = s0 268 35 := (show s99 268 35 = s94 268 35 from by rw [es99, xU_k _ _ _ (by omega)]).trans (hp95.1.2.2.2.2.2.2.2.2.2.2.1.trans q14_9)
          have q111 : s99 268 36 = s0 268 36 := (show s99 268 36 = s94 268 36 from by rw [es99, xU_k _ _ _ (by omega)]).trans (hp95.1.2.2.2.2.2.2.2.2.2.2.2.1.trans q14_10)
          have q112 : s99 268 37 = s0 268 37 := (show s99 268 37 = s94 268 37 from by rw [es99, xU_k _ _ _ (by omega)]).trans (hp95.1.2.2.2.2.2.2.2.2.2.2.2.2.1.trans q14_11)
          have q113 : s99 268 15 = x97 := (show s99 268 15 = s94 268 15 from by rw [es99, xU_k _ _ _ (by omega)]).trans q98
          have hF114 := hF96.put es99 (by omega)
          have E53 := es99
          refine x_aload_n hx hb hl 0 rfl dX11_readsSum_54 rfl ?_
          refine x_aload_n hx hb hl 0 rfl dX11_readsSum_55 rfl ?_
          refine x_get (j := 15) (v := .int (xJ (s99 268 15))) hx hb hown hT hE hW cls_X11 (Or.inl (by decide)) (so_268 h0 g _) (by decide) rfl wq1200 dX11_readsSum_56 ?_
          refine x_rd hW (fun x115 ex115 rx115 => ?_)
          have fx115 : x115 = x97 := ex115.trans q113
          refine x_iconst hx hb dX11_readsSum_59 ?_
          refine x_iadd hx hb dX11_readsSum_60 ?_
          refine x_put (j := 15) hx hb hown hT hE hW cls_X11 (by decide) (fun σ => so_268 h0 g σ) (by decide) (st_X11_15 h0 s99 268 (x115 + 1)) (ln_X11_15 h0 _ _) wq1200 rfl rfl rfl (by omega) dX11_readsSum_61 (fun H locs s116 es116 hW => ?_)
          have q117 : IMn s116 := by rw [es116]; exact IMn_268 q100 (by omega)
          have q118 : IMk s116 := by rw [es116]; exact IMk_268 q101 (by omega)
          have q119 : IMo s116 := by rw [es116]; exact IMo_o (by unfold suIMo; omega) q102
          have q120 : IR s116 := by rw [es116]; exact IR_268 q103 (by omega)
          have q121 : s116 268 8 = s0 268 8 := (show s116 268 8 = s99 268 8 from by rw [es116, xU_j _ _ (by decide)]).trans q104
          have q122 : s116 268 58 = s0 268 58 := (show s116 268 58 = s99 268 58 from by rw [es116, xU_j _ _ (by decide)]).trans q105
          have q123 : s116 268 9 = s_14 268 9 := (show s116 268 9 = s99 268 9 from by rw [es116, xU_j _ _ (by decide)]).trans q106
          have q124 : s116 268 10 = s0 268 10 := (show s116 268 10 = s99 268 10 from by rw [es116, xU_j _ _ (by decide)]).trans q107
          have q125 : s116 268 16 = s0 268 16 := (show s116 268 16 = s99 268 16 from by rw [es116, xU_j _ _ (by decide)]).trans q108
          have q126 : s116 268 34 = s0 268 34 := (show s116 268 34 = s99 268 34 from by rw [es116, xU_j _ _ (by decide)]).trans q109
          have q127 : s116 268 35 = s0 268 35 := (show s116 268 35 = s99 268 35 from by rw [es116, xU_j _ _ (by decide)]).trans q110
          have q128 : s116 268 36 = s0 268 36 := (show s116 268 36 = s99 268 36 from by rw [es116, xU_j _ _ (by decide)]).trans q111
          have q129 : s116 268 37 = s0 268 37 := (show s116 268 37 = s99 268 37 from by rw [es116, xU_j _ _ (by decide)]).trans q112
          have q130 : s116 268 15 = (x115 + 1) := by rw [es116, xU_s]
          have hF131 := hF114.put es116 (by omega)
          have E61 := es116
          refine x_aload_n hx hb hl 0 rfl dX11_readsSum_64 rfl ?_
          refine x_aload_n hx hb hl 0 rfl dX11_readsSum_65 rfl ?_
          refine x_get (j := 9) (v := .int (xJ (s116 268 9))) hx hb hown hT hE hW cls_X11 (Or.inl (by decide)) (so_268 h0 g _) (by decide) rfl wq1194 dX11_readsSum_66 ?_
          refine x_rd hW (fun x132 ex132 rx132 => ?_)
          have bx132 : 0 ≤ x132 ∧ x132 ≤ s116 268 10 ∧ s116 268 10 ≤ 240 := by rw [ex132]; exact q120
          have fx132 : x132 = s_14 268 9 := ex132.trans q123
          refine x_iconst hx hb dX11_readsSum_69 ?_
          refine x_iadd hx hb dX11_readsSum_70 ?_
          refine x_put (j := 9) hx hb hown hT hE hW cls_X11 (by decide) (fun σ => so_268 h0 g σ) (by decide) (st_X11_9 h0 s116 268 (x132 + 1)) (ln_X11_9 h0 _ _) wq1194 rfl rfl rfl (by omega) dX11_readsSum_71 (fun H locs s133 es133 hW => ?_)
          have q134 : IMn s133 := by rw [es133]; exact IMn_268 q117 (by omega)
          have q135 : IMk s133 := by rw [es133]; exact IMk_268 q118 (by omega)
          have q136 : IMo s133 := by rw [es133]; exact IMo_o (by unfold suIMo; omega) q119
          have q137 : IR s133 := by rw [es133]; exact IR_268 q120 (by omega)
          have q138 : s133 268 8 = s0 268 8 := (show s133 268 8 = s116 268 8 from by rw [es133, xU_j _ _ (by decide)]).trans q121
          have q139 : s133 268 58 = s0 268 58 := (show s133 268 58 = s116 268 58 from by rw [es133, xU_j _ _ (by decide)]).trans q122
          have q140 : s133 268 9 = (x132 + 1) := by rw [es133, xU_s]
          have q141 : s133 268 10 = s0 268 10 := (show s133 268 10 = s116 268 10 from by rw [es133, xU_j _ _ (by decide)]).trans q124
          have q142 : s133 268 16 = s0 268 16 := (show s133 268 16 = s116 268 16 from by rw [es133, xU_j _ _ (by decide)]).trans q125
          have q143 : s133 268 34 = s0 268 34 := (show s133 268 34 = s116 268 34 from by rw [es133, xU_j _ _ (by decide)]).trans q126
          have q144 : s133 268 35 = s0 268 35 := (show s133 268 35 = s116 268 35 from by rw [es133, xU_j _ _ (by decide)]).trans q127
          have q145 : s133 268 36 = s0 268 36 := (show s133 268 36 = s116 268 36 from by rw [es133, xU_j _ _ (by decide)]).trans q128
          have q146 : s133 268 37 = s0 268 37 := (show s133 268 37 = s116 268 37 from by rw [es133, xU_j _ _ (by decide)]).trans q129
          have q147 : s133 268 15 = (x115 + 1) := (show s133 268 15 = s116 268 15 from by rw [es133, xU_j _ _ (by decide)]).trans q130
          have hF148 := hF131.put es133 (by omega)
          have E71 := es133
          have R71 := congrFun E71 278
          rw [xU_k _ _ _ (by omega), E61, xU_k _ _ _ (by omega), E53, xU_xud, X46] at R71
          have T71 := congrFun E71 277
          rw [xU_k _ _ _ (by omega), E61, xU_k _ _ _ (by omega), E53, xU_k _ _ _ (by omega)] at T71
          refine x_aload_n hx hb hl 0 rfl dX11_readsSum_74 rfl ?_
          refine x_goi (x_runV (As := []) hx hb hml hown hT hE hW hl.1 (Or.inl (by decide)) (so_268 h0 g _) rfl cf_X11_readsFactor wq1476 wq117 wq1474 (c_X11_readsFactor l D g T h0 s133 hW.2.1 c0 a M (s0 278) x1 (zcI 10485760 11534336 (s0 278) 0 x1 + q) D1 (A38.1.push ⟨by omega, by omega⟩ (by omega) (by simp [E71, E61, E53, xU]) (by omega) (by omega) T71 R71 (Or.inl ⟨by omega, by omega⟩)) q134 q135 q136 q137) ⟨rfl, rfl, ⟨by decide, by decide⟩, ⟨by decide, by decide⟩⟩ rfl rfl (Nat.le_of_ble_eq_true rfl) dX11_readsSum_75) hW (fun x149 s150 H locs rx149 hp151 hW => ?_)
          obtain ⟨fs150, hp151⟩ := hp151
          have hF152 := hF148.call fs150 (fun k h => by omega)
          have ghp151 := hp151.2
          have A75 := ghp151
          refine x_if_ne (tgt := 163) hx hb rx149 dX11_readsSum_78 (by decide) (fun c153 => ?_) (fun c153 => ?_)
          · skip
            refine lv_goto (tgt := 14) hx hb dX11_readsSum_163 (by decide) ?_
            exact ih14 s150 H locs ls hF152 hp151.1.1 hp151.1.2.1 hp151.1.2.2.1 hp151.1.2.2.2.1 (hp151.1.2.2.2.2.1.trans q138) (hp151.1.2.2.2.2.2.1.trans q139) (hp151.1.2.2.2.2.2.2.1.trans q141) (hp151.1.2.2.2.2.2.2.2.1.trans q142) (hp151.1.2.2.2.2.2.2.2.2.1.trans q143) (hp151.1.2.2.2.2.2.2.2.2.2.1.trans q144) (hp151.1.2.2.2.2.2.2.2.2.2.2.1.trans q145) (hp151.1.2.2.2.2.2.2.2.2.2.2.2.1.trans q146) (by first | exact (A75.resolve_left (fun q => absurd q.1 (by omega))).2.2 | exact B132) (by omega) (by omega) hW (lv_sub hl [0, 1] rfl)
          refine x_iconst hx hb dX11_readsSum_81 ?_
          rw [eQ]
          exact x_zret hx hb hr hlk hW (by omega) ⟨hF152, ⟨hp151.1.1, hp151.1.2.1, hp151.1.2.2.1, hp151.1.2.2.2.1, (hp151.1.2.2.2.2.1.trans q138), (hp151.1.2.2.2.2.2.1.trans q139), (hp151.1.2.2.2.2.2.2.1.trans q141), (hp151.1.2.2.2.2.2.2.2.1.trans q142), (hp151.1.2.2.2.2.2.2.2.2.1.trans q143), (hp151.1.2.2.2.2.2.2.2.2.2.1.trans q144), (hp151.1.2.2.2.2.2.2.2.2.2.2.1.trans q145), (hp151.1.2.2.2.2.2.2.2.2.2.2.2.1.trans q146), trivial⟩, Or.inl ⟨by omega, by omega⟩⟩ dX11_readsSum_82
        refine x_icmp_ge (tgt := 37) hx hb rx11 (by decide) dX11_readsSum_30 (by decide) (fun c154 => ?_) (fun c154 => ?_)
        · skip
          refine x_iconst hx hb dX11_readsSum_37 ?_
          exact J38 0 ls (by decide) (by omega)  (lv_sub hl [1, 2, 0] rfl)
        refine x_iconst hx hb dX11_readsSum_33 ?_
        refine lv_goto (tgt := 38) hx hb dX11_readsSum_34 (by decide) ?_
        exact J38 1 ls (by decide) (by omega)  (lv_sub hl [1, 2, 0] rfl)
    exact L14 ((241 - s3 268 9 : Int).toNat + 1) s3 H locs ls hF5 hp4.1.1 hp4.1.2.1 hp4.1.2.2.1 hp4.1.2.2.2.1 (hp4.1.2.2.2.2.1.trans k268_8) (hp4.1.2.2.2.2.2.1.trans k268_58) (hp4.1.2.2.2.2.2.2.1.trans k268_10) (hp4.1.2.2.2.2.2.2.2.1.trans k268_16) (hp4.1.2.2.2.2.2.2.2.2.1.trans k268_34) (hp4.1.2.2.2.2.2.2.2.2.2.1.trans k268_35) (hp4.1.2.2.2.2.2.2.2.2.2.2.1.trans k268_36) (hp4.1.2.2.2.2.2.2.2.2.2.2.2.1.trans k268_37) ((A6.resolve_left (fun q => absurd q.1 (by omega))).2.2) (by omega) (Nat.lt_succ_self _) hW (lv_sub hl [1, 0] rfl)
  refine x_iconst hx hb dX11_readsSum_12 ?_
  rw [eQ]
  exact x_zret hx hb hr hlk hW (by omega) ⟨hF5, ⟨hp4.1.1, hp4.1.2.1, hp4.1.2.2.1, hp4.1.2.2.2.1, (hp4.1.2.2.2.2.1.trans k268_8), (hp4.1.2.2.2.2.2.1.trans k268_58), (hp4.1.2.2.2.2.2.2.1.trans k268_10), (hp4.1.2.2.2.2.2.2.2.1.trans k268_16), (hp4.1.2.2.2.2.2.2.2.2.1.trans k268_34), (hp4.1.2.2.2.2.2.2.2.2.2.1.trans k268_35), (hp4.1.2.2.2.2.2.2.2.2.2.2.1.trans k268_36), (hp4.1.2.2.2.2.2.2.2.2.2.2.2.1.trans k268_37), trivial⟩, Or.inl ⟨by omega, by omega⟩⟩ dX11_readsSum_13

