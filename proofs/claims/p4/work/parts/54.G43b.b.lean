set_option maxHeartbeats 4000000 in
set_option maxRecDepth 100000 in
theorem c_X11_readsSumK (l : Launch) (D : va_G) (g : xG) (T : Nat × Nat × Nat) (h0 : Nat) (s0 : xS) (hσ : xRR s0) (f9 : Int → Int) (n9 : Int) (qb : Int) (K9 : Int) (hf : xm8 (s0 276) = f9 ∧ s0 268 10 = n9) (hq : s0 268 13 = qb ∧ 0 ≤ qb ∧ qb ≤ 6) (hk : 0 ≤ K9 ∧ 0 ≤ s0 268 14 ∧ s0 268 14 + K9 ≤ s0 268 9 ∧ 0 ≤ s0 268 15 ∧ s0 268 15 ≤ s0 268 9) (hbz : s0 268 15 = 0 ∨ 10485760 ≤ s0 278 (s0 268 15 - 1)) (p0 : IMn s0) (p1 : IMk s0) (p2 : IMo s0) (p3 : IR s0) : Met l yX11_readsSum (xws yX11_readsSum cX11_readsSum 3 (some .boolean)) { frames := 4, cells := 0, slots := 0, locals := 82 } (xP [.ref (h0 + 268)] D g T h0 s0) (xQi D g h0 (fun r τ => xFr (fun k => k = 268 ∨ k = 277 ∨ k = 278) s0 τ ∧ (((IMn τ) ∧ (IMk τ) ∧ (IMo τ) ∧ (IR τ) ∧ (τ 268 8 = s0 268 8) ∧ (τ 268 58 = s0 268 58) ∧ (τ 268 17 = s0 268 17) ∧ (τ 268 10 = s0 268 10) ∧ (τ 268 16 = s0 268 16) ∧ True) ∧ ((r = 0 ∧ (zE0 f9 n9 qb (s0 268 9) (s0 268 14) (s0 277)).1 ≠ 0 ∧ τ 268 11 = (zE0 f9 n9 qb (s0 268 9) (s0 268 14) (s0 277)).1) ∨ (r = 1 ∧ (zE0 f9 n9 qb (s0 268 9) (s0 268 14) (s0 277)) = (0, τ 268 9, τ 268 14, τ 277) ∧ zsg (zch f9 n9 (τ 268 9)) < 2 ∧ τ 268 15 = s0 268 15 ∧ τ 268 13 = s0 268 13 ∧ (∀ i, i < s0 268 15 → τ 278 i = s0 278 i) ∧ s0 268 9 + 1 ≤ τ 268 9 ∧ τ 268 14 + K9 ≤ τ 268 9 ∧ s0 268 14 ≤ τ 268 14 ∧ ∀ k, k < s0 268 14 → τ 277 k = s0 277 k))))) 0 0 (xA h0) := by
  refine x_met hσ (by decide) (Nat.le_of_ble_eq_true rfl) ?_
  intro p e s m args below meth c hx hb hr hml hown hT hlk hnm hE hW ls hl
  have hl : lv_has ls 3 [(0, .ref (h0 + 268))] := hl
  obtain ⟨Q, eQ⟩ : ∃ Q, Q = MQ below (xQi D g h0 (fun r τ => xFr (fun k => k = 268 ∨ k = 277 ∨ k = 278) s0 τ ∧ (((IMn τ) ∧ (IMk τ) ∧ (IMo τ) ∧ (IR τ) ∧ (τ 268 8 = s0 268 8) ∧ (τ 268 58 = s0 268 58) ∧ (τ 268 17 = s0 268 17) ∧ (τ 268 10 = s0 268 10) ∧ (τ 268 16 = s0 268 16) ∧ True) ∧ ((r = 0 ∧ (zE0 f9 n9 qb (s0 268 9) (s0 268 14) (s0 277)).1 ≠ 0 ∧ τ 268 11 = (zE0 f9 n9 qb (s0 268 9) (s0 268 14) (s0 277)).1) ∨ (r = 1 ∧ (zE0 f9 n9 qb (s0 268 9) (s0 268 14) (s0 277)) = (0, τ 268 9, τ 268 14, τ 277) ∧ zsg (zch f9 n9 (τ 268 9)) < 2 ∧ τ 268 15 = s0 268 15 ∧ τ 268 13 = s0 268 13 ∧ (∀ i, i < s0 268 15 → τ 278 i = s0 278 i) ∧ s0 268 9 + 1 ≤ τ 268 9 ∧ τ 268 14 + K9 ≤ τ 268 9 ∧ s0 268 14 ≤ τ 268 14 ∧ ∀ k, k < s0 268 14 → τ 277 k = s0 277 k))))) args s 0 0 (xA h0) := ⟨_, rfl⟩
  rw [← eQ]
  generalize hHe : ([] : List Loc) = locs at hW ⊢
  obtain ⟨H, eH⟩ : ∃ H, H = s.heap := ⟨_, rfl⟩
  rw [← eH] at hW ⊢
  have hF : xFr (fun k => k = 268 ∨ k = 277 ∨ k = 278) s0 s0 := xFr.rf
  have k268_8 : s0 268 8 = s0 268 8 := rfl
  have k268_58 : s0 268 58 = s0 268 58 := rfl
  have k268_17 : s0 268 17 = s0 268 17 := rfl
  have k268_10 : s0 268 10 = s0 268 10 := rfl
  have k268_16 : s0 268 16 = s0 268 16 := rfl
  have k268_9 : s0 268 9 = s0 268 9 := rfl
  have k268_13 : s0 268 13 = s0 268 13 := rfl
  have k268_14 : s0 268 14 = s0 268 14 := rfl
  have k268_15 : s0 268 15 = s0 268 15 := rfl
  have hf2 := hf.2
  have hr0 : 0 ≤ s0 268 9 ∧ s0 268 9 ≤ s0 268 10 ∧ s0 268 10 ≤ 240 := p3
  have hz : zER f9 n9 qb (s0 268 15) K9 (s0 268 14) (s0 277) (zE0 f9 n9 qb (s0 268 9) (s0 268 14) (s0 277)) true (s0 278) s0 := ⟨by rw [zls_0 _ rfl]; exact zEX.new (by omega), Int.le_refl _, by rw [zls_0 _ rfl]; show s0 268 13 = qb + 0; omega, fun _ _ => rfl, hbz⟩
  refine x_aload_n hx hb hl 0 rfl dX11_readsSum_0 rfl ?_
  refine x_get (j := 15) (v := .int (xJ (s0 268 15))) hx hb hown hT hE hW cls_X11 (Or.inl (by decide)) (so_268 h0 g _) (by decide) rfl wq1200 dX11_readsSum_1 ?_
  refine x_rd hW (fun x1 ex1 rx1 => ?_)
  have fx1 : x1 = s0 268 15 := ex1.trans k268_15
  refine lv_istore_n (lv' := [(1, .int (xJ x1)), (0, .ref (h0 + 268))]) hx hb dX11_readsSum_4 rfl hl (by decide) rfl (fun ls hl => ?_)
  refine x_aload_n hx hb hl 1 rfl dX11_readsSum_5 rfl ?_
  refine x_goi (x_runV (As := []) hx hb hml hown hT hE hW hl.1 (Or.inl (by decide)) (so_268 h0 g _) rfl cf_X11_readsFactor wq1476 wq117 wq1474 (c_X11_readsFactorK l D g T h0 s0 hW.2.1 f9 n9 qb (s0 268 15) K9 (s0 268 14) (s0 277) (zE0 f9 n9 qb (s0 268 9) (s0 268 14) (s0 277)) (s0 278) (by first | exact hf | exact ⟨by rw [hF 276 (by omega)]; exact hf.1, by omega⟩) (hz) (by omega) p0 p1 p2 p3) ⟨rfl, rfl, ⟨by decide, by decide⟩, ⟨by decide, by decide⟩⟩ rfl rfl (Nat.le_of_ble_eq_true rfl) dX11_readsSum_6) hW (fun x2 s3 H locs rx2 hp4 hW => ?_)
  obtain ⟨fs3, hp4⟩ := hp4
  have hF5 := hF.call fs3 (fun k h => by omega)
  have ghp4 := hp4.2
  have H6 := ghp4
  refine x_if_ne (tgt := 14) hx hb rx2 dX11_readsSum_9 (by decide) (fun c6 => ?_) (fun c6 => ?_)
  · skip
    have L14 : ∀ (fu : Nat) (s_14 : xS) (H : Heap) (locs : List Loc) (ls : Array Slot), (xFr (fun k => k = 268 ∨ k = 277 ∨ k = 278) s0 s_14) → (IMn s_14) → (IMk s_14) → (IMo s_14) → (IR s_14) → (s_14 268 8 = s0 268 8) → (s_14 268 58 = s0 268 58) → (s_14 268 17 = s0 268 17) → (s_14 268 10 = s0 268 10) → (s_14 268 16 = s0 268 16) → (zER f9 n9 qb (s0 268 15) K9 (s0 268 14) (s0 277) (zE0 f9 n9 qb (s0 268 9) (s0 268 14) (s0 277)) false (s0 278) s_14) → (s0 268 9 + 1 ≤ s_14 268 9 ∧ s_14 268 13 ≤ 6) → (241 - s_14 268 9).toNat < fu → xW D g h0 s H locs s_14 → lv_has ls 3 [(0, .ref (h0 + 268)), (1, .int (xJ x1))] → W p l e { frames := 4, cells := 0, slots := 0, locals := 82 } s m args below meth c H locs 0 0 Q (F0 m 14 ls []) := by
      intro fu
      induction fu with
      | zero => intro s_14 H locs ls hF_14 q14_0 q14_1 q14_2 q14_3 q14_4 q14_5 q14_6 q14_7 q14_8 v14_0 v14_1 hm; exact absurd hm (Nat.not_lt_zero _)
      | succ fu ih14 =>
        intro s_14 H locs ls hF_14 q14_0 q14_1 q14_2 q14_3 q14_4 q14_5 q14_6 q14_7 q14_8 v14_0 v14_1 hm hW hl
        have b14 := v14_0.b
        have o14 := v14_0.o
        have r14 : 0 ≤ s_14 268 9 ∧ s_14 268 9 ≤ s_14 268 10 ∧ s_14 268 10 ≤ 240 := q14_3
        refine x_aload_n hx hb hl 0 rfl dX11_readsSum_14 rfl ?_
        refine x_goi (x_runV (As := []) hx hb hml hown hT hE hW hl.1 (Or.inl (by decide)) (so_268 h0 g _) rfl cf_X11_here wq1391 wq106 wq1389 (c_X11_here l D g T h0 s_14 hW.2.1 q14_0 q14_1 q14_2 q14_3) ⟨rfl, rfl, ⟨by decide, by decide⟩, ⟨by decide, by decide⟩⟩ rfl rfl (Nat.le_of_ble_eq_true rfl) dX11_readsSum_15) hW (fun x7 s8 H locs rx7 hp9 hW => ?_)
        obtain ⟨es8, hp9⟩ := hp9
        subst es8
        have ghp9 := hp9
        have C15 : x7 = zch f9 n9 (s_14 268 9) := by
          have q8 := ghp9.1
          rw [zhC_ch, show s_14 276 = s0 276 from hF_14 276 (by omega), hf.1, show s_14 268 10 = n9 from by omega] at q8
          exact q8
        have L15 : zch f9 n9 (s_14 268 9) ≠ -1 → s_14 268 9 < n9 := zch_lt
        have Z15 := zsg_cs (zch f9 n9 (s_14 268 9))
        refine x_goi (x_runS (As := [.int (xJ x7)]) hx hb hml hown hT hE hW hl.1 cf_X11_sumSign wq1499 wq1498 (c_X11_sumSignK l D g T h0 s_14 hW.2.1 x7 rx7) ⟨rfl, rfl, ⟨by decide, by decide⟩, ⟨by decide, by decide⟩⟩ rfl rfl (Nat.le_of_ble_eq_true rfl) dX11_readsSum_18) hW (fun x10 s11 H locs rx10 hp12 hW => ?_)
        obtain ⟨es11, hp12⟩ := hp12
        subst es11
        have ghp12 := hp12
        refine lv_istore_n (lv' := [(2, .int (xJ x10)), (0, .ref (h0 + 268)), (1, .int (xJ x1))]) hx hb dX11_readsSum_21 rfl hl (by decide) rfl (fun ls hl => ?_)
        refine x_iload_n hx hb hl 0 rfl dX11_readsSum_22 rfl ?_
        refine x_iconst hx hb dX11_readsSum_23 ?_
        refine x_icmp_eq (tgt := 83) hx hb rx10 (by decide) dX11_readsSum_24 (by decide) (fun c13 => ?_) (fun c13 => ?_)
        · skip
          refine x_aload_n hx hb hl 1 rfl dX11_readsSum_83 rfl ?_
          refine x_goi (x_runV (As := []) hx hb hml hown hT hE hW hl.1 (Or.inl (by decide)) (so_268 h0 g _) rfl cf_X11_here wq1391 wq106 wq1389 (c_X11_here l D g T h0 s_14 hW.2.1 q14_0 q14_1 q14_2 q14_3) ⟨rfl, rfl, ⟨by decide, by decide⟩, ⟨by decide, by decide⟩⟩ rfl rfl (Nat.le_of_ble_eq_true rfl) dX11_readsSum_84) hW (fun x14 s15 H locs rx14 hp16 hW => ?_)
          obtain ⟨es15, hp16⟩ := hp16
          subst es15
          have ghp16 := hp16
          have C84 : x14 = zch f9 n9 (s_14 268 9) := by
            have q8 := ghp16.1
            rw [zhC_ch, show s_14 276 = s0 276 from hF_14 276 (by omega), hf.1, show s_14 268 10 = n9 from by omega] at q8
            exact q8
          refine x_bipush hx hb dX11_readsSum_87 (by decide) ?_
          refine x_icmp_ne (tgt := 138) hx hb rx14 (by decide) dX11_readsSum_89 (by decide) (fun c17 => ?_) (fun c17 => ?_)
          · skip
            refine x_aload_n hx hb hl 1 rfl dX11_readsSum_138 rfl ?_
            refine x_iload_n hx hb hl 2 rfl dX11_readsSum_139 rfl ?_
            refine x_goi (x_runV (As := [.int (xJ x1)]) hx hb hml hown hT hE hW hl.1 (Or.inl (by decide)) (so_268 h0 g _) rfl cf_X11_hasOpenSum wq1511 wq124 wq1509 (c_X11_hasOpenSumK l D g T h0 s_14 hW.2.1 x1 rx1 f9 n9 qb K9 (s0 268 14) (s0 277) (zE0 f9 n9 qb (s0 268 9) (s0 268 14) (s0 277)) (s0 278) (by rw [show x1 = s0 268 15 from by omega]; exact v14_0) q14_0 q14_1 q14_2 q14_3) ⟨rfl, rfl, ⟨by decide, by decide⟩, ⟨by decide, by decide⟩⟩ rfl rfl (Nat.le_of_ble_eq_true rfl) dX11_readsSum_140) hW (fun x18 s19 H locs rx18 hp20 hW => ?_)
            obtain ⟨es19, hp20⟩ := hp20
            subst es19
            have ghp20 := hp20
            have H140 := ghp20
            rw [show x1 = s0 268 15 from by omega] at H140
            refine x_if_eq (tgt := 156) hx hb rx18 dX11_readsSum_143 (by decide) (fun c21 => ?_) (fun c21 => ?_)
            · skip
              refine x_aload_n hx hb hl 1 rfl dX11_readsSum_156 rfl ?_
              refine x_iconst hx hb dX11_readsSum_157 ?_
              refine x_gov (x_runV (As := [.int (xJ 1)]) hx hb hml hown hT hE hW hl.1 (Or.inl (by decide)) (so_268 h0 g _) rfl cf_X11_closesSums wq1503 wq122 wq1501 (c_X11_closesSumsK l D g T h0 s_14 hW.2.1 1 (by decide) f9 n9 qb (s0 268 15) K9 (s0 268 14) (s0 277) (zE0 f9 n9 qb (s0 268 9) (s0 268 14) (s0 277)) (s0 278) (by first | exact hf | exact ⟨by rw [hF_14 276 (by omega)]; exact hf.1, by omega⟩) (v14_0) (Or.inr ⟨by omega, by omega⟩) q14_0 q14_1 q14_2 q14_3) ⟨rfl, rfl, ⟨by decide, by decide⟩, ⟨by decide, by decide⟩⟩ rfl rfl (Nat.le_of_ble_eq_true rfl) dX11_readsSum_158) hW (fun s23 H locs hp24 hW => ?_)
              obtain ⟨fs23, hp24⟩ := hp24
              have hF25 := hF_14.call fs23 (fun k h => by omega)
              have ghp24 := hp24.2
              have H158 := ghp24
              refine x_iconst hx hb dX11_readsSum_161 ?_
              rw [eQ]
              exact x_zret hx hb hr hlk hW (by omega) ⟨hF25, ⟨hp24.1.1, hp24.1.2.1, hp24.1.2.2.1, hp24.1.2.2.2.1, (hp24.1.2.2.2.2.1.trans q14_4), (hp24.1.2.2.2.2.2.1.trans q14_5), (hp24.1.2.2.2.2.2.2.1.trans q14_6), (hp24.1.2.2.2.2.2.2.2.2.1.trans q14_7), (hp24.1.2.2.2.2.2.2.2.2.2.2.1.trans q14_8), trivial⟩, by
    have o9 := H158.1.o
    have b9 := H158.1.b
    have e := H158.1.fin (by omega) (by omega) (by rw [show s23 268 9 = s_14 268 9 from by omega]; omega)
    exact Or.inr ⟨by omega, e.1, by rw [show s23 268 9 = s_14 268 9 from by omega]; omega, e.2, by have y := H158.1.2.2.1; rw [zls_0 _ e.2] at y; have y : s23 268 13 = qb + 0 := y; omega, H158.1.2.2.2.1, by omega, by omega, H158.1.1.1⟩⟩ dX11_readsSum_162
            refine x_aload_n hx hb hl 1 rfl dX11_readsSum_146 rfl ?_
            refine x_iconst hx hb dX11_readsSum_147 ?_
            refine x_aload_n hx hb hl 1 rfl dX11_readsSum_148 rfl ?_
            refine x_get (j := 9) (v := .int (xJ (s_14 268 9))) hx hb hown hT hE hW cls_X11 (Or.inl (by decide)) (so_268 h0 g _) (by decide) rfl wq1194 dX11_readsSum_149 ?_
            refine x_rd hW (fun x26 ex26 rx26 => ?_)
            have bx26 : 0 ≤ x26 ∧ x26 ≤ s_14 268 10 ∧ s_14 268 10 ≤ 240 := by rw [ex26]; exact q14_3
            have q27 : s_14 268 9 = x26 := ex26.symm
            refine x_goi (x_runV (As := [.int (xJ 1), .int (xJ x26)]) hx hb hml hown hT hE hW hl.1 (Or.inl (by decide)) (so_268 h0 g _) rfl cf_X11_wrongAt wq1401 wq107 wq1399 (c_X11_wrongAtK l D g T h0 s_14 hW.2.1 1 (by decide) x26 rx26 (by omega) q14_0 q14_1 q14_2 q14_3) ⟨rfl, rfl, ⟨by decide, by decide⟩, ⟨by decide, by decide⟩⟩ rfl rfl (Nat.le_of_ble_eq_true rfl) dX11_readsSum_152) hW (fun x28 s29 H locs rx28 hp30 hW => ?_)
            obtain ⟨fs29, hp30⟩ := hp30
            have hF31 := hF_14.call fs29 (fun k h => by omega)
            have ghp30 := hp30.2
            rw [eQ]
            exact x_zret hx hb hr hlk hW (by omega) ⟨hF31, ⟨hp30.1.1, hp30.1.2.1, hp30.1.2.2.1, hp30.1.2.2.2.1, (hp30.1.2.2.2.2.1.trans q14_4), (hp30.1.2.2.2.2.2.1.trans q14_5), (hp30.1.2.2.2.2.2.2.1.trans q14_6), (hp30.1.2.2.2.2.2.2.2.2.1.trans q14_7), (hp30.1.2.2.2.2.2.2.2.2.2.2.2.2.1.trans q14_8), trivial⟩, by
    have z := zEX.bad _ _ _ v14_0.1 (by omega) (by omega) (by omega)
    exact Or.inl ⟨by omega, by omega, by omega⟩⟩ dX11_readsSum_155
          refine x_aload_n hx hb hl 1 rfl dX11_readsSum_92 rfl ?_
          refine x_iload_n hx hb hl 2 rfl dX11_readsSum_93 rfl ?_
          refine x_goi (x_runV (As := [.int (xJ x1)]) hx hb hml hown hT hE hW hl.1 (Or.inl (by decide)) (so_268 h0 g _) rfl cf_X11_hasOpenSum wq1511 wq124 wq1509 (c_X11_hasOpenSumK l D g T h0 s_14 hW.2.1 x1 rx1 f9 n9 qb K9 (s0 268 14) (s0 277) (zE0 f9 n9 qb (s0 268 9) (s0 268 14) (s0 277)) (s0 278) (by rw [show x1 = s0 268 15 from by omega]; exact v14_0) q14_0 q14_1 q14_2 q14_3) ⟨rfl, rfl, ⟨by decide, by decide⟩, ⟨by decide, by decide⟩⟩ rfl rfl (Nat.le_of_ble_eq_true rfl) dX11_readsSum_94) hW (fun x32 s33 H locs rx32 hp34 hW => ?_)
          obtain ⟨es33, hp34⟩ := hp34
          subst es33
          have ghp34 := hp34
          have H94 := ghp34
          rw [show x1 = s0 268 15 from by omega] at H94
          refine x_if_eq (tgt := 138) hx hb rx32 dX11_readsSum_97 (by decide) (fun c35 => ?_) (fun c35 => ?_)
          · skip
            refine x_aload_n hx hb hl 1 rfl dX11_readsSum_138 rfl ?_
            refine x_iload_n hx hb hl 2 rfl dX11_readsSum_139 rfl ?_
            refine x_goi (x_runV (As := [.int (xJ x1)]) hx hb hml hown hT hE hW hl.1 (Or.inl (by decide)) (so_268 h0 g _) rfl cf_X11_hasOpenSum wq1511 wq124 wq1509 (c_X11_hasOpenSumK l D g T h0 s_14 hW.2.1 x1 rx1 f9 n9 qb K9 (s0 268 14) (s0 277) (zE0 f9 n9 qb (s0 268 9) (s0 268 14) (s0 277)) (s0 278) (by rw [show x1 = s0 268 15 from by omega]; exact v14_0) q14_0 q14_1 q14_2 q14_3) ⟨rfl, rfl, ⟨by decide, by decide⟩, ⟨by decide, by decide⟩⟩ rfl rfl (Nat.le_of_ble_eq_true rfl) dX11_readsSum_140) hW (fun x36 s37 H locs rx36 hp38 hW => ?_)
            obtain ⟨es37, hp38⟩ := hp38
            subst es37
            have ghp38 := hp38
            have H140 := ghp38
            rw [show x1 = s0 268 15 from by omega] at H140
            refine x_if_eq (tgt := 156) hx hb rx36 dX11_readsSum_143 (by decide) (fun c39 => ?_) (fun c39 => ?_)
            · skip
              refine x_aload_n hx hb hl 1 rfl dX11_readsSum_156 rfl ?_
              refine x_iconst hx hb dX11_readsSum_157 ?_
              refine x_gov (x_runV (As := [.int (xJ 1)]) hx hb hml hown hT hE hW hl.1 (Or.inl (by decide)) (so_268 h0 g _) rfl cf_X11_closesSums wq1503 wq122 wq1501 (c_X11_closesSumsK l D g T h0 s_14 hW.2.1 1 (by decide) f9 n9 qb (s0 268 15) K9 (s0 268 14) (s0 277) (zE0 f9 n9 qb (s0 268 9) (s0 268 14) (s0 277)) (s0 278) (by first | exact hf | exact ⟨by rw [hF_14 276 (by omega)]; exact hf.1, by omega⟩) (v14_0) (Or.inr ⟨by omega, by omega⟩) q14_0 q14_1 q14_2 q14_3) ⟨rfl, rfl, ⟨by decide, by decide⟩, ⟨by decide, by decide⟩⟩ rfl rfl (Nat.le_of_ble_eq_true rfl) dX11_readsSum_158) hW (fun s41 H locs hp42 hW => ?_)
              obtain ⟨fs41, hp42⟩ := hp42
              have hF43 := hF_14.call fs41 (fun k h => by omega)
              have ghp42 := hp42.2
              have H158 := ghp42
              refine x_iconst hx hb dX11_readsSum_161 ?_
              rw [eQ]
              exact x_zret hx hb hr hlk hW (by omega) ⟨hF43, ⟨hp42.1.1, hp42.1.2.1, hp42.1.2.2.1, hp42.1.2.2.2.1, (hp42.1.2.2.2.2.1.trans q14_4), (hp42.1.2.2.2.2.2.1.trans q14_5), (hp42.1.2.2.2.2.2.2.1.trans q14_6), (hp42.1.2.2.2.2.2.2.2.2.1.trans q14_7), (hp42.1.2.2.2.2.2.2.2.2.2.2.1.trans q14_8), trivial⟩, by
    have o9 := H158.1.o
    have b9 := H158.1.b
    have e := H158.1.fin (by omega) (by omega) (by rw [show s41 268 9 = s_14 268 9 from by omega]; omega)
    exact Or.inr ⟨by omega, e.1, by rw [show s41 268 9 = s_14 268 9 from by omega]; omega, e.2, by have y := H158.1.2.2.1; rw [zls_0 _ e.2] at y; have y : s41 268 13 = qb + 0 := y; omega, H158.1.2.2.2.1, by omega, by omega, H158.1.1.1⟩⟩ dX11_readsSum_162
            refine x_aload_n hx hb hl 1 rfl dX11_readsSum_146 rfl ?_
            refine x_iconst hx hb dX11_readsSum_147 ?_
            refine x_aload_n hx hb hl 1 rfl dX11_readsSum_148 rfl ?_
            refine x_get (j := 9) (v := .int (xJ (s_14 268 9))) hx hb hown hT hE hW cls_X11 (Or.inl (by decide)) (so_268 h0 g _) (by decide) rfl wq1194 dX11_readsSum_149 ?_
            refine x_rd hW (fun x44 ex44 rx44 => ?_)
            have bx44 : 0 ≤ x44 ∧ x44 ≤ s_14 268 10 ∧ s_14 268 10 ≤ 240 := by rw [ex44]; exact q14_3
            have q45 : s_14 268 9 = x44 := ex44.symm
            refine x_goi (x_runV (As := [.int (xJ 1), .int (xJ x44)]) hx hb hml hown hT hE hW hl.1 (Or.inl (by decide)) (so_268 h0 g _) rfl cf_X11_wrongAt wq1401 wq107 wq1399 (c_X11_wrongAtK l D g T h0 s_14 hW.2.1 1 (by decide) x44 rx44 (by omega) q14_0 q14_1 q14_2 q14_3) ⟨rfl, rfl, ⟨by decide, by decide⟩, ⟨by decide, by decide⟩⟩ rfl rfl (Nat.le_of_ble_eq_true rfl) dX11_readsSum_152) hW (fun x46 s47 H locs rx46 hp48 hW => ?_)
            obtain ⟨fs47, hp48⟩ := hp48
            have hF49 := hF_14.call fs47 (fun k h => by omega)
            have ghp48 := hp48.2
            rw [eQ]
            exact x_zret hx hb hr hlk hW (by omega) ⟨hF49, ⟨hp48.1.1, hp48.1.2.1, hp48.1.2.2.1, hp48.1.2.2.2.1, (hp48.1.2.2.2.2.1.trans q14_4), (hp48.1.2.2.2.2.2.1.trans q14_5), (hp48.1.2.2.2.2.2.2.1.trans q14_6), (hp48.1.2.2.2.2.2.2.2.2.1.trans q14_7), (hp48.1.2.2.2.2.2.2.2.2.2.2.2.2.1.trans q14_8), trivial⟩, by
    have z := zEX.bad _ _ _ v14_0.1 (by omega) (by omega) (by omega)
    exact Or.inl ⟨by omega, by omega, by omega⟩⟩ dX11_readsSum_155
          refine x_aload_n hx hb hl 1 rfl dX11_readsSum_100 rfl ?_
          refine x_iconst hx hb dX11_readsSum_101 ?_
          refine x_gov (x_runV (As := [.int (xJ 1)]) hx hb hml hown hT hE hW hl.1 (Or.inl (by decide)) (so_268 h0 g _) rfl cf_X11_closesSums wq1503 wq122 wq1501 (c_X11_closesSumsK l D g T h0 s_14 hW.2.1 1 (by decide) f9 n9 qb (s0 268 15) K9 (s0 268 14) (s0 277) (zE0 f9 n9 qb (s0 268 9) (s0 268 14) (s0 277)) (s0 278) (by first | exact hf | exact ⟨by rw [hF_14 276 (by omega)]; exact hf.1, by omega⟩) (v14_0) (Or.inr ⟨by omega, by omega⟩) q14_0 q14_1 q14_2 q14_3) ⟨rfl, rfl, ⟨by decide, by decide⟩, ⟨by decide, by decide⟩⟩ rfl rfl (Nat.le_of_ble_eq_true rfl) dX11_readsSum_102) hW (fun s51 H locs hp52 hW => ?_)
          obtain ⟨fs51, hp52⟩ := hp52
          have hF53 := hF_14.call fs51 (fun k h => by omega)
          have ghp52 := hp52.2
          have H102 := ghp52
          have b102 := H102.1.b
          have o102 := H102.1.o
          refine x_aload_n hx hb hl 1 rfl dX11_readsSum_105 rfl ?_
          refine x_aload_n hx hb hl 1 rfl dX11_readsSum_106 rfl ?_
          refine x_get (j := 15) (v := .int (xJ (s51 268 15))) hx hb hown hT hE hW cls_X11 (Or.inl (by decide)) (so_268 h0 g _) (by decide) rfl wq1200 dX11_readsSum_107 ?_
          refine x_rd hW (fun x54 ex54 rx54 => ?_)
          have q55 : s51 268 15 = x54 := ex54.symm
          refine x_iconst hx hb dX11_readsSum_110 ?_
          refine x_isub hx hb dX11_readsSum_111 ?_
          refine x_put (j := 15) hx hb hown hT hE hW cls_X11 (by decide) (fun σ => so_268 h0 g σ) (by decide) (st_X11_15 h0 s51 268 (x54 - 1)) (ln_X11_15 h0 _ _) wq1200 rfl rfl rfl (by omega) dX11_readsSum_112 (fun H locs s56 es56 hW => ?_)
          have q57 : IMn s56 := by rw [es56]; exact IMn_268 hp52.1.1 (by omega)
          have q58 : IMk s56 := by rw [es56]; exact IMk_268 hp52.1.2.1 (by omega)
          have q59 : IMo s56 := by rw [es56]; exact IMo_o (by unfold suIMo; omega) hp52.1.2.2.1
          have q60 : IR s56 := by rw [es56]; exact IR_268 hp52.1.2.2.2.1 (by omega)
          have q61 : s56 268 8 = s0 268 8 := (show s56 268 8 = s51 268 8 from by rw [es56, xU_j _ _ (by decide)]).trans (hp52.1.2.2.2.2.1.trans q14_4)
          have q62 : s56 268 58 = s0 268 58 := (show s56 268 58 = s51 268 58 from by rw [es56, xU_j _ _ (by decide)]).trans (hp52.1.2.2.2.2.2.1.trans q14_5)
          have q63 : s56 268 17 = s0 268 17 := (show s56 268 17 = s51 268 17 from by rw [es56, xU_j _ _ (by decide)]).trans (hp52.1.2.2.2.2.2.2.1.trans q14_6)
          have q64 : s56 268 9 = s_14 268 9 := (show s56 268 9 = s51 268 9 from by rw [es56, xU_j _ _ (by decide)]).trans hp52.1.2.2.2.2.2.2.2.1
          have q65 : s56 268 10 = s0 268 10 := (show s56 268 10 = s51 268 10 from by rw [es56, xU_j _ _ (by decide)]).trans (hp52.1.2.2.2.2.2.2.2.2.1.trans q14_7)
          have q66 : s56 268 13 = s_14 268 13 := (show s56 268 13 = s51 268 13 from by rw [es56, xU_j _ _ (by decide)]).trans hp52.1.2.2.2.2.2.2.2.2.2.1
          have q67 : s56 268 16 = s0 268 16 := (show s56 268 16 = s51 268 16 from by rw [es56, xU_j _ _ (by decide)]).trans (hp52.1.2.2.2.2.2.2.2.2.2.2.1.trans q14_8)
          have q68 : s56 268 15 = (x54 - 1) := by rw [es56, xU_s]
          have hF69 := hF53.put es56 (by omega)
          have E112 := es56
          refine x_aload_n hx hb hl 1 rfl dX11_readsSum_115 rfl ?_
          refine x_aload_n hx hb hl 1 rfl dX11_readsSum_116 rfl ?_
          refine x_get (j := 13) (v := .int (xJ (s56 268 13))) hx hb hown hT hE hW cls_X11 (Or.inl (by decide)) (so_268 h0 g _) (by decide) rfl wq1198 dX11_readsSum_117 ?_
          refine x_rd hW (fun x70 ex70 rx70 => ?_)
          have fx70 : x70 = s_14 268 13 := ex70.trans q66
          refine x_iconst hx hb dX11_readsSum_120 ?_
          refine x_isub hx hb dX11_readsSum_121 ?_
          refine x_put (j := 13) hx hb hown hT hE hW cls_X11 (by decide) (fun σ => so_268 h0 g σ) (by decide) (st_X11_13 h0 s56 268 (x70 - 1)) (ln_X11_13 h0 _ _) wq1198 rfl rfl rfl (by omega) dX11_readsSum_122 (fun H locs s71 es71 hW => ?_)
          have q72 : IMn s71 := by rw [es71]; exact IMn_268 q57 (by omega)
          have q73 : IMk s71 := by rw [es71]; exact IMk_268 q58 (by omega)
          have q74 : IMo s71 := by rw [es71]; exact IMo_o (by unfold suIMo; omega) q59
          have q75 : IR s71 := by rw [es71]; exact IR_268 q60 (by omega)
          have q76 : s71 268 8 = s0 268 8 := (show s71 268 8 = s56 268 8 from by rw [es71, xU_j _ _ (by decide)]).trans q61
          have q77 : s71 268 58 = s0 268 58 := (show s71 268 58 = s56 268 58 from by rw [es71, xU_j _ _ (by decide)]).trans q62
          have q78 : s71 268 17 = s0 268 17 := (show s71 268 17 = s56 268 17 from by rw [es71, xU_j _ _ (by decide)]).trans q63
          have q79 : s71 268 9 = s_14 268 9 := (show s71 268 9 = s56 268 9 from by rw [es71, xU_j _ _ (by decide)]).trans q64
          have q80 : s71 268 10 = s0 268 10 := (show s71 268 10 = s56 268 10 from by rw [es71, xU_j _ _ (by decide)]).trans q65
          have q81 : s71 268 13 = (x70 - 1) := by rw [es71, xU_s]
          have q82 : s71 268 16 = s0 268 16 := (show s71 268 16 = s56 268 16 from by rw [es71, xU_j _ _ (by decide)]).trans q67
          have q83 : s71 268 15 = (x54 - 1) := (show s71 268 15 = s56 268 15 from by rw [es71, xU_j _ _ (by decide)]).trans q68
          have hF84 := hF69.put es71 (by omega)
          have E122 := es71
          refine x_aload_n hx hb hl 1 rfl dX11_readsSum_125 rfl ?_
          refine x_aload_n hx hb hl 1 rfl dX11_readsSum_126 rfl ?_
          refine x_get (j := 9) (v := .int (xJ (s71 268 9))) hx hb hown hT hE hW cls_X11 (Or.inl (by decide)) (so_268 h0 g _) (by decide) rfl wq1194 dX11_readsSum_127 ?_
          refine x_rd hW (fun x85 ex85 rx85 => ?_)
          have bx85 : 0 ≤ x85 ∧ x85 ≤ s71 268 10 ∧ s71 268 10 ≤ 240 := by rw [ex85]; exact q75
          have fx85 : x85 = s_14 268 9 := ex85.trans q79
          refine x_iconst hx hb dX11_readsSum_130 ?_
          refine x_iadd hx hb dX11_readsSum_131 ?_
          refine x_put (j := 9) hx hb hown hT hE hW cls_X11 (by decide) (fun σ => so_268 h0 g σ) (by decide) (st_X11_9 h0 s71 268 (x85 + 1)) (ln_X11_9 h0 _ _) wq1194 rfl rfl rfl (by omega) dX11_readsSum_132 (fun H locs s86 es86 hW => ?_)
          have q87 : IMn s86 := by rw [es86]; exact IMn_268 q72 (by omega)
          have q88 : IMk s86 := by rw [es86]; exact IMk_268 q73 (by omega)
          have q89 : IMo s86 := by rw [es86]; exact IMo_o (by unfold suIMo; omega) q74
          have q90 : IR s86 := by rw [es86]; exact IR_268 q75 (by omega)
          have q91 : s86 268 8 = s0 268 8 := (show s86 268 8 = s71 268 8 from by rw [es86, xU_j _ _ (by decide)]).trans q76
          have q92 : s86 268 58 = s0 268 58 := (show s86 268 58 = s71 268 58 from by rw [es86, xU_j _ _ (by decide)]).trans q77
          have q93 : s86 268 17 = s0 268 17 := (show s86 268 17 = s71 268 17 from by rw [es86, xU_j _ _ (by decide)]).trans q78
          have q94 : s86 268 9 = (x85 + 1) := by rw [es86, xU_s]
          have q95 : s86 268 10 = s0 268 10 := (show s86 268 10 = s71 268 10 from by rw [es86, xU_j _ _ (by decide)]).trans q80
          have q96 : s86 268 13 = (x70 - 1) := (show s86 268 13 = s71 268 13 from by rw [es86, xU_j _ _ (by decide)]).trans q81
          have q97 : s86 268 16 = s0 268 16 := (show s86 268 16 = s71 268 16 from by rw [es86, xU_j _ _ (by decide)]).trans q82
          have q98 : s86 268 15 = (x54 - 1) := (show s86 268 15 = s71 268 15 from by rw [es86, xU_j _ _ (by decide)]).trans q83
          have hF99 := hF84.put es86 (by omega)
          have E132 := es86
          have X125 : zER f9 n9 qb (s0 268 15) K9 (s0 268 14) (s0 277) (zE0 f9 n9 qb (s0 268 9) (s0 268 14) (s0 277)) false (s0 278) s86 := H102.1.shut (by omega) (by omega) (by rw [show s51 268 9 = s_14 268 9 from by omega]; omega) (by omega) (by rw [E132, xU_j _ _ (by decide), E122, xU_j _ _ (by decide), E112, xU_j _ _ (by decide)]) (by rw [E132, xU_k _ _ _ (by omega), E122, xU_k _ _ _ (by omega), E112, xU_k _ _ _ (by omega)]) (by omega) (by omega) (by rw [E132, xU_k _ _ _ (by omega), E122, xU_k _ _ _ (by omega), E112, xU_k _ _ _ (by omega)])
          refine lv_goto (tgt := 163) hx hb dX11_readsSum_135 (by decide) ?_
          refine lv_goto (tgt := 14) hx hb dX11_readsSum_163 (by decide) ?_
          exact ih14 s86 H locs ls hF99 q87 q88 q89 q90 q91 q92 q93 q95 q97 (by first | exact (H75.resolve_left (fun q => by omega)).2.1 | exact X125) (by omega) (by omega) hW (lv_sub hl [1, 2] rfl)
        refine x_aload_n hx hb hl 1 rfl dX11_readsSum_27 rfl ?_
        refine x_iload_n hx hb hl 0 rfl dX11_readsSum_28 rfl ?_
        refine x_iconst hx hb dX11_readsSum_29 ?_
        refine x_icmp_ge (tgt := 37) hx hb rx10 (by decide) dX11_readsSum_30 (by decide) (fun c100 => ?_) (fun c100 => ?_)
        · skip
          refine x_iconst hx hb dX11_readsSum_37 ?_
          refine x_gov (x_runV (As := [.int (xJ 0)]) hx hb hml hown hT hE hW hl.1 (Or.inl (by decide)) (so_268 h0 g _) rfl cf_X11_closesSums wq1503 wq122 wq1501 (c_X11_closesSumsK l D g T h0 s_14 hW.2.1 0 (by decide) f9 n9 qb (s0 268 15) K9 (s0 268 14) (s0 277) (zE0 f9 n9 qb (s0 268 9) (s0 268 14) (s0 277)) (s0 278) (by first | exact hf | exact ⟨by rw [hF_14 276 (by omega)]; exact hf.1, by omega⟩) (v14_0) (by rw [show s_14 268 9 = s_14 268 9 from by omega]; omega) q14_0 q14_1 q14_2 q14_3) ⟨rfl, rfl, ⟨by decide, by decide⟩, ⟨by decide, by decide⟩⟩ rfl rfl (Nat.le_of_ble_eq_true rfl) dX11_readsSum_38) hW (fun s102 H locs hp103 hW => ?_)
          obtain ⟨fs102, hp103⟩ := hp103
          have hF104 := hF_14.call fs102 (fun k h => by omega)
          have ghp103 := hp103.2
          have H38 := ghp103
          have b38 := H38.1.b
          have o38 := H38.1.o
          refine x_aload_n hx hb hl 1 rfl dX11_readsSum_41 rfl ?_
          refine x_get (j := 19) (v := .ref (h0 + 278)) hx hb hown hT hE hW cls_X11 (Or.inl (by decide)) (so_268 h0 g _) (by decide) rfl wq1204 dX11_readsSum_42 ?_
          refine x_aload_n hx hb hl 1 rfl dX11_readsSum_45 rfl ?_
          refine x_get (j := 15) (v := .int (xJ (s102 268 15))) hx hb hown hT hE hW cls_X11 (Or.inl (by decide)) (so_268 h0 g _) (by decide) rfl wq1200 dX11_readsSum_46 ?_
          refine x_rd hW (fun x105 ex105 rx105 => ?_)
          have q106 : s102 268 15 = x105 := ex105.symm
          refine lv_ldc (v := xJ 1048576) hx hb hown (hT _ wq1482) dX11_readsSum_49 ?_
          refine x_iload_n hx hb hl 0 rfl dX11_readsSum_51 rfl ?_
          refine x_imul hx hb dX11_readsSum_52 ?_
          refine x_iast hx hb hE hW (by decide) (fun σ => sa_278 h0 g σ) (by omega) (by decide) (by omega) dX11_readsSum_53 (fun H locs s107 es107 hW => ?_)
          have q108 : IMn s107 := by rw [es107]; exact IMn_o (by unfold suIMn; omega) hp103.1.1
          have q109 : IMk s107 := by rw [es107]; exact IMk_o (by unfold suIMk; omega) hp103.1.2.1
          have q110 : IMo s107 := by rw [es107]; exact IMo_o (by unfold suIMo; omega) hp103.1.2.2.1
          have q111 : IR s107 := by rw [es107]; exact IR_o (by unfold suIR; omega) hp103.1.2.2.2.1
          have q112 : s107 268 8 = s0 268 8 := (show s107 268 8 = s102 268 8 from by rw [es107, xU_k _ _ _ (by omega)]).trans (hp103.1.2.2.2.2.1.trans q14_4)
          have q113 : s107 268 58 = s0 268 58 := (show s107 268 58 = s102 268 58 from by rw [es107, xU_k _ _ _ (by omega)]).trans (hp103.1.2.2.2.2.2.1.trans q14_5)
          have q114 : s107 268 17 = s0 268 17 := (show s107 268 17 = s102 268 17 from by rw [es107, xU_k _ _ _ (by omega)]).trans (hp103.1.2.2.2.2.2.2.1.trans q14_6)
          have q115 : s107 268 9 = s_14 268 9 := (show s107 268 9 = s102 268 9 from by rw [es107, xU_k _ _ _ (by omega)]).trans hp103.1.2.2.2.2.2.2.2.1
          have q116 : s107 268 10 = s0 268 10 := (show s107 268 10 = s102 268 10 from by rw [es107, xU_k _ _ _ (by omega)]).trans (hp103.1.2.2.2.2.2.2.2.2.1.trans q14_7)
          have q117 : s107 268 13 = s_14 268 13 := (show s107 268 13 = s102 268 13 from by rw [es107, xU_k _ _ _ (by omega)]).trans hp103.1.2.2.2.2.2.2.2.2.2.1
          have q118 : s107 268 16 = s0 268 16 := (show s107 268 16 = s102 268 16 from by rw [es107, xU_k _ _ _ (by omega)]).trans (hp103.1.2.2.2.2.2.2.2.2.2.2.1.trans q14_8)
          have q119 : s107 268 15 = x105 := (show s107 268 15 = s102 268 15 from by rw [es107, xU_k _ _ _ (by omega)]).trans q106
          have hF120 := hF104.put es107 (by omega)
          have E53 := es107
          have I53 : x105 = s102 268 15 := by omega
          refine x_aload_n hx hb hl 1 rfl dX11_readsSum_54 rfl ?_
          refine x_aload_n hx hb hl 1 rfl dX11_readsSum_55 rfl ?_
          refine x_get (j := 15) (v := .int (xJ (s107 268 15))) hx hb hown hT hE hW cls_X11 (Or.inl (by decide)) (so_268 h0 g _) (by decide) rfl wq1200 dX11_readsSum_56 ?_
          refine x_rd hW (fun x121 ex121 rx121 => ?_)
          have fx121 : x121 = x105 := ex121.trans q119
          refine x_iconst hx hb dX11_readsSum_59 ?_
          refine x_iadd hx hb dX11_readsSum_60 ?_
          refine x_put (j := 15) hx hb hown hT hE hW cls_X11 (by decide) (fun σ => so_268 h0 g σ) (by decide) (st_X11_15 h0 s107 268 (x121 + 1)) (ln_X11_15 h0 _ _) wq1200 rfl rfl rfl (by omega) dX11_readsSum_61 (fun H locs s122 es122 hW => ?_)
          have q123 : IMn s122 := by rw [es122]; exact IMn_268 q108 (by omega)
          have q124 : IMk s122 := by rw [es122]; exact IMk_268 q109 (by omega)
          have q125 : IMo s122 := by rw [es122]; exact IMo_o (by unfold suIMo; omega) q110
          have q126 : IR s122 := by rw [es122]; exact IR_268 q111 (by omega)
          have q127 : s122 268 8 = s0 268 8 := (show s122 268 8 = s107 268 8 from by rw [es122, xU_j _ _ (by decide)]).trans q112
          have q128 : s122 268 58 = s0 268 58 := (show s122 268 58 = s107 268 58 from by rw [es122, xU_j _ _ (by decide)]).trans q113
          have q129 : s122 268 17 = s0 268 17 := (show s122 268 17 = s107 268 17 from by rw [es122, xU_j _ _ (by decide)]).trans q114
          have q130 : s122 268 9 = s_14 268 9 := (show s122 268 9 = s107 268 9 from by rw [es122, xU_j _ _ (by decide)]).trans q115
          have q131 : s122 268 10 = s0 268 10 := (show s122 268 10 = s107 268 10 from by rw [es122, xU_j _ _ (by decide)]).trans q116
          have q132 : s122 268 13 = s_14 268 13 := (show s122 268 13 = s107 268 13 from by rw [es122, xU_j _ _ (by decide)]).trans q117
          have q133 : s122 268 16 = s0 268 16 := (show s122 268 16 = s107 268 16 from by rw [es122, xU_j _ _ (by decide)]).trans q118
          have q134 : s122 268 15 = (x121 + 1) := by rw [es122, xU_s]
          have hF135 := hF120.put es122 (by omega)
          have E61 := es122
          refine x_aload_n hx hb hl 1 rfl dX11_readsSum_64 rfl ?_
          refine x_aload_n hx hb hl 1 rfl dX11_readsSum_65 rfl ?_
          refine x_get (j := 9) (v := .int (xJ (s122 268 9))) hx hb hown hT hE hW cls_X11 (Or.inl (by decide)) (so_268 h0 g _) (by decide) rfl wq1194 dX11_readsSum_66 ?_
          refine x_rd hW (fun x136 ex136 rx136 => ?_)
          have bx136 : 0 ≤ x136 ∧ x136 ≤ s122 268 10 ∧ s122 268 10 ≤ 240 := by rw [ex136]; exact q126
          have fx136 : x136 = s_14 268 9 := ex136.trans q130
          refine x_iconst hx hb dX11_readsSum_69 ?_
          refine x_iadd hx hb dX11_readsSum_70 ?_
          refine x_put (j := 9) hx hb hown hT hE hW cls_X11 (by decide) (fun σ => so_268 h0 g σ) (by decide) (st_X11_9 h0 s122 268 (x136 + 1)) (ln_X11_9 h0 _ _) wq1194 rfl rfl rfl (by omega) dX11_readsSum_71 (fun H locs s137 es137 hW => ?_)
          have q138 : IMn s137 := by rw [es137]; exact IMn_268 q123 (by omega)
          have q139 : IMk s137 := by rw [es137]; exact IMk_268 q124 (by omega)
          have q140 : IMo s137 := by rw [es137]; exact IMo_o (by unfold suIMo; omega) q125
          have q141 : IR s137 := by rw [es137]; exact IR_268 q126 (by omega)
          have q142 : s137 268 8 = s0 268 8 := (show s137 268 8 = s122 268 8 from by rw [es137, xU_j _ _ (by decide)]).trans q127
          have q143 : s137 268 58 = s0 268 58 := (show s137 268 58 = s122 268 58 from by rw [es137, xU_j _ _ (by decide)]).trans q128
          have q144 : s137 268 17 = s0 268 17 := (show s137 268 17 = s122 268 17 from by rw [es137, xU_j _ _ (by decide)]).trans q129
          have q145 : s137 268 9 = (x136 + 1) := by rw [es137, xU_s]
          have q146 : s137 268 10 = s0 268 10 := (show s137 268 10 = s122 268 10 from by rw [es137, xU_j _ _ (by decide)]).trans q131
          have q147 : s137 268 13 = s_14 268 13 := (show s137 268 13 = s122 268 13 from by rw [es137, xU_j _ _ (by decide)]).trans q132
          have q148 : s137 268 16 = s0 268 16 := (show s137 268 16 = s122 268 16 from by rw [es137, xU_j _ _ (by decide)]).trans q133
          have q149 : s137 268 15 = (x121 + 1) := (show s137 268 15 = s122 268 15 from by rw [es137, xU_j _ _ (by decide)]).trans q134
          have hF150 := hF135.put es137 (by omega)
          have E71 := es137
          have X71 : zER f9 n9 qb (s0 268 15) K9 (s0 268 14) (s0 277) (zE0 f9 n9 qb (s0 268 9) (s0 268 14) (s0 277)) true (s0 278) s137 := H38.1.sign (v := 1048576 * x10) (by rw [show s102 268 9 = s_14 268 9 from by omega]; omega) (by rw [show s102 268 9 = s_14 268 9 from by omega]; omega) (by omega) (by rw [E71, xU_j _ _ (by decide), E61, xU_j _ _ (by decide), E53, xU_k _ _ _ (by omega)]) (by rw [E71, xU_k _ _ _ (by omega), E61, xU_k _ _ _ (by omega), E53, xU_k _ _ _ (by omega)]) (by omega) (by omega) (by rw [E71, xU_k _ _ _ (by omega), E61, xU_k _ _ _ (by omega), E53, xU_xud, I53])
          refine x_aload_n hx hb hl 1 rfl dX11_readsSum_74 rfl ?_
          refine x_goi (x_runV (As := []) hx hb hml hown hT hE hW hl.1 (Or.inl (by decide)) (so_268 h0 g _) rfl cf_X11_readsFactor wq1476 wq117 wq1474 (c_X11_readsFactorK l D g T h0 s137 hW.2.1 f9 n9 qb (s0 268 15) K9 (s0 268 14) (s0 277) (zE0 f9 n9 qb (s0 268 9) (s0 268 14) (s0 277)) (s0 278) (by first | exact hf | exact ⟨by rw [hF150 276 (by omega)]; exact hf.1, by omega⟩) (X71) (by have y := X71.o; omega) q138 q139 q140 q141) ⟨rfl, rfl, ⟨by decide, by decide⟩, ⟨by decide, by decide⟩⟩ rfl rfl (Nat.le_of_ble_eq_true rfl) dX11_readsSum_75) hW (fun x151 s152 H locs rx151 hp153 hW => ?_)
          obtain ⟨fs152, hp153⟩ := hp153
          have hF154 := hF150.call fs152 (fun k h => by omega)
          have ghp153 := hp153.2
          have H75 := ghp153
          refine x_if_ne (tgt := 163) hx hb rx151 dX11_readsSum_78 (by decide) (fun c155 => ?_) (fun c155 => ?_)
          · skip
            refine lv_goto (tgt := 14) hx hb dX11_readsSum_163 (by decide) ?_
            exact ih14 s152 H locs ls hF154 hp153.1.1 hp153.1.2.1 hp153.1.2.2.1 hp153.1.2.2.2.1 (hp153.1.2.2.2.2.1.trans q142) (hp153.1.2.2.2.2.2.1.trans q143) (hp153.1.2.2.2.2.2.2.1.trans q144) (hp153.1.2.2.2.2.2.2.2.1.trans q146) (hp153.1.2.2.2.2.2.2.2.2.1.trans q148) (by first | exact (H75.resolve_left (fun q => by omega)).2.1 | exact X125) (by omega) (by omega) hW (lv_sub hl [1, 2] rfl)
          refine x_iconst hx hb dX11_readsSum_81 ?_
          rw [eQ]
          exact x_zret hx hb hr hlk hW (by omega) ⟨hF154, ⟨hp153.1.1, hp153.1.2.1, hp153.1.2.2.1, hp153.1.2.2.2.1, (hp153.1.2.2.2.2.1.trans q142), (hp153.1.2.2.2.2.2.1.trans q143), (hp153.1.2.2.2.2.2.2.1.trans q144), (hp153.1.2.2.2.2.2.2.2.1.trans q146), (hp153.1.2.2.2.2.2.2.2.2.1.trans q148), trivial⟩, H75.elim (fun q => Or.inl ⟨by omega, q.2⟩) (fun q => absurd q.1 (by omega))⟩ dX11_readsSum_82
        refine x_iconst hx hb dX11_readsSum_33 ?_
        refine lv_goto (tgt := 38) hx hb dX11_readsSum_34 (by decide) ?_
        refine x_gov (x_runV (As := [.int (xJ 1)]) hx hb hml hown hT hE hW hl.1 (Or.inl (by decide)) (so_268 h0 g _) rfl cf_X11_closesSums wq1503 wq122 wq1501 (c_X11_closesSumsK l D g T h0 s_14 hW.2.1 1 (by decide) f9 n9 qb (s0 268 15) K9 (s0 268 14) (s0 277) (zE0 f9 n9 qb (s0 268 9) (s0 268 14) (s0 277)) (s0 278) (by first | exact hf | exact ⟨by rw [hF_14 276 (by omega)]; exact hf.1, by omega⟩) (v14_0) (by rw [show s_14 268 9 = s_14 268 9 from by omega]; omega) q14_0 q14_1 q14_2 q14_3) ⟨rfl, rfl, ⟨by decide, by decide⟩, ⟨by decide, by decide⟩⟩ rfl rfl (Nat.le_of_ble_eq_true rfl) dX11_readsSum_38) hW (fun s157 H locs hp158 hW => ?_)
        obtain ⟨fs157, hp158⟩ := hp158
        have hF159 := hF_14.call fs157 (fun k h => by omega)
        have ghp158 := hp158.2
        have H38 := ghp158
        have b38 := H38.1.b
        have o38 := H38.1.o
        refine x_aload_n hx hb hl 1 rfl dX11_readsSum_41 rfl ?_
        refine x_get (j := 19) (v := .ref (h0 + 278)) hx hb hown hT hE hW cls_X11 (Or.inl (by decide)) (so_268 h0 g _) (by decide) rfl wq1204 dX11_readsSum_42 ?_
        refine x_aload_n hx hb hl 1 rfl dX11_readsSum_45 rfl ?_
        refine x_get (j := 15) (v := .int (xJ (s157 268 15))) hx hb hown hT hE hW cls_X11 (Or.inl (by decide)) (so_268 h0 g _) (by decide) rfl wq1200 dX11_readsSum_46 ?_
        refine x_rd hW (fun x160 ex160 rx160 => ?_)
        have q161 : s157 268 15 = x160 := ex160.symm
        refine lv_ldc (v := xJ 1048576) hx hb hown (hT _ wq1482) dX11_readsSum_49 ?_
        refine x_iload_n hx hb hl 0 rfl dX11_readsSum_51 rfl ?_
        refine x_imul hx hb dX11_readsSum_52 ?_
        refine x_iast hx hb hE hW (by decide) (fun σ => sa_278 h0 g σ) (by omega) (by decide) (by omega) dX11_readsSum_53 (fun H locs s162 es162 hW => ?_)
        have q163 : IMn s162 := by rw [es162]; exact IMn_o (by unfold suIMn; omega) hp158.1.1
        have q164 : IMk s162 := by rw [es162]; exact IMk_o (by unfold suIMk; omega) hp158.1.2.1
        have q165 : IMo s162 := by rw [es162]; exact IMo_o (by unfold suIMo; omega) hp158.1.2.2.1
        have q166 : IR s162 := by rw [es162]; exact IR_o (by unfold suIR; omega) hp158.1.2.2.2.1
        have q167 : s162 268 8 = s0 268 8 := (show s162 268 8 = s157 268 8 from by rw [es162, xU_k _ _ _ (by omega)]).trans (hp158.1.2.2.2.2.1.trans q14_4)
        have q168 : s162 268 58 = s0 268 58 := (show s162 268 58 = s157 268 58 from by rw [es162, xU_k _ _ _ (by omega)]).trans (hp158.1.2.2.2.2.2.1.trans q14_5)
        have q169 : s162 268 17 = s0 268 17 := (show s162 268 17 = s157 268 17 from by rw [es162, xU_k _ _ _ (by omega)]).trans (hp158.1.2.2.2.2.2.2.1.trans q14_6)
        have q170 : s162 268 9 = s_14 268 9 := (show s162 268 9 = s157 268 9 from by rw [es162, xU_k _ _ _ (by omega)]).trans hp158.1.2.2.2.2.2.2.2.1
        have q171 : s162 268 10 = s0 268 10 := (show s162 268 10 = s157 268 10 from by rw [es162, xU_k _ _ _ (by omega)]).trans (hp158.1.2.2.2.2.2.2.2.2.1.trans q14_7)
        have q172 : s162 268 13 = s_14 268 13 := (show s162 268 13 = s157 268 13 from by rw [es162, xU_k _ _ _ (by omega)]).trans hp158.1.2.2.2.2.2.2.2.2.2.1
        have q173 : s162 268 16 = s0 268 16 := (show s162 268 16 = s157 268 16 from by rw [es162, xU_k _ _ _ (by omega)]).trans (hp158.1.2.2.2.2.2.2.2.2.2.2.1.trans q14_8)
        have q174 : s162 268 15 = x160 := (show s162 268 15 = s157 268 15 from by rw [es162, xU_k _ _ _ (by omega)]).trans q161
        have hF175 := hF159.put es162 (by omega)
        have E53 := es162
        have I53 : x160 = s157 268 15 := by omega
        refine x_aload_n hx hb hl 1 rfl dX11_readsSum_54 rfl ?_
        refine x_aload_n hx hb hl 1 rfl dX11_readsSum_55 rfl ?_
        refine x_get (j := 15) (v := .int (xJ (s162 268 15))) hx hb hown hT hE hW cls_X11 (Or.inl (by decide)) (so_268 h0 g _) (by decide) rfl wq1200 dX11_readsSum_56 ?_
        refine x_rd hW (fun x176 ex176 rx176 => ?_)
        have fx176 : x176 = x160 := ex176.trans q174
        refine x_iconst hx hb dX11_readsSum_59 ?_
        refine x_iadd hx hb dX11_readsSum_60 ?_
        refine x_put (j := 15) hx hb hown hT hE hW cls_X11 (by decide) (fun σ => so_268 h0 g σ) (by decide) (st_X11_15 h0 s162 268 (x176 + 1)) (ln_X11_15 h0 _ _) wq1200 rfl rfl rfl (by omega) dX11_readsSum_61 (fun H locs s177 es177 hW => ?_)
        have q178 : IMn s177 := by rw [es177]; exact IMn_268 q163 (by omega)
        have q179 : IMk s177 := by rw [es177]; exact IMk_268 q164 (by omega)
        have q180 : IMo s177 := by rw [es177]; exact IMo_o (by unfold suIMo; omega) q165
        have q181 : IR s177 := by rw [es177]; exact IR_268 q166 (by omega)
        have q182 : s177 268 8 = s0 268 8 := (show s177 268 8 = s162 268 8 from by rw [es177, xU_j _ _ (by decide)]).trans q167
        have q183 : s177 268 58 = s0 268 58 := (show s177 268 58 = s162 268 58 from by rw [es177, xU_j _ _ (by decide)]).trans q168
        have q184 : s177 268 17 = s0 268 17 := (show s177 268 17 = s162 268 17 from by rw [es177, xU_j _ _ (by decide)]).trans q169
        have q185 : s177 268 9 = s_14 268 9 := (show s177 268 9 = s162 268 9 from by rw [es177, xU_j _ _ (by decide)]).trans q170
        have q186 : s177 268 10 = s0 268 10 := (show s177 268 10 = s162 268 10 from by rw [es177, xU_j _ _ (by decide)]).trans q171
        have q187 : s177 268 13 = s_14 268 13 := (show s177 268 13 = s162 268 13 from by rw [es177, xU_j _ _ (by decide)]).trans q172
        have q188 : s177 268 16 = s0 268 16 := (show s177 268 16 = s162 268 16 from by rw [es177, xU_j _ _ (by decide)]).trans q173
        have q189 : s177 268 15 = (x176 + 1) := by rw [es177, xU_s]
        have hF190 := hF175.put es177 (by omega)
        have E61 := es177
        refine x_aload_n hx hb hl 1 rfl dX11_readsSum_64 rfl ?_
        refine x_aload_n hx hb hl 1 rfl dX11_readsSum_65 rfl ?_
        refine x_get (j := 9) (v := .int (xJ (s177 268 9))) hx hb hown hT hE hW cls_X11 (Or.inl (by decide)) (so_268 h0 g _) (by decide) rfl wq1194 dX11_readsSum_66 ?_
        refine x_rd hW (fun x191 ex191 rx191 => ?_)
        have bx191 : 0 ≤ x191 ∧ x191 ≤ s177 268 10 ∧ s177 268 10 ≤ 240 := by rw [ex191]; exact q181
        have fx191 : x191 = s_14 268 9 := ex191.trans q185
        refine x_iconst hx hb dX11_readsSum_69 ?_
        refine x_iadd hx hb dX11_readsSum_70 ?_
        refine x_put (j := 9) hx hb hown hT hE hW cls_X11 (by decide) (fun σ => so_268 h0 g σ) (by decide) (st_X11_9 h0 s177 268 (x191 + 1)) (ln_X11_9 h0 _ _) wq1194 rfl rfl rfl (by omega) dX11_readsSum_71 (fun H locs s192 es192 hW => ?_)
        have q193 : IMn s192 := by rw [es192]; exact IMn_268 q178 (by omega)
        have q194 : IMk s192 := by rw [es192]; exact IMk_268 q179 (by omega)
        have q195 : IMo s192 := by rw [es192]; exact IMo_o (by unfold suIMo; omega) q180
        have q196 : IR s192 := by rw [es192]; exact IR_268 q181 (by omega)
        have q197 : s192 268 8 = s0 268 8 := (show s192 268 8 = s177 268 8 from by rw [es192, xU_j _ _ (by decide)]).trans q182
        have q198 : s192 268 58 = s0 268 58 := (show s192 268 58 = s177 268 58 from by rw [es192, xU_j _ _ (by decide)]).trans q183
        have q199 : s192 268 17 = s0 268 17 := (show s192 268 17 = s177 268 17 from by rw [es192, xU_j _ _ (by decide)]).trans q184
        have q200 : s192 268 9 = (x191 + 1) := by rw [es192, xU_s]
        have q201 : s192 268 10 = s0 268 10 := (show s192 268 10 = s177 268 10 from by rw [es192, xU_j _ _ (by decide)]).trans q186
        have q202 : s192 268 13 = s_14 268 13 := (show s192 268 13 = s177 268 13 from by rw [es192, xU_j _ _ (by decide)]).trans q187
        have q203 : s192 268 16 = s0 268 16 := (show s192 268 16 = s177 268 16 from by rw [es192, xU_j _ _ (by decide)]).trans q188
        have q204 : s192 268 15 = (x176 + 1) := (show s192 268 15 = s177 268 15 from by rw [es192, xU_j _ _ (by decide)]).trans q189
        have hF205 := hF190.put es192 (by omega)
        have E71 := es192
        have X71 : zER f9 n9 qb (s0 268 15) K9 (s0 268 14) (s0 277) (zE0 f9 n9 qb (s0 268 9) (s0 268 14) (s0 277)) true (s0 278) s192 := H38.1.sign (v := 1048576 * x10) (by rw [show s157 268 9 = s_14 268 9 from by omega]; omega) (by rw [show s157 268 9 = s_14 268 9 from by omega]; omega) (by omega) (by rw [E71, xU_j _ _ (by decide), E61, xU_j _ _ (by decide), E53, xU_k _ _ _ (by omega)]) (by rw [E71, xU_k _ _ _ (by omega), E61, xU_k _ _ _ (by omega), E53, xU_k _ _ _ (by omega)]) (by omega) (by omega) (by rw [E71, xU_k _ _ _ (by omega), E61, xU_k _ _ _ (by omega), E53, xU_xud, I53])
        refine x_aload_n hx hb hl 1 rfl dX11_readsSum_74 rfl ?_
        refine x_goi (x_runV (As := []) hx hb hml hown hT hE hW hl.1 (Or.inl (by decide)) (so_268 h0 g _) rfl cf_X11_readsFactor wq1476 wq117 wq1474 (c_X11_readsFactorK l D g T h0 s192 hW.2.1 f9 n9 qb (s0 268 15) K9 (s0 268 14) (s0 277) (zE0 f9 n9 qb (s0 268 9) (s0 268 14) (s0 277)) (s0 278) (by first | exact hf | exact ⟨by rw [hF205 276 (by omega)]; exact hf.1, by omega⟩) (X71) (by have y := X71.o; omega) q193 q194 q195 q196) ⟨rfl, rfl, ⟨by decide, by decide⟩, ⟨by decide, by decide⟩⟩ rfl rfl (Nat.le_of_ble_eq_true rfl) dX11_readsSum_75) hW (fun x206 s207 H locs rx206 hp208 hW => ?_)
        obtain ⟨fs207, hp208⟩ := hp208
        have hF209 := hF205.call fs207 (fun k h => by omega)
        have ghp208 := hp208.2
        have H75 := ghp208
        refine x_if_ne (tgt := 163) hx hb rx206 dX11_readsSum_78 (by decide) (fun c210 => ?_) (fun c210 => ?_)
        · skip
          refine lv_goto (tgt := 14) hx hb dX11_readsSum_163 (by decide) ?_
          exact ih14 s207 H locs ls hF209 hp208.1.1 hp208.1.2.1 hp208.1.2.2.1 hp208.1.2.2.2.1 (hp208.1.2.2.2.2.1.trans q197) (hp208.1.2.2.2.2.2.1.trans q198) (hp208.1.2.2.2.2.2.2.1.trans q199) (hp208.1.2.2.2.2.2.2.2.1.trans q201) (hp208.1.2.2.2.2.2.2.2.2.1.trans q203) (by first | exact (H75.resolve_left (fun q => by omega)).2.1 | exact X125) (by omega) (by omega) hW (lv_sub hl [1, 2] rfl)
        refine x_iconst hx hb dX11_readsSum_81 ?_
        rw [eQ]
        exact x_zret hx hb hr hlk hW (by omega) ⟨hF209, ⟨hp208.1.1, hp208.1.2.1, hp208.1.2.2.1, hp208.1.2.2.2.1, (hp208.1.2.2.2.2.1.trans q197), (hp208.1.2.2.2.2.2.1.trans q198), (hp208.1.2.2.2.2.2.2.1.trans q199), (hp208.1.2.2.2.2.2.2.2.1.trans q201), (hp208.1.2.2.2.2.2.2.2.2.1.trans q203), trivial⟩, H75.elim (fun q => Or.inl ⟨by omega, q.2⟩) (fun q => absurd q.1 (by omega))⟩ dX11_readsSum_82
    exact L14 ((241 - s3 268 9 : Int).toNat + 1) s3 H locs ls hF5 hp4.1.1 hp4.1.2.1 hp4.1.2.2.1 hp4.1.2.2.2.1 (hp4.1.2.2.2.2.1.trans k268_8) (hp4.1.2.2.2.2.2.1.trans k268_58) (hp4.1.2.2.2.2.2.2.1.trans k268_17) (hp4.1.2.2.2.2.2.2.2.1.trans k268_10) (hp4.1.2.2.2.2.2.2.2.2.1.trans k268_16) ((H6.resolve_left (fun q => by omega)).2.1) (by omega) (Nat.lt_succ_self _) hW (lv_sub hl [1, 0] rfl)
  refine x_iconst hx hb dX11_readsSum_12 ?_
  rw [eQ]
  exact x_zret hx hb hr hlk hW (by omega) ⟨hF5, ⟨hp4.1.1, hp4.1.2.1, hp4.1.2.2.1, hp4.1.2.2.2.1, (hp4.1.2.2.2.2.1.trans k268_8), (hp4.1.2.2.2.2.2.1.trans k268_58), (hp4.1.2.2.2.2.2.2.1.trans k268_17), (hp4.1.2.2.2.2.2.2.2.1.trans k268_10), (hp4.1.2.2.2.2.2.2.2.2.1.trans k268_16), trivial⟩, H6.elim (fun q => Or.inl ⟨by omega, q.2⟩) (fun q => absurd q.1 (by omega))⟩ dX11_readsSum_13
