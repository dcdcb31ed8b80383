set_option maxHeartbeats 4000000 in
set_option maxRecDepth 100000 in
theorem c_X11_readsSumK (l : Launch) (D : va_G) (g : xG) (T : Nat × Nat × Nat) (h0 : Nat) (s0 : xS) (hσ : xRR s0) (f9 : Int → Int) (n9 : Int) (qb : Int) (K9 : Int) (hf : xm8 (s0 276) = f9 ∧ s0 268 10 = n9) (hq : s0 268 13 = qb ∧ 0 ≤ qb ∧ qb ≤ 6) (hk : 0 ≤ K9 ∧ 0 ≤ s0 268 14 ∧ s0 268 14 + K9 ≤ s0 268 9 ∧ 0 ≤ s0 268 15 ∧ s0 268 15 ≤ s0 268 9) (hbz : s0 268 15 = 0 ∨ 10485760 ≤ s0 278 (s0 268 15 - 1)) (p0 : IMn s0) (p1 : IMk s0) (p2 : IMo s0) (p3 : IR s0) : Met l yX11_readsSum (xws yX11_readsSum cX11_readsSum 3 (some .boolean)) { frames := 4, cells := 0, slots := 0, locals := 82 } (xP [.ref (h0 + 268)] D g T h0 s0) (xQi D g h0 (fun r τ => xFr (fun k => k = 268 ∨ k = 277 ∨ k = 278) s0 τ ∧ (((IMn τ) ∧ (IMk τ) ∧ (IMo τ) ∧ (IR τ) ∧ (τ 268 8 = s0 268 8) ∧ (τ 268 58 = s0 268 58) ∧ (τ 268 17 = s0 268 17) ∧ (τ 268 10 = s0 268 10) ∧ (τ 268 16 = s0 268 16) ∧ (τ 268 48 = s0 268 48) ∧ True) ∧ ((r = 0 ∧ (zE0 f9 n9 qb (s0 268 9) (s0 268 14) (s0 277)).1 ≠ 0 ∧ τ 268 11 = (zE0 f9 n9 qb (s0 268 9) (s0 268 14) (s0 277)).1) ∨ (r = 1 ∧ (zE0 f9 n9 qb (s0 268 9) (s0 268 14) (s0 277)) = (0, τ 268 9, τ 268 14, τ 277) ∧ zsg (zch f9 n9 (τ 268 9)) < 2 ∧ τ 268 15 = s0 268 15 ∧ τ 268 13 = s0 268 13 ∧ (∀ i, i < s0 268 15 → τ 278 i = s0 278 i) ∧ s0 268 9 + 1 ≤ τ 268 9 ∧ τ 268 14 + K9 ≤ τ 268 9 ∧ s0 268 14 ≤ τ 268 14 ∧ ∀ k, k < s0 268 14 → τ 277 k = s0 277 k))))) 0 0 (xA h0) := by
  refine x_met hσ (by decide) (Nat.le_of_ble_eq_true rfl) ?_
  intro p e s m args below meth c hx hb hr hml hown hT hlk hnm hE hW ls hl
  have hl : lv_has ls 3 [(0, .ref (h0 + 268))] := hl
  obtain ⟨Q, eQ⟩ : ∃ Q, Q = MQ below (xQi D g h0 (fun r τ => xFr (fun k => k = 268 ∨ k = 277 ∨ k = 278) s0 τ ∧ (((IMn τ) ∧ (IMk τ) ∧ (IMo τ) ∧ (IR τ) ∧ (τ 268 8 = s0 268 8) ∧ (τ 268 58 = s0 268 58) ∧ (τ 268 17 = s0 268 17) ∧ (τ 268 10 = s0 268 10) ∧ (τ 268 16 = s0 268 16) ∧ (τ 268 48 = s0 268 48) ∧ True) ∧ ((r = 0 ∧ (zE0 f9 n9 qb (s0 268 9) (s0 268 14) (s0 277)).1 ≠ 0 ∧ τ 268 11 = (zE0 f9 n9 qb (s0 268 9) (s0 268 14) (s0 277)).1) ∨ (r = 1 ∧ (zE0 f9 n9 qb (s0 268 9) (s0 268 14) (s0 277)) = (0, τ 268 9, τ 268 14, τ 277) ∧ zsg (zch f9 n9 (τ 268 9)) < 2 ∧ τ 268 15 = s0 268 15 ∧ τ 268 13 = s0 268 13 ∧ (∀ i, i < s0 268 15 → τ 278 i = s0 278 i) ∧ s0 268 9 + 1 ≤ τ 268 9 ∧ τ 268 14 + K9 ≤ τ 268 9 ∧ s0 268 14 ≤ τ 268 14 ∧ ∀ k, k < s0 268 14 → τ 277 k = s0 277 k))))) args s 0 0 (xA h0) := ⟨_, rfl⟩
  rw [← eQ]
  generalize hHe : ([] : List Loc) = locs at hW ⊢
  obtain ⟨H, eH⟩ : ∃ H, H = s.heap := ⟨_, rfl⟩
  rw [← eH] at hW ⊢
  have hF : xFr (fun k => k = 268 ∨ k = 277 ∨ k = 278) s0 s0 := xFr.rf
  have k268_8 : s0 268 8 = s0 268 8 := rfl
  have k268_58 : s0 268 58 = s0 268 58 := rfl
  have k268_17 : s0 268 17 = s0 268 17 := rfl
  have k268_10 : s0 268 10 = s0 268 10 := rfl
  have k268_16 : s0 268 16 = s0 268 16 := rfl
  have k268_48 : s0 268 48 = s0 268 48 := rfl
  have k268_9 : s0 268 9 = s0 268 9 := rfl
  have k268_13 : s0 268 13 = s0 268 13 := rfl
  have k268_14 : s0 268 14 = s0 268 14 := rfl
  have k268_15 : s0 268 15 = s0 268 15 := rfl
  have hf2 := hf.2
  have hr0 : 0 ≤ s0 268 9 ∧ s0 268 9 ≤ s0 268 10 ∧ s0 268 10 ≤ 240 := p3
  have hz : zER f9 n9 qb (s0 268 15) K9 (s0 268 14) (s0 277) (zE0 f9 n9 qb (s0 268 9) (s0 268 14) (s0 277)) true (s0 278) s0 := ⟨by rw [zls_0 _ rfl]; exact zEX.new (by omega), Int.le_refl _, by rw [zls_0 _ rfl]; show s0 268 13 = qb + 0; omega, fun _ _ => rfl, hbz⟩
  refine x_aload_n hx hb hl 0 rfl dX11_readsSum_0 rfl ?_
  refine x_get (j := 15) (v := .int (xJ (s0 268 15))) hx hb hown hT hE hW cls_X11 (Or.inl (by decide)) (so_268 h0 g _) (by decide) rfl wq1200 dX11_readsSum_1 ?_
  refine x_rd hW (fun x1 ex1 rx1 => ?_)
  have fx1 : x1 = s0 268 15 := ex1.trans k268_15
  refine lv_istore_n (lv' := [(1, .int (xJ x1)), (0, .ref (h0 + 268))]) hx hb dX11_readsSum_4 rfl hl (by decide) rfl (fun ls hl => ?_)
  refine x_aload_n hx hb hl 1 rfl dX11_readsSum_5 rfl ?_
  refine x_goi (x_runV (As := []) hx hb hml hown hT hE hW hl.1 (Or.inl (by decide)) (so_268 h0 g _) rfl cf_X11_readsFactor wq1476 wq117 wq1474 (c_X11_readsFactorK l D g T h0 s0 hW.2.1 f9 n9 qb (s0 268 15) K9 (s0 268 14) (s0 277) (zE0 f9 n9 qb (s0 268 9) (s0 268 14) (s0 277)) (s0 278) (by first | exact hf | exact ⟨by rw [hF 276 (by omega)]; exact hf.1, by omega⟩) (hz) (by omega) p0 p1 p2 p3) ⟨rfl, rfl, ⟨by decide, by decide⟩, ⟨by decide, by decide⟩⟩ rfl rfl (Nat.le_of_ble_eq_true rfl) dX11_readsSum_6) hW (fun x2 s3 H locs rx2 hp4 hW => ?_)
  obtain ⟨fs3, hp4⟩ := hp4
  have hF5 := hF.call fs3 (fun k h => by omega)
  have ghp4 := hp4.2
  have H6 := ghp4
  refine x_if_ne (tgt := 14) hx hb rx2 dX11_readsSum_9 (by decide) (fun c6 => ?_) (fun c6 => ?_)
  · skip
    have L14 : ∀ (fu : Nat) (s_14 : xS) (H : Heap) (locs : List Loc) (ls : Array Slot), (xFr (fun k => k = 268 ∨ k = 277 ∨ k = 278) s0 s_14) → (IMn s_14) → (IMk s_14) → (IMo s_14) → (IR s_14) → (s_14 268 8 = s0 268 8) → (s_14 268 58 = s0 268 58) → (s_14 268 17 = s0 268 17) → (s_14 268 10 = s0 268 10) → (s_14 268 16 = s0 268 16) → (s_14 268 48 = s0 268 48) → (zER f9 n9 qb (s0 268 15) K9 (s0 268 14) (s0 277) (zE0 f9 n9 qb (s0 268 9) (s0 268 14) (s0 277)) false (s0 278) s_14) → (s0 268 9 + 1 ≤ s_14 268 9 ∧ s_14 268 13 ≤ 6) → (241 - s_14 268 9).toNat < fu → xW D g h0 s H locs s_14 → lv_has ls 3 [(0, .ref (h0 + 268)), (1, .int (xJ x1))] → W p l e { frames := 4, cells := 0, slots := 0, locals := 82 } s m args below meth c H locs 0 0 Q (F0 m 14 ls []) := by
      intro fu
      induction fu with
      | zero => intro s_14 H locs ls hF_14 q14_0 q14_1 q14_2 q14_3 q14_4 q14_5 q14_6 q14_7 q14_8 q14_9 v14_0 v14_1 hm; exact absurd hm (Nat.not_lt_zero _)
      | succ fu ih14 =>
        intro s_14 H locs ls hF_14 q14_0 q14_1 q14_2 q14_3 q14_4 q14_5 q14_6 q14_7 q14_8 q14_9 v14_0 v14_1 hm hW hl
        have hm_14 := fun (_ : Unit) => hm
        clear hm
        have b14 := v14_0.b
        have o14 := v14_0.o
        have r14 : 0 ≤ s_14 268 9 ∧ s_14 268 9 ≤ s_14 268 10 ∧ s_14 268 10 ≤ 240 := q14_3
        refine x_aload_n hx hb hl 0 rfl dX11_readsSum_14 rfl ?_
        refine x_goi (x_runV (As := []) hx hb hml hown hT hE hW hl.1 (Or.inl (by decide)) (so_268 h0 g _) rfl cf_X11_here wq1391 wq106 wq1389 (c_X11_here l D g T h0 s_14 hW.2.1 q14_0 q14_1 q14_2 q14_3) ⟨rfl, rfl, ⟨by decide, by decide⟩, ⟨by decide, by decide⟩⟩ rfl rfl (Nat.le_of_ble_eq_true rfl) dX11_readsSum_15) hW (fun x7 s8 H locs rx7 hp9 hW => ?_)
        obtain ⟨es8, hp9⟩ := hp9
        subst es8
        have ghp9 := hp9
        have C15 : x7 = zch f9 n9 (s_14 268 9) := by
          have q8 := ghp9.1
          rw [zhC_ch, show s_14 276 = s0 276 from hF_14 276 (by first | decide | omega), hf.1, show s_14 268 10 = n9 from by omega] at q8
          exact q8
        have L15 : zch f9 n9 (s_14 268 9) ≠ -1 → s_14 268 9 < n9 := zch_lt
        have Z15 := zsg_cs (zch f9 n9 (s_14 268 9))
        refine x_goi (x_runS (As := [.int (xJ x7)]) hx hb hml hown hT hE hW hl.1 cf_X11_sumSign wq1499 wq1498 (c_X11_sumSignK l D g T h0 s_14 hW.2.1 x7 rx7) ⟨rfl, rfl, ⟨by decide, by decide⟩, ⟨by decide, by decide⟩⟩ rfl rfl (Nat.le_of_ble_eq_true rfl) dX11_readsSum_18) hW (fun x10 s11 H locs rx10 hp12 hW => ?_)
        obtain ⟨es11, hp12⟩ := hp12
        subst es11
        have ghp12 := hp12
        refine lv_istore_n (lv' := [(2, .int (xJ x10)), (0, .ref (h0 + 268)), (1, .int (xJ x1))]) hx hb dX11_readsSum_21 rfl hl (by decide) rfl (fun ls hl => ?_)
        refine x_iload_n hx hb hl 0 rfl dX11_readsSum_22 rfl ?_
        refine x_iconst hx hb dX11_readsSum_23 ?_
        refine x_icmp_eq (tgt := 83) hx hb rx10 (by decide) dX11_readsSum_24 (by decide) (fun c13 => ?_) (fun c13 => ?_)
        · skip
          refine x_aload_n hx hb hl 1 rfl dX11_readsSum_83 rfl ?_
          refine x_goi (x_runV (As := []) hx hb hml hown hT hE hW hl.1 (Or.inl (by decide)) (so_268 h0 g _) rfl cf_X11_here wq1391 wq106 wq1389 (c_X11_here l D g T h0 s_14 hW.2.1 q14_0 q14_1 q14_2 q14_3) ⟨rfl, rfl, ⟨by decide, by decide⟩, ⟨by decide, by decide⟩⟩ rfl rfl (Nat.le_of_ble_eq_true rfl) dX11_readsSum_84) hW (fun x14 s15 H locs rx14 hp16 hW => ?_)
          obtain ⟨es15, hp16⟩ := hp16
          subst es15
          have ghp16 := hp16
          have C84 : x14 = zch f9 n9 (s_14 268 9) := by
            have q8 := ghp16.1
            rw [zhC_ch, show s_14 276 = s0 276 from hF_14 276 (by first | decide | omega), hf.1, show s_14 268 10 = n9 from by omega] at q8
            exact q8
          refine x_bipush hx hb dX11_readsSum_87 (by decide) ?_
          refine x_icmp_ne (tgt := 138) hx hb rx14 (by decide) dX11_readsSum_89 (by decide) (fun c17 => ?_) (fun c17 => ?_)
          · skip
            refine x_aload_n hx hb hl 1 rfl dX11_readsSum_138 rfl ?_
            refine x_iload_n hx hb hl 2 rfl dX11_readsSum_139 rfl ?_
            refine x_goi (x_runV (As := [.int (xJ x1)]) hx hb hml hown hT hE hW hl.1 (Or.inl (by decide)) (so_268 h0 g _) rfl cf_X11_hasOpenSum wq1511 wq124 wq1509 (c_X11_hasOpenSumK l D g T h0 s_14 hW.2.1 x1 rx1 f9 n9 qb K9 (s0 268 14) (s0 277) (zE0 f9 n9 qb (s0 268 9) (s0 268 14) (s0 277)) (s0 278) (by rw [show x1 = s0 268 15 from by omega]; exact v14_0) q14_0 q14_1 q14_2 q14_3) ⟨rfl, rfl, ⟨by decide, by decide⟩, ⟨by decide, by decide⟩⟩ rfl rfl (Nat.le_of_ble_eq_true rfl) dX11_readsSum_140) hW (fun x18 s19 H locs rx18 hp20 hW => ?_)
            obtain ⟨es19, hp20⟩ := hp20
            subst es19
            have ghp20 := hp20
            have H140 := ghp20
            rw [show x1 = s0 268 15 from by omega] at H140
            refine x_if_eq (tgt := 156) hx hb rx18 dX11_readsSum_143 (by decide) (fun c21 => ?_) (fun c21 => ?_)
            · skip
              refine x_aload_n hx hb hl 1 rfl dX11_readsSum_156 rfl ?_
              refine x_iconst hx hb dX11_readsSum_157 ?_
              refine x_gov (x_runV (As := [.int (xJ 1)]) hx hb hml hown hT hE hW hl.1 (Or.inl (by decide)) (so_268 h0 g _) rfl cf_X11_closesSums wq1503 wq122 wq1501 (c_X11_closesSumsK l D g T h0 s_14 hW.2.1 1 (by decide) f9 n9 qb (s0 268 15) K9 (s0 268 14) (s0 277) (zE0 f9 n9 qb (s0 268 9) (s0 268 14) (s0 277)) (s0 278) (by first | exact hf | exact ⟨by rw [hF_14 276 (by first | decide | omega)]; exact hf.1, by omega⟩) (v14_0) (Or.inr ⟨by omega, by omega⟩) q14_0 q14_1 q14_2 q14_3) ⟨rfl, rfl, ⟨by decide, by decide⟩, ⟨by decide, by decide⟩⟩ rfl rfl (Nat.le_of_ble_eq_true rfl) dX11_readsSum_158) hW (fun s23 H locs hp24 hW => ?_)
              obtain ⟨fs23, hp24⟩ := hp24
              have hF25 := hF_14.call fs23 (fun k h => by omega)
              have ghp24 := hp24.2
              have H158 := ghp24
              refine x_iconst hx hb dX11_readsSum_161 ?_
              rw [eQ]
              exact x_zret hx hb hr hlk hW (by omega) ⟨hF25, ⟨hp24.1.1, hp24.1.2.1, hp24.1.2.2.1, hp24.1.2.2.2.1, (hp24.1.2.2.2.2.1.trans q14_4), (hp24.1.2.2.2.2.2.1.trans q14_5), (hp24.1.2.2.2.2.2.2.1.trans q14_6), (hp24.1.2.2.2.2.2.2.2.2.1.trans q14_7), (hp24.1.2.2.2.2.2.2.2.2.2.2.1.trans q14_8), (hp24.1.2.2.2.2.2.2.2.2.2.2.2.1.trans q14_9), trivial⟩, by
                  have o9 := H158.1.o
                  have b9 := H158.1.b
                  have e := H158.1.fin (by omega) (by omega) (by rw [show s23 268 9 = s_14 268 9 from by omega]; omega)
                  exact Or.inr ⟨by omega, e.1, by rw [show s23 268 9 = s_14 268 9 from by omega]; omega, e.2, by have y := H158.1.2.2.1; rw [zls_0 _ e.2] at y; have y : s23 268 13 = qb + 0 := y; omega, H158.1.2.2.2.1, by omega, by omega, H158.1.1.1⟩⟩ dX11_readsSum_162
            refine x_aload_n hx hb hl 1 rfl dX11_readsSum_146 rfl ?_
            refine x_iconst hx hb dX11_readsSum_147 ?_
            refine x_aload_n hx hb hl 1 rfl dX11_readsSum_148 rfl ?_
            refine x_get (j := 9) (v := .int (xJ (s_14 268 9))) hx hb hown hT hE hW cls_X11 (Or.inl (by decide)) (so_268 h0 g _) (by decide) rfl wq1194 dX11_readsSum_149 ?_
            refine x_rd hW (fun x26 ex26 rx26 => ?_)
            have bx26 : 0 ≤ x26 ∧ x26 ≤ s_14 268 10 ∧ s_14 268 10 ≤ 240 := by rw [ex26]; exact q14_3
            have q27 : s_14 268 9 = x26 := ex26.symm
            refine x_goi (x_runV (As := [.int (xJ 1), .int (xJ x26)]) hx hb hml hown hT hE hW hl.1 (Or.inl (by decide)) (so_268 h0 g _) rfl cf_X11_wrongAt wq1401 wq107 wq1399 (c_X11_wrongAtK l D g T h0 s_14 hW.2.1 1 (by decide) x26 rx26 (by omega) q14_0 q14_1 q14_2 q14_3) ⟨rfl, rfl, ⟨by decide, by decide⟩, ⟨by decide, by decide⟩⟩ rfl rfl (Nat.le_of_ble_eq_true rfl) dX11_readsSum_152) hW (fun x28 s29 H locs rx28 hp30 hW => ?_)
            obtain ⟨fs29, hp30⟩ := hp30
            have hF31 := hF_14.call fs29 (fun k h => by omega)
            have ghp30 := hp30.2
            rw [eQ]
            exact x_zret hx hb hr hlk hW (by omega) ⟨hF31, ⟨hp30.1.1, hp30.1.2.1, hp30.1.2.2.1, hp30.1.2.2.2.1, (hp30.1.2.2.2.2.1.trans q14_4), (hp30.1.2.2.2.2.2.1.trans q14_5), (hp30.1.2.2.2.2.2.2.1.trans q14_6), (hp30.1.2.2.2.2.2.2.2.2.1.trans q14_7), (hp30.1.2.2.2.2.2.2.2.2.2.2.2.2.1.trans q14_8), (hp30.1.2.2.2.2.2.2.2.2.2.2.2.2.2.1.trans q14_9), trivial⟩, by
                have z := zEX.bad _ _ _ v14_0.1 (by omega) (by omega) (by omega)
                exact Or.inl ⟨by omega, by omega, by omega⟩⟩ dX11_readsSum_155
          refine x_aload_n hx hb hl 1 rfl dX11_readsSum_92 rfl ?_
          refine x_iload_n hx hb hl 2 rfl dX11_readsSum_93 rfl ?_
          refine x_goi (x_runV (As := [.int (xJ x1)]) hx hb hml hown hT hE hW hl.1 (Or.inl (by decide)) (so_268 h0 g _) rfl cf_X11_hasOpenSum wq1511 wq124 wq1509 (c_X11_hasOpenSumK l D g T h0 s_14 hW.2.1 x1 rx1 f9 n9 qb K9 (s0 268 14) (s0 277) (zE0 f9 n9 qb (s0 268 9) (s0 268 14) (s0 277)) (s0 278) (by rw [show x1 = s0 268 15 from by omega]; exact v14_0) q14_0 q14_1 q14_2 q14_3) ⟨rfl, rfl, ⟨by decide, by decide⟩, ⟨by decide, by decide⟩⟩ rfl rfl (Nat.le_of_ble_eq_true rfl) dX11_readsSum_94) hW (fun x32 s33 H locs rx32 hp34 hW => ?_)
          obtain ⟨es33, hp34⟩ := hp34
          subst es33
          have ghp34 := hp34
          have H94 := ghp34
          rw [show x1 = s0 268 15 from by omega] at H94
          refine x_if_eq (tgt := 138) hx hb rx32 dX11_readsSum_97 (by decide) (fun c35 => ?_) (fun c35 => ?_)
          · skip
            refine x_aload_n hx hb hl 1 rfl dX11_readsSum_138 rfl ?_
            refine x_iload_n hx hb hl 2 rfl dX11_readsSum_139 rfl ?_
            refine x_goi (x_runV (As := [.int (xJ x1)]) hx hb hml hown hT hE hW hl.1 (Or.inl (by decide)) (so_268 h0 g _) rfl cf_X11_hasOpenSum wq1511 wq124 wq1509 (c_X11_hasOpenSumK l D g T h0 s_14 hW.2.1 x1 rx1 f9 n9 qb K9 (s0 268 14) (s0 277) (zE0 f9 n9 qb (s0 268 9) (s0 268 14) (s0 277)) (s0 278) (by rw [show x1 = s0 268 15 from by omega]; exact v14_0) q14_0 q14_1 q14_2 q14_3) ⟨rfl, rfl, ⟨by decide, by decide⟩, ⟨by decide, by decide⟩⟩ rfl rfl (Nat.le_of_ble_eq_true rfl) dX11_readsSum_140) hW (fun x36 s37 H locs rx36 hp38 hW => ?_)
            obtain ⟨es37, hp38⟩ := hp38
            subst es37
            have ghp38 := hp38
            have H140 := ghp38
            rw [show x1 = s0 268 15 from by omega] at H140
            refine x_if_eq (tgt := 156) hx hb rx36 dX11_readsSum_143 (by decide) (fun c39 => ?_) (fun c39 => ?_)
            · skip
              refine x_aload_n hx hb hl 1 rfl dX11_readsSum_156 rfl ?_
              refine x_iconst hx hb dX11_readsSum_157 ?_
              refine x_gov (x_runV (As := [.int (xJ 1)]) hx hb hml hown hT hE hW hl.1 (Or.inl (by decide)) (so_268 h0 g _) rfl cf_X11_closesSums wq1503 wq122 wq1501 (c_X11_closesSumsK l D g T h0 s_14 hW.2.1 1 (by decide) f9 n9 qb (s0 268 15) K9 (s0 268 14) (s0 277) (zE0 f9 n9 qb (s0 268 9) (s0 268 14) (s0 277)) (s0 278) (by first | exact hf | exact ⟨by rw [hF_14 276 (by first | decide | omega)]; exact hf.1, by omega⟩) (v14_0) (Or.inr ⟨by omega, by omega⟩) q14_0 q14_1 q14_2 q14_3) ⟨rfl, rfl, ⟨by decide, by decide⟩, ⟨by decide, by decide⟩⟩ rfl rfl (Nat.le_of_ble_eq_true rfl) dX11_readsSum_158) hW (fun s41 H locs hp42 hW => ?_)
              obtain ⟨fs41, hp42⟩ := hp42
              have hF43 := hF_14.call fs41 (fun k h => by omega)
              have ghp42 := hp42.2
              have H158 := ghp42
              refine x_iconst hx hb dX11_readsSum_161 ?_
              rw [eQ]
              exact x_zret hx hb hr hlk hW (by omega) ⟨hF43, ⟨hp42.1.1, hp42.1.2.1, hp42.1.2.2.1, hp42.1.2.2.2.1, (hp42.1.2.2.2.2.1.trans q14_4), (hp42.1.2.2.2.2.2.1.trans q14_5), (hp42.1.2.2.2.2.2.2.1.trans q14_6), (hp42.1.2.2.2.2.2.2.2.2.1.trans q14_7), (hp42.1.2.2.2.2.2.2.2.2.2.2.1.trans q14_8), (hp42.1.2.2.2.2.2.2.2.2.2.2.2.1.trans q14_9), trivial⟩, by
                  have o9 := H158.1.o
                  have b9 := H158.1.b
                  have e := H158.1.fin (by omega) (by omega) (by rw [show s41 268 9 = s_14 268 9 from by omega]; omega)
                  exact Or.inr ⟨by omega, e.1, by rw [show s41 268 9 = s_14 268 9 from by omega]; omega, e.2, by have y := H158.1.2.2.1; rw [zls_0 _ e.2] at y; have y : s41 268 13 = qb + 0 := y; omega, H158.1.2.2.2.1, by omega, by omega, H158.1.1.1⟩⟩ dX11_readsSum_162
            refine x_aload_n hx hb hl 1 rfl dX11_readsSum_146 rfl ?_
            refine x_iconst hx hb dX11_readsSum_147 ?_
            refine x_aload_n hx hb hl 1 rfl dX11_readsSum_148 rfl ?_
            refine x_get (j := 9) (v := .int (xJ (s_14 268 9))) hx hb hown hT hE hW cls_X11 (Or.inl (by decide)) (so_268 h0 g _) (by decide) rfl wq1194 dX11_readsSum_149 ?_
            refine x_rd hW (fun x44 ex44 rx44 => ?_)
            have bx44 : 0 ≤ x44 ∧ x44 ≤ s_14 268 10 ∧ s_14 268 10 ≤ 240 := by rw [ex44]; exact q14_3
            have q45 : s_14 268 9 = x44 := ex44.symm
            refine x_goi (x_runV (As := [.int (xJ 1), .int (xJ x44)]) hx hb hml hown hT hE hW hl.1 (Or.inl (by decide)) (so_268 h0 g _) rfl cf_X11_wrongAt wq1401 wq107 wq1399 (c_X11_wrongAtK l D g T h0 s_14 hW.2.1 1 (by decide) x44 rx44 (by omega) q14_0 q14_1 q14_2 q14_3) ⟨rfl, rfl, ⟨by decide, by decide⟩, ⟨by decide, by decide⟩⟩ rfl rfl (Nat.le_of_ble_eq_true rfl) dX11_readsSum_152) hW (fun x46 s47 H locs rx46 hp48 hW => ?_)
            obtain ⟨fs47, hp48⟩ := hp48
            have hF49 := hF_14.call fs47 (fun k h => by omega)
            have ghp48 := hp48.2
            rw [eQ]
            exact x_zret hx hb hr hlk hW (by omega) ⟨hF49, ⟨hp48.1.1, hp48.1.2.1, hp48.1.2.2.1, hp48.1.2.2.2.1, (hp48.1.2.2.2.2.1.trans q14_4), (hp48.1.2.2.2.2.2.1.trans q14_5), (hp48.1.2.2.2.2.2.2.1.trans q14_6), (hp48.1.2.2.2.2.2.2.2.2.1.trans q14_7), (hp48.1.2.2.2.2.2.2.2.2.2.2.2.2.1.trans q14_8), (hp48.1.2.2.2.2.2.2.2.2.2.2.2.2.2.1.trans q14_9), trivial⟩, by
                have z := zEX.bad _ _ _ v14_0.1 (by omega) (by omega) (by omega)
                exact Or.inl ⟨by omega, by omega, by omega⟩⟩ dX11_readsSum_155
          refine x_aload_n hx hb hl 1 rfl dX11_readsSum_100 rfl ?_
          refine x_iconst hx hb dX11_readsSum_101 ?_
          refine x_gov (x_runV (As := [.int (xJ 1)]) hx hb hml hown hT hE hW hl.1 (Or.inl (by decide)) (so_268 h0 g _) rfl cf_X11_closesSums wq1503 wq122 wq1501 (c_X11_closesSumsK l D g T h0 s_14 hW.2.1 1 (by decide) f9 n9 qb (s0 268 15) K9 (s0 268 14) (s0 277) (zE0 f9 n9 qb (s0 268 9) (s0 268 14) (s0 277)) (s0 278) (by first | exact hf | exact ⟨by rw [hF_14 276 (by first | decide | omega)]; exact hf.1, by omega⟩) (v14_0) (Or.inr ⟨by omega, by omega⟩) q14_0 q14_1 q14_2 q14_3) ⟨rfl, rfl, ⟨by decide, by decide⟩, ⟨by decide, by decide⟩⟩ rfl rfl (Nat.le_of_ble_eq_true rfl) dX11_readsSum_102) hW (fun s51 H locs hp52 hW => ?_)
          obtain ⟨fs51, hp52⟩ := hp52
          have hF53 := hF_14.call fs51 (fun k h => by omega)
          have ghp52 := hp52.2
          have H102 := ghp52
          have b102 := H102.1.b
          have o102 := H102.1.o
          refine x_aload_n hx hb hl 1 rfl dX11_readsSum_105 rfl ?_
          refine x_aload_n hx hb hl 1 rfl dX11_readsSum_106 rfl ?_
          refine x_get (j := 15) (v := .int (xJ (s51 268 15))) hx hb hown hT hE hW cls_X11 (Or.inl (by decide)) (so_268 h0 g _) (by decide) rfl wq1200 dX11_readsSum_107 ?_
          refine x_rd hW (fun x54 ex54 rx54 => ?_)
          have q55 : s51 268 15 = x54 := ex54.symm
          refine x_iconst hx hb dX11_readsSum_110 ?_
          refine x_isub hx hb dX11_readsSum_111 ?_
          refine x_put (j := 15) hx hb hown hT hE hW cls_X11 (by decide) (fun σ => so_268 h0 g σ) (by decide) (st_X11_15 h0 s51 268 (x54 - 1)) (ln_X11_15 h0 _ _) wq1200 rfl rfl rfl (by omega) dX11_readsSum_112 (fun H locs s56 es56 hW => ?_)
          have q57 : IMn s56 := by rw [es56]; exact IMn_268 hp52.1.1 (by omega)
          have q58 : IMk s56 := by rw [es56]; exact IMk_268 hp52.1.2.1 (by omega)
          have q59 : IMo s56 := by rw [es56]; exact IMo_o (by unfold suIMo; first | decide | omega) hp52.1.2.2.1
          have q60 : IR s56 := by rw [es56]; exact IR_268 hp52.1.2.2.2.1 (by omega)
          have q61 : s56 268 8 = s0 268 8 := (show s56 268 8 = s51 268 8 from by rw [es56, xU_j _ _ (by decide)]).trans (hp52.1.2.2.2.2.1.trans q14_4)
          have q62 : s56 268 58 = s0 268 58 := (show s56 268 58 = s51 268 58 from by rw [es56, xU_j _ _ (by decide)]).trans (hp52.1.2.2.2.2.2.1.trans q14_5)
          have q63 : s56 268 17 = s0 268 17 := (show s56 268 17 = s51 268 17 from by rw [es56, xU_j _ _ (by decide)]).trans (hp52.1.2.2.2.2.2.2.1.trans q14_6)
          have q64 : s56 268 9 = s_14 268 9 := (show s56 268 9 = s51 268 9 from by rw [es56, xU_j _ _ (by decide)]).trans hp52.1.2.2.2.2.2.2.2.1
          have q65 : s56 268 10 = s0 268 10 := (show s56 268 10 = s51 268 10 from by rw [es56, xU_j _ _ (by decide)]).trans (hp52.1.2.2.2.2.2.2.2.2.1.trans q14_7)
          have q66 : s56 268 13 = s_14 268 13 := (show s56 268 13 = s51 268 13 from by rw [es56, xU_j _ _ (by decide)]).trans hp52.1.2.2.2.2.2.2.2.2.2.1
          have q67 : s56 268 16 = s0 268 16 := (show s56 268 16 = s51 268 16 from by rw [es56, xU_j _ _ (by decide)]).trans (hp52.1.2.2.2.2.2.2.2.2.2.2.1.trans q14_8)
          have q68 : s56 268 48 = s0 268 48 := (show s56 268 48 = s51 268 48 from by rw [es56, xU_j _ _ (by decide)]).trans (hp52.1.2.2.2.2.2.2.2.2.2.2.2.1.trans q14_9)
          have q69 : s56 268 15 = (x54 - 1) := by rw [es56, xU_s]
          have hF70 := hF53.put es56 (by omega)
          have E112 := es56
          refine x_aload_n hx hb hl 1 rfl dX11_readsSum_115 rfl ?_
          refine x_aload_n hx hb hl 1 rfl dX11_readsSum_116 rfl ?_
          refine x_get (j := 13) (v := .int (xJ (s56 268 13))) hx hb hown hT hE hW cls_X11 (Or.inl (by decide)) (so_268 h0 g _) (by decide) rfl wq1198 dX11_readsSum_117 ?_
          refine x_rd hW (fun x71 ex71 rx71 => ?_)
          have fx71 : x71 = s_14 268 13 := ex71.trans q66
          refine x_iconst hx hb dX11_readsSum_120 ?_
          refine x_isub hx hb dX11_readsSum_121 ?_
          refine x_put (j := 13) hx hb hown hT hE hW cls_X11 (by decide) (fun σ => so_268 h0 g σ) (by decide) (st_X11_13 h0 s56 268 (x71 - 1)) (ln_X11_13 h0 _ _) wq1198 rfl rfl rfl (by omega) dX11_readsSum_122 (fun H locs s72 es72 hW => ?_)
          have q73 : IMn s72 := by rw [es72]; exact IMn_268 q57 (by omega)
          have q74 : IMk s72 := by rw [es72]; exact IMk_268 q58 (by omega)
          have q75 : IMo s72 := by rw [es72]; exact IMo_o (by unfold suIMo; first | decide | omega) q59
          have q76 : IR s72 := by rw [es72]; exact IR_268 q60 (by omega)
          have q77 : s72 268 8 = s0 268 8 := (show s72 268 8 = s56 268 8 from by rw [es72, xU_j _ _ (by decide)]).trans q61
          have q78 : s72 268 58 = s0 268 58 := (show s72 268 58 = s56 268 58 from by rw [es72, xU_j _ _ (by decide)]).trans q62
          have q79 : s72 268 17 = s0 268 17 := (show s72 268 17 = s56 268 17 from by rw [es72, xU_j _ _ (by decide)]).trans q63
          have q80 : s72 268 9 = s_14 268 9 := (show s72 268 9 = s56 268 9 from by rw [es72, xU_j _ _ (by decide)]).trans q64
          have q81 : s72 268 10 = s0 268 10 := (show s72 268 10 = s56 268 10 from by rw [es72, xU_j _ _ (by decide)]).trans q65
          have q82 : s72 268 13 = (x71 - 1) := by rw [es72, xU_s]
          have q83 : s72 268 16 = s0 268 16 := (show s72 268 16 = s56 268 16 from by rw [es72, xU_j _ _ (by decide)]).trans q67
          have q84 : s72 268 48 = s0 268 48 := (show s72 268 48 = s56 268 48 from by rw [es72, xU_j _ _ (by decide)]).trans q68
          have q85 : s72 268 15 = (x54 - 1) := (show s72 268 15 = s56 268 15 from by rw [es72, xU_j _ _ (by decide)]).trans q69
          have hF86 := hF70.put es72 (by omega)
          have E122 := es72
          refine x_aload_n hx hb hl 1 rfl dX11_readsSum_125 rfl ?_
          refine x_aload_n hx hb hl 1 rfl dX11_readsSum_126 rfl ?_
          refine x_get (j := 9) (v := .int (xJ (s72 268 9))) hx hb hown hT hE hW cls_X11 (Or.inl (by decide)) (so_268 h0 g _) (by decide) rfl wq1194 dX11_readsSum_127 ?_
          refine x_rd hW (fun x87 ex87 rx87 => ?_)
          have bx87 : 0 ≤ x87 ∧ x87 ≤ s72 268 10 ∧ s72 268 10 ≤ 240 := by rw [ex87]; exact q76
          have fx87 : x87 = s_14 268 9 := ex87.trans q80
          refine x_iconst hx hb dX11_readsSum_130 ?_
          refine x_iadd hx hb dX11_readsSum_131 ?_
          refine x_put (j := 9) hx hb hown hT hE hW cls_X11 (by decide) (fun σ => so_268 h0 g σ) (by decide) (st_X11_9 h0 s72 268 (x87 + 1)) (ln_X11_9 h0 _ _) wq1194 rfl rfl rfl (by omega) dX11_readsSum_132 (fun H locs s88 es88 hW => ?_)
          have q89 : IMn s88 := by rw [es88]; exact IMn_268 q73 (by omega)
          have q90 : IMk s88 := by rw [es88]; exact IMk_268 q74 (by omega)
          have q91 : IMo s88 := by rw [es88]; exact IMo_o (by unfold suIMo; first | decide | omega) q75
          have q92 : IR s88 := by rw [es88]; exact IR_268 q76 (by omega)
          have q93 : s88 268 8 = s0 268 8 := (show s88 268 8 = s72 268 8 from by rw [es88, xU_j _ _ (by decide)]).trans q77
          have q94 : s88 268 58 = s0 268 58 := (show s88 268 58 = s72 268 58 from by rw [es88, xU_j _ _ (by decide)]).trans q78
          have q95 : s88 268 17 = s0 268 17 := (show s88 268 17 = s72 268 17 from by rw [es88, xU_j _ _ (by decide)]).trans q79
          have q96 : s88 268 9 = (x87 + 1) := by rw [es88, xU_s]
          have q97 : s88 268 10 = s0 268 10 := (show s88 268 10 = s72 268 10 from by rw [es88, xU_j _ _ (by decide)]).trans q81
          have q98 : s88 268 13 = (x71 - 1) := (show s88 268 13 = s72 268 13 from by rw [es88, xU_j _ _ (by decide)]).trans q82
          have q99 : s88 268 16 = s0 268 16 := (show s88 268 16 = s72 268 16 from by rw [es88, xU_j _ _ (by decide)]).trans q83
          have q100 : s88 268 48 = s0 268 48 := (show s88 268 48 = s72 268 48 from by rw [es88, xU_j _ _ (by decide)]).trans q84
          have q101 : s88 268 15 = (x54 - 1) := (show s88 268 15 = s72 268 15 from by rw [es88, xU_j _ _ (by decide)]).trans q85
          have hF102 := hF86.put es88 (by omega)
          have E132 := es88
          have X125 : zER f9 n9 qb (s0 268 15) K9 (s0 268 14) (s0 277) (zE0 f9 n9 qb (s0 268 9) (s0 268 14) (s0 277)) false (s0 278) s88 := H102.1.shut (by omega) (by omega) (by rw [show s51 268 9 = s_14 268 9 from by omega]; omega) (by omega) (by rw [E132, xU_j _ _ (by decide), E122, xU_j _ _ (by decide), E112, xU_j _ _ (by decide)]) (by rw [E132, xU_k _ _ _ (by first | decide | omega), E122, xU_k _ _ _ (by first | decide | omega), E112, xU_k _ _ _ (by first | decide | omega)]) (by omega) (by omega) (by rw [E132, xU_k _ _ _ (by first | decide | omega), E122, xU_k _ _ _ (by first | decide | omega), E112, xU_k _ _ _ (by first | decide | omega)])
          refine lv_goto (tgt := 163) hx hb dX11_readsSum_135 (by decide) ?_
          refine lv_goto (tgt := 14) hx hb dX11_readsSum_163 (by decide) ?_
          exact ih14 s88 H locs ls hF102 q89 q90 q91 q92 q93 q94 q95 q97 q99 q100 (by first | exact (H75.resolve_left (fun q => by omega)).2.1 | exact X125) (by omega) (by have hm := hm_14 (); omega) hW (lv_sub hl [1, 2] rfl)
        refine x_aload_n hx hb hl 1 rfl dX11_readsSum_27 rfl ?_
        refine x_iload_n hx hb hl 0 rfl dX11_readsSum_28 rfl ?_
        refine x_iconst hx hb dX11_readsSum_29 ?_
        refine x_icmp_ge (tgt := 37) hx hb rx10 (by decide) dX11_readsSum_30 (by decide) (fun c103 => ?_) (fun c103 => ?_)
        · skip
          refine x_iconst hx hb dX11_readsSum_37 ?_
          refine x_gov (x_runV (As := [.int (xJ 0)]) hx hb hml hown hT hE hW hl.1 (Or.inl (by decide)) (so_268 h0 g _) rfl cf_X11_closesSums wq1503 wq122 wq1501 (c_X11_closesSumsK l D g T h0 s_14 hW.2.1 0 (by decide) f9 n9 qb (s0 268 15) K9 (s0 268 14) (s0 277) (zE0 f9 n9 qb (s0 268 9) (s0 268 14) (s0 277)) (s0 278) (by first | exact hf | exact ⟨by rw [hF_14 276 (by first | decide | omega)]; exact hf.1, by omega⟩) (v14_0) (by rw [show s_14 268 9 = s_14 268 9 from by omega]; omega) q14_0 q14_1 q14_2 q14_3) ⟨rfl, rfl, ⟨by decide, by decide⟩, ⟨by decide, by decide⟩⟩ rfl rfl (Nat.le_of_ble_eq_true rfl) dX11_readsSum_38) hW (fun s105 H locs hp106 hW => ?_)
          obtain ⟨fs105, hp106⟩ := hp106
          have hF107 := hF_14.call fs105 (fun k h => by omega)
          have ghp106 := hp106.2
          have H38 := ghp106
          have b38 := H38.1.b
          have o38 := H38.1.o
          refine x_aload_n hx hb hl 1 rfl dX11_readsSum_41 rfl ?_
          refine x_get (j := 19) (v := .ref (h0 + 278)) hx hb hown hT hE hW cls_X11 (Or.inl (by decide)) (so_268 h0 g _) (by decide) rfl wq1204 dX11_readsSum_42 ?_
          refine x_aload_n hx hb hl 1 rfl dX11_readsSum_45 rfl ?_
          refine x_get (j := 15) (v := .int (xJ (s105 268 15))) hx hb hown hT hE hW cls_X11 (Or.inl (by decide)) (so_268 h0 g _) (by decide) rfl wq1200 dX11_readsSum_46 ?_
          refine x_rd hW (fun x108 ex108 rx108 => ?_)
          have q109 : s105 268 15 = x108 := ex108.symm
          refine lv_ldc (v := xJ 1048576) hx hb hown (hT _ wq1482) dX11_readsSum_49 ?_
          refine x_iload_n hx hb hl 0 rfl dX11_readsSum_51 rfl ?_
          refine x_imul hx hb dX11_readsSum_52 ?_
          refine x_iast hx hb hE hW (by decide) (fun σ => sa_278 h0 g σ) (by omega) (by decide) (by omega) dX11_readsSum_53 (fun H locs s110 es110 hW => ?_)
          have q111 : IMn s110 := by rw [es110]; exact IMn_o (by unfold suIMn; first | decide | omega) hp106.1.1
          have q112 : IMk s110 := by rw [es110]; exact IMk_o (by unfold suIMk; first | decide | omega) hp106.1.2.1
          have q113 : IMo s110 := by rw [es110]; exact IMo_o (by unfold suIMo; first | decide | omega) hp106.1.2.2.1
          have q114 : IR s110 := by rw [es110]; exact IR_o (by unfold suIR; first | decide | omega) hp106.1.2.2.2.1
          have q115 : s110 268 8 = s0 268 8 := (show s110 268 8 = s105 268 8 from by rw [es110, xU_k _ _ _ (by first | decide | omega)]).trans (hp106.1.2.2.2.2.1.trans q14_4)
          have q116 : s110 268 58 = s0 268 58 := (show s110 268 58 = s105 268 58 from by rw [es110, xU_k _ _ _ (by first | decide | omega)]).trans (hp106.1.2.2.2.2.2.1.trans q14_5)
          have q117 : s110 268 17 = s0 268 17 := (show s110 268 17 = s105 268 17 from by rw [es110, xU_k _ _ _ (by first | decide | omega)]).trans (hp106.1.2.2.2.2.2.2.1.trans q14_6)
          have q118 : s110 268 9 = s_14 268 9 := (show s110 268 9 = s105 268 9 from by rw [es110, xU_k _ _ _ (by first | decide | omega)]).trans hp106.1.2.2.2.2.2.2.2.1
          have q119 : s110 268 10 = s0 268 10 := (show s110 268 10 = s105 268 10 from by rw [es110, xU_k _ _ _ (by first | decide | omega)]).trans (hp106.1.2.2.2.2.2.2.2.2.1.trans q14_7)
          have q120 : s110 268 13 = s_14 268 13 := (show s110 268 13 = s105 268 13 from by rw [es110, xU_k _ _ _ (by first | decide | omega)]).trans hp106.1.2.2.2.2.2.2.2.2.2.1
          have q121 : s110 268 16 = s0 268 16 := (show s110 268 16 = s105 268 16 from by rw [es110, xU_k _ _ _ (by first | decide | omega)]).trans (hp106.1.2.2.2.2.2.2.2.2.2.2.1.trans q14_8)
          have q122 : s110 268 48 = s0 268 48 := (show s110 268 48 = s105 268 48 from by rw [es110, xU_k _ _ _ (by first | decide | omega)]).trans (hp106.1.2.2.2.2.2.2.2.2.2.2.2.1.trans q14_9)
          have q123 : s110 268 15 = x108 := (show s110 268 15 = s105 268 15 from by rw [es110, xU_k _ _ _ (by first | decide | omega)]).trans q109
          have hF124 := hF107.put es110 (by omega)
          have E53 := es110
          have I53 : x108 = s105 268 15 := by omega
          refine x_aload_n hx hb hl 1 rfl dX11_readsSum_54 rfl ?_
          refine x_aload_n hx hb hl 1 rfl dX11_readsSum_55 rfl ?_
          refine x_get (j := 15) (v := .int (xJ (s110 268 15))) hx hb hown hT hE hW cls_X11 (Or.inl (by decide)) (so_268 h0 g _) (by decide) rfl wq1200 dX11_readsSum_56 ?_
          refine x_rd hW (fun x125 ex125 rx125 => ?_)
          have fx125 : x125 = x108 := ex125.trans q123
          refine x_iconst hx hb dX11_readsSum_59 ?_
          refine x_iadd hx hb dX11_readsSum_60 ?_
          refine x_put (j := 15) hx hb hown hT hE hW cls_X11 (by decide) (fun σ => so_268 h0 g σ) (by decide) (st_X11_15 h0 s110 268 (x125 + 1)) (ln_X11_15 h0 _ _) wq1200 rfl rfl rfl (by omega) dX11_readsSum_61 (fun H locs s126 es126 hW => ?_)
          have q127 : IMn s126 := by rw [es126]; exact IMn_268 q111 (by omega)
          have q128 : IMk s126 := by rw [es126]; exact IMk_268 q112 (by omega)
          have q129 : IMo s126 := by rw [es126]; exact IMo_o (by unfold suIMo; first | decide | omega) q113
          have q130 : IR s126 := by rw [es126]; exact IR_268 q114 (by omega)
          have q131 : s126 268 8 = s0 268 8 := (show s126 268 8 = s110 268 8 from by rw [es126, xU_j _ _ (by decide)]).trans q115
          have q132 : s126 268 58 = s0 268 58 := (show s126 268 58 = s110 268 58 from by rw [es126, xU_j _ _ (by decide)]).trans q116
          have q133 : s126 268 17 = s0 268 17 := (show s126 268 17 = s110 268 17 from by rw [es126, xU_j _ _ (by decide)]).trans q117
          have q134 : s126 268 9 = s_14 268 9 := (show s126 268 9 = s110 268 9 from by rw [es126, xU_j _ _ (by decide)]).trans q118
          have q135 : s126 268 10 = s0 268 10 := (show s126 268 10 = s110 268 10 from by rw [es126, xU_j _ _ (by decide)]).trans q119
          have q136 : s126 268 13 = s_14 268 13 := (show s126 268 13 = s110 268 13 from by rw [es126, xU_j _ _ (by decide)]).trans q120
          have q137 : s126 268 16 = s0 268 16 := (show s126 268 16 = s110 268 16 from by rw [es126, xU_j _ _ (by decide)]).trans q121
          have q138 : s126 268 48 = s0 268 48 := (show s126 268 48 = s110 268 48 from by rw [es126, xU_j _ _ (by decide)]).trans q122
          have q139 : s126 268 15 = (x125 + 1) := by rw [es126, xU_s]
          have hF140 := hF124.put es126 (by omega)
          have E61 := es126
          refine x_aload_n hx hb hl 1 rfl dX11_readsSum_64 rfl ?_
          refine x_aload_n hx hb hl 1 rfl dX11_readsSum_65 rfl ?_
          refine x_get (j := 9) (v := .int (xJ (s126 268 9))) hx hb hown hT hE hW cls_X11 (Or.inl (by decide)) (so_268 h0 g _) (by decide) rfl wq1194 dX11_readsSum_66 ?_
          refine x_rd hW (fun x141 ex141 rx141 => ?_)
          have bx141 : 0 ≤ x141 ∧ x141 ≤ s126 268 10 ∧ s126 268 10 ≤ 240 := by rw [ex141]; exact q130
          have fx141 : x141 = s_14 268 9 := ex141.trans q134
          refine x_iconst hx hb dX11_readsSum_69 ?_
          refine x_iadd hx hb dX11_readsSum_70 ?_
          refine x_put (j := 9) hx hb hown hT hE hW cls_X11 (by decide) (fun σ => so_268 h0 g σ) (by decide) (st_X11_9 h0 s126 268 (x141 + 1)) (ln_X11_9 h0 _ _) wq1194 rfl rfl rfl (by omega) dX11_readsSum_71 (fun H locs s142 es142 hW => ?_)
          have q143 : IMn s142 := by rw [es142]; exact IMn_268 q127 (by omega)
          have q144 : IMk s142 := by rw [es142]; exact IMk_268 q128 (by omega)
          have q145 : IMo s142 := by rw [es142]; exact IMo_o (by unfold suIMo; first | decide | omega) q129
          have q146 : IR s142 := by rw [es142]; exact IR_268 q130 (by omega)
          have q147 : s142 268 8 = s0 268 8 := (show s142 268 8 = s126 268 8 from by rw [es142, xU_j _ _ (by decide)]).trans q131
          have q148 : s142 268 58 = s0 268 58 := (show s142 268 58 = s126 268 58 from by rw [es142, xU_j _ _ (by decide)]).trans q132
          have q149 : s142 268 17 = s0 268 17 := (show s142 268 17 = s126 268 17 from by rw [es142, xU_j _ _ (by decide)]).trans q133
          have q150 : s142 268 9 = (x141 + 1) := by rw [es142, xU_s]
          have q151 : s142 268 10 = s0 268 10 := (show s142 268 10 = s126 268 10 from by rw [es142, xU_j _ _ (by decide)]).trans q135
          have q152 : s142 268 13 = s_14 268 13 := (show s142 268 13 = s126 268 13 from by rw [es142, xU_j _ _ (by decide)]).trans q136
          have q153 : s142 268 16 = s0 268 16 := (show s142 268 16 = s126 268 16 from by rw [es142, xU_j _ _ (by decide)]).trans q137
          have q154 : s142 268 48 = s0 268 48 := (show s142 268 48 = s126 268 48 from by rw [es142, xU_j _ _ (by decide)]).trans q138
          have q155 : s142 268 15 = (x125 + 1) := (show s142 268 15 = s126 268 15 from by rw [es142, xU_j _ _ (by decide)]).trans q139
          have hF156 := hF140.put es142 (by omega)
          have E71 := es142
          have X71 : zER f9 n9 qb (s0 268 15) K9 (s0 268 14) (s0 277) (zE0 f9 n9 qb (s0 268 9) (s0 268 14) (s0 277)) true (s0 278) s142 := H38.1.sign (v := 1048576 * x10) (by rw [show s105 268 9 = s_14 268 9 from by omega]; omega) (by rw [show s105 268 9 = s_14 268 9 from by omega]; omega) (by omega) (by rw [E71, xU_j _ _ (by decide), E61, xU_j _ _ (by decide), E53, xU_k _ _ _ (by first | decide | omega)]) (by rw [E71, xU_k _ _ _ (by first | decide | omega), E61, xU_k _ _ _ (by first | decide | omega), E53, xU_k _ _ _ (by first | decide | omega)]) (by omega) (by omega) (by rw [E71, xU_k _ _ _ (by first | decide | omega), E61, xU_k _ _ _ (by first | decide | omega), E53, xU_xud, I53])
          refine x_aload_n hx hb hl 1 rfl dX11_readsSum_74 rfl ?_
          refine x_goi (x_runV (As := []) hx hb hml hown hT hE hW hl.1 (Or.inl (by decide)) (so_268 h0 g _) rfl cf_X11_readsFactor wq1476 wq117 wq1474 (c_X11_readsFactorK l D g T h0 s142 hW.2.1 f9 n9 qb (s0 268 15) K9 (s0 268 14) (s0 277) (zE0 f9 n9 qb (s0 268 9) (s0 268 14) (s0 277)) (s0 278) (by first | exact hf | exact ⟨by rw [hF156 276 (by first | decide | omega)]; exact hf.1, by omega⟩) (X71) (by have y := X71.o; omega) q143 q144 q145 q146) ⟨rfl, rfl, ⟨by decide, by decide⟩, ⟨by decide, by decide⟩⟩ rfl rfl (Nat.le_of_ble_eq_true rfl) dX11_readsSum_75) hW (fun x157 s158 H locs rx157 hp159 hW => ?_)
          obtain ⟨fs158, hp159⟩ := hp159
          have hF160 := hF156.call fs158 (fun k h => by omega)
          have ghp159 := hp159.2
          have H75 := ghp159
          refine x_if_ne (tgt := 163) hx hb rx157 dX11_readsSum_78 (by decide) (fun c161 => ?_) (fun c161 => ?_)
          · skip
            refine lv_goto (tgt := 14) hx hb dX11_readsSum_163 (by decide) ?_
            exact ih14 s158 H locs ls hF160 hp159.1.1 hp159.1.2.1 hp159.1.2.2.1 hp159.1.2.2.2.1 (hp159.1.2.2.2.2.1.trans q147) (hp159.1.2.2.2.2.2.1.trans q148) (hp159.1.2.2.2.2.2.2.1.trans q149) (hp159.1.2.2.2.2.2.2.2.1.trans q151) (hp159.1.2.2.2.2.2.2.2.2.1.trans q153) (hp159.1.2.2.2.2.2.2.2.2.2.1.trans q154) (by first | exact (H75.resolve_left (fun q => by omega)).2.1 | exact X125) (by omega) (by have hm := hm_14 (); omega) hW (lv_sub hl [1, 2] rfl)
          refine x_iconst hx hb dX11_readsSum_81 ?_
          rw [eQ]
          exact x_zret hx hb hr hlk hW (by omega) ⟨hF160, ⟨hp159.1.1, hp159.1.2.1, hp159.1.2.2.1, hp159.1.2.2.2.1, (hp159.1.2.2.2.2.1.trans q147), (hp159.1.2.2.2.2.2.1.trans q148), (hp159.1.2.2.2.2.2.2.1.trans q149), (hp159.1.2.2.2.2.2.2.2.1.trans q151), (hp159.1.2.2.2.2.2.2.2.2.1.trans q153), (hp159.1.2.2.2.2.2.2.2.2.2.1.trans q154), trivial⟩, H75.elim (fun q => Or.inl ⟨by omega, q.2⟩) (fun q => absurd q.1 (by omega))⟩ dX11_readsSum_82
        refine x_iconst hx hb dX11_readsSum_33 ?_
        refine lv_goto (tgt := 38) hx hb dX11_readsSum_34 (by decide) ?_
        refine x_gov (x_runV (As := [.int (xJ 1)]) hx hb hml hown hT hE hW hl.1 (Or.inl (by decide)) (so_268 h0 g _) rfl cf_X11_closesSums wq1503 wq122 wq1501 (c_X11_closesSumsK l D g T h0 s_14 hW.2.1 1 (by decide) f9 n9 qb (s0 268 15) K9 (s0 268 14) (s0 277) (zE0 f9 n9 qb (s0 268 9) (s0 268 14) (s0 277)) (s0 278) (by first | exact hf | exact ⟨by rw [hF_14 276 (by first | decide | omega)]; exact hf.1, by omega⟩) (v14_0) (by rw [show s_14 268 9 = s_14 268 9 from by omega]; omega) q14_0 q14_1 q14_2 q14_3) ⟨rfl, rfl, ⟨by decide, by decide⟩, ⟨by decide, by decide⟩⟩ rfl rfl (Nat.le_of_ble_eq_true rfl) dX11_readsSum_38) hW (fun s163 H locs hp164 hW => ?_)
        obtain ⟨fs163, hp164⟩ := hp164
        have hF165 := hF_14.call fs163 (fun k h => by omega)
        have ghp164 := hp164.2
        have H38 := ghp164
        have b38 := H38.1.b
        have o38 := H38.1.o
        refine x_aload_n hx hb hl 1 rfl dX11_readsSum_41 rfl ?_
        refine x_get (j := 19) (v := .ref (h0 + 278)) hx hb hown hT hE hW cls_X11 (Or.inl (by decide)) (so_268 h0 g _) (by decide) rfl wq1204 dX11_readsSum_42 ?_
        refine x_aload_n hx hb hl 1 rfl dX11_readsSum_45 rfl ?_
        refine x_get (j := 15) (v := .int (xJ (s163 268 15))) hx hb hown hT hE hW cls_X11 (Or.inl (by decide)) (so_268 h0 g _) (by decide) rfl wq1200 dX11_readsSum_46 ?_
        refine x_rd hW (fun x166 ex166 rx166 => ?_)
        have q167 : s163 268 15 = x166 := ex166.symm
        refine lv_ldc (v := xJ 1048576) hx hb hown (hT _ wq1482) dX11_readsSum_49 ?_
        refine x_iload_n hx hb hl 0 rfl dX11_readsSum_51 rfl ?_
        refine x_imul hx hb dX11_readsSum_52 ?_
        refine x_iast hx hb hE hW (by decide) (fun σ => sa_278 h0 g σ) (by omega) (by decide) (by omega) dX11_readsSum_53 (fun H locs s168 es168 hW => ?_)
        have q169 : IMn s168 := by rw [es168]; exact IMn_o (by unfold suIMn; first | decide | omega) hp164.1.1
        have q170 : IMk s168 := by rw [es168]; exact IMk_o (by unfold suIMk; first | decide | omega) hp164.1.2.1
        have q171 : IMo s168 := by rw [es168]; exact IMo_o (by unfold suIMo; first | decide | omega) hp164.1.2.2.1
        have q172 : IR s168 := by rw [es168]; exact IR_o (by unfold suIR; first | decide | omega) hp164.1.2.2.2.1
        have q173 : s168 268 8 = s0 268 8 := (show s168 268 8 = s163 268 8 from by rw [es168, xU_k _ _ _ (by first | decide | omega)]).trans (hp164.1.2.2.2.2.1.trans q14_4)
        have q174 : s168 268 58 = s0 268 58 := (show s168 268 58 = s163 268 58 from by rw [es168, xU_k _ _ _ (by first | decide | omega)]).trans (hp164.1.2.2.2.2.2.1.trans q14_5)
        have q175 : s168 268 17 = s0 268 17 := (show s168 268 17 = s163 268 17 from by rw [es168, xU_k _ _ _ (by first | decide | omega)]).trans (hp164.1.2.2.2.2.2.2.1.trans q14_6)
        have q176 : s168 268 9 = s_14 268 9 := (show s168 268 9 = s163 268 9 from by rw [es168, xU_k _ _ _ (by first | decide | omega)]).trans hp164.1.2.2.2.2.2.2.2.1
        have q177 : s168 268 10 = s0 268 10 := (show s168 268 10 = s163 268 10 from by rw [es168, xU_k _ _ _ (by first | decide | omega)]).trans (hp164.1.2.2.2.2.2.2.2.2.1.trans q14_7)
        have q178 : s168 268 13 = s_14 268 13 := (show s168 268 13 = s163 268 13 from by rw [es168, xU_k _ _ _ (by first | decide | omega)]).trans hp164.1.2.2.2.2.2.2.2.2.2.1
        have q179 : s168 268 16 = s0 268 16 := (show s168 268 16 = s163 268 16 from by rw [es168, xU_k _ _ _ (by first | decide | omega)]).trans (hp164.1.2.2.2.2.2.2.2.2.2.2.1.trans q14_8)
        have q180 : s168 268 48 = s0 268 48 := (show s168 268 48 = s163 268 48 from by rw [es168, xU_k _ _ _ (by first | decide | omega)]).trans (hp164.1.2.2.2.2.2.2.2.2.2.2.2.1.trans q14_9)
        have q181 : s168 268 15 = x166 := (show s168 268 15 = s163 268 15 from by rw [es168, xU_k _ _ _ (by first | decide | omega)]).trans q167
        have hF182 := hF165.put es168 (by omega)
        have E53 := es168
        have I53 : x166 = s163 268 15 := by omega
        refine x_aload_n hx hb hl 1 rfl dX11_readsSum_54 rfl ?_
        refine x_aload_n hx hb hl 1 rfl dX11_readsSum_55 rfl ?_
        refine x_get (j := 15) (v := .int (xJ (s168 268 15))) hx hb hown hT hE hW cls_X11 (Or.inl (by decide)) (so_268 h0 g _) (by decide) rfl wq1200 dX11_readsSum_56 ?_
        refine x_rd hW (fun x183 ex183 rx183 => ?_)
        have fx183 : x183 = x166 := ex183.trans q181
        refine x_iconst hx hb dX11_readsSum_59 ?_
        refine x_iadd hx hb dX11_readsSum_60 ?_
        refine x_put (j := 15) hx hb hown hT hE hW cls_X11 (by decide) (fun σ => so_268 h0 g σ) (by decide) (st_X11_15 h0 s168 268 (x183 + 1)) (ln_X11_15 h0 _ _) wq1200 rfl rfl rfl (by omega) dX11_readsSum_61 (fun H locs s184 es184 hW => ?_)
        have q185 : IMn s184 := by rw [es184]; exact IMn_268 q169 (by omega)
        have q186 : IMk s184 := by rw [es184]; exact IMk_268 q170 (by omega)
        have q187 : IMo s184 := by rw [es184]; exact IMo_o (by unfold suIMo; first | decide | omega) q171
        have q188 : IR s184 := by rw [es184]; exact IR_268 q172 (by omega)
        have q189 : s184 268 8 = s0 268 8 := (show s184 268 8 = s168 268 8 from by rw [es184, xU_j _ _ (by decide)]).trans q173
        have q190 : s184 268 58 = s0 268 58 := (show s184 268 58 = s168 268 58 from by rw [es184, xU_j _ _ (by decide)]).trans q174
        have q191 : s184 268 17 = s0 268 17 := (show s184 268 17 = s168 268 17 from by rw [es184, xU_j _ _ (by decide)]).trans q175
        have q192 : s184 268 9 = s_14 268 9 := (show s184 268 9 = s168 268 9 from by rw [es184, xU_j _ _ (by decide)]).trans q176
        have q193 : s184 268 10 = s0 268 10 := (show s184 268 10 = s168 268 10 from by rw [es184, xU_j _ _ (by decide)]).trans q177
        have q194 : s184 268 13 = s_14 268 13 := (show s184 268 13 = s168 268 13 from by rw [es184, xU_j _ _ (by decide)]).trans q178
        have q195 : s184 268 16 = s0 268 16 := (show s184 268 16 = s168 268 16 from by rw [es184, xU_j _ _ (by decide)]).trans q179
        have q196 : s184 268 48 = s0 268 48 := (show s184 268 48 = s168 268 48 from by rw [es184, xU_j _ _ (by decide)]).trans q180
        have q197 : s184 268 15 = (x183 + 1) := by rw [es184, xU_s]
        have hF198 := hF182.put es184 (by omega)
        have E61 := es184
        refine x_aload_n hx hb hl 1 rfl dX11_readsSum_64 rfl ?_
        refine x_aload_n hx hb hl 1 rfl dX11_readsSum_65 rfl ?_
        refine x_get (j := 9) (v := .int (xJ (s184 268 9))) hx hb hown hT hE hW cls_X11 (Or.inl (by decide)) (so_268 h0 g _) (by decide) rfl wq1194 dX11_readsSum_66 ?_
        refine x_rd hW (fun x199 ex199 rx199 => ?_)
        have bx199 : 0 ≤ x199 ∧ x199 ≤ s184 268 10 ∧ s184 268 10 ≤ 240 := by rw [ex199]; exact q188
        have fx199 : x199 = s_14 268 9 := ex199.trans q192
        refine x_iconst hx hb dX11_readsSum_69 ?_
        refine x_iadd hx hb dX11_readsSum_70 ?_
        refine x_put (j := 9) hx hb hown hT hE hW cls_X11 (by decide) (fun σ => so_268 h0 g σ) (by decide) (st_X11_9 h0 s184 268 (x199 + 1)) (ln_X11_9 h0 _ _) wq1194 rfl rfl rfl (by omega) dX11_readsSum_71 (fun H locs s200 es200 hW => ?_)
        have q201 : IMn s200 := by rw [es200]; exact IMn_268 q185 (by omega)
        have q202 : IMk s200 := by rw [es200]; exact IMk_268 q186 (by omega)
        have q203 : IMo s200 := by rw [es200]; exact IMo_o (by unfold suIMo; first | decide | omega) q187
        have q204 : IR s200 := by rw [es200]; exact IR_268 q188 (by omega)
        have q205 : s200 268 8 = s0 268 8 := (show s200 268 8 = s184 268 8 from by rw [es200, xU_j _ _ (by decide)]).trans q189
        have q206 : s200 268 58 = s0 268 58 := (show s200 268 58 = s184 268 58 from by rw [es200, xU_j _ _ (by decide)]).trans q190
        have q207 : s200 268 17 = s0 268 17 := (show s200 268 17 = s184 268 17 from by rw [es200, xU_j _ _ (by decide)]).trans q191
        have q208 : s200 268 9 = (x199 + 1) := by rw [es200, xU_s]
        have q209 : s200 268 10 = s0 268 10 := (show s200 268 10 = s184 268 10 from by rw [es200, xU_j _ _ (by decide)]).trans q193
        have q210 : s200 268 13 = s_14 268 13 := (show s200 268 13 = s184 268 13 from by rw [es200, xU_j _ _ (by decide)]).trans q194
        have q211 : s200 268 16 = s0 268 16 := (show s200 268 16 = s184 268 16 from by rw [es200, xU_j _ _ (by decide)]).trans q195
        have q212 : s200 268 48 = s0 268 48 := (show s200 268 48 = s184 268 48 from by rw [es200, xU_j _ _ (by decide)]).trans q196
        have q213 : s200 268 15 = (x183 + 1) := (show s200 268 15 = s184 268 15 from by rw [es200, xU_j _ _ (by decide)]).trans q197
        have hF214 := hF198.put es200 (by omega)
        have E71 := es200
        have X71 : zER f9 n9 qb (s0 268 15) K9 (s0 268 14) (s0 277) (zE0 f9 n9 qb (s0 268 9) (s0 268 14) (s0 277)) true (s0 278) s200 := H38.1.sign (v := 1048576 * x10) (by rw [show s163 268 9 = s_14 268 9 from by omega]; omega) (by rw [show s163 268 9 = s_14 268 9 from by omega]; omega) (by omega) (by rw [E71, xU_j _ _ (by decide), E61, xU_j _ _ (by decide), E53, xU_k _ _ _ (by first | decide | omega)]) (by rw [E71, xU_k _ _ _ (by first | decide | omega), E61, xU_k _ _ _ (by first | decide | omega), E53, xU_k _ _ _ (by first | decide | omega)]) (by omega) (by omega) (by rw [E71, xU_k _ _ _ (by first | decide | omega), E61, xU_k _ _ _ (by first | decide | omega), E53, xU_xud, I53])
        refine x_aload_n hx hb hl 1 rfl dX11_readsSum_74 rfl ?_
        refine x_goi (x_runV (As := []) hx hb hml hown hT hE hW hl.1 (Or.inl (by decide)) (so_268 h0 g _) rfl cf_X11_readsFactor wq1476 wq117 wq1474 (c_X11_readsFactorK l D g T h0 s200 hW.2.1 f9 n9 qb (s0 268 15) K9 (s0 268 14) (s0 277) (zE0 f9 n9 qb (s0 268 9) (s0 268 14) (s0 277)) (s0 278) (by first | exact hf | exact ⟨by rw [hF214 276 (by first | decide | omega)]; exact hf.1, by omega⟩) (X71) (by have y := X71.o; omega) q201 q202 q203 q204) ⟨rfl, rfl, ⟨by decide, by decide⟩, ⟨by decide, by decide⟩⟩ rfl rfl (Nat.le_of_ble_eq_true rfl) dX11_readsSum_75) hW (fun x215 s216 H locs rx215 hp217 hW => ?_)
        obtain ⟨fs216, hp217⟩ := hp217
        have hF218 := hF214.call fs216 (fun k h => by omega)
        have ghp217 := hp217.2
        have H75 := ghp217
        refine x_if_ne (tgt := 163) hx hb rx215 dX11_readsSum_78 (by decide) (fun c219 => ?_) (fun c219 => ?_)
        · skip
          refine lv_goto (tgt := 14) hx hb dX11_readsSum_163 (by decide) ?_
          exact ih14 s216 H locs ls hF218 hp217.1.1 hp217.1.2.1 hp217.1.2.2.1 hp217.1.2.2.2.1 (hp217.1.2.2.2.2.1.trans q205) (hp217.1.2.2.2.2.2.1.trans q206) (hp217.1.2.2.2.2.2.2.1.trans q207) (hp217.1.2.2.2.2.2.2.2.1.trans q209) (hp217.1.2.2.2.2.2.2.2.2.1.trans q211) (hp217.1.2.2.2.2.2.2.2.2.2.1.trans q212) (by first | exact (H75.resolve_left (fun q => by omega)).2.1 | exact X125) (by omega) (by have hm := hm_14 (); omega) hW (lv_sub hl [1, 2] rfl)
        refine x_iconst hx hb dX11_readsSum_81 ?_
        rw [eQ]
        exact x_zret hx hb hr hlk hW (by omega) ⟨hF218, ⟨hp217.1.1, hp217.1.2.1, hp217.1.2.2.1, hp217.1.2.2.2.1, (hp217.1.2.2.2.2.1.trans q205), (hp217.1.2.2.2.2.2.1.trans q206), (hp217.1.2.2.2.2.2.2.1.trans q207), (hp217.1.2.2.2.2.2.2.2.1.trans q209), (hp217.1.2.2.2.2.2.2.2.2.1.trans q211), (hp217.1.2.2.2.2.2.2.2.2.2.1.trans q212), trivial⟩, H75.elim (fun q => Or.inl ⟨by omega, q.2⟩) (fun q => absurd q.1 (by omega))⟩ dX11_readsSum_82
    exact L14 ((241 - s3 268 9 : Int).toNat + 1) s3 H locs ls hF5 hp4.1.1 hp4.1.2.1 hp4.1.2.2.1 hp4.1.2.2.2.1 (hp4.1.2.2.2.2.1.trans k268_8) (hp4.1.2.2.2.2.2.1.trans k268_58) (hp4.1.2.2.2.2.2.2.1.trans k268_17) (hp4.1.2.2.2.2.2.2.2.1.trans k268_10) (hp4.1.2.2.2.2.2.2.2.2.1.trans k268_16) (hp4.1.2.2.2.2.2.2.2.2.2.1.trans k268_48) ((H6.resolve_left (fun q => by omega)).2.1) (by omega) (Nat.lt_succ_self _) hW (lv_sub hl [1, 0] rfl)
  refine x_iconst hx hb dX11_readsSum_12 ?_
  rw [eQ]
  exact x_zret hx hb hr hlk hW (by omega) ⟨hF5, ⟨hp4.1.1, hp4.1.2.1, hp4.1.2.2.1, hp4.1.2.2.2.1, (hp4.1.2.2.2.2.1.trans k268_8), (hp4.1.2.2.2.2.2.1.trans k268_58), (hp4.1.2.2.2.2.2.2.1.trans k268_17), (hp4.1.2.2.2.2.2.2.2.1.trans k268_10), (hp4.1.2.2.2.2.2.2.2.2.1.trans k268_16), (hp4.1.2.2.2.2.2.2.2.2.2.1.trans k268_48), trivial⟩, H6.elim (fun q => Or.inl ⟨by omega, q.2⟩) (fun q => absurd q.1 (by omega))⟩ dX11_readsSum_13

