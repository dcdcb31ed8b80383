theorem xmulr {a b : Int} (ha : 0 ≤ a) (hb : 1 ≤ b ∧ b ≤ 9) : a ≤ a * b ∧ a * b ≤ 9 * a := by
  rcases (by omega : b = 1 ∨ b = 2 ∨ b = 3 ∨ b = 4 ∨ b = 5 ∨ b = 6 ∨ b = 7 ∨ b = 8 ∨ b = 9) with rfl | rfl | rfl | rfl | rfl | rfl | rfl | rfl | rfl <;> omega
/-- the reader of a walk's text -/
def zRW (σ : xS) : Prop := (0 ≤ σ 268 34 ∧ σ 268 34 ≤ 60) ∧ (0 ≤ σ 268 35 ∧ σ 268 35 ≤ 2) ∧ ∀ j, 0 ≤ j → j < σ 268 35 → (0 ≤ σ 291 j ∧ σ 291 j ≤ σ 268 34) ∧ (1 ≤ σ 292 j ∧ σ 292 j ≤ 9)
theorem zRW.new {σ : xS} (h4 : σ 268 34 = 0) (h5 : σ 268 35 = 0) : zRW σ := ⟨by omega, by omega, fun j j1 j2 => by omega⟩
theorem zRW.push {σ τ : xS} {v : Int} (h : zRW σ) (h5 : τ 268 35 = σ 268 35 + 1 ∧ σ 268 35 < 2) (h4 : τ 268 34 = σ 268 34) (h1 : τ 291 = xud (σ 291) (σ 268 35) (σ 268 34)) (h2 : τ 292 = xud (σ 292) (σ 268 35) v) (hv : 1 ≤ v ∧ v ≤ 9) : zRW τ := by
  obtain ⟨q1, q2, q3⟩ := h
  refine ⟨by omega, by omega, fun j j1 j2 => ?_⟩
  rw [h1, h2, h4]
  by_cases e : j = σ 268 35
  · rw [e, xud_s, xud_s]; omega
  · rw [xud_o _ _ e, xud_o _ _ e]; exact q3 j j1 (by omega)
theorem zRW.f {σ τ : xS} (h : zRW σ) (h5 : 0 ≤ τ 268 35 ∧ τ 268 35 ≤ σ 268 35) (h4 : σ 268 34 ≤ τ 268 34 ∧ τ 268 34 ≤ 60) (h1 : τ 291 = σ 291) (h2 : τ 292 = σ 292) : zRW τ := by
  obtain ⟨q1, q2, q3⟩ := h
  refine ⟨by omega, by omega, fun j j1 j2 => ?_⟩
  rw [h1, h2]
  have := q3 j j1 (by omega)
  omega
set_option maxHeartbeats 4000000 in
set_option maxRecDepth 100000 in
theorem c_X11_readsRow (l : Launch) (D : va_G) (g : xG) (T : Nat × Nat × Nat) (h0 : Nat) (s0 : xS) (hσ : xRR s0) (y : Int) (ry : xR y) (hy : 0 ≤ y ∧ y < 10) (p0 : IMn s0) (p1 : IMk s0) (p2 : IMo s0) (p3 : IR s0) : Met l yX11_readsRow (xws yX11_readsRow cX11_readsRow 6 (some .boolean)) { frames := 2, cells := 0, slots := 0, locals := 42 } (xP [.ref (h0 + 268), .int (xJ y)] D g T h0 s0) (xQi D g h0 (fun r τ => xFr (fun k => k = 268 ∨ k = 288) s0 τ ∧ (((IMn τ) ∧ (IMk τ) ∧ (IMo τ) ∧ (IR τ) ∧ (τ 268 8 = s0 268 8) ∧ (τ 268 58 = s0 268 58) ∧ (τ 268 10 = s0 268 10) ∧ (τ 268 14 = s0 268 14) ∧ (τ 268 15 = s0 268 15) ∧ (τ 268 16 = s0 268 16) ∧ (τ 268 34 = s0 268 34) ∧ (τ 268 35 = s0 268 35) ∧ (τ 268 36 = s0 268 36) ∧ (τ 268 37 = s0 268 37) ∧ True) ∧ (0 ≤ r ∧ r ≤ 1)))) 0 0 (xA h0) := by
  refine x_met hσ (by decide) (Nat.le_of_ble_eq_true rfl) ?_
  intro p e s m args below meth c hx hb hr hml hown hT hlk hnm hE hW ls hl
  have hl : lv_has ls 6 [(0, .ref (h0 + 268)), (1, .int (xJ y))] := hl
  obtain ⟨Q, eQ⟩ : ∃ Q, Q = MQ below (xQi D g h0 (fun r τ => xFr (fun k => k = 268 ∨ k = 288) s0 τ ∧ (((IMn τ) ∧ (IMk τ) ∧ (IMo τ) ∧ (IR τ) ∧ (τ 268 8 = s0 268 8) ∧ (τ 268 58 = s0 268 58) ∧ (τ 268 10 = s0 268 10) ∧ (τ 268 14 = s0 268 14) ∧ (τ 268 15 = s0 268 15) ∧ (τ 268 16 = s0 268 16) ∧ (τ 268 34 = s0 268 34) ∧ (τ 268 35 = s0 268 35) ∧ (τ 268 36 = s0 268 36) ∧ (τ 268 37 = s0 268 37) ∧ True) ∧ (0 ≤ r ∧ r ≤ 1)))) args s 0 0 (xA h0) := ⟨_, rfl⟩
  rw [← eQ]
  generalize hHe : ([] : List Loc) = locs at hW ⊢
  obtain ⟨H, eH⟩ : ∃ H, H = s.heap := ⟨_, rfl⟩
  rw [← eH] at hW ⊢
  have hF : xFr (fun k => k = 268 ∨ k = 288) s0 s0 := xFr.rf
  have k268_8 : s0 268 8 = s0 268 8 := rfl
  have k268_58 : s0 268 58 = s0 268 58 := rfl
  have k268_10 : s0 268 10 = s0 268 10 := rfl
  have k268_14 : s0 268 14 = s0 268 14 := rfl
  have k268_15 : s0 268 15 = s0 268 15 := rfl
  have k268_16 : s0 268 16 = s0 268 16 := rfl
  have k268_34 : s0 268 34 = s0 268 34 := rfl
  have k268_35 : s0 268 35 = s0 268 35 := rfl
  have k268_36 : s0 268 36 = s0 268 36 := rfl
  have k268_37 : s0 268 37 = s0 268 37 := rfl
  refine x_iconst hx hb dX11_readsRow_0 ?_
  refine lv_istore_n (lv' := [(2, .int (xJ 0)), (0, .ref (h0 + 268)), (1, .int (xJ y))]) hx hb dX11_readsRow_1 rfl hl (by decide) rfl (fun ls hl => ?_)
  have L2 : ∀ (fu : Nat) (i2_2 : Int) (s_2 : xS) (H : Heap) (locs : List Loc) (ls : Array Slot), (xR i2_2) → (xFr (fun k => k = 268 ∨ k = 288) s0 s_2) → (IMn s_2) → (IMk s_2) → (IMo s_2) → (IR s_2) → (s_2 268 8 = s0 268 8) → (s_2 268 58 = s0 268 58) → (s_2 268 10 = s0 268 10) → (s_2 268 14 = s0 268 14) → (s_2 268 15 = s0 268 15) → (s_2 268 16 = s0 268 16) → (s_2 268 34 = s0 268 34) → (s_2 268 35 = s0 268 35) → (s_2 268 36 = s0 268 36) → (s_2 268 37 = s0 268 37) → (0 ≤ i2_2 ∧ i2_2 ≤ 10) → (10 - i2_2).toNat < fu → xW D g h0 s H locs s_2 → lv_has ls 6 [(0, .ref (h0 + 268)), (1, .int (xJ y)), (2, .int (xJ i2_2))] → W p l e { frames := 2, cells := 0, slots := 0, locals := 42 } s m args below meth c H locs 0 0 Q (F0 m 2 ls []) := by
    intro fu
    induction fu with
    | zero => intro i2_2 s_2 H locs ls ri2_2 hF_2 q2_0 q2_1 q2_2 q2_3 q2_4 q2_5 q2_6 q2_7 q2_8 q2_9 q2_10 q2_11 q2_12 q2_13 v2_0 hm; exact absurd hm (Nat.not_lt_zero _)
    | succ fu ih2 =>
      intro i2_2 s_2 H locs ls ri2_2 hF_2 q2_0 q2_1 q2_2 q2_3 q2_4 q2_5 q2_6 q2_7 q2_8 q2_9 q2_10 q2_11 q2_12 q2_13 v2_0 hm hW hl
      refine x_iload_n hx hb hl 2 rfl dX11_readsRow_2 rfl ?_
      refine x_bipush hx hb dX11_readsRow_3 (by decide) ?_
      refine x_icmp_ge (tgt := 202) hx hb ri2_2 (by decide) dX11_readsRow_5 (by decide) (fun c1 => ?_) (fun c1 => ?_)
      · skip
        refine x_aload_n hx hb hl 0 rfl dX11_readsRow_202 rfl ?_
        refine x_goi (x_runV (As := []) hx hb hml hown hT hE hW hl.1 (Or.inl (by decide)) (so_268 h0 g _) rfl cf_X11_here wq1391 wq106 wq1389 (c_X11_here l D g T h0 s_2 hW.2.1 q2_0 q2_1 q2_2 q2_3) ⟨rfl, rfl, ⟨by decide, by decide⟩, ⟨by decide, by decide⟩⟩ rfl rfl (Nat.le_of_ble_eq_true rfl) dX11_readsRow_203) hW (fun x2 s3 H locs rx2 hp4 hW => ?_)
        obtain ⟨es3, hp4⟩ := hp4
        subst es3
        have ghp4 := hp4
        refine x_goi (x_runS (As := [.int (xJ x2)]) hx hb hml hown hT hE hW hl.1 cf_X11_isSpotSign wq1394 wq1393 (c_X11_isSpotSign l D g T h0 s_2 hW.2.1 x2 rx2 (by omega)) ⟨rfl, rfl, ⟨by decide, by decide⟩, ⟨by decide, by decide⟩⟩ rfl rfl (Nat.le_of_ble_eq_true rfl) dX11_readsRow_206) hW (fun x5 s6 H locs rx5 hp7 hW => ?_)
        obtain ⟨es6, hp7⟩ := hp7
        subst es6
        have ghp7 := hp7
        have J222 : ∀ (H : Heap) (locs : List Loc) (ls : Array Slot), xW D g h0 s H locs s_2 → lv_has ls 6 [(0, .ref (h0 + 268))] → W p l e { frames := 2, cells := 0, slots := 0, locals := 42 } s m args below meth c H locs 0 0 Q (F0 m 222 ls []) := by
          intro H locs ls  hW hl
          refine x_aload_n hx hb hl 0 rfl dX11_readsRow_222 rfl ?_
          refine x_bipush hx hb dX11_readsRow_223 (by decide) ?_
          refine x_aload_n hx hb hl 0 rfl dX11_readsRow_225 rfl ?_
          refine x_get (j := 9) (v := .int (xJ (s_2 268 9))) hx hb hown hT hE hW cls_X11 (Or.inl (by decide)) (so_268 h0 g _) (by decide) rfl wq1194 dX11_readsRow_226 ?_
          refine x_rd hW (fun x8 ex8 rx8 => ?_)
          have bx8 : 0 ≤ x8 ∧ x8 ≤ s_2 268 10 ∧ s_2 268 10 ≤ 240 := by rw [ex8]; exact q2_3
          refine x_goi (x_runV (As := [.int (xJ 6), .int (xJ x8)]) hx hb hml hown hT hE hW hl.1 (Or.inl (by decide)) (so_268 h0 g _) rfl cf_X11_wrongAt wq1401 wq107 wq1399 (c_X11_wrongAt l D g T h0 s_2 hW.2.1 6 (by decide) x8 rx8 q2_0 q2_1 q2_2 q2_3) ⟨rfl, rfl, ⟨by decide, by decide⟩, ⟨by decide, by decide⟩⟩ rfl rfl (Nat.le_of_ble_eq_true rfl) dX11_readsRow_229) hW (fun x9 s10 H locs rx9 hp11 hW => ?_)
          obtain ⟨fs10, hp11⟩ := hp11
          have hF12 := hF_2.call fs10 (fun k h => by omega)
          have ghp11 := hp11.2
          refine x_if_eq (tgt := 239) hx hb rx9 dX11_readsRow_232 (by decide) (fun c13 => ?_) (fun c13 => ?_)
          · skip
            refine x_iconst hx hb dX11_readsRow_239 ?_
            rw [eQ]
            exact x_zret hx hb hr hlk hW (by omega) ⟨hF12, ⟨hp11.1.1, hp11.1.2.1, hp11.1.2.2.1, hp11.1.2.2.2.1, (hp11.1.2.2.2.2.1.trans q2_4), (hp11.1.2.2.2.2.2.1.trans q2_5), (hp11.1.2.2.2.2.2.2.2.1.trans q2_6), (hp11.1.2.2.2.2.2.2.2.2.1.trans q2_7), (hp11.1.2.2.2.2.2.2.2.2.2.1.trans q2_8), (hp11.1.2.2.2.2.2.2.2.2.2.2.1.trans q2_9), (hp11.1.2.2.2.2.2.2.2.2.2.2.2.1.trans q2_10), (hp11.1.2.2.2.2.2.2.2.2.2.2.2.2.1.trans q2_11), (hp11.1.2.2.2.2.2.2.2.2.2.2.2.2.2.1.trans q2_12), (hp11.1.2.2.2.2.2.2.2.2.2.2.2.2.2.2.1.trans q2_13), trivial⟩, by omega⟩ dX11_readsRow_240
          refine x_iconst hx hb dX11_readsRow_235 ?_
          refine lv_goto (tgt := 240) hx hb dX11_readsRow_236 (by decide) ?_
          rw [eQ]
          exact x_zret hx hb hr hlk hW (by omega) ⟨hF12, ⟨hp11.1.1, hp11.1.2.1, hp11.1.2.2.1, hp11.1.2.2.2.1, (hp11.1.2.2.2.2.1.trans q2_4), (hp11.1.2.2.2.2.2.1.trans q2_5), (hp11.1.2.2.2.2.2.2.2.1.trans q2_6), (hp11.1.2.2.2.2.2.2.2.2.1.trans q2_7), (hp11.1.2.2.2.2.2.2.2.2.2.1.trans q2_8), (hp11.1.2.2.2.2.2.2.2.2.2.2.1.trans q2_9), (hp11.1.2.2.2.2.2.2.2.2.2.2.2.1.trans q2_10), (hp11.1.2.2.2.2.2.2.2.2.2.2.2.2.1.trans q2_11), (hp11.1.2.2.2.2.2.2.2.2.2.2.2.2.2.1.trans q2_12), (hp11.1.2.2.2.2.2.2.2.2.2.2.2.2.2.2.1.trans q2_13), trivial⟩, by omega⟩ dX11_readsRow_240
        refine x_if_ne (tgt := 222) hx hb rx5 dX11_readsRow_209 (by decide) (fun c14 => ?_) (fun c14 => ?_)
        · skip
          exact J222 H locs ls  hW (lv_sub hl [0] rfl)
        refine x_aload_n hx hb hl 0 rfl dX11_readsRow_212 rfl ?_
        refine x_goi (x_runV (As := []) hx hb hml hown hT hE hW hl.1 (Or.inl (by decide)) (so_268 h0 g _) rfl cf_X11_here wq1391 wq106 wq1389 (c_X11_here l D g T h0 s_2 hW.2.1 q2_0 q2_1 q2_2 q2_3) ⟨rfl, rfl, ⟨by decide, by decide⟩, ⟨by decide, by decide⟩⟩ rfl rfl (Nat.le_of_ble_eq_true rfl) dX11_readsRow_213) hW (fun x15 s16 H locs rx15 hp17 hW => ?_)
        obtain ⟨es16, hp17⟩ := hp17
        subst es16
        have ghp17 := hp17
        refine x_goi (x_runS (As := [.int (xJ x15)]) hx hb hml hown hT hE hW hl.1 cf_X11_isTimes wq1397 wq1396 (c_X11_isTimes l D g T h0 s_2 hW.2.1 x15 rx15 (by omega)) ⟨rfl, rfl, ⟨by decide, by decide⟩, ⟨by decide, by decide⟩⟩ rfl rfl (Nat.le_of_ble_eq_true rfl) dX11_readsRow_216) hW (fun x18 s19 H locs rx18 hp20 hW => ?_)
        obtain ⟨es19, hp20⟩ := hp20
        subst es19
        have ghp20 := hp20
        refine x_if_eq (tgt := 235) hx hb rx18 dX11_readsRow_219 (by decide) (fun c21 => ?_) (fun c21 => ?_)
        · skip
          refine x_iconst hx hb dX11_readsRow_235 ?_
          refine lv_goto (tgt := 240) hx hb dX11_readsRow_236 (by decide) ?_
          rw [eQ]
          exact x_zret hx hb hr hlk hW (by omega) ⟨hF_2, ⟨q2_0, q2_1, q2_2, q2_3, q2_4, q2_5, q2_6, q2_7, q2_8, q2_9, q2_10, q2_11, q2_12, q2_13, trivial⟩, by omega⟩ dX11_readsRow_240
        exact J222 H locs ls  hW (lv_sub hl [0] rfl)
      refine x_aload_n hx hb hl 0 rfl dX11_readsRow_8 rfl ?_
      refine x_goi (x_runV (As := []) hx hb hml hown hT hE hW hl.1 (Or.inl (by decide)) (so_268 h0 g _) rfl cf_X11_here wq1391 wq106 wq1389 (c_X11_here l D g T h0 s_2 hW.2.1 q2_0 q2_1 q2_2 q2_3) ⟨rfl, rfl, ⟨by decide, by decide⟩, ⟨by decide, by decide⟩⟩ rfl rfl (Nat.le_of_ble_eq_true rfl) dX11_readsRow_9) hW (fun x22 s23 H locs rx22 hp24 hW => ?_)
      obtain ⟨es23, hp24⟩ := hp24
      subst es23
      have ghp24 := hp24
      refine lv_istore_n (lv' := [(3, .int (xJ x22)), (0, .ref (h0 + 268)), (1, .int (xJ y)), (2, .int (xJ i2_2))]) hx hb dX11_readsRow_12 rfl hl (by decide) rfl (fun ls hl => ?_)
      refine x_iload_n hx hb hl 0 rfl dX11_readsRow_13 rfl ?_
      refine x_goi (x_runS (As := [.int (xJ x22)]) hx hb hml hown hT hE hW hl.1 cf_X11_isSpotSign wq1394 wq1393 (c_X11_isSpotSign l D g T h0 s_2 hW.2.1 x22 rx22 (by omega)) ⟨rfl, rfl, ⟨by decide, by decide⟩, ⟨by decide, by decide⟩⟩ rfl rfl (Nat.le_of_ble_eq_true rfl) dX11_readsRow_14) hW (fun x25 s26 H locs rx25 hp27 hW => ?_)
      obtain ⟨es26, hp27⟩ := hp27
      subst es26
      have ghp27 := hp27
      have J37 : ∀ (H : Heap) (locs : List Loc) (ls : Array Slot), (s_2 268 9 < s_2 268 10) → xW D g h0 s H locs s_2 → lv_has ls 6 [(0, .ref (h0 + 268)), (1, .int (xJ y)), (2, .int (xJ i2_2)), (3, .int (xJ x22))] → W p l e { frames := 2, cells := 0, slots := 0, locals := 42 } s m args below meth c H locs 0 0 Q (F0 m 37 ls []) := by
        intro H locs ls v37_0 hW hl
        refine x_iload_n hx hb hl 3 rfl dX11_readsRow_37 rfl ?_
        refine x_bipush hx hb dX11_readsRow_38 (by decide) ?_
        have J63 : ∀ (t0_63 : Int) (H : Heap) (locs : List Loc) (ls : Array Slot), (xR t0_63) → (1 ≤ t0_63 ∧ t0_63 ≤ 10) → xW D g h0 s H locs s_2 → lv_has ls 6 [(0, .ref (h0 + 268)), (1, .int (xJ y)), (2, .int (xJ i2_2))] → W p l e { frames := 2, cells := 0, slots := 0, locals := 42 } s m args below meth c H locs 0 0 Q (F0 m 63 ls [.int (xJ t0_63)]) := by
          intro t0_63 H locs ls rt0_63 v63_0 hW hl
          refine lv_istore (lv' := [(4, .int (xJ t0_63)), (0, .ref (h0 + 268)), (1, .int (xJ y)), (2, .int (xJ i2_2))]) hx hb dX11_readsRow_63 hl (by decide) rfl (fun ls hl => ?_)
          refine x_iload_n hx hb hl 3 rfl dX11_readsRow_65 rfl ?_
          refine x_iload hx hb hl 0 rfl dX11_readsRow_66 ?_
          refine x_iadd hx hb dX11_readsRow_68 ?_
          refine x_bipush hx hb dX11_readsRow_69 (by decide) ?_
          refine x_icmp_le (tgt := 85) hx hb (by omega) (by decide) dX11_readsRow_71 (by decide) (fun c28 => ?_) (fun c28 => ?_)
          · skip
            refine x_iload hx hb hl 0 rfl dX11_readsRow_85 ?_
            refine x_iconst hx hb dX11_readsRow_87 ?_
            have J101 : ∀ (s_101 : xS) (H : Heap) (locs : List Loc) (ls : Array Slot), (xFr (fun k => k = 268 ∨ k = 288) s0 s_101) → (IMn s_101) → (IMk s_101) → (IMo s_101) → (IR s_101) → (s_101 268 8 = s0 268 8) → (s_101 268 58 = s0 268 58) → (s_101 268 10 = s0 268 10) → (s_101 268 14 = s0 268 14) → (s_101 268 15 = s0 268 15) → (s_101 268 16 = s0 268 16) → (s_101 268 34 = s0 268 34) → (s_101 268 35 = s0 268 35) → (s_101 268 36 = s0 268 36) → (s_101 268 37 = s0 268 37) → xW D g h0 s H locs s_101 → lv_has ls 6 [(0, .ref (h0 + 268)), (1, .int (xJ y)), (2, .int (xJ i2_2)), (4, .int (xJ t0_63))] → W p l e { frames := 2, cells := 0, slots := 0, locals := 42 } s m args below meth c H locs 0 0 Q (F0 m 101 ls []) := by
              intro s_101 H locs ls hF_101 q101_0 q101_1 q101_2 q101_3 q101_4 q101_5 q101_6 q101_7 q101_8 q101_9 q101_10 q101_11 q101_12 q101_13 hW hl
              refine x_aload_n hx hb hl 0 rfl dX11_readsRow_101 rfl ?_
              refine x_goi (x_runV (As := []) hx hb hml hown hT hE hW hl.1 (Or.inl (by decide)) (so_268 h0 g _) rfl cf_X11_here wq1391 wq106 wq1389 (c_X11_here l D g T h0 s_101 hW.2.1 q101_0 q101_1 q101_2 q101_3) ⟨rfl, rfl, ⟨by decide, by decide⟩, ⟨by decide, by decide⟩⟩ rfl rfl (Nat.le_of_ble_eq_true rfl) dX11_readsRow_102) hW (fun x29 s30 H locs rx29 hp31 hW => ?_)
              obtain ⟨es30, hp31⟩ := hp31
              subst es30
              have ghp31 := hp31
              refine lv_istore_n (lv' := [(3, .int (xJ x29)), (0, .ref (h0 + 268)), (1, .int (xJ y)), (2, .int (xJ i2_2)), (4, .int (xJ t0_63))]) hx hb dX11_readsRow_105 rfl hl (by decide) rfl (fun ls hl => ?_)
              refine x_iload_n hx hb hl 0 rfl dX11_readsRow_106 rfl ?_
              refine x_goi (x_runS (As := [.int (xJ x29)]) hx hb hml hown hT hE hW hl.1 cf_X11_isSpotSign wq1394 wq1393 (c_X11_isSpotSign l D g T h0 s_101 hW.2.1 x29 rx29 (by omega)) ⟨rfl, rfl, ⟨by decide, by decide⟩, ⟨by decide, by decide⟩⟩ rfl rfl (Nat.le_of_ble_eq_true rfl) dX11_readsRow_107) hW (fun x32 s33 H locs rx32 hp34 hW => ?_)
              obtain ⟨es33, hp34⟩ := hp34
              subst es33
              have ghp34 := hp34
              refine x_if_ne (tgt := 123) hx hb rx32 dX11_readsRow_110 (by decide) (fun c35 => ?_) (fun c35 => ?_)
              · skip
                refine x_iconst hx hb dX11_readsRow_123 ?_
                refine lv_istore (lv' := [(5, .int (xJ 0)), (3, .int (xJ x29)), (0, .ref (h0 + 268)), (1, .int (xJ y)), (2, .int (xJ i2_2)), (4, .int (xJ t0_63))]) hx hb dX11_readsRow_124 hl (by decide) rfl (fun ls hl => ?_)
                have L126 : ∀ (fu : Nat) (i5_126 : Int) (s_126 : xS) (H : Heap) (locs : List Loc) (ls : Array Slot), (xR i5_126) → (xFr (fun k => k = 268 ∨ k = 288) s0 s_126) → (IMn s_126) → (IMk s_126) → (IMo s_126) → (IR s_126) → (s_126 268 8 = s0 268 8) → (s_126 268 58 = s0 268 58) → (s_126 268 10 = s0 268 10) → (s_126 268 14 = s0 268 14) → (s_126 268 15 = s0 268 15) → (s_126 268 16 = s0 268 16) → (s_126 268 34 = s0 268 34) → (s_126 268 35 = s0 268 35) → (s_126 268 36 = s0 268 36) → (s_126 268 37 = s0 268 37) → (0 ≤ i5_126) → (s_126 268 9 < s_126 268 10) → (t0_63 - i5_126).toNat < fu → xW D g h0 s H locs s_126 → lv_has ls 6 [(0, .ref (h0 + 268)), (1, .int (xJ y)), (2, .int (xJ i2_2)), (3, .int (xJ x29)), (4, .int (xJ t0_63)), (5, .int (xJ i5_126))] → W p l e { frames := 2, cells := 0, slots := 0, locals := 42 } s m args below meth c H locs 0 0 Q (F0 m 126 ls []) := by
                  intro fu
                  induction fu with
                  | zero => intro i5_126 s_126 H locs ls ri5_126 hF_126 q126_0 q126_1 q126_2 q126_3 q126_4 q126_5 q126_6 q126_7 q126_8 q126_9 q126_10 q126_11 q126_12 q126_13 v126_0 v126_1 hm; exact absurd hm (Nat.not_lt_zero _)
                  | succ fu ih126 =>
                    intro i5_126 s_126 H locs ls ri5_126 hF_126 q126_0 q126_1 q126_2 q126_3 q126_4 q126_5 q126_6 q126_7 q126_8 q126_9 q126_10 q126_11 q126_12 q126_13 v126_0 v126_1 hm hW hl
                    refine x_iload hx hb hl 5 rfl dX11_readsRow_126 ?_
                    refine x_iload hx hb hl 4 rfl dX11_readsRow_128 ?_
                    refine x_icmp_ge (tgt := 184) hx hb ri5_126 rt0_63 dX11_readsRow_130 (by decide) (fun c36 => ?_) (fun c36 => ?_)
                    · skip
                      refine x_iload_n hx hb hl 2 rfl dX11_readsRow_184 rfl ?_
                      refine x_iload hx hb hl 4 rfl dX11_readsRow_185 ?_
                      refine x_iadd hx hb dX11_readsRow_187 ?_
                      refine x_nm (fun x37 ex37 => ?_)
                      refine lv_istore_n (lv' := [(2, .int (xJ x37)), (0, .ref (h0 + 268)), (1, .int (xJ y)), (3, .int (xJ x29)), (4, .int (xJ t0_63)), (5, .int (xJ i5_126))]) hx hb dX11_readsRow_188 rfl hl (by decide) rfl (fun ls hl => ?_)
                      refine x_aload_n hx hb hl 1 rfl dX11_readsRow_189 rfl ?_
                      refine x_aload_n hx hb hl 1 rfl dX11_readsRow_190 rfl ?_
                      refine x_get (j := 9) (v := .int (xJ (s_126 268 9))) hx hb hown hT hE hW cls_X11 (Or.inl (by decide)) (so_268 h0 g _) (by decide) rfl wq1194 dX11_readsRow_191 ?_
                      refine x_rd hW (fun x38 ex38 rx38 => ?_)
                      have bx38 : 0 ≤ x38 ∧ x38 ≤ s_126 268 10 ∧ s_126 268 10 ≤ 240 := by rw [ex38]; exact q126_3
                      refine x_iconst hx hb dX11_readsRow_194 ?_
                      refine x_iadd hx hb dX11_readsRow_195 ?_
                      refine x_put (j := 9) hx hb hown hT hE hW cls_X11 (by decide) (fun σ => so_268 h0 g σ) (by decide) (st_X11_9 h0 s_126 268 (x38 + 1)) (ln_X11_9 h0 _ _) wq1194 rfl rfl rfl (by omega) dX11_readsRow_196 (fun H locs s39 es39 hW => ?_)
                      have q40 : IMn s39 := by rw [es39]; exact IMn_268 q126_0 (by omega)
                      have q41 : IMk s39 := by rw [es39]; exact IMk_268 q126_1 (by omega)
                      have q42 : IMo s39 := by rw [es39]; exact IMo_o (by unfold suIMo; omega) q126_2
                      have q43 : IR s39 := by rw [es39]; exact IR_268 q126_3 (by omega)
                      have q44 : s39 268 8 = s0 268 8 := (show s39 268 8 = s_126 268 8 from by rw [es39, xU_j _ _ (by decide)]).trans q126_4
                      have q45 : s39 268 58 = s0 268 58 := (show s39 268 58 = s_126 268 58 from by rw [es39, xU_j _ _ (by decide)]).trans q126_5
                      have q46 : s39 268 10 = s0 268 10 := (show s39 268 10 = s_126 268 10 from by rw [es39, xU_j _ _ (by decide)]).trans q126_6
                      have q47 : s39 268 14 = s0 268 14 := (show s39 268 14 = s_126 268 14 from by rw [es39, xU_j _ _ (by decide)]).trans q126_7
                      have q48 : s39 268 15 = s0 268 15 := (show s39 268 15 = s_126 268 15 from by rw [es39, xU_j _ _ (by decide)]).trans q126_8
                      have q49 : s39 268 16 = s0 268 16 := (show s39 268 16 = s_126 268 16 from by rw [es39, xU_j _ _ (by decide)]).trans q126_9
                      have q50 : s39 268 34 = s0 268 34 := (show s39 268 34 = s_126 268 34 from by rw [es39, xU_j _ _ (by decide)]).trans q126_10
                      have q51 : s39 268 35 = s0 268 35 := (show s39 268 35 = s_126 268 35 from by rw [es39, xU_j _ _ (by decide)]).trans q126_11
                      have q52 : s39 268 36 = s0 268 36 := (show s39 268 36 = s_126 268 36 from by rw [es39, xU_j _ _ (by decide)]).trans q126_12
                      have q53 : s39 268 37 = s0 268 37 := (show s39 268 37 = s_126 268 37 from by rw [es39, xU_j _ _ (by decide)]).trans q126_13
                      have hF54 := hF_126.put es39 (by omega)
                      refine lv_goto (tgt := 2) hx hb dX11_readsRow_199 (by decide) ?_
                      exact ih2 x37 s39 H locs ls (by omega) hF54 q40 q41 q42 q43 q44 q45 q46 q47 q48 q49 q50 q51 q52 q53 (by omega) (by omega) hW (lv_sub hl [1, 2, 0] rfl)
                    refine x_aload_n hx hb hl 0 rfl dX11_readsRow_133 rfl ?_
                    refine x_get (j := 29) (v := .ref (h0 + 288)) hx hb hown hT hE hW cls_X11 (Or.inl (by decide)) (so_268 h0 g _) (by decide) rfl wq1214 dX11_readsRow_134 ?_
                    refine x_bipush hx hb dX11_readsRow_137 (by decide) ?_
                    refine x_iload_n hx hb hl 1 rfl dX11_readsRow_139 rfl ?_
                    refine x_imul hx hb dX11_readsRow_140 ?_
                    refine x_iload_n hx hb hl 2 rfl dX11_readsRow_141 rfl ?_
                    refine x_iadd hx hb dX11_readsRow_142 ?_
                    refine x_iload hx hb hl 5 rfl dX11_readsRow_143 ?_
                    refine x_iadd hx hb dX11_readsRow_145 ?_
                    refine x_iload_n hx hb hl 3 rfl dX11_readsRow_146 rfl ?_
                    refine x_bipush hx hb dX11_readsRow_147 (by decide) ?_
                    refine x_icmp_ne (tgt := 156) hx hb rx29 (by decide) dX11_readsRow_149 (by decide) (fun c55 => ?_) (fun c55 => ?_)
                    · skip
                      refine x_iload_n hx hb hl 3 rfl dX11_readsRow_156 rfl ?_
                      refine x_bipush hx hb dX11_readsRow_157 (by decide) ?_
                      refine x_icmp_ne (tgt := 166) hx hb rx29 (by decide) dX11_readsRow_159 (by decide) (fun c56 => ?_) (fun c56 => ?_)
                      · skip
                        refine x_iload_n hx hb hl 3 rfl dX11_readsRow_166 rfl ?_
                        refine x_bipush hx hb dX11_readsRow_167 (by decide) ?_
                        refine x_icmp_ne (tgt := 176) hx hb rx29 (by decide) dX11_readsRow_169 (by decide) (fun c57 => ?_) (fun c57 => ?_)
                        · skip
                          refine x_iconst hx hb dX11_readsRow_176 ?_
                          refine x_iast hx hb hE hW (by decide) (fun σ => sa_288 h0 g σ) (by omega) (by decide) (by decide) dX11_readsRow_177 (fun H locs s58 es58 hW => ?_)
                          have q59 : IMn s58 := by rw [es58]; exact IMn_o (by unfold suIMn; omega) q126_0
                          have q60 : IMk s58 := by rw [es58]; exact IMk_o (by unfold suIMk; omega) q126_1
                          have q61 : IMo s58 := by rw [es58]; exact IMo_o (by unfold suIMo; omega) q126_2
                          have q62 : IR s58 := by rw [es58]; exact IR_o (by unfold suIR; omega) q126_3
                          have q63 : s58 268 8 = s0 268 8 := (show s58 268 8 = s_126 268 8 from by rw [es58, xU_k _ _ _ (by omega)]).trans q126_4
                          have q64 : s58 268 58 = s0 268 58 := (show s58 268 58 = s_126 268 58 from by rw [es58, xU_k _ _ _ (by omega)]).trans q126_5
                          have q65 : s58 268 10 = s0 268 10 := (show s58 268 10 = s_126 268 10 from by rw [es58, xU_k _ _ _ (by omega)]).trans q126_6
                          have q66 : s58 268 14 = s0 268 14 := (show s58 268 14 = s_126 268 14 from by rw [es58, xU_k _ _ _ (by omega)]).trans q126_7
                          have q67 : s58 268 15 = s0 268 15 := (show s58 268 15 = s_126 268 15 from by rw [es58, xU_k _ _ _ (by omega)]).trans q126_8
                          have q68 : s58 268 16 = s0 268 16 := (show s58 268 16 = s_126 268 16 from by rw [es58, xU_k _ _ _ (by omega)]).trans q126_9
                          have q69 : s58 268 34 = s0 268 34 := (show s58 268 34 = s_126 268 34 from by rw [es58, xU_k _ _ _ (by omega)]).trans q126_10
                          have q70 : s58 268 35 = s0 268 35 := (show s58 268 35 = s_126 268 35 from by rw [es58, xU_k _ _ _ (by omega)]).trans q126_11
                          have q71 : s58 268 36 = s0 268 36 := (show s58 268 36 = s_126 268 36 from by rw [es58, xU_k _ _ _ (by omega)]).trans q126_12
                          have q72 : s58 268 37 = s0 268 37 := (show s58 268 37 = s_126 268 37 from by rw [es58, xU_k _ _ _ (by omega)]).trans q126_13
                          have hF73 := hF_126.put es58 (by omega)
                          refine x_iinc (lv' := [(5, .int (xJ (i5_126 + 1))), (0, .ref (h0 + 268)), (1, .int (xJ y)), (2, .int (xJ i2_2)), (3, .int (xJ x29)), (4, .int (xJ t0_63))]) hx hb hl 5 rfl dX11_readsRow_178 (by decide) rfl (fun ls hl => ?_)
                          refine lv_goto (tgt := 126) hx hb dX11_readsRow_181 (by decide) ?_
                          exact ih126 (i5_126 + 1) s58 H locs ls (by omega) hF73 q59 q60 q61 q62 q63 q64 q65 q66 q67 q68 q69 q70 q71 q72 (by omega) (by rw [es58, xU_k _ _ _ (by omega)]; exact v126_1) (by omega) hW (lv_sub hl [1, 2, 3, 4, 5, 0] rfl)
                        refine x_iconst hx hb dX11_readsRow_172 ?_
                        refine lv_goto (tgt := 177) hx hb dX11_readsRow_173 (by decide) ?_
                        refine x_iast hx hb hE hW (by decide) (fun σ => sa_288 h0 g σ) (by omega) (by decide) (by decide) dX11_readsRow_177 (fun H locs s74 es74 hW => ?_)
                        have q75 : IMn s74 := by rw [es74]; exact IMn_o (by unfold suIMn; omega) q126_0
                        have q76 : IMk s74 := by rw [es74]; exact IMk_o (by unfold suIMk; omega) q126_1
                        have q77 : IMo s74 := by rw [es74]; exact IMo_o (by unfold suIMo; omega) q126_2
                        have q78 : IR s74 := by rw [es74]; exact IR_o (by unfold suIR; omega) q126_3
                        have q79 : s74 268 8 = s0 268 8 := (show s74 268 8 = s_126 268 8 from by rw [es74, xU_k _ _ _ (by omega)]).trans q126_4
                        have q80 : s74 268 58 = s0 268 58 := (show s74 268 58 = s_126 268 58 from by rw [es74, xU_k _ _ _ (by omega)]).trans q126_5
                        have q81 : s74 268 10 = s0 268 10 := (show s74 268 10 = s_126 268 10 from by rw [es74, xU_k _ _ _ (by omega)]).trans q126_6
                        have q82 : s74 268 14 = s0 268 14 := (show s74 268 14 = s_126 268 14 from by rw [es74, xU_k _ _ _ (by omega)]).trans q126_7
                        have q83 : s74 268 15 = s0 268 15 := (show s74 268 15 = s_126 268 15 from by rw [es74, xU_k _ _ _ (by omega)]).trans q126_8
                        have q84 : s74 268 16 = s0 268 16 := (show s74 268 16 = s_126 268 16 from by rw [es74, xU_k _ _ _ (by omega)]).trans q126_9
                        have q85 : s74 268 34 = s0 268 34 := (show s74 268 34 = s_126 268 34 from by rw [es74, xU_k _ _ _ (by omega)]).trans q126_10
                        have q86 : s74 268 35 = s0 268 35 := (show s74 268 35 = s_126 268 35 from by rw [es74, xU_k _ _ _ (by omega)]).trans q126_11
                        have q87 : s74 268 36 = s0 268 36 := (show s74 268 36 = s_126 268 36 from by rw [es74, xU_k _ _ _ (by omega)]).trans q126_12
                        have q88 : s74 268 37 = s0 268 37 := (show s74 268 37 = s_126 268 37 from by rw [es74, xU_k _ _ _ (by omega)]).trans q126_13
                        have hF89 := hF_126.put es74 (by omega)
                        refine x_iinc (lv' := [(5, .int (xJ (i5_126 + 1))), (0, .ref (h0 + 268)), (1, .int (xJ y)), (2, .int (xJ i2_2)), (3, .int (xJ x29)), (4, .int (xJ t0_63))]) hx hb hl 5 rfl dX11_readsRow_178 (by decide) rfl (fun ls hl => ?_)
                        refine lv_goto (tgt := 126) hx hb dX11_readsRow_181 (by decide) ?_
                        exact ih126 (i5_126 + 1) s74 H locs ls (by omega) hF89 q75 q76 q77 q78 q79 q80 q81 q82 q83 q84 q85 q86 q87 q88 (by omega) (by rw [es74, xU_k _ _ _ (by omega)]; exact v126_1) (by omega) hW (lv_sub hl [1, 2, 3, 4, 5, 0] rfl)
                      refine x_iconst hx hb dX11_readsRow_162 ?_
                      refine lv_goto (tgt := 177) hx hb dX11_readsRow_163 (by decide) ?_
                      refine x_iast hx hb hE hW (by decide) (fun σ => sa_288 h0 g σ) (by omega) (by decide) (by decide) dX11_readsRow_177 (fun H locs s90 es90 hW => ?_)
                      have q91 : IMn s90 := by rw [es90]; exact IMn_o (by unfold suIMn; omega) q126_0
                      have q92 : IMk s90 := by rw [es90]; exact IMk_o (by unfold suIMk; omega) q126_1
                      have q93 : IMo s90 := by rw [es90]; exact IMo_o (by unfold suIMo; omega) q126_2
                      have q94 : IR s90 := by rw [es90]; exact IR_o (by unfold suIR; omega) q126_3
                      have q95 : s90 268 8 = s0 268 8 := (show s90 268 8 = s_126 268 8 from by rw [es90, xU_k _ _ _ (by omega)]).trans q126_4
                      have q96 : s90 268 58 = s0 268 58 := (show s90 268 58 = s_126 268 58 from by rw [es90, xU_k _ _ _ (by omega)]).trans q126_5
                      have q97 : s90 268 10 = s0 268 10 := (show s90 268 10 = s_126 268 10 from by rw [es90, xU_k _ _ _ (by omega)]).trans q126_6
                      have q98 : s90 268 14 = s0 268 14 := (show s90 268 14 = s_126 268 14 from by rw [es90, xU_k _ _ _ (by omega)]).trans q126_7
                      have q99 : s90 268 15 = s0 268 15 := (show s90 268 15 = s_126 268 15 from by rw [es90, xU_k _ _ _ (by omega)]).trans q126_8
                      have q100 : s90 268 16 = s0 268 16 := (show s90 268 16 = s_126 268 16 from by rw [es90, xU_k _ _ _ (by omega)]).trans q126_9
                      have q101 : s90 268 34 = s0 268 34 := (show s90 268 34 = s_126 268 34 from by rw [es90, xU_k _ _ _ (by omega)]).trans q126_10
                      have q102 : s90 268 35 = s0 268 35 := (show s90 268 35 = s_126 268 35 from by rw [es90, xU_k _ _ _ (by omega)]).trans q126_11
                      have q103 : s90 268 36 = s0 268 36 := (show s90 268 36 = s_126 268 36 from by rw [es90, xU_k _ _ _ (by omega)]).trans q126_12
                      have q104 : s90 268 37 = s0 268 37 := (show s90 268 37 = s_126 268 37 from by rw [es90, xU_k _ _ _ (by omega)]).trans q126_13
                      have hF105 := hF_126.put es90 (by omega)
                      refine x_iinc (lv' := [(5, .int (xJ (i5_126 + 1))), (0, .ref (h0 + 268)), (1, .int (xJ y)), (2, .int (xJ i2_2)), (3, .int (xJ x29)), (4, .int (xJ t0_63))]) hx hb hl 5 rfl dX11_readsRow_178 (by decide) rfl (fun ls hl => ?_)
                      refine lv_goto (tgt := 126) hx hb dX11_readsRow_181 (by decide) ?_
                      exact ih126 (i5_126 + 1) s90 H locs ls (by omega) hF105 q91 q92 q93 q94 q95 q96 q97 q98 q99 q100 q101 q102 q103 q104 (by omega) (by rw [es90, xU_k _ _ _ (by omega)]; exact v126_1) (by omega) hW (lv_sub hl [1, 2, 3, 4, 5, 0] rfl)
                    refine x_iconst hx hb dX11_readsRow_152 ?_
                    refine lv_goto (tgt := 177) hx hb dX11_readsRow_153 (by decide) ?_
                    refine x_iast hx hb hE hW (by decide) (fun σ => sa_288 h0 g σ) (by omega) (by decide) (by decide) dX11_readsRow_177 (fun H locs s106 es106 hW => ?_)
                    have q107 : IMn s106 := by rw [es106]; exact IMn_o (by unfold suIMn; omega) q126_0
                    have q108 : IMk s106 := by rw [es106]; exact IMk_o (by unfold suIMk; omega) q126_1
                    have q109 : IMo s106 := by rw [es106]; exact IMo_o (by unfold suIMo; omega) q126_2
                    have q110 : IR s106 := by rw [es106]; exact IR_o (by unfold suIR; omega) q126_3
                    have q111 : s106 268 8 = s0 268 8 := (show s106 268 8 = s_126 268 8 from by rw [es106, xU_k _ _ _ (by omega)]).trans q126_4
                    have q112 : s106 268 58 = s0 268 58 := (show s106 268 58 = s_126 268 58 from by rw [es106, xU_k _ _ _ (by omega)]).trans q126_5
                    have q113 : s106 268 10 = s0 268 10 := (show s106 268 10 = s_126 268 10 from by rw [es106, xU_k _ _ _ (by omega)]).trans q126_6
                    have q114 : s106 268 14 = s0 268 14 := (show s106 268 14 = s_126 268 14 from by rw [es106, xU_k _ _ _ (by omega)]).trans q126_7
                    have q115 : s106 268 15 = s0 268 15 := (show s106 268 15 = s_126 268 15 from by rw [es106, xU_k _ _ _ (by omega)]).trans q126_8
                    have q116 : s106 268 16 = s0 268 16 := (show s106 268 16 = s_126 268 16 from by rw [es106, xU_k _ _ _ (by omega)]).trans q126_9
                    have q117 : s106 268 34 = s0 268 34 := (show s106 268 34 = s_126 268 34 from by rw [es106, xU_k _ _ _ (by omega)]).trans q126_10
                    have q118 : s106 268 35 = s0 268 35 := (show s106 268 35 = s_126 268 35 from by rw [es106, xU_k _ _ _ (by omega)]).trans q126_11
                    have q119 : s106 268 36 = s0 268 36 := (show s106 268 36 = s_126 268 36 from by rw [es106, xU_k _ _ _ (by omega)]).trans q126_12
                    have q120 : s106 268 37 = s0 268 37 := (show s106 268 37 = s_126 268 37 from by rw [es106, xU_k _ _ _ (by omega)]).trans q126_13
                    have hF121 := hF_126.put es106 (by omega)
                    refine x_iinc (lv' := [(5, .int (xJ (i5_126 + 1))), (0, .ref (h0 + 268)), (1, .int (xJ y)), (2, .int (xJ i2_2)), (3, .int (xJ x29)), (4, .int (xJ t0_63))]) hx hb hl 5 rfl dX11_readsRow_178 (by decide) rfl (fun ls hl => ?_)
                    refine lv_goto (tgt := 126) hx hb dX11_readsRow_181 (by decide) ?_
                    exact ih126 (i5_126 + 1) s106 H locs ls (by omega) hF121 q107 q108 q109 q110 q111 q112 q113 q114 q115 q116 q117 q118 q119 q120 (by omega) (by rw [es106, xU_k _ _ _ (by omega)]; exact v126_1) (by omega) hW (lv_sub hl [1, 2, 3, 4, 5, 0] rfl)
                exact L126 ((t0_63 - 0 : Int).toNat + 1) 0 s_101 H locs ls (by decide) hF_101 q101_0 q101_1 q101_2 q101_3 q101_4 q101_5 q101_6 q101_7 q101_8 q101_9 q101_10 q101_11 q101_12 q101_13 (by omega) (by omega) (Nat.lt_succ_self _) hW (lv_sub hl [2, 3, 4, 1, 5, 0] rfl)
              refine x_aload_n hx hb hl 1 rfl dX11_readsRow_113 rfl ?_
              refine x_iconst hx hb dX11_readsRow_114 ?_
              refine x_aload_n hx hb hl 1 rfl dX11_readsRow_115 rfl ?_
              refine x_get (j := 9) (v := .int (xJ (s_101 268 9))) hx hb hown hT hE hW cls_X11 (Or.inl (by decide)) (so_268 h0 g _) (by decide) rfl wq1194 dX11_readsRow_116 ?_
              refine x_rd hW (fun x122 ex122 rx122 => ?_)
              have bx122 : 0 ≤ x122 ∧ x122 ≤ s_101 268 10 ∧ s_101 268 10 ≤ 240 := by rw [ex122]; exact q101_3
              refine x_goi (x_runV (As := [.int (xJ 1), .int (xJ x122)]) hx hb hml hown hT hE hW hl.1 (Or.inl (by decide)) (so_268 h0 g _) rfl cf_X11_wrongAt wq1401 wq107 wq1399 (c_X11_wrongAt l D g T h0 s_101 hW.2.1 1 (by decide) x122 rx122 q101_0 q101_1 q101_2 q101_3) ⟨rfl, rfl, ⟨by decide, by decide⟩, ⟨by decide, by decide⟩⟩ rfl rfl (Nat.le_of_ble_eq_true rfl) dX11_readsRow_119) hW (fun x123 s124 H locs rx123 hp125 hW => ?_)
              obtain ⟨fs124, hp125⟩ := hp125
              have hF126 := hF_101.call fs124 (fun k h => by omega)
              have ghp125 := hp125.2
              rw [eQ]
              exact x_zret hx hb hr hlk hW (by omega) ⟨hF126, ⟨hp125.1.1, hp125.1.2.1, hp125.1.2.2.1, hp125.1.2.2.2.1, (hp125.1.2.2.2.2.1.trans q101_4), (hp125.1.2.2.2.2.2.1.trans q101_5), (hp125.1.2.2.2.2.2.2.2.1.trans q101_6), (hp125.1.2.2.2.2.2.2.2.2.1.trans q101_7), (hp125.1.2.2.2.2.2.2.2.2.2.1.trans q101_8), (hp125.1.2.2.2.2.2.2.2.2.2.2.1.trans q101_9), (hp125.1.2.2.2.2.2.2.2.2.2.2.2.1.trans q101_10), (hp125.1.2.2.2.2.2.2.2.2.2.2.2.2.1.trans q101_11), (hp125.1.2.2.2.2.2.2.2.2.2.2.2.2.2.1.trans q101_12), (hp125.1.2.2.2.2.2.2.2.2.2.2.2.2.2.2.1.trans q101_13), trivial⟩, by omega⟩ dX11_readsRow_122
            refine x_icmp_le (tgt := 101) hx hb rt0_63 (by decide) dX11_readsRow_88 (by decide) (fun c127 => ?_) (fun c127 => ?_)
            · skip
              exact J101 s_2 H locs ls hF_2 q2_0 q2_1 q2_2 q2_3 q2_4 q2_5 q2_6 q2_7 q2_8 q2_9 q2_10 q2_11 q2_12 q2_13 hW (lv_sub hl [1, 2, 3, 0] rfl)
            refine x_aload_n hx hb hl 1 rfl dX11_readsRow_91 rfl ?_
            refine x_aload_n hx hb hl 1 rfl dX11_readsRow_92 rfl ?_
            refine x_get (j := 9) (v := .int (xJ (s_2 268 9))) hx hb hown hT hE hW cls_X11 (Or.inl (by decide)) (so_268 h0 g _) (by decide) rfl wq1194 dX11_readsRow_93 ?_
            refine x_rd hW (fun x128 ex128 rx128 => ?_)
            have bx128 : 0 ≤ x128 ∧ x128 ≤ s_2 268 10 ∧ s_2 268 10 ≤ 240 := by rw [ex128]; exact q2_3
            refine x_iconst hx hb dX11_readsRow_96 ?_
            refine x_iadd hx hb dX11_readsRow_97 ?_
            refine x_put (j := 9) hx hb hown hT hE hW cls_X11 (by decide) (fun σ => so_268 h0 g σ) (by decide) (st_X11_9 h0 s_2 268 (x128 + 1)) (ln_X11_9 h0 _ _) wq1194 rfl rfl rfl (by omega) dX11_readsRow_98 (fun H locs s129 es129 hW => ?_)
            have q130 : IMn s129 := by rw [es129]; exact IMn_268 q2_0 (by omega)
            have q131 : IMk s129 := by rw [es129]; exact IMk_268 q2_1 (by omega)
            have q132 : IMo s129 := by rw [es129]; exact IMo_o (by unfold suIMo; omega) q2_2
            have q133 : IR s129 := by rw [es129]; exact IR_268 q2_3 (by omega)
            have q134 : s129 268 8 = s0 268 8 := (show s129 268 8 = s_2 268 8 from by rw [es129, xU_j _ _ (by decide)]).trans q2_4
            have q135 : s129 268 58 = s0 268 58 := (show s129 268 58 = s_2 268 58 from by rw [es129, xU_j _ _ (by decide)]).trans q2_5
            have q136 : s129 268 10 = s0 268 10 := (show s129 268 10 = s_2 268 10 from by rw [es129, xU_j _ _ (by decide)]).trans q2_6
            have q137 : s129 268 14 = s0 268 14 := (show s129 268 14 = s_2 268 14 from by rw [es129, xU_j _ _ (by decide)]).trans q2_7
            have q138 : s129 268 15 = s0 268 15 := (show s129 268 15 = s_2 268 15 from by rw [es129, xU_j _ _ (by decide)]).trans q2_8
            have q139 : s129 268 16 = s0 268 16 := (show s129 268 16 = s_2 268 16 from by rw [es129, xU_j _ _ (by decide)]).trans q2_9
            have q140 : s129 268 34 = s0 268 34 := (show s129 268 34 = s_2 268 34 from by rw [es129, xU_j _ _ (by decide)]).trans q2_10
            have q141 : s129 268 35 = s0 268 35 := (show s129 268 35 = s_2 268 35 from by rw [es129, xU_j _ _ (by decide)]).trans q2_11
            have q142 : s129 268 36 = s0 268 36 := (show s129 268 36 = s_2 268 36 from by rw [es129, xU_j _ _ (by decide)]).trans q2_12
            have q143 : s129 268 37 = s0 268 37 := (show s129 268 37 = s_2 268 37 from by rw [es129, xU_j _ _ (by decide)]).trans q2_13
            have hF144 := hF_2.put es129 (by omega)
            exact J101 s129 H locs ls hF144 q130 q131 q132 q133 q134 q135 q136 q137 q138 q139 q140 q141 q142 q143 hW (lv_sub hl [1, 2, 3, 0] rfl)
          refine x_aload_n hx hb hl 1 rfl dX11_readsRow_74 rfl ?_
          refine x_bipush hx hb dX11_readsRow_75 (by decide) ?_
          refine x_aload_n hx hb hl 1 rfl dX11_readsRow_77 rfl ?_
          refine x_get (j := 9) (v := .int (xJ (s_2 268 9))) hx hb hown hT hE hW cls_X11 (Or.inl (by decide)) (so_268 h0 g _) (by decide) rfl wq1194 dX11_readsRow_78 ?_
          refine x_rd hW (fun x145 ex145 rx145 => ?_)
          have bx145 : 0 ≤ x145 ∧ x145 ≤ s_2 268 10 ∧ s_2 268 10 ≤ 240 := by rw [ex145]; exact q2_3
          refine x_goi (x_runV (As := [.int (xJ 6), .int (xJ x145)]) hx hb hml hown hT hE hW hl.1 (Or.inl (by decide)) (so_268 h0 g _) rfl cf_X11_wrongAt wq1401 wq107 wq1399 (c_X11_wrongAt l D g T h0 s_2 hW.2.1 6 (by decide) x145 rx145 q2_0 q2_1 q2_2 q2_3) ⟨rfl, rfl, ⟨by decide, by decide⟩, ⟨by decide, by decide⟩⟩ rfl rfl (Nat.le_of_ble_eq_true rfl) dX11_readsRow_81) hW (fun x146 s147 H locs rx146 hp148 hW => ?_)
          obtain ⟨fs147, hp148⟩ := hp148
          have hF149 := hF_2.call fs147 (fun k h => by omega)
          have ghp148 := hp148.2
          rw [eQ]
          exact x_zret hx hb hr hlk hW (by omega) ⟨hF149, ⟨hp148.1.1, hp148.1.2.1, hp148.1.2.2.1, hp148.1.2.2.2.1, (hp148.1.2.2.2.2.1.trans q2_4), (hp148.1.2.2.2.2.2.1.trans q2_5), (hp148.1.2.2.2.2.2.2.2.1.trans q2_6), (hp148.1.2.2.2.2.2.2.2.2.1.trans q2_7), (hp148.1.2.2.2.2.2.2.2.2.2.1.trans q2_8), (hp148.1.2.2.2.2.2.2.2.2.2.2.1.trans q2_9), (hp148.1.2.2.2.2.2.2.2.2.2.2.2.1.trans q2_10), (hp148.1.2.2.2.2.2.2.2.2.2.2.2.2.1.trans q2_11), (hp148.1.2.2.2.2.2.2.2.2.2.2.2.2.2.1.trans q2_12), (hp148.1.2.2.2.2.2.2.2.2.2.2.2.2.2.2.1.trans q2_13), trivial⟩, by omega⟩ dX11_readsRow_84
        refine x_icmp_ne (tgt := 48) hx hb rx22 (by decide) dX11_readsRow_40 (by decide) (fun c150 => ?_) (fun c150 => ?_)
        · skip
          refine x_iload_n hx hb hl 3 rfl dX11_readsRow_48 rfl ?_
          refine x_goi (x_runS (As := [.int (xJ x22)]) hx hb hml hown hT hE hW hl.1 cf_X11_isTimes wq1397 wq1396 (c_X11_isTimes l D g T h0 s_2 hW.2.1 x22 rx22 (by omega)) ⟨rfl, rfl, ⟨by decide, by decide⟩, ⟨by decide, by decide⟩⟩ rfl rfl (Nat.le_of_ble_eq_true rfl) dX11_readsRow_49) hW (fun x151 s152 H locs rx151 hp153 hW => ?_)
          obtain ⟨es152, hp153⟩ := hp153
          subst es152
          have ghp153 := hp153
          refine x_if_eq (tgt := 62) hx hb rx151 dX11_readsRow_52 (by decide) (fun c154 => ?_) (fun c154 => ?_)
          · skip
            refine x_iconst hx hb dX11_readsRow_62 ?_
            exact J63 1 H locs ls (by decide) (by omega) hW (lv_sub hl [0, 1, 2] rfl)
          refine x_iload_n hx hb hl 3 rfl dX11_readsRow_55 rfl ?_
          refine x_bipush hx hb dX11_readsRow_56 (by decide) ?_
          refine x_isub hx hb dX11_readsRow_58 ?_
          refine lv_goto (tgt := 63) hx hb dX11_readsRow_59 (by decide) ?_
          exact J63 (x22 - 48) H locs ls (by omega) (by omega) hW (lv_sub hl [0, 1, 2] rfl)
        refine x_bipush hx hb dX11_readsRow_43 (by decide) ?_
        refine lv_goto (tgt := 63) hx hb dX11_readsRow_45 (by decide) ?_
        exact J63 10 H locs ls (by decide) (by omega) hW (lv_sub hl [0, 1, 2] rfl)
      refine x_if_ne (tgt := 37) hx hb rx25 dX11_readsRow_17 (by decide) (fun c155 => ?_) (fun c155 => ?_)
      · skip
        exact J37 H locs ls (by omega) hW (lv_sub hl [1, 2, 3, 0] rfl)
      refine x_iload_n hx hb hl 0 rfl dX11_readsRow_20 rfl ?_
      refine x_goi (x_runS (As := [.int (xJ x22)]) hx hb hml hown hT hE hW hl.1 cf_X11_isTimes wq1397 wq1396 (c_X11_isTimes l D g T h0 s_2 hW.2.1 x22 rx22 (by omega)) ⟨rfl, rfl, ⟨by decide, by decide⟩, ⟨by decide, by decide⟩⟩ rfl rfl (Nat.le_of_ble_eq_true rfl) dX11_readsRow_21) hW (fun x156 s157 H locs rx156 hp158 hW => ?_)
      obtain ⟨es157, hp158⟩ := hp158
      subst es157
      have ghp158 := hp158
      refine x_if_ne (tgt := 37) hx hb rx156 dX11_readsRow_24 (by decide) (fun c159 => ?_) (fun c159 => ?_)
      · skip
        exact J37 H locs ls (by omega) hW (lv_sub hl [1, 2, 3, 0] rfl)
      refine x_aload_n hx hb hl 1 rfl dX11_readsRow_27 rfl ?_
      refine x_iconst hx hb dX11_readsRow_28 ?_
      refine x_aload_n hx hb hl 1 rfl dX11_readsRow_29 rfl ?_
      refine x_get (j := 9) (v := .int (xJ (s_2 268 9))) hx hb hown hT hE hW cls_X11 (Or.inl (by decide)) (so_268 h0 g _) (by decide) rfl wq1194 dX11_readsRow_30 ?_
      refine x_rd hW (fun x160 ex160 rx160 => ?_)
      have bx160 : 0 ≤ x160 ∧ x160 ≤ s_2 268 10 ∧ s_2 268 10 ≤ 240 := by rw [ex160]; exact q2_3
      refine x_goi (x_runV (As := [.int (xJ 1), .int (xJ x160)]) hx hb hml hown hT hE hW hl.1 (Or.inl (by decide)) (so_268 h0 g _) rfl cf_X11_wrongAt wq1401 wq107 wq1399 (c_X11_wrongAt l D g T h0 s_2 hW.2.1 1 (by decide) x160 rx160 q2_0 q2_1 q2_2 q2_3) ⟨rfl, rfl, ⟨by decide, by decide⟩, ⟨by decide, by decide⟩⟩ rfl rfl (Nat.le_of_ble_eq_true rfl) dX11_readsRow_33) hW (fun x161 s162 H locs rx161 hp163 hW => ?_)
      obtain ⟨fs162, hp163⟩ := hp163
      have hF164 := hF_2.call fs162 (fun k h => by omega)
      have ghp163 := hp163.2
      rw [eQ]
      exact x_zret hx hb hr hlk hW (by omega) ⟨hF164, ⟨hp163.1.1, hp163.1.2.1, hp163.1.2.2.1, hp163.1.2.2.2.1, (hp163.1.2.2.2.2.1.trans q2_4), (hp163.1.2.2.2.2.2.1.trans q2_5), (hp163.1.2.2.2.2.2.2.2.1.trans q2_6), (hp163.1.2.2.2.2.2.2.2.2.1.trans q2_7), (hp163.1.2.2.2.2.2.2.2.2.2.1.trans q2_8), (hp163.1.2.2.2.2.2.2.2.2.2.2.1.trans q2_9), (hp163.1.2.2.2.2.2.2.2.2.2.2.2.1.trans q2_10), (hp163.1.2.2.2.2.2.2.2.2.2.2.2.2.1.trans q2_11), (hp163.1.2.2.2.2.2.2.2.2.2.2.2.2.2.1.trans q2_12), (hp163.1.2.2.2.2.2.2.2.2.2.2.2.2.2.2.1.trans q2_13), trivial⟩, by omega⟩ dX11_readsRow_36
  exact L2 ((10 - 0 : Int).toNat + 1) 0 s0 H locs ls (by decide) hF p0 p1 p2 p3 k268_8 k268_58 k268_10 k268_14 k268_15 k268_16 k268_34 k268_35 k268_36 k268_37 (by omega) (Nat.lt_succ_self _) hW (lv_sub hl [1, 2, 0] rfl)
set_option maxHeartbeats 4000000 in
set_option maxRecDepth 100000 in
theorem c_X11_market (l : Launch) (D : va_G) (g : xG) (T : Nat × Nat × Nat) (h0 : Nat) (s0 : xS) (hσ : xRR s0) (n : Int) (rn : xR n) (p0 : IMn s0) (p1 : IMk s0) (p2 : IMo s0) : Met l yX11_market (xws yX11_market cX11_market 5 (some .int)) { frames := 3, cells := 0, slots := 0, locals := 67 } (xP [.ref (h0 + 268), .int (xJ n)] D g T h0 s0) (xQi D g h0 (fun r τ => xFr (fun k => k = 268 ∨ k = 269 ∨ k = 272 ∨ k = 273 ∨ k = 288) s0 τ ∧ (((IMn τ) ∧ (IMk τ) ∧ (IMo τ) ∧ True) ∧ ((τ 268 58 = 0 ∨ τ 268 58 = s0 268 58) ∧ (((n < 1 ∨ 140 < n ∨ s0 268 8 < n) ∧ τ 268 8 = s0 268 8 ∧ r = -1) ∨ (¬ (n < 1 ∨ 140 < n ∨ s0 268 8 < n) ∧ τ 268 8 = 0)))))) 0 0 (xA h0) := by
  refine x_met hσ (by decide) (Nat.le_of_ble_eq_true rfl) ?_
  intro p e s m args below meth c hx hb hr hml hown hT hlk hnm hE hW ls hl
  have hl : lv_has ls 5 [(0, .ref (h0 + 268)), (1, .int (xJ n))] := hl
  obtain ⟨Q, eQ⟩ : ∃ Q, Q = MQ below (xQi D g h0 (fun r τ => xFr (fun k => k = 268 ∨ k = 269 ∨ k = 272 ∨ k = 273 ∨ k = 288) s0 τ ∧ (((IMn τ) ∧ (IMk τ) ∧ (IMo τ) ∧ True) ∧ ((τ 268 58 = 0 ∨ τ 268 58 = s0 268 58) ∧ (((n < 1 ∨ 140 < n ∨ s0 268 8 < n) ∧ τ 268 8 = s0 268 8 ∧ r = -1) ∨ (¬ (n < 1 ∨ 140 < n ∨ s0 268 8 < n) ∧ τ 268 8 = 0)))))) args s 0 0 (xA h0) := ⟨_, rfl⟩
  rw [← eQ]
  generalize hHe : ([] : List Loc) = locs at hW ⊢
  obtain ⟨H, eH⟩ : ∃ H, H = s.heap := ⟨_, rfl⟩
  rw [← eH] at hW ⊢
  have hF : xFr (fun k => k = 268 ∨ k = 269 ∨ k = 272 ∨ k = 273 ∨ k = 288) s0 s0 := xFr.rf
  have k268_8 : s0 268 8 = s0 268 8 := rfl
  have k268_58 : s0 268 58 = s0 268 58 := rfl
  refine x_iload_n hx hb hl 1 rfl dX11_market_0 rfl ?_
  refine x_iconst hx hb dX11_market_1 ?_
  refine x_sipush hx hb dX11_market_2 (by decide) ?_
  refine x_goi (x_runS (As := [.int (xJ n), .int (xJ 1), .int (xJ 140)]) hx hb hml hown hT hE hW hl.1 cf_X11_in wq1383 wq1382 (c_X11_in l D g T h0 s0 hW.2.1 n rn 1 (by decide) 140 (by decide)) ⟨rfl, rfl, ⟨by decide, by decide⟩, ⟨by decide, by decide⟩⟩ rfl rfl (Nat.le_of_ble_eq_true rfl) dX11_market_5) hW (fun x1 s2 H locs rx1 hp3 hW => ?_)
  obtain ⟨es2, hp3⟩ := hp3
  subst es2
  have ghp3 := hp3
  refine x_if_eq (tgt := 19) hx hb rx1 dX11_market_8 (by decide) (fun c4 => ?_) (fun c4 => ?_)
  · skip
    refine x_iconst hx hb dX11_market_19 ?_
    rw [eQ]
    exact x_iret hx hb hr hlk hW (by decide) ⟨hF, ⟨p0, p1, p2, trivial⟩, by omega⟩ dX11_market_20
  refine x_iload_n hx hb hl 1 rfl dX11_market_11 rfl ?_
  refine x_aload_n hx hb hl 0 rfl dX11_market_12 rfl ?_
  refine x_get (j := 8) (v := .int (xJ (s0 268 8))) hx hb hown hT hE hW cls_X11 (Or.inl (by decide)) (so_268 h0 g _) (by decide) rfl wq1193 dX11_market_13 ?_
  refine x_rd hW (fun x5 ex5 rx5 => ?_)
  have bx5 : 0 ≤ x5 ∧ x5 ≤ 260 := by rw [ex5]; exact IMn.t p0
  have fx5 : x5 = s0 268 8 := ex5.trans k268_8
  refine x_icmp_le (tgt := 21) hx hb rn rx5 dX11_market_16 (by decide) (fun c6 => ?_) (fun c6 => ?_)
  · skip
    refine x_aload_n hx hb hl 0 rfl dX11_market_21 rfl ?_
    refine x_iconst hx hb dX11_market_22 ?_
    refine x_put (j := 9) hx hb hown hT hE hW cls_X11 (by decide) (fun σ => so_268 h0 g σ) (by decide) (st_X11_9 h0 s0 268 0) (ln_X11_9 h0 _ _) wq1194 rfl rfl rfl (by decide) dX11_market_23 (fun H locs s7 es7 hW => ?_)
    have q8 : IMn s7 := by rw [es7]; exact IMn_268 p0 (by omega)
    have q9 : IMk s7 := by rw [es7]; exact IMk_268 p1 (by omega)
    have q10 : IMo s7 := by rw [es7]; exact IMo_o (by unfold suIMo; omega) p2
    have q11 : s7 268 8 = s0 268 8 := (show s7 268 8 = s0 268 8 from by rw [es7, xU_j _ _ (by decide)]).trans k268_8
    have q12 : s7 268 58 = s0 268 58 := (show s7 268 58 = s0 268 58 from by rw [es7, xU_j _ _ (by decide)]).trans k268_58
    have q13 : s7 268 9 = 0 := by rw [es7, xU_s]
    have hF14 := hF.put es7 (by omega)
    refine x_aload_n hx hb hl 0 rfl dX11_market_26 rfl ?_
    refine x_iload_n hx hb hl 1 rfl dX11_market_27 rfl ?_
    refine x_put (j := 10) hx hb hown hT hE hW cls_X11 (by decide) (fun σ => so_268 h0 g σ) (by decide) (st_X11_10 h0 s7 268 n) (ln_X11_10 h0 _ _) wq1195 rfl rfl rfl rn dX11_market_28 (fun H locs s15 es15 hW => ?_)
    have q16 : IMn s15 := by rw [es15]; exact IMn_268 q8 (by omega)
    have q17 : IMk s15 := by rw [es15]; exact IMk_268 q9 (by omega)
    have q18 : IMo s15 := by rw [es15]; exact IMo_o (by unfold suIMo; omega) q10
    have q19 : s15 268 8 = s0 268 8 := (show s15 268 8 = s7 268 8 from by rw [es15, xU_j _ _ (by decide)]).trans q11
    have q20 : s15 268 58 = s0 268 58 := (show s15 268 58 = s7 268 58 from by rw [es15, xU_j _ _ (by decide)]).trans q12
    have q21 : s15 268 9 = 0 := (show s15 268 9 = s7 268 9 from by rw [es15, xU_j _ _ (by decide)]).trans q13
    have q22 : s15 268 10 = n := by rw [es15, xU_s]
    have hF23 := hF14.put es15 (by omega)
    have q24 : IR s15 := by unfold IR; omega
    refine x_aload_n hx hb hl 0 rfl dX11_market_31 rfl ?_
    refine x_iconst hx hb dX11_market_32 ?_
    refine x_goi (x_runV (As := [.int (xJ 0)]) hx hb hml hown hT hE hW hl.1 (Or.inl (by decide)) (so_268 h0 g _) rfl cf_X11_readsRow wq1387 wq105 wq1385 (c_X11_readsRow l D g T h0 s15 hW.2.1 0 (by decide) (by omega) q16 q17 q18 q24) ⟨rfl, rfl, ⟨by decide, by decide⟩, ⟨by decide, by decide⟩⟩ rfl rfl (Nat.le_of_ble_eq_true rfl) dX11_market_33) hW (fun x25 s26 H locs rx25 hp27 hW => ?_)
    obtain ⟨fs26, hp27⟩ := hp27
    have hF28 := hF23.call fs26 (fun k h => by omega)
    have ghp27 := hp27.2
    refine lv_istore_n (lv' := [(2, .int (xJ x25)), (0, .ref (h0 + 268)), (1, .int (xJ n))]) hx hb dX11_market_36 rfl hl (by decide) rfl (fun ls hl => ?_)
    refine x_iconst hx hb dX11_market_37 ?_
    refine lv_istore_n (lv' := [(3, .int (xJ 1)), (2, .int (xJ x25)), (0, .ref (h0 + 268)), (1, .int (xJ n))]) hx hb dX11_market_38 rfl hl (by decide) rfl (fun ls hl => ?_)
    have L39 : ∀ (fu : Nat) (i2_39 : Int) (i3_39 : Int) (s_39 : xS) (H : Heap) (locs : List Loc) (ls : Array Slot), (xR i2_39) → (xR i3_39) → (xFr (fun k => k = 268 ∨ k = 269 ∨ k = 272 ∨ k = 273 ∨ k = 288) s0 s_39) → (IMn s_39) → (IMk s_39) → (IMo s_39) → (IR s_39) → (s_39 268 8 = s0 268 8) → (s_39 268 58 = s0 268 58) → (s_39 268 10 = n) → (s_39 268 14 = s15 268 14) → (s_39 268 15 = s15 268 15) → (s_39 268 16 = s15 268 16) → (s_39 268 34 = s15 268 34) → (s_39 268 35 = s15 268 35) → (s_39 268 36 = s15 268 36) → (s_39 268 37 = s15 268 37) → (1 ≤ i3_39 ∧ i3_39 ≤ 10) → (0 ≤ i2_39 ∧ i2_39 ≤ 1) → (10 - i3_39).toNat < fu → xW D g h0 s H locs s_39 → lv_has ls 5 [(0, .ref (h0 + 268)), (2, .int (xJ i2_39)), (3, .int (xJ i3_39))] → W p l e { frames := 3, cells := 0, slots := 0, locals := 67 } s m args below meth c H locs 0 0 Q (F0 m 39 ls []) := by
      intro fu
      induction fu with
      | zero => intro i2_39 i3_39 s_39 H locs ls ri2_39 ri3_39 hF_39 q39_0 q39_1 q39_2 q39_3 q39_4 q39_5 q39_6 q39_7 q39_8 q39_9 q39_10 q39_11 q39_12 q39_13 v39_0 v39_1 hm; exact absurd hm (Nat.not_lt_zero _)
      | succ fu ih39 =>
        intro i2_39 i3_39 s_39 H locs ls ri2_39 ri3_39 hF_39 q39_0 q39_1 q39_2 q39_3 q39_4 q39_5 q39_6 q39_7 q39_8 q39_9 q39_10 q39_11 q39_12 q39_13 v39_0 v39_1 hm hW hl
        refine x_iload_n hx hb hl 2 rfl dX11_market_39 rfl ?_
        refine x_bipush hx hb dX11_market_40 (by decide) ?_
        have J78 : ∀ (ls : Array Slot), lv_has ls 5 [(0, .ref (h0 + 268)), (2, .int (xJ i2_39))] → W p l e { frames := 3, cells := 0, slots := 0, locals := 67 } s m args below meth c H locs 0 0 Q (F0 m 78 ls []) := by
          intro ls   hl
          refine x_iload_n hx hb hl 1 rfl dX11_market_78 rfl ?_
          have J103 : ∀ (i2_103 : Int) (s_103 : xS) (H : Heap) (locs : List Loc) (ls : Array Slot), (xR i2_103) → (xFr (fun k => k = 268 ∨ k = 269 ∨ k = 272 ∨ k = 273 ∨ k = 288) s0 s_103) → (IMn s_103) → (IMk s_103) → (IMo s_103) → (IR s_103) → (s_103 268 8 = s0 268 8) → (s_103 268 58 = s0 268 58) → (s_103 268 10 = n) → (s_103 268 14 = s15 268 14) → (s_103 268 15 = s15 268 15) → (s_103 268 16 = s15 268 16) → (s_103 268 34 = s15 268 34) → (s_103 268 35 = s15 268 35) → (s_103 268 36 = s15 268 36) → (s_103 268 37 = s15 268 37) → (0 ≤ i2_103 ∧ i2_103 ≤ 1) → xW D g h0 s H locs s_103 → lv_has ls 5 [(0, .ref (h0 + 268)), (2, .int (xJ i2_103))] → W p l e { frames := 3, cells := 0, slots := 0, locals := 67 } s m args below meth c H locs 0 0 Q (F0 m 103 ls []) := by
            intro i2_103 s_103 H locs ls ri2_103 hF_103 q103_0 q103_1 q103_2 q103_3 q103_4 q103_5 q103_6 q103_7 q103_8 q103_9 q103_10 q103_11 q103_12 q103_13 v103_0 hW hl
            refine x_aload_n hx hb hl 0 rfl dX11_market_103 rfl ?_
            refine x_iconst hx hb dX11_market_104 ?_
            refine x_put (j := 8) hx hb hown hT hE hW cls_X11 (by decide) (fun σ => so_268 h0 g σ) (by decide) (st_X11_8 h0 s_103 268 0) (ln_X11_8 h0 _ _) wq1193 rfl rfl rfl (by decide) dX11_market_105 (fun H locs s29 es29 hW => ?_)
            have q30 : IMn s29 := by rw [es29]; exact IMn_268 q103_0 (by omega)
            have q31 : IMk s29 := by rw [es29]; exact IMk_268 q103_1 (by omega)
            have q32 : IMo s29 := by rw [es29]; exact IMo_o (by unfold suIMo; omega) q103_2
            have q33 : IR s29 := by rw [es29]; exact IR_268 q103_3 (by omega)
            have q34 : s29 268 8 = 0 := by rw [es29, xU_s]
            have q35 : s29 268 58 = s0 268 58 := (show s29 268 58 = s_103 268 58 from by rw [es29, xU_j _ _ (by decide)]).trans q103_5
            have q36 : s29 268 10 = n := (show s29 268 10 = s_103 268 10 from by rw [es29, xU_j _ _ (by decide)]).trans q103_6
            have q37 : s29 268 14 = s15 268 14 := (show s29 268 14 = s_103 268 14 from by rw [es29, xU_j _ _ (by decide)]).trans q103_7
            have q38 : s29 268 15 = s15 268 15 := (show s29 268 15 = s_103 268 15 from by rw [es29, xU_j _ _ (by decide)]).trans q103_8
            have q39 : s29 268 16 = s15 268 16 := (show s29 268 16 = s_103 268 16 from by rw [es29, xU_j _ _ (by decide)]).trans q103_9
            have q40 : s29 268 34 = s15 268 34 := (show s29 268 34 = s_103 268 34 from by rw [es29, xU_j _ _ (by decide)]).trans q103_10
            have q41 : s29 268 35 = s15 268 35 := (show s29 268 35 = s_103 268 35 from by rw [es29, xU_j _ _ (by decide)]).trans q103_11
            have q42 : s29 268 36 = s15 268 36 := (show s29 268 36 = s_103 268 36 from by rw [es29, xU_j _ _ (by decide)]).trans q103_12
            have q43 : s29 268 37 = s15 268 37 := (show s29 268 37 = s_103 268 37 from by rw [es29, xU_j _ _ (by decide)]).trans q103_13
            have hF44 := hF_103.put es29 (by omega)
            refine x_iload_n hx hb hl 1 rfl dX11_market_108 rfl ?_
            refine x_if_ne (tgt := 117) hx hb ri2_103 dX11_market_109 (by decide) (fun c45 => ?_) (fun c45 => ?_)
            · skip
              refine x_iconst hx hb dX11_market_117 ?_
              refine lv_istore_n (lv' := [(3, .int (xJ 0)), (0, .ref (h0 + 268)), (2, .int (xJ i2_103))]) hx hb dX11_market_118 rfl hl (by decide) rfl (fun ls hl => ?_)
              refine x_iconst hx hb dX11_market_119 ?_
              refine lv_istore (lv' := [(4, .int (xJ 0)), (3, .int (xJ 0)), (0, .ref (h0 + 268)), (2, .int (xJ i2_103))]) hx hb dX11_market_120 hl (by decide) rfl (fun ls hl => ?_)
              have L122 : ∀ (fu : Nat) (i3_122 : Int) (i4_122 : Int) (s_122 : xS) (H : Heap) (locs : List Loc) (ls : Array Slot), (xR i3_122) → (xR i4_122) → (xFr (fun k => k = 268 ∨ k = 269 ∨ k = 272 ∨ k = 273 ∨ k = 288) s0 s_122) → (IMn s_122) → (IMk s_122) → (IMo s_122) → (IR s_122) → (s_122 268 8 = 0) → (s_122 268 58 = s0 268 58) → (s_122 268 10 = n) → (s_122 268 14 = s15 268 14) → (s_122 268 15 = s15 268 15) → (s_122 268 16 = s15 268 16) → (s_122 268 34 = s15 268 34) → (s_122 268 35 = s15 268 35) → (s_122 268 36 = s15 268 36) → (s_122 268 37 = s15 268 37) → (0 ≤ i4_122) → (i4_122 ≤ 100) → (0 ≤ i3_122 ∧ i3_122 ≤ i4_122) → (100 + 1 - i4_122).toNat < fu → xW D g h0 s H locs s_122 → lv_has ls 5 [(0, .ref (h0 + 268)), (3, .int (xJ i3_122)), (4, .int (xJ i4_122))] → W p l e { frames := 3, cells := 0, slots := 0, locals := 67 } s m args below meth c H locs 0 0 Q (F0 m 122 ls []) := by
                intro fu
                induction fu with
                | zero => intro i3_122 i4_122 s_122 H locs ls ri3_122 ri4_122 hF_122 q122_0 q122_1 q122_2 q122_3 q122_4 q122_5 q122_6 q122_7 q122_8 q122_9 q122_10 q122_11 q122_12 q122_13 v122_0 v122_1 v122_2 hm; exact absurd hm (Nat.not_lt_zero _)
                | succ fu ih122 =>
                  intro i3_122 i4_122 s_122 H locs ls ri3_122 ri4_122 hF_122 q122_0 q122_1 q122_2 q122_3 q122_4 q122_5 q122_6 q122_7 q122_8 q122_9 q122_10 q122_11 q122_12 q122_13 v122_0 v122_1 v122_2 hm hW hl
                  refine x_iload hx hb hl 2 rfl dX11_market_122 ?_
                  refine x_bipush hx hb dX11_market_124 (by decide) ?_
                  refine x_icmp_ge (tgt := 167) hx hb ri4_122 (by decide) dX11_market_126 (by decide) (fun c46 => ?_) (fun c46 => ?_)
                  · skip
                    refine x_iconst hx hb dX11_market_167 ?_
                    refine lv_istore (lv' := [(4, .int (xJ 0)), (0, .ref (h0 + 268)), (3, .int (xJ i3_122))]) hx hb dX11_market_168 hl (by decide) rfl (fun ls hl => ?_)
                    have L170 : ∀ (fu : Nat) (i4_170 : Int) (s_170 : xS) (H : Heap) (locs : List Loc) (ls : Array Slot), (xR i4_170) → (xFr (fun k => k = 268 ∨ k = 269 ∨ k = 272 ∨ k = 273 ∨ k = 288) s0 s_170) → (IMn s_170) → (IMk s_170) → (IMo s_170) → (IR s_170) → (s_170 268 8 = 0) → (s_170 268 58 = s0 268 58) → (s_170 268 10 = n) → (s_170 268 14 = s15 268 14) → (s_170 268 15 = s15 268 15) → (s_170 268 16 = s15 268 16) → (s_170 268 34 = s15 268 34) → (s_170 268 35 = s15 268 35) → (s_170 268 36 = s15 268 36) → (s_170 268 37 = s15 268 37) → (0 ≤ i4_170) → (i4_170 ≤ 2) → (2 + 1 - i4_170).toNat < fu → xW D g h0 s H locs s_170 → lv_has ls 5 [(0, .ref (h0 + 268)), (3, .int (xJ i3_122)), (4, .int (xJ i4_170))] → W p l e { frames := 3, cells := 0, slots := 0, locals := 67 } s m args below meth c H locs 0 0 Q (F0 m 170 ls []) := by
                      intro fu
                      induction fu with
                      | zero => intro i4_170 s_170 H locs ls ri4_170 hF_170 q170_0 q170_1 q170_2 q170_3 q170_4 q170_5 q170_6 q170_7 q170_8 q170_9 q170_10 q170_11 q170_12 q170_13 v170_0 v170_1 hm; exact absurd hm (Nat.not_lt_zero _)
                      | succ fu ih170 =>
                        intro i4_170 s_170 H locs ls ri4_170 hF_170 q170_0 q170_1 q170_2 q170_3 q170_4 q170_5 q170_6 q170_7 q170_8 q170_9 q170_10 q170_11 q170_12 q170_13 v170_0 v170_1 hm hW hl
                        refine x_iload hx hb hl 2 rfl dX11_market_170 ?_
                        refine x_iconst hx hb dX11_market_172 ?_
                        refine x_icmp_ge (tgt := 228) hx hb ri4_170 (by decide) dX11_market_173 (by decide) (fun c47 => ?_) (fun c47 => ?_)
                        · skip
                          refine x_iconst hx hb dX11_market_228 ?_
                          refine lv_istore (lv' := [(4, .int (xJ 0)), (0, .ref (h0 + 268)), (3, .int (xJ i3_122))]) hx hb dX11_market_229 hl (by decide) rfl (fun ls hl => ?_)
                          have L231 : ∀ (fu : Nat) (i4_231 : Int) (s_231 : xS) (H : Heap) (locs : List Loc) (ls : Array Slot), (xR i4_231) → (xFr (fun k => k = 268 ∨ k = 269 ∨ k = 272 ∨ k = 273 ∨ k = 288) s0 s_231) → (IMn s_231) → (IMk s_231) → (IMo s_231) → (IR s_231) → (s_231 268 8 = 0) → (s_231 268 58 = s0 268 58) → (s_231 268 10 = n) → (s_231 268 14 = s15 268 14) → (s_231 268 15 = s15 268 15) → (s_231 268 16 = s15 268 16) → (s_231 268 34 = s15 268 34) → (s_231 268 35 = s15 268 35) → (s_231 268 36 = s15 268 36) → (s_231 268 37 = s15 268 37) → (0 ≤ i4_231) → (i4_231 ≤ 10) → (10 + 1 - i4_231).toNat < fu → xW D g h0 s H locs s_231 → lv_has ls 5 [(0, .ref (h0 + 268)), (3, .int (xJ i3_122)), (4, .int (xJ i4_231))] → W p l e { frames := 3, cells := 0, slots := 0, locals := 67 } s m args below meth c H locs 0 0 Q (F0 m 231 ls []) := by
                            intro fu
                            induction fu with
                            | zero => intro i4_231 s_231 H locs ls ri4_231 hF_231 q231_0 q231_1 q231_2 q231_3 q231_4 q231_5 q231_6 q231_7 q231_8 q231_9 q231_10 q231_11 q231_12 q231_13 v231_0 v231_1 hm; exact absurd hm (Nat.not_lt_zero _)
                            | succ fu ih231 =>
                              intro i4_231 s_231 H locs ls ri4_231 hF_231 q231_0 q231_1 q231_2 q231_3 q231_4 q231_5 q231_6 q231_7 q231_8 q231_9 q231_10 q231_11 q231_12 q231_13 v231_0 v231_1 hm hW hl
                              refine x_iload hx hb hl 2 rfl dX11_market_231 ?_
                              refine x_bipush hx hb dX11_market_233 (by decide) ?_
                              refine x_icmp_ge (tgt := 290) hx hb ri4_231 (by decide) dX11_market_235 (by decide) (fun c48 => ?_) (fun c48 => ?_)
                              · skip
                                refine x_aload_n hx hb hl 0 rfl dX11_market_290 rfl ?_
                                refine x_iconst hx hb dX11_market_291 ?_
                                refine x_put (j := 58) hx hb hown hT hE hW cls_X11 (by decide) (fun σ => so_268 h0 g σ) (by decide) (st_X11_58 h0 s_231 268 0) (ln_X11_58 h0 _ _) wq1243 rfl rfl rfl (by decide) dX11_market_292 (fun H locs s49 es49 hW => ?_)
                                have q50 : IMn s49 := by rw [es49]; exact IMn_268 q231_0 (by omega)
                                have q51 : IMk s49 := by rw [es49]; exact IMk_268 q231_1 (by omega)
                                have q52 : IMo s49 := by rw [es49]; exact IMo_o (by unfold suIMo; omega) q231_2
                                have q53 : IR s49 := by rw [es49]; exact IR_268 q231_3 (by omega)
                                have q54 : s49 268 8 = 0 := (show s49 268 8 = s_231 268 8 from by rw [es49, xU_j _ _ (by decide)]).trans q231_4
                                have q55 : s49 268 58 = 0 := by rw [es49, xU_s]
                                have q56 : s49 268 10 = n := (show s49 268 10 = s_231 268 10 from by rw [es49, xU_j _ _ (by decide)]).trans q231_6
                                have q57 : s49 268 14 = s15 268 14 := (show s49 268 14 = s_231 268 14 from by rw [es49, xU_j _ _ (by decide)]).trans q231_7
                                have q58 : s49 268 15 = s15 268 15 := (show s49 268 15 = s_231 268 15 from by rw [es49, xU_j _ _ (by decide)]).trans q231_8
                                have q59 : s49 268 16 = s15 268 16 := (show s49 268 16 = s_231 268 16 from by rw [es49, xU_j _ _ (by decide)]).trans q231_9
                                have q60 : s49 268 34 = s15 268 34 := (show s49 268 34 = s_231 268 34 from by rw [es49, xU_j _ _ (by decide)]).trans q231_10
                                have q61 : s49 268 35 = s15 268 35 := (show s49 268 35 = s_231 268 35 from by rw [es49, xU_j _ _ (by decide)]).trans q231_11
                                have q62 : s49 268 36 = s15 268 36 := (show s49 268 36 = s_231 268 36 from by rw [es49, xU_j _ _ (by decide)]).trans q231_12
                                have q63 : s49 268 37 = s15 268 37 := (show s49 268 37 = s_231 268 37 from by rw [es49, xU_j _ _ (by decide)]).trans q231_13
                                have hF64 := hF_231.put es49 (by omega)
                                refine x_iconst hx hb dX11_market_295 ?_
                                refine lv_istore (lv' := [(4, .int (xJ 0)), (0, .ref (h0 + 268)), (3, .int (xJ i3_122))]) hx hb dX11_market_296 hl (by decide) rfl (fun ls hl => ?_)
                                have L298 : ∀ (fu : Nat) (i4_298 : Int) (s_298 : xS) (H : Heap) (locs : List Loc) (ls : Array Slot), (xR i4_298) → (xFr (fun k => k = 268 ∨ k = 269 ∨ k = 272 ∨ k = 273 ∨ k = 288) s0 s_298) → (IMn s_298) → (IMk s_298) → (IMo s_298) → (IR s_298) → (s_298 268 8 = 0) → (s_298 268 58 = 0) → (s_298 268 10 = n) → (s_298 268 14 = s15 268 14) → (s_298 268 15 = s15 268 15) → (s_298 268 16 = s15 268 16) → (s_298 268 34 = s15 268 34) → (s_298 268 35 = s15 268 35) → (s_298 268 36 = s15 268 36) → (s_298 268 37 = s15 268 37) → (0 ≤ i4_298) → (i4_298 ≤ 4) → (4 + 1 - i4_298).toNat < fu → xW D g h0 s H locs s_298 → lv_has ls 5 [(0, .ref (h0 + 268)), (3, .int (xJ i3_122)), (4, .int (xJ i4_298))] → W p l e { frames := 3, cells := 0, slots := 0, locals := 67 } s m args below meth c H locs 0 0 Q (F0 m 298 ls []) := by
                                  intro fu
                                  induction fu with
                                  | zero => intro i4_298 s_298 H locs ls ri4_298 hF_298 q298_0 q298_1 q298_2 q298_3 q298_4 q298_5 q298_6 q298_7 q298_8 q298_9 q298_10 q298_11 q298_12 q298_13 v298_0 v298_1 hm; exact absurd hm (Nat.not_lt_zero _)
                                  | succ fu ih298 =>
                                    intro i4_298 s_298 H locs ls ri4_298 hF_298 q298_0 q298_1 q298_2 q298_3 q298_4 q298_5 q298_6 q298_7 q298_8 q298_9 q298_10 q298_11 q298_12 q298_13 v298_0 v298_1 hm hW hl
                                    refine x_iload hx hb hl 2 rfl dX11_market_298 ?_
                                    refine x_iconst hx hb dX11_market_300 ?_
                                    refine x_icmp_ge (tgt := 343) hx hb ri4_298 (by decide) dX11_market_301 (by decide) (fun c65 => ?_) (fun c65 => ?_)
                                    · skip
                                      refine x_iload_n hx hb hl 1 rfl dX11_market_343 rfl ?_
                                      rw [eQ]
                                      exact x_iret hx hb hr hlk hW ri3_122 ⟨hF_298, ⟨q298_0, q298_1, q298_2, trivial⟩, by omega⟩ dX11_market_344
                                    refine x_aload_n hx hb hl 0 rfl dX11_market_304 rfl ?_
                                    refine x_get (j := 4) (v := .ref (h0 + 273)) hx hb hown hT hE hW cls_X11 (Or.inl (by decide)) (so_268 h0 g _) (by decide) rfl wq1189 dX11_market_305 ?_
                                    refine x_iload hx hb hl 2 rfl dX11_market_308 ?_
                                    refine x_iald hx hb hE hW (Or.inl (by decide)) (sa_273 h0 g _) (by omega) (by decide) dX11_market_310 ?_
                                    refine x_rd hW (fun x66 ex66 rx66 => ?_)
                                    have bx66 : -1 ≤ x66 ∧ x66 ≤ 99 := by rw [ex66]; exact IMn.l q298_0 _ (by omega) (by omega)
                                    refine x_iconst hx hb dX11_market_311 ?_
                                    refine x_icmp_eq (tgt := 337) hx hb rx66 (by decide) dX11_market_312 (by decide) (fun c67 => ?_) (fun c67 => ?_)
                                    · skip
                                      refine x_iinc (lv' := [(4, .int (xJ (i4_298 + 1))), (0, .ref (h0 + 268)), (3, .int (xJ i3_122))]) hx hb hl 2 rfl dX11_market_337 (by decide) rfl (fun ls hl => ?_)
                                      refine lv_goto (tgt := 298) hx hb dX11_market_340 (by decide) ?_
                                      exact ih298 (i4_298 + 1) s_298 H locs ls (by omega) hF_298 q298_0 q298_1 q298_2 q298_3 q298_4 q298_5 q298_6 q298_7 q298_8 q298_9 q298_10 q298_11 q298_12 q298_13 (by omega) (by omega) (by omega) hW (lv_sub hl [1, 2, 0] rfl)
                                    refine x_aload_n hx hb hl 0 rfl dX11_market_315 rfl ?_
                                    refine x_aload_n hx hb hl 0 rfl dX11_market_316 rfl ?_
                                    refine x_get (j := 4) (v := .ref (h0 + 273)) hx hb hown hT hE hW cls_X11 (Or.inl (by decide)) (so_268 h0 g _) (by decide) rfl wq1189 dX11_market_317 ?_
                                    refine x_iload hx hb hl 2 rfl dX11_market_320 ?_
                                    refine x_iald hx hb hE hW (Or.inl (by decide)) (sa_273 h0 g _) (by omega) (by decide) dX11_market_322 ?_
                                    refine x_rd hW (fun x68 ex68 rx68 => ?_)
                                    have bx68 : -1 ≤ x68 ∧ x68 ≤ 99 := by rw [ex68]; exact IMn.l q298_0 _ (by omega) (by omega)
                                    refine x_goi (x_runV (As := [.int (xJ x68)]) hx hb hml hown hT hE hW hl.1 (Or.inl (by decide)) (so_268 h0 g _) rfl cf_X11_isGround wq1419 wq110 wq1417 (c_X11_isGround l D g T h0 s_298 hW.2.1 x68 rx68 (by omega) q298_0 q298_1 q298_2) ⟨rfl, rfl, ⟨by decide, by decide⟩, ⟨by decide, by decide⟩⟩ rfl rfl (Nat.le_of_ble_eq_true rfl) dX11_market_323) hW (fun x69 s70 H locs rx69 hp71 hW => ?_)
                                    obtain ⟨es70, hp71⟩ := hp71
                                    subst es70
                                    have ghp71 := hp71
                                    refine x_if_ne (tgt := 337) hx hb rx69 dX11_market_326 (by decide) (fun c72 => ?_) (fun c72 => ?_)
                                    · skip
                                      refine x_iinc (lv' := [(4, .int (xJ (i4_298 + 1))), (0, .ref (h0 + 268)), (3, .int (xJ i3_122))]) hx hb hl 2 rfl dX11_market_337 (by decide) rfl (fun ls hl => ?_)
                                      refine lv_goto (tgt := 298) hx hb dX11_market_340 (by decide) ?_
                                      exact ih298 (i4_298 + 1) s_298 H locs ls (by omega) hF_298 q298_0 q298_1 q298_2 q298_3 q298_4 q298_5 q298_6 q298_7 q298_8 q298_9 q298_10 q298_11 q298_12 q298_13 (by omega) (by omega) (by omega) hW (lv_sub hl [1, 2, 0] rfl)
                                    refine x_aload_n hx hb hl 0 rfl dX11_market_329 rfl ?_
                                    refine x_get (j := 4) (v := .ref (h0 + 273)) hx hb hown hT hE hW cls_X11 (Or.inl (by decide)) (so_268 h0 g _) (by decide) rfl wq1189 dX11_market_330 ?_
                                    refine x_iload hx hb hl 2 rfl dX11_market_333 ?_
                                    refine x_iconst hx hb dX11_market_335 ?_
                                    refine x_iast hx hb hE hW (by decide) (fun σ => sa_273 h0 g σ) (by omega) (by decide) (by decide) dX11_market_336 (fun H locs s73 es73 hW => ?_)
                                    have q74 : IMn s73 := by rw [es73]; exact IMn_273 q298_0 (by omega)
                                    have q75 : IMk s73 := by rw [es73]; exact IMk_o (by unfold suIMk; omega) q298_1
                                    have q76 : IMo s73 := by rw [es73]; exact IMo_o (by unfold suIMo; omega) q298_2
                                    have q77 : IR s73 := by rw [es73]; exact IR_o (by unfold suIR; omega) q298_3
                                    have q78 : s73 268 8 = 0 := (show s73 268 8 = s_298 268 8 from by rw [es73, xU_k _ _ _ (by omega)]).trans q298_4
                                    have q79 : s73 268 58 = 0 := (show s73 268 58 = s_298 268 58 from by rw [es73, xU_k _ _ _ (by omega)]).trans q298_5
                                    have q80 : s73 268 10 = n := (show s73 268 10 = s_298 268 10 from by rw [es73, xU_k _ _ _ (by omega)]).trans q298_6
                                    have q81 : s73 268 14 = s15 268 14 := (show s73 268 14 = s_298 268 14 from by rw [es73, xU_k _ _ _ (by omega)]).trans q298_7
                                    have q82 : s73 268 15 = s15 268 15 := (show s73 268 15 = s_298 268 15 from by rw [es73, xU_k _ _ _ (by omega)]).trans q298_8
                                    have q83 : s73 268 16 = s15 268 16 := (show s73 268 16 = s_298 268 16 from by rw [es73, xU_k _ _ _ (by omega)]).trans q298_9
                                    have q84 : s73 268 34 = s15 268 34 := (show s73 268 34 = s_298 268 34 from by rw [es73, xU_k _ _ _ (by omega)]).trans q298_10
                                    have q85 : s73 268 35 = s15 268 35 := (show s73 268 35 = s_298 268 35 from by rw [es73, xU_k _ _ _ (by omega)]).trans q298_11
                                    have q86 : s73 268 36 = s15 268 36 := (show s73 268 36 = s_298 268 36 from by rw [es73, xU_k _ _ _ (by omega)]).trans q298_12
                                    have q87 : s73 268 37 = s15 268 37 := (show s73 268 37 = s_298 268 37 from by rw [es73, xU_k _ _ _ (by omega)]).trans q298_13
                                    have hF88 := hF_298.put es73 (by omega)
                                    refine x_iinc (lv' := [(4, .int (xJ (i4_298 + 1))), (0, .ref (h0 + 268)), (3, .int (xJ i3_122))]) hx hb hl 2 rfl dX11_market_337 (by decide) rfl (fun ls hl => ?_)
                                    refine lv_goto (tgt := 298) hx hb dX11_market_340 (by decide) ?_
                                    exact ih298 (i4_298 + 1) s73 H locs ls (by omega) hF88 q74 q75 q76 q77 q78 q79 q80 q81 q82 q83 q84 q85 q86 q87 (by omega) (by omega) (by omega) hW (lv_sub hl [1, 2, 0] rfl)
                                exact L298 ((4 + 1 - 0 : Int).toNat + 1) 0 s49 H locs ls (by decide) hF64 q50 q51 q52 q53 q54 q55 q56 q57 q58 q59 q60 q61 q62 q63 (by omega) (by omega) (Nat.lt_succ_self _) hW (lv_sub hl [1, 2, 0] rfl)
                              refine x_aload_n hx hb hl 0 rfl dX11_market_238 rfl ?_
                              refine x_iload hx hb hl 2 rfl dX11_market_239 ?_
                              refine x_goi (x_runV (As := [.int (xJ i4_231)]) hx hb hml hown hT hE hW hl.1 (Or.inl (by decide)) (so_268 h0 g _) rfl cf_X11_isFelon wq1423 wq111 wq1421 (c_X11_isFelon l D g T h0 s_231 hW.2.1 i4_231 ri4_231 q231_0 q231_1 q231_2) ⟨rfl, rfl, ⟨by decide, by decide⟩, ⟨by decide, by decide⟩⟩ rfl rfl (Nat.le_of_ble_eq_true rfl) dX11_market_241) hW (fun x89 s90 H locs rx89 hp91 hW => ?_)
                              obtain ⟨es90, hp91⟩ := hp91
                              subst es90
                              have ghp91 := hp91
                              refine x_if_eq (tgt := 284) hx hb rx89 dX11_market_244 (by decide) (fun c92 => ?_) (fun c92 => ?_)
                              · skip
                                refine x_iinc (lv' := [(4, .int (xJ (i4_231 + 1))), (0, .ref (h0 + 268)), (3, .int (xJ i3_122))]) hx hb hl 2 rfl dX11_market_284 (by decide) rfl (fun ls hl => ?_)
                                refine lv_goto (tgt := 231) hx hb dX11_market_287 (by decide) ?_
                                exact ih231 (i4_231 + 1) s_231 H locs ls (by omega) hF_231 q231_0 q231_1 q231_2 q231_3 q231_4 q231_5 q231_6 q231_7 q231_8 q231_9 q231_10 q231_11 q231_12 q231_13 (by omega) (by omega) (by omega) hW (lv_sub hl [1, 2, 0] rfl)
                              refine x_aload_n hx hb hl 0 rfl dX11_market_247 rfl ?_
                              refine x_aload_n hx hb hl 0 rfl dX11_market_248 rfl ?_
                              refine x_get (j := 0) (v := .ref (h0 + 269)) hx hb hown hT hE hW cls_X11 (Or.inl (by decide)) (so_268 h0 g _) (by decide) rfl wq1185 dX11_market_249 ?_
                              refine x_iconst hx hb dX11_market_252 ?_
                              refine x_iload hx hb hl 2 rfl dX11_market_253 ?_
                              refine x_iadd hx hb dX11_market_255 ?_
                              refine x_iald hx hb hE hW (Or.inl (by decide)) (sa_269 h0 g _) (by omega) (by decide) dX11_market_256 ?_
                              refine x_rd hW (fun x93 ex93 rx93 => ?_)
                              have bx93 : 0 ≤ x93 ∧ x93 ≤ 99 := by rw [ex93]; exact (IMn.n1 q231_0).2.2.1 _ (by omega) (by omega)
                              refine x_goi (x_runV (As := [.int (xJ x93)]) hx hb hml hown hT hE hW hl.1 (Or.inl (by decide)) (so_268 h0 g _) rfl cf_X11_isGround wq1419 wq110 wq1417 (c_X11_isGround l D g T h0 s_231 hW.2.1 x93 rx93 (by omega) q231_0 q231_1 q231_2) ⟨rfl, rfl, ⟨by decide, by decide⟩, ⟨by decide, by decide⟩⟩ rfl rfl (Nat.le_of_ble_eq_true rfl) dX11_market_257) hW (fun x94 s95 H locs rx94 hp96 hW => ?_)
                              obtain ⟨es95, hp96⟩ := hp96
                              subst es95
                              have ghp96 := hp96
                              refine x_if_ne (tgt := 284) hx hb rx94 dX11_market_260 (by decide) (fun c97 => ?_) (fun c97 => ?_)
                              · skip
                                refine x_iinc (lv' := [(4, .int (xJ (i4_231 + 1))), (0, .ref (h0 + 268)), (3, .int (xJ i3_122))]) hx hb hl 2 rfl dX11_market_284 (by decide) rfl (fun ls hl => ?_)
                                refine lv_goto (tgt := 231) hx hb dX11_market_287 (by decide) ?_
                                exact ih231 (i4_231 + 1) s_231 H locs ls (by omega) hF_231 q231_0 q231_1 q231_2 q231_3 q231_4 q231_5 q231_6 q231_7 q231_8 q231_9 q231_10 q231_11 q231_12 q231_13 (by omega) (by omega) (by omega) hW (lv_sub hl [1, 2, 0] rfl)
                              refine x_aload_n hx hb hl 0 rfl dX11_market_263 rfl ?_
                              refine x_get (j := 0) (v := .ref (h0 + 269)) hx hb hown hT hE hW cls_X11 (Or.inl (by decide)) (so_268 h0 g _) (by decide) rfl wq1185 dX11_market_264 ?_
                              refine x_bipush hx hb dX11_market_267 (by decide) ?_
                              refine x_aload_n hx hb hl 0 rfl dX11_market_269 rfl ?_
                              refine x_get (j := 0) (v := .ref (h0 + 269)) hx hb hown hT hE hW cls_X11 (Or.inl (by decide)) (so_268 h0 g _) (by decide) rfl wq1185 dX11_market_270 ?_
                              refine x_bipush hx hb dX11_market_273 (by decide) ?_
                              refine x_iald hx hb hE hW (Or.inl (by decide)) (sa_269 h0 g _) ⟨by decide, by decide⟩ (by decide) dX11_market_275 ?_
                              refine x_rd hW (fun x98 ex98 rx98 => ?_)
                              refine x_iconst hx hb dX11_market_276 ?_
                              refine x_iload hx hb hl 2 rfl dX11_market_277 ?_
                              refine lv_ishl hx hb dX11_market_279 ?_
                              refine x_any (fun x99 rx99 => ?_)
                              refine x_iconst hx hb dX11_market_280 ?_
                              refine lv_ixor hx hb dX11_market_281 ?_
                              refine x_any (fun x100 rx100 => ?_)
                              refine lv_iand hx hb dX11_market_282 ?_
                              refine x_any (fun x101 rx101 => ?_)
                              refine x_iast hx hb hE hW (by decide) (fun σ => sa_269 h0 g σ) ⟨by decide, by decide⟩ (by decide) rx101 dX11_market_283 (fun H locs s102 es102 hW => ?_)
                              have q103 : IMn s102 := by rw [es102]; exact IMn_N269 q231_0 (by omega)
                              have q104 : IMk s102 := by rw [es102]; exact IMk_o (by unfold suIMk; omega) q231_1
                              have q105 : IMo s102 := by rw [es102]; exact IMo_o (by unfold suIMo; omega) q231_2
                              have q106 : IR s102 := by rw [es102]; exact IR_o (by unfold suIR; omega) q231_3
                              have q107 : s102 268 8 = 0 := (show s102 268 8 = s_231 268 8 from by rw [es102, xU_k _ _ _ (by omega)]).trans q231_4
                              have q108 : s102 268 58 = s0 268 58 := (show s102 268 58 = s_231 268 58 from by rw [es102, xU_k _ _ _ (by omega)]).trans q231_5
                              have q109 : s102 268 10 = n := (show s102 268 10 = s_231 268 10 from by rw [es102, xU_k _ _ _ (by omega)]).trans q231_6
                              have q110 : s102 268 14 = s15 268 14 := (show s102 268 14 = s_231 268 14 from by rw [es102, xU_k _ _ _ (by omega)]).trans q231_7
                              have q111 : s102 268 15 = s15 268 15 := (show s102 268 15 = s_231 268 15 from by rw [es102, xU_k _ _ _ (by omega)]).trans q231_8
                              have q112 : s102 268 16 = s15 268 16 := (show s102 268 16 = s_231 268 16 from by rw [es102, xU_k _ _ _ (by omega)]).trans q231_9
                              have q113 : s102 268 34 = s15 268 34 := (show s102 268 34 = s_231 268 34 from by rw [es102, xU_k _ _ _ (by omega)]).trans q231_10
                              have q114 : s102 268 35 = s15 268 35 := (show s102 268 35 = s_231 268 35 from by rw [es102, xU_k _ _ _ (by omega)]).trans q231_11
                              have q115 : s102 268 36 = s15 268 36 := (show s102 268 36 = s_231 268 36 from by rw [es102, xU_k _ _ _ (by omega)]).trans q231_12
                              have q116 : s102 268 37 = s15 268 37 := (show s102 268 37 = s_231 268 37 from by rw [es102, xU_k _ _ _ (by omega)]).trans q231_13
                              have hF117 := hF_231.put es102 (by omega)
                              refine x_iinc (lv' := [(4, .int (xJ (i4_231 + 1))), (0, .ref (h0 + 268)), (3, .int (xJ i3_122))]) hx hb hl 2 rfl dX11_market_284 (by decide) rfl (fun ls hl => ?_)
                              refine lv_goto (tgt := 231) hx hb dX11_market_287 (by decide) ?_
                              exact ih231 (i4_231 + 1) s102 H locs ls (by omega) hF117 q103 q104 q105 q106 q107 q108 q109 q110 q111 q112 q113 q114 q115 q116 (by omega) (by omega) (by omega) hW (lv_sub hl [1, 2, 0] rfl)
                          exact L231 ((10 + 1 - 0 : Int).toNat + 1) 0 s_170 H locs ls (by decide) hF_170 q170_0 q170_1 q170_2 q170_3 q170_4 q170_5 q170_6 q170_7 q170_8 q170_9 q170_10 q170_11 q170_12 q170_13 (by omega) (by omega) (Nat.lt_succ_self _) hW (lv_sub hl [1, 2, 0] rfl)
                        refine x_aload_n hx hb hl 0 rfl dX11_market_176 rfl ?_
                        refine x_iload hx hb hl 2 rfl dX11_market_177 ?_
                        refine x_goi (x_runV (As := [.int (xJ i4_170)]) hx hb hml hown hT hE hW hl.1 (Or.inl (by decide)) (so_268 h0 g _) rfl cf_X11_isJudge wq1409 wq109 wq1407 (c_X11_isJudge l D g T h0 s_170 hW.2.1 i4_170 ri4_170 q170_0 q170_1 q170_2) ⟨rfl, rfl, ⟨by decide, by decide⟩, ⟨by decide, by decide⟩⟩ rfl rfl (Nat.le_of_ble_eq_true rfl) dX11_market_179) hW (fun x118 s119 H locs rx118 hp120 hW => ?_)
                        obtain ⟨es119, hp120⟩ := hp120
                        subst es119
                        have ghp120 := hp120
                        refine x_if_eq (tgt := 222) hx hb rx118 dX11_market_182 (by decide) (fun c121 => ?_) (fun c121 => ?_)
                        · skip
                          refine x_iinc (lv' := [(4, .int (xJ (i4_170 + 1))), (0, .ref (h0 + 268)), (3, .int (xJ i3_122))]) hx hb hl 2 rfl dX11_market_222 (by decide) rfl (fun ls hl => ?_)
                          refine lv_goto (tgt := 170) hx hb dX11_market_225 (by decide) ?_
                          exact ih170 (i4_170 + 1) s_170 H locs ls (by omega) hF_170 q170_0 q170_1 q170_2 q170_3 q170_4 q170_5 q170_6 q170_7 q170_8 q170_9 q170_10 q170_11 q170_12 q170_13 (by omega) (by omega) (by omega) hW (lv_sub hl [1, 2, 0] rfl)
                        refine x_aload_n hx hb hl 0 rfl dX11_market_185 rfl ?_
                        refine x_aload_n hx hb hl 0 rfl dX11_market_186 rfl ?_
                        refine x_get (j := 0) (v := .ref (h0 + 269)) hx hb hown hT hE hW cls_X11 (Or.inl (by decide)) (so_268 h0 g _) (by decide) rfl wq1185 dX11_market_187 ?_
                        refine x_iconst hx hb dX11_market_190 ?_
                        refine x_iload hx hb hl 2 rfl dX11_market_191 ?_
                        refine x_iadd hx hb dX11_market_193 ?_
                        refine x_iald hx hb hE hW (Or.inl (by decide)) (sa_269 h0 g _) (by omega) (by decide) dX11_market_194 ?_
                        refine x_rd hW (fun x122 ex122 rx122 => ?_)
                        have bx122 : 0 ≤ x122 ∧ x122 ≤ 99 := by rw [ex122]; exact (IMn.n1 q170_0).1 _ (by omega) (by omega)
                        refine x_goi (x_runV (As := [.int (xJ x122)]) hx hb hml hown hT hE hW hl.1 (Or.inl (by decide)) (so_268 h0 g _) rfl cf_X11_isGround wq1419 wq110 wq1417 (c_X11_isGround l D g T h0 s_170 hW.2.1 x122 rx122 (by omega) q170_0 q170_1 q170_2) ⟨rfl, rfl, ⟨by decide, by decide⟩, ⟨by decide, by decide⟩⟩ rfl rfl (Nat.le_of_ble_eq_true rfl) dX11_market_195) hW (fun x123 s124 H locs rx123 hp125 hW => ?_)
                        obtain ⟨es124, hp125⟩ := hp125
                        subst es124
                        have ghp125 := hp125
                        refine x_if_ne (tgt := 222) hx hb rx123 dX11_market_198 (by decide) (fun c126 => ?_) (fun c126 => ?_)
                        · skip
                          refine x_iinc (lv' := [(4, .int (xJ (i4_170 + 1))), (0, .ref (h0 + 268)), (3, .int (xJ i3_122))]) hx hb hl 2 rfl dX11_market_222 (by decide) rfl (fun ls hl => ?_)
                          refine lv_goto (tgt := 170) hx hb dX11_market_225 (by decide) ?_
                          exact ih170 (i4_170 + 1) s_170 H locs ls (by omega) hF_170 q170_0 q170_1 q170_2 q170_3 q170_4 q170_5 q170_6 q170_7 q170_8 q170_9 q170_10 q170_11 q170_12 q170_13 (by omega) (by omega) (by omega) hW (lv_sub hl [1, 2, 0] rfl)
                        refine x_aload_n hx hb hl 0 rfl dX11_market_201 rfl ?_
                        refine x_get (j := 0) (v := .ref (h0 + 269)) hx hb hown hT hE hW cls_X11 (Or.inl (by decide)) (so_268 h0 g _) (by decide) rfl wq1185 dX11_market_202 ?_
                        refine x_bipush hx hb dX11_market_205 (by decide) ?_
                        refine x_aload_n hx hb hl 0 rfl dX11_market_207 rfl ?_
                        refine x_get (j := 0) (v := .ref (h0 + 269)) hx hb hown hT hE hW cls_X11 (Or.inl (by decide)) (so_268 h0 g _) (by decide) rfl wq1185 dX11_market_208 ?_
                        refine x_bipush hx hb dX11_market_211 (by decide) ?_
                        refine x_iald hx hb hE hW (Or.inl (by decide)) (sa_269 h0 g _) ⟨by decide, by decide⟩ (by decide) dX11_market_213 ?_
                        refine x_rd hW (fun x127 ex127 rx127 => ?_)
                        refine x_iconst hx hb dX11_market_214 ?_
                        refine x_iload hx hb hl 2 rfl dX11_market_215 ?_
                        refine lv_ishl hx hb dX11_market_217 ?_
                        refine x_any (fun x128 rx128 => ?_)
                        refine x_iconst hx hb dX11_market_218 ?_
                        refine lv_ixor hx hb dX11_market_219 ?_
                        refine x_any (fun x129 rx129 => ?_)
                        refine lv_iand hx hb dX11_market_220 ?_
                        refine x_any (fun x130 rx130 => ?_)
                        refine x_iast hx hb hE hW (by decide) (fun σ => sa_269 h0 g σ) ⟨by decide, by decide⟩ (by decide) rx130 dX11_market_221 (fun H locs s131 es131 hW => ?_)
                        have q132 : IMn s131 := by rw [es131]; exact IMn_N269 q170_0 (by omega)
                        have q133 : IMk s131 := by rw [es131]; exact IMk_o (by unfold suIMk; omega) q170_1
                        have q134 : IMo s131 := by rw [es131]; exact IMo_o (by unfold suIMo; omega) q170_2
                        have q135 : IR s131 := by rw [es131]; exact IR_o (by unfold suIR; omega) q170_3
                        have q136 : s131 268 8 = 0 := (show s131 268 8 = s_170 268 8 from by rw [es131, xU_k _ _ _ (by omega)]).trans q170_4
                        have q137 : s131 268 58 = s0 268 58 := (show s131 268 58 = s_170 268 58 from by rw [es131, xU_k _ _ _ (by omega)]).trans q170_5
                        have q138 : s131 268 10 = n := (show s131 268 10 = s_170 268 10 from by rw [es131, xU_k _ _ _ (by omega)]).trans q170_6
                        have q139 : s131 268 14 = s15 268 14 := (show s131 268 14 = s_170 268 14 from by rw [es131, xU_k _ _ _ (by omega)]).trans q170_7
                        have q140 : s131 268 15 = s15 268 15 := (show s131 268 15 = s_170 268 15 from by rw [es131, xU_k _ _ _ (by omega)]).trans q170_8
                        have q141 : s131 268 16 = s15 268 16 := (show s131 268 16 = s_170 268 16 from by rw [es131, xU_k _ _ _ (by omega)]).trans q170_9
                        have q142 : s131 268 34 = s15 268 34 := (show s131 268 34 = s_170 268 34 from by rw [es131, xU_k _ _ _ (by omega)]).trans q170_10
                        have q143 : s131 268 35 = s15 268 35 := (show s131 268 35 = s_170 268 35 from by rw [es131, xU_k _ _ _ (by omega)]).trans q170_11
                        have q144 : s131 268 36 = s15 268 36 := (show s131 268 36 = s_170 268 36 from by rw [es131, xU_k _ _ _ (by omega)]).trans q170_12
                        have q145 : s131 268 37 = s15 268 37 := (show s131 268 37 = s_170 268 37 from by rw [es131, xU_k _ _ _ (by omega)]).trans q170_13
                        have hF146 := hF_170.put es131 (by omega)
                        refine x_iinc (lv' := [(4, .int (xJ (i4_170 + 1))), (0, .ref (h0 + 268)), (3, .int (xJ i3_122))]) hx hb hl 2 rfl dX11_market_222 (by decide) rfl (fun ls hl => ?_)
                        refine lv_goto (tgt := 170) hx hb dX11_market_225 (by decide) ?_
                        exact ih170 (i4_170 + 1) s131 H locs ls (by omega) hF146 q132 q133 q134 q135 q136 q137 q138 q139 q140 q141 q142 q143 q144 q145 (by omega) (by omega) (by omega) hW (lv_sub hl [1, 2, 0] rfl)
                    exact L170 ((2 + 1 - 0 : Int).toNat + 1) 0 s_122 H locs ls (by decide) hF_122 q122_0 q122_1 q122_2 q122_3 q122_4 q122_5 q122_6 q122_7 q122_8 q122_9 q122_10 q122_11 q122_12 q122_13 (by omega) (by omega) (Nat.lt_succ_self _) hW (lv_sub hl [1, 2, 0] rfl)
                  refine x_aload_n hx hb hl 0 rfl dX11_market_129 rfl ?_
                  refine x_get (j := 3) (v := .ref (h0 + 272)) hx hb hown hT hE hW cls_X11 (Or.inl (by decide)) (so_268 h0 g _) (by decide) rfl wq1188 dX11_market_130 ?_
                  refine x_iload hx hb hl 2 rfl dX11_market_133 ?_
                  refine x_aload_n hx hb hl 0 rfl dX11_market_135 rfl ?_
                  refine x_get (j := 29) (v := .ref (h0 + 288)) hx hb hown hT hE hW cls_X11 (Or.inl (by decide)) (so_268 h0 g _) (by decide) rfl wq1214 dX11_market_136 ?_
                  refine x_iload hx hb hl 2 rfl dX11_market_139 ?_
                  refine x_iald hx hb hE hW (Or.inl (by decide)) (sa_288 h0 g _) (by omega) (by decide) dX11_market_141 ?_
                  refine x_rd hW (fun x147 ex147 rx147 => ?_)
                  refine x_iast hx hb hE hW (by decide) (fun σ => sa_272 h0 g σ) (by omega) (by decide) rx147 dX11_market_142 (fun H locs s148 es148 hW => ?_)
                  have q149 : IMn s148 := by rw [es148]; exact IMn_o (by unfold suIMn; omega) q122_0
                  have q150 : IMk s148 := by rw [es148]; exact IMk_o (by unfold suIMk; omega) q122_1
                  have q151 : IMo s148 := by rw [es148]; exact IMo_o (by unfold suIMo; omega) q122_2
                  have q152 : IR s148 := by rw [es148]; exact IR_o (by unfold suIR; omega) q122_3
                  have q153 : s148 268 8 = 0 := (show s148 268 8 = s_122 268 8 from by rw [es148, xU_k _ _ _ (by omega)]).trans q122_4
                  have q154 : s148 268 58 = s0 268 58 := (show s148 268 58 = s_122 268 58 from by rw [es148, xU_k _ _ _ (by omega)]).trans q122_5
                  have q155 : s148 268 10 = n := (show s148 268 10 = s_122 268 10 from by rw [es148, xU_k _ _ _ (by omega)]).trans q122_6
                  have q156 : s148 268 14 = s15 268 14 := (show s148 268 14 = s_122 268 14 from by rw [es148, xU_k _ _ _ (by omega)]).trans q122_7
                  have q157 : s148 268 15 = s15 268 15 := (show s148 268 15 = s_122 268 15 from by rw [es148, xU_k _ _ _ (by omega)]).trans q122_8
                  have q158 : s148 268 16 = s15 268 16 := (show s148 268 16 = s_122 268 16 from by rw [es148, xU_k _ _ _ (by omega)]).trans q122_9
                  have q159 : s148 268 34 = s15 268 34 := (show s148 268 34 = s_122 268 34 from by rw [es148, xU_k _ _ _ (by omega)]).trans q122_10
                  have q160 : s148 268 35 = s15 268 35 := (show s148 268 35 = s_122 268 35 from by rw [es148, xU_k _ _ _ (by omega)]).trans q122_11
                  have q161 : s148 268 36 = s15 268 36 := (show s148 268 36 = s_122 268 36 from by rw [es148, xU_k _ _ _ (by omega)]).trans q122_12
                  have q162 : s148 268 37 = s15 268 37 := (show s148 268 37 = s_122 268 37 from by rw [es148, xU_k _ _ _ (by omega)]).trans q122_13
                  have hF163 := hF_122.put es148 (by omega)
                  refine x_iload_n hx hb hl 1 rfl dX11_market_143 rfl ?_
                  refine x_aload_n hx hb hl 0 rfl dX11_market_144 rfl ?_
                  refine x_get (j := 3) (v := .ref (h0 + 272)) hx hb hown hT hE hW cls_X11 (Or.inl (by decide)) (so_268 h0 g _) (by decide) rfl wq1188 dX11_market_145 ?_
                  refine x_iload hx hb hl 2 rfl dX11_market_148 ?_
                  refine x_iald hx hb hE hW (Or.inl (by decide)) (sa_272 h0 g _) (by omega) (by decide) dX11_market_150 ?_
                  refine x_rd hW (fun x164 ex164 rx164 => ?_)
                  refine x_if_ne (tgt := 158) hx hb rx164 dX11_market_151 (by decide) (fun c165 => ?_) (fun c165 => ?_)
                  · skip
                    refine x_iconst hx hb dX11_market_158 ?_
                    refine x_iadd hx hb dX11_market_159 ?_
                    refine x_nm (fun x166 ex166 => ?_)
                    refine lv_istore_n (lv' := [(3, .int (xJ x166)), (0, .ref (h0 + 268)), (4, .int (xJ i4_122))]) hx hb dX11_market_160 rfl hl (by decide) rfl (fun ls hl => ?_)
                    refine x_iinc (lv' := [(4, .int (xJ (i4_122 + 1))), (3, .int (xJ x166)), (0, .ref (h0 + 268))]) hx hb hl 2 rfl dX11_market_161 (by decide) rfl (fun ls hl => ?_)
                    refine lv_goto (tgt := 122) hx hb dX11_market_164 (by decide) ?_
                    exact ih122 x166 (i4_122 + 1) s148 H locs ls (by omega) (by omega) hF163 q149 q150 q151 q152 q153 q154 q155 q156 q157 q158 q159 q160 q161 q162 (by omega) (by omega) (by omega) (by omega) hW (lv_sub hl [2, 1, 0] rfl)
                  refine x_iconst hx hb dX11_market_154 ?_
                  refine lv_goto (tgt := 159) hx hb dX11_market_155 (by decide) ?_
                  refine x_iadd hx hb dX11_market_159 ?_
                  refine x_nm (fun x167 ex167 => ?_)
                  refine lv_istore_n (lv' := [(3, .int (xJ x167)), (0, .ref (h0 + 268)), (4, .int (xJ i4_122))]) hx hb dX11_market_160 rfl hl (by decide) rfl (fun ls hl => ?_)
                  refine x_iinc (lv' := [(4, .int (xJ (i4_122 + 1))), (3, .int (xJ x167)), (0, .ref (h0 + 268))]) hx hb hl 2 rfl dX11_market_161 (by decide) rfl (fun ls hl => ?_)
                  refine lv_goto (tgt := 122) hx hb dX11_market_164 (by decide) ?_
                  exact ih122 x167 (i4_122 + 1) s148 H locs ls (by omega) (by omega) hF163 q149 q150 q151 q152 q153 q154 q155 q156 q157 q158 q159 q160 q161 q162 (by omega) (by omega) (by omega) (by omega) hW (lv_sub hl [2, 1, 0] rfl)
              exact L122 ((100 + 1 - 0 : Int).toNat + 1) 0 0 s29 H locs ls (by decide) (by decide) hF44 q30 q31 q32 q33 q34 q35 q36 q37 q38 q39 q40 q41 q42 q43 (by omega) (by omega) (by omega) (Nat.lt_succ_self _) hW (lv_sub hl [2, 1, 0] rfl)
            refine x_aload_n hx hb hl 0 rfl dX11_market_112 rfl ?_
            refine x_get (j := 11) (v := .int (xJ (s29 268 11))) hx hb hown hT hE hW cls_X11 (Or.inl (by decide)) (so_268 h0 g _) (by decide) rfl wq1196 dX11_market_113 ?_
            refine x_rd hW (fun x168 ex168 rx168 => ?_)
            rw [eQ]
            exact x_iret hx hb hr hlk hW rx168 ⟨hF44, ⟨q30, q31, q32, trivial⟩, by omega⟩ dX11_market_116
          refine x_if_eq (tgt := 103) hx hb ri2_39 dX11_market_79 (by decide) (fun c169 => ?_) (fun c169 => ?_)
          · skip
            exact J103 i2_39 s_39 H locs ls ri2_39 hF_39 q39_0 q39_1 q39_2 q39_3 q39_4 q39_5 q39_6 q39_7 q39_8 q39_9 q39_10 q39_11 q39_12 q39_13 (by omega) hW (lv_sub hl [0, 1] rfl)
          refine x_aload_n hx hb hl 0 rfl dX11_market_82 rfl ?_
          refine x_get (j := 9) (v := .int (xJ (s_39 268 9))) hx hb hown hT hE hW cls_X11 (Or.inl (by decide)) (so_268 h0 g _) (by decide) rfl wq1194 dX11_market_83 ?_
          refine x_rd hW (fun x170 ex170 rx170 => ?_)
          have bx170 : 0 ≤ x170 ∧ x170 ≤ s_39 268 10 ∧ s_39 268 10 ≤ 240 := by rw [ex170]; exact q39_3
          refine x_aload_n hx hb hl 0 rfl dX11_market_86 rfl ?_
          refine x_get (j := 10) (v := .int (xJ (s_39 268 10))) hx hb hown hT hE hW cls_X11 (Or.inl (by decide)) (so_268 h0 g _) (by decide) rfl wq1195 dX11_market_87 ?_
          refine x_rd hW (fun x171 ex171 rx171 => ?_)
          have fx171 : x171 = n := ex171.trans q39_6
          refine x_icmp_ge (tgt := 103) hx hb rx170 rx171 dX11_market_90 (by decide) (fun c172 => ?_) (fun c172 => ?_)
          · skip
            exact J103 i2_39 s_39 H locs ls ri2_39 hF_39 q39_0 q39_1 q39_2 q39_3 q39_4 q39_5 q39_6 q39_7 q39_8 q39_9 q39_10 q39_11 q39_12 q39_13 (by omega) hW (lv_sub hl [0, 1] rfl)
          refine x_aload_n hx hb hl 0 rfl dX11_market_93 rfl ?_
          refine x_iconst hx hb dX11_market_94 ?_
          refine x_aload_n hx hb hl 0 rfl dX11_market_95 rfl ?_
          refine x_get (j := 9) (v := .int (xJ (s_39 268 9))) hx hb hown hT hE hW cls_X11 (Or.inl (by decide)) (so_268 h0 g _) (by decide) rfl wq1194 dX11_market_96 ?_
          refine x_rd hW (fun x173 ex173 rx173 => ?_)
          have bx173 : 0 ≤ x173 ∧ x173 ≤ s_39 268 10 ∧ s_39 268 10 ≤ 240 := by rw [ex173]; exact q39_3
          refine x_goi (x_runV (As := [.int (xJ 1), .int (xJ x173)]) hx hb hml hown hT hE hW hl.1 (Or.inl (by decide)) (so_268 h0 g _) rfl cf_X11_wrongAt wq1401 wq107 wq1399 (c_X11_wrongAt l D g T h0 s_39 hW.2.1 1 (by decide) x173 rx173 q39_0 q39_1 q39_2 q39_3) ⟨rfl, rfl, ⟨by decide, by decide⟩, ⟨by decide, by decide⟩⟩ rfl rfl (Nat.le_of_ble_eq_true rfl) dX11_market_99) hW (fun x174 s175 H locs rx174 hp176 hW => ?_)
          obtain ⟨fs175, hp176⟩ := hp176
          have hF177 := hF_39.call fs175 (fun k h => by omega)
          have ghp176 := hp176.2
          refine lv_istore_n (lv' := [(2, .int (xJ x174)), (0, .ref (h0 + 268))]) hx hb dX11_market_102 rfl hl (by decide) rfl (fun ls hl => ?_)
          exact J103 x174 s175 H locs ls rx174 hF177 hp176.1.1 hp176.1.2.1 hp176.1.2.2.1 hp176.1.2.2.2.1 (hp176.1.2.2.2.2.1.trans q39_4) (hp176.1.2.2.2.2.2.1.trans q39_5) (hp176.1.2.2.2.2.2.2.2.1.trans q39_6) (hp176.1.2.2.2.2.2.2.2.2.1.trans q39_7) (hp176.1.2.2.2.2.2.2.2.2.2.1.trans q39_8) (hp176.1.2.2.2.2.2.2.2.2.2.2.1.trans q39_9) (hp176.1.2.2.2.2.2.2.2.2.2.2.2.1.trans q39_10) (hp176.1.2.2.2.2.2.2.2.2.2.2.2.2.1.trans q39_11) (hp176.1.2.2.2.2.2.2.2.2.2.2.2.2.2.1.trans q39_12) (hp176.1.2.2.2.2.2.2.2.2.2.2.2.2.2.2.1.trans q39_13) (by omega) hW (lv_sub hl [1, 0] rfl)
        refine x_icmp_ge (tgt := 78) hx hb ri3_39 (by decide) dX11_market_42 (by decide) (fun c178 => ?_) (fun c178 => ?_)
        · skip
          exact J78 ls   (lv_sub hl [0, 1] rfl)
        refine x_iload_n hx hb hl 1 rfl dX11_market_45 rfl ?_
        refine x_if_eq (tgt := 78) hx hb ri2_39 dX11_market_46 (by decide) (fun c179 => ?_) (fun c179 => ?_)
        · skip
          exact J78 ls   (lv_sub hl [0, 1] rfl)
        refine x_aload_n hx hb hl 0 rfl dX11_market_49 rfl ?_
        refine x_bipush hx hb dX11_market_50 (by decide) ?_
        refine x_goi (x_runV (As := [.int (xJ 47)]) hx hb hml hown hT hE hW hl.1 (Or.inl (by decide)) (so_268 h0 g _) rfl cf_X11_takes wq1405 wq108 wq1403 (c_X11_takes l D g T h0 s_39 hW.2.1 47 (by decide) (by omega) q39_0 q39_1 q39_2 q39_3) ⟨rfl, rfl, ⟨by decide, by decide⟩, ⟨by decide, by decide⟩⟩ rfl rfl (Nat.le_of_ble_eq_true rfl) dX11_market_52) hW (fun x180 s181 H locs rx180 hp182 hW => ?_)
        obtain ⟨fs181, hp182⟩ := hp182
        have hF183 := hF_39.call fs181 (fun k h => by omega)
        have ghp182 := hp182.2
        refine x_if_eq (tgt := 70) hx hb rx180 dX11_market_55 (by decide) (fun c184 => ?_) (fun c184 => ?_)
        · skip
          refine x_iconst hx hb dX11_market_70 ?_
          refine lv_istore_n (lv' := [(2, .int (xJ 0)), (0, .ref (h0 + 268)), (3, .int (xJ i3_39))]) hx hb dX11_market_71 rfl hl (by decide) rfl (fun ls hl => ?_)
          refine x_iinc (lv' := [(3, .int (xJ (i3_39 + 1))), (2, .int (xJ 0)), (0, .ref (h0 + 268))]) hx hb hl 2 rfl dX11_market_72 (by decide) rfl (fun ls hl => ?_)
          refine lv_goto (tgt := 39) hx hb dX11_market_75 (by decide) ?_
          exact ih39 0 (i3_39 + 1) s181 H locs ls (by decide) (by omega) hF183 hp182.1.1 hp182.1.2.1 hp182.1.2.2.1 hp182.1.2.2.2.1 (hp182.1.2.2.2.2.1.trans q39_4) (hp182.1.2.2.2.2.2.1.trans q39_5) (hp182.1.2.2.2.2.2.2.1.trans q39_6) (hp182.1.2.2.2.2.2.2.2.1.trans q39_7) (hp182.1.2.2.2.2.2.2.2.2.1.trans q39_8) (hp182.1.2.2.2.2.2.2.2.2.2.1.trans q39_9) (hp182.1.2.2.2.2.2.2.2.2.2.2.1.trans q39_10) (hp182.1.2.2.2.2.2.2.2.2.2.2.2.1.trans q39_11) (hp182.1.2.2.2.2.2.2.2.2.2.2.2.2.1.trans q39_12) (hp182.1.2.2.2.2.2.2.2.2.2.2.2.2.2.1.trans q39_13) (by omega) (by omega) (by omega) hW (lv_sub hl [2, 1, 0] rfl)
        refine x_aload_n hx hb hl 0 rfl dX11_market_58 rfl ?_
        refine x_iload_n hx hb hl 2 rfl dX11_market_59 rfl ?_
        refine x_goi (x_runV (As := [.int (xJ i3_39)]) hx hb hml hown hT hE hW hl.1 (Or.inl (by decide)) (so_268 h0 g _) rfl cf_X11_readsRow wq1387 wq105 wq1385 (c_X11_readsRow l D g T h0 s181 hW.2.1 i3_39 ri3_39 (by omega) hp182.1.1 hp182.1.2.1 hp182.1.2.2.1 hp182.1.2.2.2.1) ⟨rfl, rfl, ⟨by decide, by decide⟩, ⟨by decide, by decide⟩⟩ rfl rfl (Nat.le_of_ble_eq_true rfl) dX11_market_60) hW (fun x185 s186 H locs rx185 hp187 hW => ?_)
        obtain ⟨fs186, hp187⟩ := hp187
        have hF188 := hF183.call fs186 (fun k h => by omega)
        have ghp187 := hp187.2
        refine x_if_eq (tgt := 70) hx hb rx185 dX11_market_63 (by decide) (fun c189 => ?_) (fun c189 => ?_)
        · skip
          refine x_iconst hx hb dX11_market_70 ?_
          refine lv_istore_n (lv' := [(2, .int (xJ 0)), (0, .ref (h0 + 268)), (3, .int (xJ i3_39))]) hx hb dX11_market_71 rfl hl (by decide) rfl (fun ls hl => ?_)
          refine x_iinc (lv' := [(3, .int (xJ (i3_39 + 1))), (2, .int (xJ 0)), (0, .ref (h0 + 268))]) hx hb hl 2 rfl dX11_market_72 (by decide) rfl (fun ls hl => ?_)
          refine lv_goto (tgt := 39) hx hb dX11_market_75 (by decide) ?_
          exact ih39 0 (i3_39 + 1) s186 H locs ls (by decide) (by omega) hF188 hp187.1.1 hp187.1.2.1 hp187.1.2.2.1 hp187.1.2.2.2.1 (hp187.1.2.2.2.2.1.trans (hp182.1.2.2.2.2.1.trans q39_4)) (hp187.1.2.2.2.2.2.1.trans (hp182.1.2.2.2.2.2.1.trans q39_5)) (hp187.1.2.2.2.2.2.2.1.trans (hp182.1.2.2.2.2.2.2.1.trans q39_6)) (hp187.1.2.2.2.2.2.2.2.1.trans (hp182.1.2.2.2.2.2.2.2.1.trans q39_7)) (hp187.1.2.2.2.2.2.2.2.2.1.trans (hp182.1.2.2.2.2.2.2.2.2.1.trans q39_8)) (hp187.1.2.2.2.2.2.2.2.2.2.1.trans (hp182.1.2.2.2.2.2.2.2.2.2.1.trans q39_9)) (hp187.1.2.2.2.2.2.2.2.2.2.2.1.trans (hp182.1.2.2.2.2.2.2.2.2.2.2.1.trans q39_10)) (hp187.1.2.2.2.2.2.2.2.2.2.2.2.1.trans (hp182.1.2.2.2.2.2.2.2.2.2.2.2.1.trans q39_11)) (hp187.1.2.2.2.2.2.2.2.2.2.2.2.2.1.trans (hp182.1.2.2.2.2.2.2.2.2.2.2.2.2.1.trans q39_12)) (hp187.1.2.2.2.2.2.2.2.2.2.2.2.2.2.1.trans (hp182.1.2.2.2.2.2.2.2.2.2.2.2.2.2.1.trans q39_13)) (by omega) (by omega) (by omega) hW (lv_sub hl [2, 1, 0] rfl)
        refine x_iconst hx hb dX11_market_66 ?_
        refine lv_goto (tgt := 71) hx hb dX11_market_67 (by decide) ?_
        refine lv_istore_n (lv' := [(2, .int (xJ 1)), (0, .ref (h0 + 268)), (3, .int (xJ i3_39))]) hx hb dX11_market_71 rfl hl (by decide) rfl (fun ls hl => ?_)
        refine x_iinc (lv' := [(3, .int (xJ (i3_39 + 1))), (2, .int (xJ 1)), (0, .ref (h0 + 268))]) hx hb hl 2 rfl dX11_market_72 (by decide) rfl (fun ls hl => ?_)
        refine lv_goto (tgt := 39) hx hb dX11_market_75 (by decide) ?_
        exact ih39 1 (i3_39 + 1) s186 H locs ls (by decide) (by omega) hF188 hp187.1.1 hp187.1.2.1 hp187.1.2.2.1 hp187.1.2.2.2.1 (hp187.1.2.2.2.2.1.trans (hp182.1.2.2.2.2.1.trans q39_4)) (hp187.1.2.2.2.2.2.1.trans (hp182.1.2.2.2.2.2.1.trans q39_5)) (hp187.1.2.2.2.2.2.2.1.trans (hp182.1.2.2.2.2.2.2.1.trans q39_6)) (hp187.1.2.2.2.2.2.2.2.1.trans (hp182.1.2.2.2.2.2.2.2.1.trans q39_7)) (hp187.1.2.2.2.2.2.2.2.2.1.trans (hp182.1.2.2.2.2.2.2.2.2.1.trans q39_8)) (hp187.1.2.2.2.2.2.2.2.2.2.1.trans (hp182.1.2.2.2.2.2.2.2.2.2.1.trans q39_9)) (hp187.1.2.2.2.2.2.2.2.2.2.2.1.trans (hp182.1.2.2.2.2.2.2.2.2.2.2.1.trans q39_10)) (hp187.1.2.2.2.2.2.2.2.2.2.2.2.1.trans (hp182.1.2.2.2.2.2.2.2.2.2.2.2.1.trans q39_11)) (hp187.1.2.2.2.2.2.2.2.2.2.2.2.2.1.trans (hp182.1.2.2.2.2.2.2.2.2.2.2.2.2.1.trans q39_12)) (hp187.1.2.2.2.2.2.2.2.2.2.2.2.2.2.1.trans (hp182.1.2.2.2.2.2.2.2.2.2.2.2.2.2.1.trans q39_13)) (by omega) (by omega) (by omega) hW (lv_sub hl [2, 1, 0] rfl)
    exact L39 ((10 - 1 : Int).toNat + 1) x25 1 s26 H locs ls rx25 (by decide) hF28 hp27.1.1 hp27.1.2.1 hp27.1.2.2.1 hp27.1.2.2.2.1 (hp27.1.2.2.2.2.1.trans q19) (hp27.1.2.2.2.2.2.1.trans q20) (hp27.1.2.2.2.2.2.2.1.trans q22) hp27.1.2.2.2.2.2.2.2.1 hp27.1.2.2.2.2.2.2.2.2.1 hp27.1.2.2.2.2.2.2.2.2.2.1 hp27.1.2.2.2.2.2.2.2.2.2.2.1 hp27.1.2.2.2.2.2.2.2.2.2.2.2.1 hp27.1.2.2.2.2.2.2.2.2.2.2.2.2.1 hp27.1.2.2.2.2.2.2.2.2.2.2.2.2.2.1 (by omega) (by omega) (Nat.lt_succ_self _) hW (lv_sub hl [2, 1, 0] rfl)
  refine x_iconst hx hb dX11_market_19 ?_
  rw [eQ]
  exact x_iret hx hb hr hlk hW (by decide) ⟨hF, ⟨p0, p1, p2, trivial⟩, by omega⟩ dX11_market_20
