theorem xmulr {a b : Int} (ha : 0 ≤ a) (hb : 1 ≤ b ∧ b ≤ 9) : a ≤ a * b ∧ a * b ≤ 9 * a := by
  rcases (by omega : b = 1 ∨ b = 2 ∨ b = 3 ∨ b = 4 ∨ b = 5 ∨ b = 6 ∨ b = 7 ∨ b = 8 ∨ b = 9) with rfl | rfl | rfl | rfl | rfl | rfl | rfl | rfl | rfl <;> omega
/-- the reader of a walk's text -/
def zRW (σ : xS) : Prop := (0 ≤ σ 268 34 ∧ σ 268 34 ≤ 60) ∧ (0 ≤ σ 268 35 ∧ σ 268 35 ≤ 2) ∧ ∀ j, 0 ≤ j → j < σ 268 35 → (0 ≤ σ 291 j ∧ σ 291 j ≤ σ 268 34) ∧ (1 ≤ σ 292 j ∧ σ 292 j ≤ 9)
theorem zRW.new {σ : xS} (h4 : σ 268 34 = 0) (h5 : σ 268 35 = 0) : zRW σ := ⟨by omega, by omega, fun j j1 j2 => by omega⟩
theorem zRW.push {σ τ : xS} {v : Int} (h : zRW σ) (h5 : τ 268 35 = σ 268 35 + 1 ∧ σ 268 35 < 2) (h4 : τ 268 34 = σ 268 34) (h1 : τ 291 = xud (σ 291) (σ 268 35) (σ 268 34)) (h2 : τ 292 = xud (σ 292) (σ 268 35) v) (hv : 1 ≤ v ∧ v ≤ 9) : zRW τ := by
  obtain ⟨q1, q2, q3⟩ := h
  refine ⟨by omega, by omega, fun j j1 j2 => ?_⟩
  rw [h1, h2, h4]
  by_cases e : j = σ 268 35
  · rw [e, xud_s, xud_s]; omega
  · rw [xud_o _ _ e, xud_o _ _ e]; exact q3 j j1 (by omega)
theorem zRW.f {σ τ : xS} (h : zRW σ) (h5 : 0 ≤ τ 268 35 ∧ τ 268 35 ≤ σ 268 35) (h4 : σ 268 34 ≤ τ 268 34 ∧ τ 268 34 ≤ 60) (h1 : τ 291 = σ 291) (h2 : τ 292 = σ 292) : zRW τ := by
  obtain ⟨q1, q2, q3⟩ := h
  refine ⟨by omega, by omega, fun j j1 j2 => ?_⟩
  rw [h1, h2]
  have := q3 j j1 (by omega)
  omega
set_option maxHeartbeats 4000000 in
set_option maxRecDepth 100000 in
theorem c_X11_readsRow (l : Launch) (D : va_G) (g : xG) (T : Nat × Nat × Nat) (h0 : Nat) (s0 : xS) (hσ : xRR s0) (y : Int) (ry : xR y) (hy : 0 ≤ y ∧ y < 10) (p0 : IMn s0) (p1 : IMk s0) (p2 : IMo s0) (p3 : IR s0) : Met l yX11_readsRow (xws yX11_readsRow cX11_readsRow 6 (some .boolean)) { frames := 2, cells := 0, slots := 0, locals := 42 } (xP [.ref (h0 + 268), .int (xJ y)] D g T h0 s0) (xQi D g h0 (fun r τ => xFr (fun k => k = 268 ∨ k = 288) s0 τ ∧ (((IMn τ) ∧ (IMk τ) ∧ (IMo τ) ∧ (IR τ) ∧ (τ 268 8 = s0 268 8) ∧ (τ 268 58 = s0 268 58) ∧ (τ 268 10 = s0 268 10) ∧ (τ 268 14 = s0 268 14) ∧ (τ 268 15 = s0 268 15) ∧ (τ 268 16 = s0 268 16) ∧ (τ 268 34 = s0 268 34) ∧ (τ 268 35 = s0 268 35) ∧ (τ 268 36 = s0 268 36) ∧ (τ 268 37 = s0 268 37) ∧ True) ∧ (r = 0 ∨ r = 1)))) 0 0 (xA h0) := by
  refine x_met hσ (by decide) (Nat.le_of_ble_eq_true rfl) ?_
  intro p e s m args below meth c hx hb hr hml hown hT hlk hnm hE hW ls hl
  have hl : lv_has ls 6 [(0, .ref (h0 + 268)), (1, .int (xJ y))] := hl
  obtain ⟨Q, eQ⟩ : ∃ Q, Q = MQ below (xQi D g h0 (fun r τ => xFr (fun k => k = 268 ∨ k = 288) s0 τ ∧ (((IMn τ) ∧ (IMk τ) ∧ (IMo τ) ∧ (IR τ) ∧ (τ 268 8 = s0 268 8) ∧ (τ 268 58 = s0 268 58) ∧ (τ 268 10 = s0 268 10) ∧ (τ 268 14 = s0 268 14) ∧ (τ 268 15 = s0 268 15) ∧ (τ 268 16 = s0 268 16) ∧ (τ 268 34 = s0 268 34) ∧ (τ 268 35 = s0 268 35) ∧ (τ 268 36 = s0 268 36) ∧ (τ 268 37 = s0 268 37) ∧ True) ∧ (r = 0 ∨ r = 1)))) args s 0 0 (xA h0) := ⟨_, rfl⟩
  rw [← eQ]
  generalize hHe : ([] : List Loc) = locs at hW ⊢
  obtain ⟨H, eH⟩ : ∃ H, H = s.heap := ⟨_, rfl⟩
  rw [← eH] at hW ⊢
  have hF : xFr (fun k => k = 268 ∨ k = 288) s0 s0 := xFr.rf
  have k268_8 : s0 268 8 = s0 268 8 := rfl
  have k268_58 : s0 268 58 = s0 268 58 := rfl
  have k268_10 : s0 268 10 = s0 268 10 := rfl
  have k268_14 : s0 268 14 = s0 268 14 := rfl
  have k268_15 : s0 268 15 = s0 268 15 := rfl
  have k268_16 : s0 268 16 = s0 268 16 := rfl
  have k268_34 : s0 268 34 = s0 268 34 := rfl
  have k268_35 : s0 268 35 = s0 268 35 := rfl
  have k268_36 : s0 268 36 = s0 268 36 := rfl
  have k268_37 : s0 268 37 = s0 268 37 := rfl
  refine x_iconst hx hb dX11_readsRow_0 ?_
  refine lv_istore_n (lv' := [(2, .int (xJ 0)), (0, .ref (h0 + 268)), (1, .int (xJ y))]) hx hb dX11_readsRow_1 rfl hl (by decide) rfl (fun ls hl => ?_)
  have L2 : ∀ (fu : Nat) (i2_2 : Int) (s_2 : xS) (H : Heap) (locs : List Loc) (ls : Array Slot), (xR i2_2) → (xFr (fun k => k = 268 ∨ k = 288) s0 s_2) → (IMn s_2) → (IMk s_2) → (IMo s_2) → (IR s_2) → (s_2 268 8 = s0 268 8) → (s_2 268 58 = s0 268 58) → (s_2 268 10 = s0 268 10) → (s_2 268 14 = s0 268 14) → (s_2 268 15 = s0 268 15) → (s_2 268 16 = s0 268 16) → (s_2 268 34 = s0 268 34) → (s_2 268 35 = s0 268 35) → (s_2 268 36 = s0 268 36) → (s_2 268 37 = s0 268 37) → (0 ≤ i2_2 ∧ i2_2 ≤ 10) → (10 - i2_2).toNat < fu → xW D g h0 s H locs s_2 → lv_has ls 6 [(0, .ref (h0 + 268)), (1, .int (xJ y)), (2, .int (xJ i2_2))] → W p l e { frames := 2, cells := 0, slots := 0, locals := 42 } s m args below meth c H locs 0 0 Q (F0 m 2 ls []) := by
    intro fu
    induction fu with
    | zero => intro i2_2 s_2 H locs ls ri2_2 hF_2 q2_0 q2_1 q2_2 q2_3 q2_4 q2_5 q2_6 q2_7 q2_8 q2_9 q2_10 q2_11 q2_12 q2_13 v2_0 hm; exact absurd hm (Nat.not_lt_zero _)
    | succ fu ih2 =>
      intro i2_2 s_2 H locs ls ri2_2 hF_2 q2_0 q2_1 q2_2 q2_3 q2_4 q2_5 q2_6 q2_7 q2_8 q2_9 q2_10 q2_11 q2_12 q2_13 v2_0 hm hW hl
      refine x_iload_n hx hb hl 2 rfl dX11_readsRow_2 rfl ?_
      refine x_bipush hx hb dX11_readsRow_3 (by decide) ?_
      refine x_icmp_ge (tgt := 202) hx hb ri2_2 (by decide) dX11_readsRow_5 (by decide) (fun c1 => ?_) (fun c1 => ?_)
      · skip
        refine x_aload_n hx hb hl 0 rfl dX11_readsRow_202 rfl ?_
        refine x_goi (x_runV (As := []) hx hb hml hown hT hE hW hl.1 (Or.inl (by decide)) (so_268 h0 g _) rfl cf_X11_here wq1391 wq106 wq1389 (c_X11_here l D g T h0 s_2 hW.2.1 q2_0 q2_1 q2_2 q2_3) ⟨rfl, rfl, ⟨by decide, by decide⟩, ⟨by decide, by decide⟩⟩ rfl rfl (Nat.le_of_ble_eq_true rfl) dX11_readsRow_203) hW (fun x2 s3 H locs rx2 hp4 hW => ?_)
        obtain ⟨es3, hp4⟩ := hp4
        subst es3
        have ghp4 := hp4
        refine x_goi (x_runS (As := [.int (xJ x2)]) hx hb hml hown hT hE hW hl.1 cf_X11_isSpotSign wq1394 wq1393 (c_X11_isSpotSign l D g T h0 s_2 hW.2.1 x2 rx2) ⟨rfl, rfl, ⟨by decide, by decide⟩, ⟨by decide, by decide⟩⟩ rfl rfl (Nat.le_of_ble_eq_true rfl) dX11_readsRow_206) hW (fun x5 s6 H locs rx5 hp7 hW => ?_)
        obtain ⟨es6, hp7⟩ := hp7
        subst es6
        have ghp7 := hp7
        have J222 : ∀ (H : Heap) (locs : List Loc) (ls : Array Slot), xW D g h0 s H locs s_2 → lv_has ls 6 [(0, .ref (h0 + 268))] → W p l e { frames := 2, cells := 0, slots := 0, locals := 42 } s m args below meth c H locs 0 0 Q (F0 m 222 ls []) := by
          intro H locs ls  hW hl
          refine x_aload_n hx hb hl 0 rfl dX11_readsRow_222 rfl ?_
          refine x_bipush hx hb dX11_readsRow_223 (by decide) ?_
          refine x_aload_n hx hb hl 0 rfl dX11_readsRow_225 rfl ?_
          refine x_get (j := 9) (v := .int (xJ (s_2 268 9))) hx hb hown hT hE hW cls_X11 (Or.inl (by decide)) (so_268 h0 g _) (by decide) rfl wq1194 dX11_readsRow_226 ?_
          refine x_rd hW (fun x8 ex8 rx8 => ?_)
          have bx8 : 0 ≤ x8 ∧ x8 ≤ s_2 268 10 ∧ s_2 268 10 ≤ 240 := by rw [ex8]; exact q2_3
          refine x_goi (x_runV (As := [.int (xJ 6), .int (xJ x8)]) hx hb hml hown hT hE hW hl.1 (Or.inl (by decide)) (so_268 h0 g _) rfl cf_X11_wrongAt wq1401 wq107 wq1399 (c_X11_wrongAt l D g T h0 s_2 hW.2.1 6 (by decide) x8 rx8 q2_0 q2_1 q2_2 q2_3) ⟨rfl, rfl, ⟨by decide, by decide⟩, ⟨by decide, by decide⟩⟩ rfl rfl (Nat.le_of_ble_eq_true rfl) dX11_readsRow_229) hW (fun x9 s10 H locs rx9 hp11 hW => ?_)
          obtain ⟨fs10, hp11⟩ := hp11
          have hF12 := hF_2.call fs10 (fun k h => by omega)
          have ghp11 := hp11.2
          refine x_if_eq (tgt := 239) hx hb rx9 dX11_readsRow_232 (by decide) (fun c13 => ?_) (fun c13 => ?_)
          · skip
            refine x_iconst hx hb dX11_readsRow_239 ?_
            rw [eQ]
            exact x_zret hx hb hr hlk hW (by omega) ⟨hF12, ⟨hp11.1.1, hp11.1.2.1, hp11.1.2.2.1, hp11.1.2.2.2.1, (hp11.1.2.2.2.2.1.trans q2_4), (hp11.1.2.2.2.2.2.1.trans q2_5), (hp11.1.2.2.2.2.2.2.2.1.trans q2_6), (hp11.1.2.2.2.2.2.2.2.2.1.trans q2_7), (hp11.1.2.2.2.2.2.2.2.2.2.1.trans q2_8), (hp11.1.2.2.2.2.2.2.2.2.2.2.1.trans q2_9), (hp11.1.2.2.2.2.2.2.2.2.2.2.2.1.trans q2_10), (hp11.1.2.2.2.2.2.2.2.2.2.2.2.2.1.trans q2_11), (hp11.1.2.2.2.2.2.2.2.2.2.2.2.2.2.1.trans q2_12), (hp11.1.2.2.2.2.2.2.2.2.2.2.2.2.2.2.1.trans q2_13), trivial⟩, by omega⟩ dX11_readsRow_240
          refine x_iconst hx hb dX11_readsRow_235 ?_
          refine lv_goto (tgt := 240) hx hb dX11_readsRow_236 (by decide) ?_
          rw [eQ]
          exact x_zret hx hb hr hlk hW (by omega) ⟨hF12, ⟨hp11.1.1, hp11.1.2.1, hp11.1.2.2.1, hp11.1.2.2.2.1, (hp11.1.2.2.2.2.1.trans q2_4), (hp11.1.2.2.2.2.2.1.trans q2_5), (hp11.1.2.2.2.2.2.2.2.1.trans q2_6), (hp11.1.2.2.2.2.2.2.2.2.1.trans q2_7), (hp11.1.2.2.2.2.2.2.2.2.2.1.trans q2_8), (hp11.1.2.2.2.2.2.2.2.2.2.2.1.trans q2_9), (hp11.1.2.2.2.2.2.2.2.2.2.2.2.1.trans q2_10), (hp11.1.2.2.2.2.2.2.2.2.2.2.2.2.1.trans q2_11), (hp11.1.2.2.2.2.2.2.2.2.2.2.2.2.2.1.trans q2_12), (hp11.1.2.2.2.2.2.2.2.2.2.2.2.2.2.2.1.trans q2_13), trivial⟩, by omega⟩ dX11_readsRow_240
        refine x_if_ne (tgt := 222) hx hb rx5 dX11_readsRow_209 (by decide) (fun c14 => ?_) (fun c14 => ?_)
        · skip
          exact J222 H locs ls  hW (lv_sub hl [0] rfl)
        refine x_aload_n hx hb hl 0 rfl dX11_readsRow_212 rfl ?_
        refine x_goi (x_runV (As := []) hx hb hml hown hT hE hW hl.1 (Or.inl (by decide)) (so_268 h0 g _) rfl cf_X11_here wq1391 wq106 wq1389 (c_X11_here l D g T h0 s_2 hW.2.1 q2_0 q2_1 q2_2 q2_3) ⟨rfl, rfl, ⟨by decide, by decide⟩, ⟨by decide, by decide⟩⟩ rfl rfl (Nat.le_of_ble_eq_true rfl) dX11_readsRow_213) hW (fun x15 s16 H locs rx15 hp17 hW => ?_)
        obtain ⟨es16, hp17⟩ := hp17
        subst es16
        have ghp17 := hp17
        refine x_goi (x_runS (As := [.int (xJ x15)]) hx hb hml hown hT hE hW hl.1 cf_X11_isTimes wq1397 wq1396 (c_X11_isTimes l D g T h0 s_2 hW.2.1 x15 rx15) ⟨rfl, rfl, ⟨by decide, by decide⟩, ⟨by decide, by decide⟩⟩ rfl rfl (Nat.le_of_ble_eq_true rfl) dX11_readsRow_216) hW (fun x18 s19 H locs rx18 hp20 hW => ?_)
        obtain ⟨es19, hp20⟩ := hp20
        subst es19
        have ghp20 := hp20
        refine x_if_eq (tgt := 235) hx hb rx18 dX11_readsRow_219 (by decide) (fun c21 => ?_) (fun c21 => ?_)
        · skip
          refine x_iconst hx hb dX11_readsRow_235 ?_
          refine lv_goto (tgt := 240) hx hb dX11_readsRow_236 (by decide) ?_
          rw [eQ]
          exact x_zret hx hb hr hlk hW (by omega) ⟨hF_2, ⟨q2_0, q2_1, q2_2, q2_3, q2_4, q2_5, q2_6, q2_7, q2_8, q2_9, q2_10, q2_11, q2_12, q2_13, trivial⟩, by omega⟩ dX11_readsRow_240
        exact J222 H locs ls  hW (lv_sub hl [0] rfl)
      refine x_aload_n hx hb hl 0 rfl dX11_readsRow_8 rfl ?_
      refine x_goi (x_runV (As := []) hx hb hml hown hT hE hW hl.1 (Or.inl (by decide)) (so_268 h0 g _) rfl cf_X11_here wq1391 wq106 wq1389 (c_X11_here l D g T h0 s_2 hW.2.1 q2_0 q2_1 q2_2 q2_3) ⟨rfl, rfl, ⟨by decide, by decide⟩, ⟨by decide, by decide⟩⟩ rfl rfl (Nat.le_of_ble_eq_true rfl) dX11_readsRow_9) hW (fun x22 s23 H locs rx22 hp24 hW => ?_)
      obtain ⟨es23, hp24⟩ := hp24
      subst es23
      have ghp24 := hp24
      refine lv_istore_n (lv' := [(3, .int (xJ x22)), (0, .ref (h0 + 268)), (1, .int (xJ y)), (2, .int (xJ i2_2))]) hx hb dX11_readsRow_12 rfl hl (by decide) rfl (fun ls hl => ?_)
      refine x_iload_n hx hb hl 0 rfl dX11_readsRow_13 rfl ?_
      refine x_goi (x_runS (As := [.int (xJ x22)]) hx hb hml hown hT hE hW hl.1 cf_X11_isSpotSign wq1394 wq1393 (c_X11_isSpotSign l D g T h0 s_2 hW.2.1 x22 rx22) ⟨rfl, rfl, ⟨by decide, by decide⟩, ⟨by decide, by decide⟩⟩ rfl rfl (Nat.le_of_ble_eq_true rfl) dX11_readsRow_14) hW (fun x25 s26 H locs rx25 hp27 hW => ?_)
      obtain ⟨es26, hp27⟩ := hp27
      subst es26
      have ghp27 := hp27
      have J37 : ∀ (H : Heap) (locs : List Loc) (ls : Array Slot), xW D g h0 s H locs s_2 → lv_has ls 6 [(0, .ref (h0 + 268)), (1, .int (xJ y)), (2, .int (xJ i2_2)), (3, .int (xJ x22))] → W p l e { frames := 2, cells := 0, slots := 0, locals := 42 } s m args below meth c H locs 0 0 Q (F0 m 37 ls []) := by
        intro H locs ls  hW hl
        refine x_iload_n hx hb hl 3 rfl dX11_readsRow_37 rfl ?_
        refine x_bipush hx hb dX11_readsRow_38 (by decide) ?_
        have J63 : ∀ (t0_63 : Int) (H : Heap) (locs : List Loc) (ls : Array Slot), (xR t0_63) → (t0_63 = 1 ∨ (2 ≤ t0_63 ∧ t0_63 ≤ 10 ∧ s_2 268 9 < s_2 268 10)) → xW D g h0 s H locs s_2 → lv_has ls 6 [(0, .ref (h0 + 268)), (1, .int (xJ y)), (2, .int (xJ i2_2))] → W p l e { frames := 2, cells := 0, slots := 0, locals := 42 } s m args below meth c H locs 0 0 Q (F0 m 63 ls [.int (xJ t0_63)]) := by
          intro t0_63 H locs ls rt0_63 v63_0 hW hl
          refine lv_istore (lv' := [(4, .int (xJ t0_63)), (0, .ref (h0 + 268)), (1, .int (xJ y)), (2, .int (xJ i2_2))]) hx hb dX11_readsRow_63 hl (by decide) rfl (fun ls hl => ?_)
          refine x_iload_n hx hb hl 3 rfl dX11_readsRow_65 rfl ?_
          refine x_iload hx hb hl 0 rfl dX11_readsRow_66 ?_
          refine x_iadd hx hb dX11_readsRow_68 ?_
          refine x_bipush hx hb dX11_readsRow_69 (by decide) ?_
          refine x_icmp_le (tgt := 85) hx hb (by omega) (by decide) dX11_readsRow_71 (by decide) (fun c28 => ?_) (fun c28 => ?_)
          · skip
            refine x_iload hx hb hl 0 rfl dX11_readsRow_85 ?_
            refine x_iconst hx hb dX11_readsRow_87 ?_
            have J101 : ∀ (s_101 : xS) (H : Heap) (locs : List Loc) (ls : Array Slot), (xFr (fun k => k = 268 ∨ k = 288) s0 s_101) → (IMn s_101) → (IMk s_101) → (IMo s_101) → (IR s_101) → (s_101 268 8 = s0 268 8) → (s_101 268 58 = s0 268 58) → (s_101 268 10 = s0 268 10) → (s_101 268 14 = s0 268 14) → (s_101 268 15 = s0 268 15) → (s_101 268 16 = s0 268 16) → (s_101 268 34 = s0 268 34) → (s_101 268 35 = s0 268 35) → (s_101 268 36 = s0 268 36) → (s_101 268 37 = s0 268 37) → xW D g h0 s H locs s_101 → lv_has ls 6 [(0, .ref (h0 + 268)), (1, .int (xJ y)), (2, .int (xJ i2_2)), (4, .int (xJ t0_63))] → W p l e { frames := 2, cells := 0, slots := 0, locals := 42 } s m args below meth c H locs 0 0 Q (F0 m 101 ls []) := by
              intro s_101 H locs ls hF_101 q101_0 q101_1 q101_2 q101_3 q101_4 q101_5 q101_6 q101_7 q101_8 q101_9 q101_10 q101_11 q101_12 q101_13 hW hl
              refine x_aload_n hx hb hl 0 rfl dX11_readsRow_101 rfl ?_
              refine x_goi (x_runV (As := []) hx hb hml hown hT hE hW hl.1 (Or.inl (by decide)) (so_268 h0 g _) rfl cf_X11_here wq1391 wq106 wq1389 (c_X11_here l D g T h0 s_101 hW.2.1 q101_0 q101_1 q101_2 q101_3) ⟨rfl, rfl, ⟨by decide, by decide⟩, ⟨by decide, by decide⟩⟩ rfl rfl (Nat.le_of_ble_eq_true rfl) dX11_readsRow_102) hW (fun x29 s30 H locs rx29 hp31 hW => ?_)
              obtain ⟨es30, hp31⟩ := hp31
              subst es30
              have ghp31 := hp31
              refine lv_istore_n (lv' := [(3, .int (xJ x29)), (0, .ref (h0 + 268)), (1, .int (xJ y)), (2, .int (xJ i2_2)), (4, .int (xJ t0_63))]) hx hb dX11_readsRow_105 rfl hl (by decide) rfl (fun ls hl => ?_)
              refine x_iload_n hx hb hl 0 rfl dX11_readsRow_106 rfl ?_
              refine x_goi (x_runS (As := [.int (xJ x29)]) hx hb hml hown hT hE hW hl.1 cf_X11_isSpotSign wq1394 wq1393 (c_X11_isSpotSign l D g T h0 s_101 hW.2.1 x29 rx29) ⟨rfl, rfl, ⟨by decide, by decide⟩, ⟨by decide, by decide⟩⟩ rfl rfl (Nat.le_of_ble_eq_true rfl) dX11_readsRow_107) hW (fun x32 s33 H locs rx32 hp34 hW => ?_)
              obtain ⟨es33, hp34⟩ := hp34
              subst es33
              have ghp34 := hp34
              refine x_if_ne (tgt := 123) hx hb rx32 dX11_readsRow_110 (by decide) (fun c35 => ?_) (fun c35 => ?_)
              · skip
                refine x_iconst hx hb dX11_readsRow_123 ?_
                refine lv_istore (lv' := [(5, .int (xJ 0)), (3, .int (xJ x29)), (0, .ref (h0 + 268)), (1, .int (xJ y)), (2, .int (xJ i2_2)), (4, .int (xJ t0_63))]) hx hb dX11_readsRow_124 hl (by decide) rfl (fun ls hl => ?_)
                have L126 : ∀ (fu : Nat) (i5_126 : Int) (s_126 : xS) (H : Heap) (locs : List Loc) (ls : Array Slot), (xR i5_126) → (xFr (fun k => k = 268 ∨ k = 288) s0 s_126) → (IMn s_126) → (IMk s_126) → (IMo s_126) → (IR s_126) → (s_126 268 8 = s0 268 8) → (s_126 268 58 = s0 268 58) → (s_126 268 10 = s0 268 10) → (s_126 268 14 = s0 268 14) → (s_126 268 15 = s0 268 15) → (s_126 268 16 = s0 268 16) → (s_126 268 34 = s0 268 34) → (s_126 268 35 = s0 268 35) → (s_126 268 36 = s0 268 36) → (s_126 268 37 = s0 268 37) → (0 ≤ i5_126) → (s_126 268 9 < s_126 268 10) → (t0_63 - i5_126).toNat < fu → xW D g h0 s H locs s_126 → lv_has ls 6 [(0, .ref (h0 + 268)), (1, .int (xJ y)), (2, .int (xJ i2_2)), (3, .int (xJ x29)), (4, .int (xJ t0_63)), (5, .int (xJ i5_126))] → W p l e { frames := 2, cells := 0, slots := 0, locals := 42 } s m args below meth c H locs 0 0 Q (F0 m 126 ls []) := by
                  intro fu
                  induction fu with
                  | zero => intro i5_126 s_126 H locs ls ri5_126 hF_126 q126_0 q126_1 q126_2 q126_3 q126_4 q126_5 q126_6 q126_7 q126_8 q126_9 q126_10 q126_11 q126_12 q126_13 v126_0 v126_1 hm; exact absurd hm (Nat.not_lt_zero _)
                  | succ fu ih126 =>
                    intro i5_126 s_126 H locs ls ri5_126 hF_126 q126_0 q126_1 q126_2 q126_3 q126_4 q126_5 q126_6 q126_7 q126_8 q126_9 q126_10 q126_11 q126_12 q126_13 v126_0 v126_1 hm hW hl
                    refine x_iload hx hb hl 5 rfl dX11_readsRow_126 ?_
                    refine x_iload hx hb hl 4 rfl dX11_readsRow_128 ?_
                    refine x_icmp_ge (tgt := 184) hx hb ri5_126 rt0_63 dX11_readsRow_130 (by decide) (fun c36 => ?_) (fun c36 => ?_)
                    · skip
                      refine x_iload_n hx hb hl 2 rfl dX11_readsRow_184 rfl ?_
                      refine x_iload hx hb hl 4 rfl dX11_readsRow_185 ?_
                      refine x_iadd hx hb dX11_readsRow_187 ?_
                      refine x_nm (fun x37 ex37 => ?_)
                      refine lv_istore_n (lv' := [(2, .int (xJ x37)), (0, .ref (h0 + 268)), (1, .int (xJ y)), (3, .int (xJ x29)), (4, .int (xJ t0_63)), (5, .int (xJ i5_126))]) hx hb dX11_readsRow_188 rfl hl (by decide) rfl (fun ls hl => ?_)
                      refine x_aload_n hx hb hl 1 rfl dX11_readsRow_189 rfl ?_
                      refine x_aload_n hx hb hl 1 rfl dX11_readsRow_190 rfl ?_
                      refine x_get (j := 9) (v := .int (xJ (s_126 268 9))) hx hb hown hT hE hW cls_X11 (Or.inl (by decide)) (so_268 h0 g _) (by decide) rfl wq1194 dX11_readsRow_191 ?_
                      refine x_rd hW (fun x38 ex38 rx38 => ?_)
                      have bx38 : 0 ≤ x38 ∧ x38 ≤ s_126 268 10 ∧ s_126 268 10 ≤ 240 := by rw [ex38]; exact q126_3
                      refine x_iconst hx hb dX11_readsRow_194 ?_
                      refine x_iadd hx hb dX11_readsRow_195 ?_
                      refine x_put (j := 9) hx hb hown hT hE hW cls_X11 (by decide) (fun σ => so_268 h0 g σ) (by decide) (st_X11_9 h0 s_126 268 (x38 + 1)) (ln_X11_9 h0 _ _) wq1194 rfl rfl rfl (by omega) dX11_readsRow_196 (fun H locs s39 es39 hW => ?_)
                      have q40 : IMn s39 := by rw [es39]; exact IMn_268 q126_0 (by omega)
                      have q41 : IMk s39 := by rw [es39]; exact IMk_268 q126_1 (by omega)
                      have q42 : IMo s39 := by rw [es39]; exact IMo_o (by unfold suIMo; omega) q126_2
                      have q43 : IR s39 := by rw [es39]; exact IR_268 q126_3 (by omega)
                      have q44 : s39 268 8 = s0 268 8 := (show s39 268 8 = s_126 268 8 from by rw [es39, xU_j _ _ (by decide)]).trans q126_4
                      have q45 : s39 268 58 = s0 268 58 := (show s39 268 58 = s_126 268 58 from by rw [es39, xU_j _ _ (by decide)]).trans q126_5
                      have q46 : s39 268 10 = s0 268 10 := (show s39 268 10 = s_126 268 10 from by rw [es39, xU_j _ _ (by decide)]).trans q126_6
                      have q47 : s39 268 14 = s0 268 14 := (show s39 268 14 = s_126 268 14 from by rw [es39, xU_j _ _ (by decide)]).trans q126_7
                      have q48 : s39 268 15 = s0 268 15 := (show s39 268 15 = s_126 268 15 from by rw [es39, xU_j _ _ (by decide)]).trans q126_8
                      have q49 : s39 268 16 = s0 268 16 := (show s39 268 16 = s_126 268 16 from by rw [es39, xU_j _ _ (by decide)]).trans q126_9
                      have q50 : s39 268 34 = s0 268 34 := (show s39 268 34 = s_126 268 34 from by rw [es39, xU_j _ _ (by decide)]).trans q126_10
                      have q51 : s39 268 35 = s0 268 35 := (show s39 268 35 = s_126 268 35 from by rw [es39, xU_j _ _ (by decide)]).trans q126_11
                      have q52 : s39 268 36 = s0 268 36 := (show s39 268 36 = s_126 268 36 from by rw [es39, xU_j _ _ (by decide)]).trans q126_12
                      have q53 : s39 268 37 = s0 268 37 := (show s39 268 37 = s_126 268 37 from by rw [es39, xU_j _ _ (by decide)]).trans q126_13
                      have hF54 := hF_126.put es39 (by omega)
                      refine lv_goto (tgt := 2) hx hb dX11_readsRow_199 (by decide) ?_
                      exact ih2 x37 s39 H locs ls (by omega) hF54 q40 q41 q42 q43 q44 q45 q46 q47 q48 q49 q50 q51 q52 q53 (by omega) (by omega) hW (lv_sub hl [1, 2, 0] rfl)
                    refine x_aload_n hx hb hl 0 rfl dX11_readsRow_133 rfl ?_
                    refine x_get (j := 29) (v := .ref (h0 + 288)) hx hb hown hT hE hW cls_X11 (Or.inl (by decide)) (so_268 h0 g _) (by decide) rfl wq1214 dX11_readsRow_134 ?_
                    refine x_bipush hx hb dX11_readsRow_137 (by decide) ?_
                    refine x_iload_n hx hb hl 1 rfl dX11_readsRow_139 rfl ?_
                    refine x_imul hx hb dX11_readsRow_140 ?_
                    refine x_iload_n hx hb hl 2 rfl dX11_readsRow_141 rfl ?_
                    refine x_iadd hx hb dX11_readsRow_142 ?_
                    refine x_iload hx hb hl 5 rfl dX11_readsRow_143 ?_
                    refine x_iadd hx hb dX11_readsRow_145 ?_
                    refine x_iload_n hx hb hl 3 rfl dX11_readsRow_146 rfl ?_
                    refine x_bipush hx hb dX11_readsRow_147 (by decide) ?_
                    refine x_icmp_ne (tgt := 156) hx hb rx29 (by decide) dX11_readsRow_149 (by decide) (fun c55 => ?_) (fun c55 => ?_)
                    · skip
                      refine x_iload_n hx hb hl 3 rfl dX11_readsRow_156 rfl ?_
                      refine x_bipush hx hb dX11_readsRow_157 (by decide) ?_
                      refine x_icmp_ne (tgt := 166) hx hb rx29 (by decide) dX11_readsRow_159 (by decide) (fun c56 => ?_) (fun c56 => ?_)
                      · skip
                        refine x_iload_n hx hb hl 3 rfl dX11_readsRow_166 rfl ?_
                        refine x_bipush hx hb dX11_readsRow_167 (by decide) ?_
                        refine x_icmp_ne (tgt := 176) hx hb rx29 (by decide) dX11_readsRow_169 (by decide) (fun c57 => ?_) (fun c57 => ?_)
                        · skip
                          refine x_iconst hx hb dX11_readsRow_176 ?_
                          refine x_iast hx hb hE hW (by decide) (fun σ => sa_288 h0 g σ) (by omega) (by decide) (by decide) dX11_readsRow_177 (fun H locs s58 es58 hW => ?_)
                          have q59 : IMn s58 := by rw [es58]; exact IMn_o (by unfold suIMn; omega) q126_0
                          have q60 : IMk s58 := by rw [es58]; exact IMk_o (by unfold suIMk; omega) q126_1
                          have q61 : IMo s58 := by rw [es58]; exact IMo_o (by unfold suIMo; omega) q126_2
                          have q62 : IR s58 := by rw [es58]; exact IR_o (by unfold suIR; omega) q126_3
                          have q63 : s58 268 8 = s0 268 8 := (show s58 268 8 = s_126 268 8 from by rw [es58, xU_k _ _ _ (by omega)]).trans q126_4
                          have q64 : s58 268 58 = s0 268 58 := (show s58 268 58 = s_126 268 58 from by rw [es58, xU_k _ _ _ (by omega)]).trans q126_5
                          have q65 : s58 268 10 = s0 268 10 := (show s58 268 10 = s_126 268 10 from by rw [es58, xU_k _ _ _ (by omega)]).trans q126_6
                          have q66 : s58 268 14 = s0 268 14 := (show s58 268 14 = s_126 268 14 from by rw [es58, xU_k _ _ _ (by omega)]).trans q126_7
                          have q67 : s58 268 15 = s0 268 15 := (show s58 268 15 = s_126 268 15 from by rw [es58, xU_k _ _ _ (by omega)]).trans q126_8
                          have q68 : s58 268 16 = s0 268 16 := (show s58 268 16 = s_126 268 16 from by rw [es58, xU_k _ _ _ (by omega)]).trans q126_9
                          have q69 : s58 268 34 = s0 268 34 := (show s58 268 34 = s_126 268 34 from by rw [es58, xU_k _ _ _ (by omega)]).trans q126_10
                          have q70 : s58 268 35 = s0 268 35 := (show s58 268 35 = s_126 268 35 from by rw [es58, xU_k _ _ _ (by omega)]).trans q126_11
                          have q71 : s58 268 36 = s0 268 36 := (show s58 268 36 = s_126 268 36 from by rw [es58, xU_k _ _ _ (by omega)]).trans q126_12
                          have q72 : s58 268 37 = s0 268 37 := (show s58 268 37 = s_126 268 37 from by rw [es58, xU_k _ _ _ (by omega)]).trans q126_13
                          have hF73 := hF_126.put es58 (by omega)
                          refine x_iinc (lv' := [(5, .int (xJ (i5_126 + 1))), (0, .ref (h0 + 268)), (1, .int (xJ y)), (2, .int (xJ i2_2)), (3, .int (xJ x29)), (4, .int (xJ t0_63))]) hx hb hl 5 rfl dX11_readsRow_178 (by decide) rfl (fun ls hl => ?_)
                          refine lv_goto (tgt := 126) hx hb dX11_readsRow_181 (by decide) ?_
                          exact ih126 (i5_126 + 1) s58 H locs ls (by omega) hF73 q59 q60 q61 q62 q63 q64 q65 q66 q67 q68 q69 q70 q71 q72 (by omega) (by rw [es58, xU_k _ _ _ (by omega)]; exact v126_1) (by omega) hW (lv_sub hl [1, 2, 3, 4, 5, 0] rfl)
                        refine x_iconst hx hb dX11_readsRow_172 ?_
                        refine lv_goto (tgt := 177) hx hb dX11_readsRow_173 (by decide) ?_
                        refine x_iast hx hb hE hW (by decide) (fun σ => sa_288 h0 g σ) (by omega) (by decide) (by decide) dX11_readsRow_177 (fun H locs s74 es74 hW => ?_)
                        have q75 : IMn s74 := by rw [es74]; exact IMn_o (by unfold suIMn; omega) q126_0
                        have q76 : IMk s74 := by rw [es74]; exact IMk_o (by unfold suIMk; omega) q126_1
                        have q77 : IMo s74 := by rw [es74]; exact IMo_o (by unfold suIMo; omega) q126_2
                        have q78 : IR s74 := by rw [es74]; exact IR_o (by unfold suIR; omega) q126_3
                        have q79 : s74 268 8 = s0 268 8 := (show s74 268 8 = s_126 268 8 from by rw [es74, xU_k _ _ _ (by omega)]).trans q126_4
                        have q80 : s74 268 58 = s0 268 58 := (show s74 268 58 = s_126 268 58 from by rw [es74, xU_k _ _ _ (by omega)]).trans q126_5
                        have q81 : s74 268 10 = s0 268 10 := (show s74 268 10 = s_126 268 10 from by rw [es74, xU_k _ _ _ (by omega)]).trans q126_6
                        have q82 : s74 268 14 = s0 268 14 := (show s74 268 14 = s_126 268 14 from by rw [es74, xU_k _ _ _ (by omega)]).trans q126_7
                        have q83 : s74 268 15 = s0 268 15 := (show s74 268 15 = s_126 268 15 from by rw [es74, xU_k _ _ _ (by omega)]).trans q126_8
                        have q84 : s74 268 16 = s0 268 16 := (show s74 268 16 = s_126 268 16 from by rw [es74, xU_k _ _ _ (by omega)]).trans q126_9
                        have q85 : s74 268 34 = s0 268 34 := (show s74 268 34 = s_126 268 34 from by rw [es74, xU_k _ _ _ (by omega)]).trans q126_10
                        have q86 : s74 268 35 = s0 268 35 := (show s74 268 35 = s_126 268 35 from by rw [es74, xU_k _ _ _ (by omega)]).trans q126_11
                        have q87 : s74 268 36 = s0 268 36 := (show s74 268 36 = s_126 268 36 from by rw [es74, xU_k _ _ _ (by omega)]).trans q126_12
                        have q88 : s74 268 37 = s0 268 37 := (show s74 268 37 = s_126 268 37 from by rw [es74, xU_k _ _ _ (by omega)]).trans q126_13
                        have hF89 := hF_126.put es74 (by omega)
                        refine x_iinc (lv' := [(5, .int (xJ (i5_126 + 1))), (0, .ref (h0 + 268)), (1, .int (xJ y)), (2, .int (xJ i2_2)), (3, .int (xJ x29)), (4, .int (xJ t0_63))]) hx hb hl 5 rfl dX11_readsRow_178 (by decide) rfl (fun ls hl => ?_)
                        refine lv_goto (tgt := 126) hx hb dX11_readsRow_181 (by decide) ?_
                        exact ih126 (i5_126 + 1) s74 H locs ls (by omega) hF89 q75 q76 q77 q78 q79 q80 q81 q82 q83 q84 q85 q86 q87 q88 (by omega) (by rw [es74, xU_k _ _ _ (by omega)]; exact v126_1) (by omega) hW (lv_sub hl [1, 2, 3, 4, 5, 0] rfl)
                      refine x_iconst hx hb dX11_readsRow_162 ?_
                      refine lv_goto (tgt := 177) hx hb dX11_readsRow_163 (by decide) ?_
                      refine x_iast hx hb hE hW (by decide) (fun σ => sa_288 h0 g σ) (by omega) (by decide) (by decide) dX11_readsRow_177 (fun H locs s90 es90 hW => ?_)
                      have q91 : IMn s90 := by rw [es90]; exact IMn_o (by unfold suIMn; omega) q126_0
                      have q92 : IMk s90 := by rw [es90]; exact IMk_o (by unfold suIMk; omega) q126_1
                      have q93 : IMo s90 := by rw [es90]; exact IMo_o (by unfold suIMo; omega) q126_2
                      have q94 : IR s90 := by rw [es90]; exact IR_o (by unfold suIR; omega) q126_3
                      have q95 : s90 268 8 = s0 268 8 := (show s90 268 8 = s_126 268 8 from by rw [es90, xU_k _ _ _ (by omega)]).trans q126_4
                      have q96 : s90 268 58 = s0 268 58 := (show s90 268 58 = s_126 268 58 from by rw [es90, xU_k _ _ _ (by omega)]).trans q126_5
                      have q97 : s90 268 10 = s0 268 10 := (show s90 268 10 = s_126 268 10 from by rw [es90, xU_k _ _ _ (by omega)]).trans q126_6
                      have q98 : s90 268 14 = s0 268 14 := (show s90 268 14 = s_126 268 14 from by rw [es90, xU_k _ _ _ (by omega)]).trans q126_7
                      have q99 : s90 268 15 = s0 268 15 := (show s90 268 15 = s_126 268 15 from by rw [es90, xU_k _ _ _ (by omega)]).trans q126_8
                      have q100 : s90 268 16 = s0 268 16 := (show s90 268 16 = s_126 268 16 from by rw [es90, xU_k _ _ _ (by omega)]).trans q126_9
                      have q101 : s90 268 34 = s0 268 34 := (show s90 268 34 = s_126 268 34 from by rw [es90, xU_k _ _ _ (by omega)]).trans q126_10
                      have q102 : s90 268 35 = s0 268 35 := (show s90 268 35 = s_126 268 35 from by rw [es90, xU_k _ _ _ (by omega)]).trans q126_11
                      have q103 : s90 268 36 = s0 268 36 := (show s90 268 36 = s_126 268 36 from by rw [es90, xU_k _ _ _ (by omega)]).trans q126_12
                      have q104 : s90 268 37 = s0 268 37 := (show s90 268 37 = s_126 268 37 from by rw [es90, xU_k _ _ _ (by omega)]).trans q126_13
                      have hF105 := hF_126.put es90 (by omega)
                      refine x_iinc (lv' := [(5, .int (xJ (i5_126 + 1))), (0, .ref (h0 + 268)), (1, .int (xJ y)), (2, .int (xJ i2_2)), (3, .int (xJ x29)), (4, .int (xJ t0_63))]) hx hb hl 5 rfl dX11_readsRow_178 (by decide) rfl (fun ls hl => ?_)
                      refine lv_goto (tgt := 126) hx hb dX11_readsRow_181 (by decide) ?_
                      exact ih126 (i5_126 + 1) s90 H locs ls (by omega) hF105 q91 q92 q93 q94 q95 q96 q97 q98 q99 q100 q101 q102 q103 q104 (by omega) (by rw [es90, xU_k _ _ _ (by omega)]; exact v126_1) (by omega) hW (lv_sub hl [1, 2, 3, 4, 5, 0] rfl)
                    refine x_iconst hx hb dX11_readsRow_152 ?_
                    refine lv_goto (tgt := 177) hx hb dX11_readsRow_153 (by decide) ?_
                    refine x_iast hx hb hE hW (by decide) (fun σ => sa_288 h0 g σ) (by omega) (by decide) (by decide) dX11_readsRow_177 (fun H locs s106 es106 hW => ?_)
                    have q107 : IMn s106 := by rw [es106]; exact IMn_o (by unfold suIMn; omega) q126_0
                    have q108 : IMk s106 := by rw [es106]; exact IMk_o (by unfold suIMk; omega) q126_1
                    have q109 : IMo s106 := by rw [es106]; exact IMo_o (by unfold suIMo; omega) q126_2
                    have q110 : IR s106 := by rw [es106]; exact IR_o (by unfold suIR; omega) q126_3
                    have q111 : s106 268 8 = s0 268 8 := (show s106 268 8 = s_126 268 8 from by rw [es106, xU_k _ _ _ (by omega)]).trans q126_4
                    have q112 : s106 268 58 = s0 268 58 := (show s106 268 58 = s_126 268 58 from by rw [es106, xU_k _ _ _ (by omega)]).trans q126_5
                    have q113 : s106 268 10 = s0 268 10 := (show s106 268 10 = s_126 268 10 from by rw [es106, xU_k _ _ _ (by omega)]).trans q126_6
                    have q114 : s106 268 14 = s0 268 14 := (show s106 268 14 = s_126 268 14 from by rw [es106, xU_k _ _ _ (by omega)]).trans q126_7
                    have q115 : s106 268 15 = s0 268 15 := (show s106 268 15 = s_126 268 15 from by rw [es106, xU_k _ _ _ (by omega)]).trans q126_8
                    have q116 : s106 268 16 = s0 268 16 := (show s106 268 16 = s_126 268 16 from by rw [es106, xU_k _ _ _ (by omega)]).trans q126_9
                    have q117 : s106 268 34 = s0 268 34 := (show s106 268 34 = s_126 268 34 from by rw [es106, xU_k _ _ _ (by omega)]).trans q126_10
                    have q118 : s106 268 35 = s0 268 35 := (show s106 268 35 = s_126 268 35 from by rw [es106, xU_k _ _ _ (by omega)]).trans q126_11
                    have q119 : s106 268 36 = s0 268 36 := (show s106 268 36 = s_126 268 36 from by rw [es106, xU_k _ _ _ (by omega)]).trans q126_12
                    have q120 : s106 268 37 = s0 268 37 := (show s106 268 37 = s_126 268 37 from by rw [es106, xU_k _ _ _ (by omega)]).trans q126_13
                    have hF121 := hF_126.put es106 (by omega)
                    refine x_iinc (lv' := [(5, .int (xJ (i5_126 + 1))), (0, .ref (h0 + 268)), (1, .int (xJ y)), (2, .int (xJ i2_2)), (3, .int (xJ x29)), (4, .int (xJ t0_63))]) hx hb hl 5 rfl dX11_readsRow_178 (by decide) rfl (fun ls hl => ?_)
                    refine lv_goto (tgt := 126) hx hb dX11_readsRow_181 (by decide) ?_
                    exact ih126 (i5_126 + 1) s106 H locs ls (by omega) hF121 q107 q108 q109 q110 q111 q112 q113 q114 q115 q116 q117 q118 q119 q120 (by omega) (by rw [es106, xU_k _ _ _ (by omega)]; exact v126_1) (by omega) hW (lv_sub hl [1, 2, 3, 4, 5, 0] rfl)
                exact L126 ((t0_63 - 0 : Int).toNat + 1) 0 s_101 H locs ls (by decide) hF_101 q101_0 q101_1 q101_2 q101_3 q101_4 q101_5 q101_6 q101_7 q101_8 q101_9 q101_10 q101_11 q101_12 q101_13 (by omega) (by omega) (Nat.lt_succ_self _) hW (lv_sub hl [2, 3, 4, 1, 5, 0] rfl)
              refine x_aload_n hx hb hl 1 rfl dX11_readsRow_113 rfl ?_
              refine x_iconst hx hb dX11_readsRow_114 ?_
              refine x_aload_n hx hb hl 1 rfl dX11_readsRow_115 rfl ?_
              refine x_get (j := 9) (v := .int (xJ (s_101 268 9))) hx hb hown hT hE hW cls_X11 (Or.inl (by decide)) (so_268 h0 g _) (by decide) rfl wq1194 dX11_readsRow_116 ?_
              refine x_rd hW (fun x122 ex122 rx122 => ?_)
              have bx122 : 0 ≤ x122 ∧ x122 ≤ s_101 268 10 ∧ s_101 268 10 ≤ 240 := by rw [ex122]; exact q101_3
              refine x_goi (x_runV (As := [.int (xJ 1), .int (xJ x122)]) hx hb hml hown hT hE hW hl.1 (Or.inl (by decide)) (so_268 h0 g _) rfl cf_X11_wrongAt wq1401 wq107 wq1399 (c_X11_wrongAt l D g T h0 s_101 hW.2.1 1 (by decide) x122 rx122 q101_0 q101_1 q101_2 q101_3) ⟨rfl, rfl, ⟨by decide, by decide⟩, ⟨by decide, by decide⟩⟩ rfl rfl (Nat.le_of_ble_eq_true rfl) dX11_readsRow_119) hW (fun x123 s124 H locs rx123 hp125 hW => ?_)
              obtain ⟨fs124, hp125⟩ := hp125
              have hF126 := hF_101.call fs124 (fun k h => by omega)
              have ghp125 := hp125.2
              rw [eQ]
              exact x_zret hx hb hr hlk hW (by omega) ⟨hF126, ⟨hp125.1.1, hp125.1.2.1, hp125.1.2.2.1, hp125.1.2.2.2.1, (hp125.1.2.2.2.2.1.trans q101_4), (hp125.1.2.2.2.2.2.1.trans q101_5), (hp125.1.2.2.2.2.2.2.2.1.trans q101_6), (hp125.1.2.2.2.2.2.2.2.2.1.trans q101_7), (hp125.1.2.2.2.2.2.2.2.2.2.1.trans q101_8), (hp125.1.2.2.2.2.2.2.2.2.2.2.1.trans q101_9), (hp125.1.2.2.2.2.2.2.2.2.2.2.2.1.trans q101_10), (hp125.1.2.2.2.2.2.2.2.2.2.2.2.2.1.trans q101_11), (hp125.1.2.2.2.2.2.2.2.2.2.2.2.2.2.1.trans q101_12), (hp125.1.2.2.2.2.2.2.2.2.2.2.2.2.2.2.1.trans q101_13), trivial⟩, by omega⟩ dX11_readsRow_122
            refine x_icmp_le (tgt := 101) hx hb rt0_63 (by decide) dX11_readsRow_88 (by decide) (fun c127 => ?_) (fun c127 => ?_)
            · skip
              exact J101 s_2 H locs ls hF_2 q2_0 q2_1 q2_2 q2_3 q2_4 q2_5 q2_6 q2_7 q2_8 q2_9 q2_10 q2_11 q2_12 q2_13 hW (lv_sub hl [1, 2, 3, 0] rfl)
            refine x_aload_n hx hb hl 1 rfl dX11_readsRow_91 rfl ?_
            refine x_aload_n hx hb hl 1 rfl dX11_readsRow_92 rfl ?_
            refine x_get (j := 9) (v := .int (xJ (s_2 268 9))) hx hb hown hT hE hW cls_X11 (Or.inl (by decide)) (so_268 h0 g _) (by decide) rfl wq1194 dX11_readsRow_93 ?_
            refine x_rd hW (fun x128 ex128 rx128 => ?_)
            have bx128 : 0 ≤ x128 ∧ x128 ≤ s_2 268 10 ∧ s_2 268 10 ≤ 240 := by rw [ex128]; exact q2_3
            refine x_iconst hx hb dX11_readsRow_96 ?_
            refine x_iadd hx hb dX11_readsRow_97 ?_
            refine x_put (j := 9) hx hb hown hT hE hW cls_X11 (by decide) (fun σ => so_268 h0 g σ) (by decide) (st_X11_9 h0 s_2 268 (x128 + 1)) (ln_X11_9 h0 _ _) wq1194 rfl rfl rfl (by omega) dX11_readsRow_98 (fun H locs s129 es129 hW => ?_)
            have q130 : IMn s129 := by rw [es129]; exact IMn_268 q2_0 (by omega)
            have q131 : IMk s129 := by rw [es129]; exact IMk_268 q2_1 (by omega)
            have q132 : IMo s129 := by rw [es129]; exact IMo_o (by unfold suIMo; omega) q2_2
            have q133 : IR s129 := by rw [es129]; exact IR_268 q2_3 (by omega)
            have q134 : s129 268 8 = s0 268 8 := (show s129 268 8 = s_2 268 8 from by rw [es129, xU_j _ _ (by decide)]).trans q2_4
            have q135 : s129 268 58 = s0 268 58 := (show s129 268 58 = s_2 268 58 from by rw [es129, xU_j _ _ (by decide)]).trans q2_5
            have q136 : s129 268 10 = s0 268 10 := (show s129 268 10 = s_2 268 10 from by rw [es129, xU_j _ _ (by decide)]).trans q2_6
            have q137 : s129 268 14 = s0 268 14 := (show s129 268 14 = s_2 268 14 from by rw [es129, xU_j _ _ (by decide)]).trans q2_7
            have q138 : s129 268 15 = s0 268 15 := (show s129 268 15 = s_2 268 15 from by rw [es129, xU_j _ _ (by decide)]).trans q2_8
            have q139 : s129 268 16 = s0 268 16 := (show s129 268 16 = s_2 268 16 from by rw [es129, xU_j _ _ (by decide)]).trans q2_9
            have q140 : s129 268 34 = s0 268 34 := (show s129 268 34 = s_2 268 34 from by rw [es129, xU_j _ _ (by decide)]).trans q2_10
            have q141 : s129 268 35 = s0 268 35 := (show s129 268 35 = s_2 268 35 from by rw [es129, xU_j _ _ (by decide)]).trans q2_11
            have q142 : s129 268 36 = s0 268 36 := (show s129 268 36 = s_2 268 36 from by rw [es129, xU_j _ _ (by decide)]).trans q2_12
            have q143 : s129 268 37 = s0 268 37 := (show s129 268 37 = s_2 268 37 from by rw [es129, xU_j _ _ (by decide)]).trans q2_13
            have hF144 := hF_2.put es129 (by omega)
            exact J101 s129 H locs ls hF144 q130 q131 q132 q133 q134 q135 q136 q137 q138 q139 q140 q141 q142 q143 hW (lv_sub hl [1, 2, 3, 0] rfl)
          refine x_aload_n hx hb hl 1 rfl dX11_readsRow_74 rfl ?_
          refine x_bipush hx hb dX11_readsRow_75 (by decide) ?_
          refine x_aload_n hx hb hl 1 rfl dX11_readsRow_77 rfl ?_
          refine x_get (j := 9) (v := .int (xJ (s_2 268 9))) hx hb hown hT hE hW cls_X11 (Or.inl (by decide)) (so_268 h0 g _) (by decide) rfl wq1194 dX11_readsRow_78 ?_
          refine x_rd hW (fun x145 ex145 rx145 => ?_)
          have bx145 : 0 ≤ x145 ∧ x145 ≤ s_2 268 10 ∧ s_2 268 10 ≤ 240 := by rw [ex145]; exact q2_3
          refine x_goi (x_runV (As := [.int (xJ 6), .int (xJ x145)]) hx hb hml hown hT hE hW hl.1 (Or.inl (by decide)) (so_268 h0 g _) rfl cf_X11_wrongAt wq1401 wq107 wq1399 (c_X11_wrongAt l D g T h0 s_2 hW.2.1 6 (by decide) x145 rx145 q2_0 q2_1 q2_2 q2_3) ⟨rfl, rfl, ⟨by decide, by decide⟩, ⟨by decide, by decide⟩⟩ rfl rfl (Nat.le_of_ble_eq_true rfl) dX11_readsRow_81) hW (fun x146 s147 H locs rx146 hp148 hW => ?_)
          obtain ⟨fs147, hp148⟩ := hp148
          have hF149 := hF_2.call fs147 (fun k h => by omega)
          have ghp148 := hp148.2
          rw [eQ]
          exact x_zret hx hb hr hlk hW (by omega) ⟨hF149, ⟨hp148.1.1, hp148.1.2.1, hp148.1.2.2.1, hp148.1.2.2.2.1, (hp148.1.2.2.2.2.1.trans q2_4), (hp148.1.2.2.2.2.2.1.trans q2_5), (hp148.1.2.2.2.2.2.2.2.1.trans q2_6), (hp148.1.2.2.2.2.2.2.2.2.1.trans q2_7), (hp148.1.2.2.2.2.2.2.2.2.2.1.trans q2_8), (hp148.1.2.2.2.2.2.2.2.2.2.2.1.trans q2_9), (hp148.1.2.2.2.2.2.2.2.2.2.2.2.1.trans q2_10), (hp148.1.2.2.2.2.2.2.2.2.2.2.2.2.1.trans q2_11), (hp148.1.2.2.2.2.2.2.2.2.2.2.2.2.2.1.trans q2_12), (hp148.1.2.2.2.2.2.2.2.2.2.2.2.2.2.2.1.trans q2_13), trivial⟩, by omega⟩ dX11_readsRow_84
        refine x_icmp_ne (tgt := 48) hx hb rx22 (by decide) dX11_readsRow_40 (by decide) (fun c150 => ?_) (fun c150 => ?_)
        · skip
          refine x_iload_n hx hb hl 3 rfl dX11_readsRow_48 rfl ?_
          refine x_goi (x_runS (As := [.int (xJ x22)]) hx hb hml hown hT hE hW hl.1 cf_X11_isTimes wq1397 wq1396 (c_X11_isTimes l D g T h0 s_2 hW.2.1 x22 rx22) ⟨rfl, rfl, ⟨by decide, by decide⟩, ⟨by decide, by decide⟩⟩ rfl rfl (Nat.le_of_ble_eq_true rfl) dX11_readsRow_49) hW (fun x151 s152 H locs rx151 hp153 hW => ?_)
          obtain ⟨es152, hp153⟩ := hp153
          subst es152
          have ghp153 := hp153
          refine x_if_eq (tgt := 62) hx hb rx151 dX11_readsRow_52 (by decide) (fun c154 => ?_) (fun c154 => ?_)
          · skip
            refine x_iconst hx hb dX11_readsRow_62 ?_
            exact J63 1 H locs ls (by decide) (by omega) hW (lv_sub hl [0, 1, 2] rfl)
          refine x_iload_n hx hb hl 3 rfl dX11_readsRow_55 rfl ?_
          refine x_bipush hx hb dX11_readsRow_56 (by decide) ?_
          refine x_isub hx hb dX11_readsRow_58 ?_
          refine lv_goto (tgt := 63) hx hb dX11_readsRow_59 (by decide) ?_
          exact J63 (x22 - 48) H locs ls (by omega) (by omega) hW (lv_sub hl [0, 1, 2] rfl)
        refine x_bipush hx hb dX11_readsRow_43 (by decide) ?_
        refine lv_goto (tgt := 63) hx hb dX11_readsRow_45 (by decide) ?_
        exact J63 10 H locs ls (by decide) (by omega) hW (lv_sub hl [0, 1, 2] rfl)
      refine x_if_ne (tgt := 37) hx hb rx25 dX11_readsRow_17 (by decide) (fun c155 => ?_) (fun c155 => ?_)
      · skip
        exact J37 H locs ls  hW (lv_sub hl [1, 2, 3, 0] rfl)
      refine x_iload_n hx hb hl 0 rfl dX11_readsRow_20 rfl ?_
      refine x_goi (x_runS (As := [.int (xJ x22)]) hx hb hml hown hT hE hW hl.1 cf_X11_isTimes wq1397 wq1396 (c_X11_isTimes l D g T h0 s_2 hW.2.1 x22 rx22) ⟨rfl, rfl, ⟨by decide, by decide⟩, ⟨by decide, by decide⟩⟩ rfl rfl (Nat.le_of_ble_eq_true rfl) dX11_readsRow_21) hW (fun x156 s157 H locs rx156 hp158 hW => ?_)
      obtain ⟨es157, hp158⟩ := hp158
      subst es157
      have ghp158 := hp158
      refine x_if_ne (tgt := 37) hx hb rx156 dX11_readsRow_24 (by decide) (fun c159 => ?_) (fun c159 => ?_)
      · skip
        exact J37 H locs ls  hW (lv_sub hl [1, 2, 3, 0] rfl)
      refine x_aload_n hx hb hl 1 rfl dX11_readsRow_27 rfl ?_
      refine x_iconst hx hb dX11_readsRow_28 ?_
      refine x_aload_n hx hb hl 1 rfl dX11_readsRow_29 rfl ?_
      refine x_get (j := 9) (v := .int (xJ (s_2 268 9))) hx hb hown hT hE hW cls_X11 (Or.inl (by decide)) (so_268 h0 g _) (by decide) rfl wq1194 dX11_readsRow_30 ?_
      refine x_rd hW (fun x160 ex160 rx160 => ?_)
      have bx160 : 0 ≤ x160 ∧ x160 ≤ s_2 268 10 ∧ s_2 268 10 ≤ 240 := by rw [ex160]; exact q2_3
      refine x_goi (x_runV (As := [.int (xJ 1), .int (xJ x160)]) hx hb hml hown hT hE hW hl.1 (Or.inl (by decide)) (so_268 h0 g _) rfl cf_X11_wrongAt wq1401 wq107 wq1399 (c_X11_wrongAt l D g T h0 s_2 hW.2.1 1 (by decide) x160 rx160 q2_0 q2_1 q2_2 q2_3) ⟨rfl, rfl, ⟨by decide, by decide⟩, ⟨by decide, by decide⟩⟩ rfl rfl (Nat.le_of_ble_eq_true rfl) dX11_readsRow_33) hW (fun x161 s162 H locs rx161 hp163 hW => ?_)
      obtain ⟨fs162, hp163⟩ := hp163
      have hF164 := hF_2.call fs162 (fun k h => by omega)
      have ghp163 := hp163.2
      rw [eQ]
      exact x_zret hx hb hr hlk hW (by omega) ⟨hF164, ⟨hp163.1.1, hp163.1.2.1, hp163.1.2.2.1, hp163.1.2.2.2.1, (hp163.1.2.2.2.2.1.trans q2_4), (hp163.1.2.2.2.2.2.1.trans q2_5), (hp163.1.2.2.2.2.2.2.2.1.trans q2_6), (hp163.1.2.2.2.2.2.2.2.2.1.trans q2_7), (hp163.1.2.2.2.2.2.2.2.2.2.1.trans q2_8), (hp163.1.2.2.2.2.2.2.2.2.2.2.1.trans q2_9), (hp163.1.2.2.2.2.2.2.2.2.2.2.2.1.trans q2_10), (hp163.1.2.2.2.2.2.2.2.2.2.2.2.2.1.trans q2_11), (hp163.1.2.2.2.2.2.2.2.2.2.2.2.2.2.1.trans q2_12), (hp163.1.2.2.2.2.2.2.2.2.2.2.2.2.2.2.1.trans q2_13), trivial⟩, by omega⟩ dX11_readsRow_36
  exact L2 ((10 - 0 : Int).toNat + 1) 0 s0 H locs ls (by decide) hF p0 p1 p2 p3 k268_8 k268_58 k268_10 k268_14 k268_15 k268_16 k268_34 k268_35 k268_36 k268_37 (by omega) (Nat.lt_succ_self _) hW (lv_sub hl [1, 2, 0] rfl)
set_option maxHeartbeats 4000000 in
set_option maxRecDepth 100000 in
theorem c_X11_market (l : Launch) (D : va_G) (g : xG) (T : Nat × Nat × Nat) (h0 : Nat) (s0 : xS) (hσ : xRR s0) (n : Int) (rn : xR n) (p0 : IMn s0) (p1 : IMk s0) (p2 : IMo s0) : Met l yX11_market (xws yX11_market cX11_market 5 (some .int)) { frames := 3, cells := 0, slots := 0, locals := 67 } (xP [.ref (h0 + 268), .int (xJ n)] D g T h0 s0) (xQi D g h0 (fun r τ => xFr (fun k => k = 268 ∨ k = 269 ∨ k = 272 ∨ k = 273 ∨ k = 288) s0 τ ∧ (((IMn τ) ∧ (IMk τ) ∧ (IMo τ) ∧ True) ∧ ((τ 268 58 = 0 ∨ τ 268 58 = s0 268 58) ∧ (((n < 1 ∨ 140 < n ∨ s0 268 8 < n) ∧ τ 268 8 = s0 268 8 ∧ r = -1) ∨ (¬ (n < 1 ∨ 140 < n ∨ s0 268 8 < n) ∧ τ 268 8 = 0)))))) 0 0 (xA h0) := by
  refine x_met hσ (by decide) (Nat.le_of_ble_eq_true rfl) ?_
  intro p e s m args below meth c hx hb hr hml hown hT hlk hnm hE hW ls hl
  have hl : lv_has ls 5 [(0, .ref (h0 + 268)), (1, .int (xJ n))] := hl
  obtain ⟨Q, eQ⟩ : ∃ Q, Q = MQ below (xQi D g h0 (fun r τ => xFr (fun k => k = 268 ∨ k = 269 ∨ k = 272 ∨ k = 273 ∨ k = 288) s0 τ ∧ (((IMn τ) ∧ (IMk τ) ∧ (IMo τ) ∧ True) ∧ ((τ 268 58 = 0 ∨ τ 268 58 = s0 268 58) ∧ (((n < 1 ∨ 140 < n ∨ s0 268 8 < n) ∧ τ 268 8 = s0 268 8 ∧ r = -1) ∨ (¬ (n < 1 ∨ 140 < n ∨ s0 268 8 < n) ∧ τ 268 8 = 0)))))) args s 0 0 (xA h0) := ⟨_, rfl⟩
  rw [← eQ]
  generalize hHe : ([] : List Loc) = locs at hW ⊢
  obtain ⟨H, eH⟩ : ∃ H, H = s.heap := ⟨_, rfl⟩
  rw [← eH] at hW ⊢
  have hF : xFr (fun k => k = 268 ∨ k = 269 ∨ k = 272 ∨ k = 273 ∨ k = 288) s0 s0 := xFr.rf
  have k268_8 : s0 268 8 = s0 268 8 := rfl
  have k268_58 : s0 268 58 = s0 268 58 := rfl
  refine x_iload_n hx hb hl 1 rfl dX11_market_0 rfl ?_
  refine x_iconst hx hb dX11_market_1 ?_
  refine x_sipush hx hb dX11_market_2 (by decide) ?_
  refine x_goi (x_runS (As := [.int (xJ n), .int (xJ 1), .int (xJ 140)]) hx hb hml hown hT hE hW hl.1 cf_X11_in wq1383 wq1382 (c_X11_in l D g T h0 s0 hW.2.1 n rn 1 (by decide) 140 (by decide)) ⟨rfl, rfl, ⟨by decide, by decide⟩, ⟨by decide, by decide⟩⟩ rfl rfl (Nat.le_of_ble_eq_true rfl) dX11_market_5) hW (fun x1 s2 H locs rx1 hp3 hW => ?_)
  obtain ⟨es2, hp3⟩ := hp3
  subst es2
  have ghp3 := hp3
  refine x_if_eq (tgt := 19) hx hb rx1 dX11_market_8 (by decide) (fun c4 => ?_) (fun c4 => ?_)
  · skip
    refine x_iconst hx hb dX11_market_19 ?_
    rw [eQ]
    exact x_iret hx hb hr hlk hW (by decide) ⟨hF, ⟨p0, p1, p2, trivial⟩, by omega⟩ dX11_market_20
  refine x_iload_n hx hb hl 1 rfl dX11_market_11 rfl ?_
  refine x_aload_n hx hb hl 0 rfl dX11_market_12 rfl ?_
  refine x_get (j := 8) (v := .int (xJ (s0 268 8))) hx hb hown hT hE hW cls_X11 (Or.inl (by decide)) (so_268 h0 g _) (by decide) rfl wq1193 dX11_market_13 ?_
  refine x_rd hW (fun x5 ex5 rx5 => ?_)
  have bx5 : 0 ≤ x5 ∧ x5 ≤ 260 := by rw [ex5]; exact IMn.t p0
  have fx5 : x5 = s0 268 8 := ex5.trans k268_8
  refine x_icmp_le (tgt := 21) hx hb rn rx5 dX11_market_16 (by decide) (fun c6 => ?_) (fun c6 => ?_)
  · skip
    refine x_aload_n hx hb hl 0 rfl dX11_market_21 rfl ?_
    refine x_iconst hx hb dX11_market_22 ?_
    refine x_put (j := 9) hx hb hown hT hE hW cls_X11 (by decide) (fun σ => so_268 h0 g σ) (by decide) (st_X11_9 h0 s0 268 0) (ln_X11_9 h0 _ _) wq1194 rfl rfl rfl (by decide) dX11_market_23 (fun H locs s7 es7 hW => ?_)
    have q8 : IMn s7 := by rw [es7]; exact IMn_268 p0 (by omega)
    have q9 : IMk s7 := by rw [es7]; exact IMk_268 p1 (by omega)
    have q10 : IMo s7 := by rw [es7]; exact IMo_o (by unfold suIMo; omega) p2
    have q11 : s7 268 8 = s0 268 8 := (show s7 268 8 = s0 268 8 from by rw [es7, xU_j _ _ (by decide)]).trans k268_8
    have q12 : s7 268 58 = s0 268 58 := (show s7 268 58 = s0 268 58 from by rw [es7, xU_j _ _ (by decide)]).trans k268_58
    have q13 : s7 268 9 = 0 := by rw [es7, xU_s]
    have hF14 := hF.put es7 (by omega)
    refine x_aload_n hx hb hl 0 rfl dX11_market_26 rfl ?_
    refine x_iload_n hx hb hl 1 rfl dX11_market_27 rfl ?_
    refine x_put (j := 10) hx hb hown hT hE hW cls_X11 (by decide) (fun σ => so_268 h0 g σ) (by decide) (st_X11_10 h0 s7 268 n) (ln_X11_10 h0 _ _) wq1195 rfl rfl rfl rn dX11_market_28 (fun H locs s15 es15 hW => ?_)
    have q16 : IMn s15 := by rw [es15]; exact IMn_268 q8 (by omega)
    have q17 : IMk s15 := by rw [es15]; exact IMk_268 q9 (by omega)
    have q18 : IMo s15 := by rw [es15]; exact IMo_o (by unfold suIMo; omega) q10
    have q19 : s15 268 8 = s0 268 8 := (show s15 268 8 = s7 268 8 from by rw [es15, xU_j _ _ (by decide)]).trans q11
    have q20 : s15 268 58 = s0 268 58 := (show s15 268 58 = s7 268 58 from by rw [es15, xU_j _ _ (by decide)]).trans q12
    have q21 : s15 268 9 = 0 := (show s15 268 9 = s7 268 9 from by rw [es15, xU_j _ _ (by decide)]).trans q13
    have q22 : s15 268 10 = n := by rw [es15, xU_s]
    have hF23 := hF14.put es15 (by omega)
    have q24 : IR s15 := by unfold IR; omega
    refine x_aload_n hx hb hl 0 rfl dX11_market_31 rfl ?_
    refine x_iconst hx hb dX11_market_32 ?_
    refine x_goi (x_runV (As := [.int (xJ 0)]) hx hb hml hown hT hE hW hl.1 (Or.inl (by decide)) (so_268 h0 g _) rfl cf_X11_readsRow wq1387 wq105 wq1385 (c_X11_readsRow l D g T h0 s15 hW.2.1 0 (by decide) (by omega) q16 q17 q18 q24) ⟨rfl, rfl, ⟨by decide, by decide⟩, ⟨by decide, by decide⟩⟩ rfl rfl (Nat.le_of_ble_eq_true rfl) dX11_market_33) hW (fun x25 s26 H locs rx25 hp27 hW => ?_)
    obtain ⟨fs26, hp27⟩ := hp27
    have hF28 := hF23.call fs26 (fun k h => by omega)
    have ghp27 := hp27.2
    refine lv_istore_n (lv' := [(2, .int (xJ x25)), (0, .ref (h0 + 268)), (1, .int (xJ n))]) hx hb dX11_market_36 rfl hl (by decide) rfl (fun ls hl => ?_)
    refine x_iconst hx hb dX11_market_37 ?_
    refine lv_istore_n (lv' := [(3, .int (xJ 1)), (2, .int (xJ x25)), (0, .ref (h0 + 268)), (1, .int (xJ n))]) hx hb dX11_market_38 rfl hl (by decide) rfl (fun ls hl => ?_)
    have L39 : ∀ (fu : Nat) (i2_39 : Int) (i3_39 : Int) (s_39 : xS) (H : Heap) (locs : List Loc) (ls : Array Slot), (xR i2_39) → (xR i3_39) → (xFr (fun k => k = 268 ∨ k = 269 ∨ k = 272 ∨ k = 273 ∨ k = 288) s0 s_39) → (IMn s_39) → (IMk s_39) → (IMo s_39) → (IR s_39) → (s_39 268 8 = s0 268 8) → (s_39 268 58 = s0 268 58) → (s_39 268 10 = n) → (s_39 268 14 = s15 268 14) → (s_39 268 15 = s15 268 15) → (s_39 268 16 = s15 268 16) → (s_39 268 34 = s15 268 34) → (s_39 268 35 = s15 268 35) → (s_39 268 36 = s15 268 36) → (s_39 268 37 = s15 268 37) → (1 ≤ i3_39 ∧ i3_39 ≤ 10) → (i2_39 = 0 ∨ i2_39 = 1) → (10 - i3_39).toNat < fu → xW D g h0 s H locs s_39 → lv_has ls 5 [(0, .ref (h0 + 268)), (2, .int (xJ i2_39)), (3, .int (xJ i3_39))] → W p l e { frames := 3, cells := 0, slots := 0, locals := 67 } s m args below meth c H locs 0 0 Q (F0 m 39 ls []) := by
      intro fu
      induction fu with
      | zero => intro i2_39 i3_39 s_39 H locs ls ri2_39 ri3_39 hF_39 q39_0 q39_1 q39_2 q39_3 q39_4 q39_5 q39_6 q39_7 q39_8 q39_9 q39_10 q39_11 q39_12 q39_13 v39_0 v39_1 hm; exact absurd hm (Nat.not_lt_zero _)
      | succ fu ih39 =>
        intro i2_39 i3_39 s_39 H locs ls ri2_39 ri3_39 hF_39 q39_0 q39_1 q39_2 q39_3 q39_4 q39_5 q39_6 q39_7 q39_8 q39_9 q39_10 q39_11 q39_12 q39_13 v39_0 v39_1 hm hW hl
        refine x_iload_n hx hb hl 2 rfl dX11_market_39 rfl ?_
        refine x_bipush hx hb dX11_market_40 (by decide) ?_
        have J78 : ∀ (ls : Array Slot), lv_has ls 5 [(0, .ref (h0 + 268)), (2, .int (xJ i2_39))] → W p l e { frames := 3, cells := 0, slots := 0, locals := 67 } s m args below meth c H locs 0 0 Q (F0 m 78 ls []) := by
          intro ls   hl
          refine x_iload_n hx hb hl 1 rfl dX11_market_78 rfl ?_
          have J103 : ∀ (i2_103 : Int) (s_103 : xS) (H : Heap) (locs : List Loc) (ls : Array Slot), (xR i2_103) → (xFr (fun k => k = 268 ∨ k = 269 ∨ k = 272 ∨ k = 273 ∨ k = 288) s0 s_103) → (IMn s_103) → (IMk s_103) → (IMo s_103) → (IR s_103) → (s_103 268 8 = s0 268 8) → (s_103 268 58 = s0 268 58) → (s_103 268 10 = n) → (s_103 268 14 = s15 268 14) → (s_103 268 15 = s15 268 15) → (s_103 268 16 = s15 268 16) → (s_103 268 34 = s15 268 34) → (s_103 268 35 = s15 268 35) → (s_103 268 36 = s15 268 36) → (s_103 268 37 = s15 268 37) → (i2_103 = 0 ∨ i2_103 = 1) → xW D g h0 s H locs s_103 → lv_has ls 5 [(0, .ref (h0 + 268)), (2, .int (xJ i2_103))] → W p l e { frames := 3, cells := 0, slots := 0, locals := 67 } s m args below meth c H locs 0 0 Q (F0 m 103 ls []) := by
            intro i2_103 s_103 H locs ls ri2_103 hF_103 q103_0 q103_1 q103_2 q103_3 q103_4 q103_5 q103_6 q103_7 q103_8 q103_9 q103_10 q103_11 q103_12 q103_13 v103_0 hW hl
            refine x_aload_n hx hb hl 0 rfl dX11_market_103 rfl ?_
            refine x_iconst hx hb dX11_market_104 ?_
            refine x_put (j := 8) hx hb hown hT hE hW cls_X11 (by decide) (fun σ => so_268 h0 g σ) (by decide) (st_X11_8 h0 s_103 268 0) (ln_X11_8 h0 _ _) wq1193 rfl rfl rfl (by decide) dX11_market_105 (fun H locs s29 es29 hW => ?_)
            have q30 : IMn s29 := by rw [es29]; exact IMn_268 q103_0 (by omega)
            have q31 : IMk s29 := by rw [es29]; exact IMk_268 q103_1 (by omega)
            have q32 : IMo s29 := by rw [es29]; exact IMo_o (by unfold suIMo; omega) q103_2
            have q33 : IR s29 := by rw [es29]; exact IR_268 q103_3 (by omega)
            have q34 : s29 268 8 = 0 := by rw [es29, xU_s]
            have q35 : s29 268 58 = s0 268 58 := (show s29 268 58 = s_103 268 58 from by rw [es29, xU_j _ _ (by decide)]).trans q103_5
            have q36 : s29 268 10 = n := (show s29 268 10 = s_103 268 10 from by rw [es29, xU_j _ _ (by decide)]).trans q103_6
            have q37 : s29 268 14 = s15 268 14 := (show s29 268 14 = s_103 268 14 from by rw [es29, xU_j _ _ (by decide)]).trans q103_7
            have q38 : s29 268 15 = s15 268 15 := (show s29 268 15 = s_103 268 15 from by rw [es29, xU_j _ _ (by decide)]).trans q103_8
            have q39 : s29 268 16 = s15 268 16 := (show s29 268 16 = s_103 268 16 from by rw [es29, xU_j _ _ (by decide)]).trans q103_9
            have q40 : s29 268 34 = s15 268 34 := (show s29 268 34 = s_103 268 34 from by rw [es29, xU_j _ _ (by decide)]).trans q103_10
            have q41 : s29 268 35 = s15 268 35 := (show s29 268 35 = s_103 268 35 from by rw [es29, xU_j _ _ (by decide)]).trans q103_11
            have q42 : s29 268 36 = s15 268 36 := (show s29 268 36 = s_103 268 36 from by rw [es29, xU_j _ _ (by decide)]).trans q103_12
            have q43 : s29 268 37 = s15 268 37 := (show s29 268 37 = s_103 268 37 from by rw [es29, xU_j _ _ (by decide)]).trans q103_13
            have hF44 := hF_103.put es29 (by omega)
            refine x_iload_n hx hb hl 1 rfl dX11_market_108 rfl ?_
            refine x_if_ne (tgt := 117) hx hb ri2_103 dX11_market_109 (by decide) (fun c45 => ?_) (fun c45 => ?_)
            · skip
              refine x_iconst hx hb dX11_market_117 ?_
              refine lv_istore_n (lv' := [(3, .int (xJ 0)), (0, .ref (h0 + 268)), (2, .int (xJ i2_103))]) hx hb dX11_market_118 rfl hl (by decide) rfl (fun ls hl => ?_)
              refine x_iconst hx hb dX11_market_119 ?_
              refine lv_istore (lv' := [(4, .int (xJ 0)), (3, .int (xJ 0)), (0, .ref (h0 + 268)), (2, .int (xJ i2_103))]) hx hb dX11_market_120 hl (by decide) rfl (fun ls hl => ?_)
              have L122 : ∀ (fu : Nat) (i3_122 : Int) (i4_122 : Int) (s_122 : xS) (H : Heap) (locs : List Loc) (ls : Array Slot), (xR i3_122) → (xR i4_122) → (xFr (fun k => k = 268 ∨ k = 269 ∨ k = 272 ∨ k = 273 ∨ k = 288) s0 s_122) → (IMn s_122) → (IMk s_122) → (IMo s_122) → (IR s_122) → (s_122 268 8 = 0) → (s_122 268 58 = s0 268 58) → (s_122 268 10 = n) → (s_122 268 14 = s15 268 14) → (s_122 268 15 = s15 268 15) → (s_122 268 16 = s15 268 16) → (s_122 268 34 = s15 268 34) → (s_122 268 35 = s15 268 35) → (s_122 268 36 = s15 268 36) → (s_122 268 37 = s15 268 37) → (0 ≤ i4_122) → (i4_122 ≤ 100) → (0 ≤ i3_122 ∧ i3_122 ≤ i4_122) → (100 + 1 - i4_122).toNat < fu → xW D g h0 s H locs s_122 → lv_has ls 5 [(0, .ref (h0 + 268)), (3, .int (xJ i3_122)), (4, .int (xJ i4_122))] → W p l e { frames := 3, cells := 0, slots := 0, locals := 67 } s m args below meth c H locs 0 0 Q (F0 m 122 ls []) := by
                intro fu
                induction fu with
                | zero => intro i3_122 i4_122 s_122 H locs ls ri3_122 ri4_122 hF_122 q122_0 q122_1 q122_2 q122_3 q122_4 q122_5 q122_6 q122_7 q122_8 q122_9 q122_10 q122_11 q122_12 q122_13 v122_0 v122_1 v122_2 hm; exact absurd hm (Nat.not_lt_zero _)
                | succ fu ih122 =>
                  intro i3_122 i4_122 s_122 H locs ls ri3_122 ri4_122 hF_122 q122_0 q122_1 q122_2 q122_3 q122_4 q122_5 q122_6 q122_7 q122_8 q122_9 q122_10 q122_11 q122_12 q122_13 v122_0 v122_1 v122_2 hm hW hl
                  refine x_iload hx hb hl 2 rfl dX11_market_122 ?_
                  refine x_bipush hx hb dX11_market_124 (by decide) ?_
                  refine x_icmp_ge (tgt := 167) hx hb ri4_122 (by decide) dX11_market_126 (by decide) (fun c46 => ?_) (fun c46 => ?_)
                  · skip
                    refine x_iconst hx hb dX11_market_167 ?_
                    refine lv_istore (lv' := [(4, .int (xJ 0)), (0, .ref (h0 + 268)), (3, .int (xJ i3_122))]) hx hb dX11_market_168 hl (by decide) rfl (fun ls hl => ?_)
                    have L170 : ∀ (fu : Nat) (i4_170 : Int) (s_170 : xS) (H : Heap) (locs : List Loc) (ls : Array Slot), (xR i4_170) → (xFr (fun k => k = 268 ∨ k = 269 ∨ k = 272 ∨ k = 273 ∨ k = 288) s0 s_170) → (IMn s_170) → (IMk s_170) → (IMo s_170) → (IR s_170) → (s_170 268 8 = 0) → (s_170 268 58 = s0 268 58) → (s_170 268 10 = n) → (s_170 268 14 = s15 268 14) → (s_170 268 15 = s15 268 15) → (s_170 268 16 = s15 268 16) → (s_170 268 34 = s15 268 34) → (s_170 268 35 = s15 268 35) → (s_170 268 36 = s15 268 36) → (s_170 268 37 = s15 268 37) → (0 ≤ i4_170) → (i4_170 ≤ 2) → (2 + 1 - i4_170).toNat < fu → xW D g h0 s H locs s_170 → lv_has ls 5 [(0, .ref (h0 + 268)), (3, .int (xJ i3_122)), (4, .int (xJ i4_170))] → W p l e { frames := 3, cells := 0, slots := 0, locals := 67 } s m args below meth c H locs 0 0 Q (F0 m 170 ls []) := by
                      intro fu
                      induction fu with
                      | zero => intro i4_170 s_170 H locs ls ri4_170 hF_170 q170_0 q170_1 q170_2 q170_3 q170_4 q170_5 q170_6 q170_7 q170_8 q170_9 q170_10 q170_11 q170_12 q170_13 v170_0 v170_1 hm; exact absurd hm (Nat.not_lt_zero _)
                      | succ fu ih170 =>
                        intro i4_170 s_170 H locs ls ri4_170 hF_170 q170_0 q170_1 q170_2 q170_3 q170_4 q170_5 q170_6 q170_7 q170_8 q170_9 q170_10 q170_11 q170_12 q170_13 v170_0 v170_1 hm hW hl
                        refine x_iload hx hb hl 2 rfl dX11_market_170 ?_
                        refine x_iconst hx hb dX11_market_172 ?_
                        refine x_icmp_ge (tgt := 228) hx hb ri4_170 (by decide) dX11_market_173 (by decide) (fun c47 => ?_) (fun c47 => ?_)
                        · skip
                          refine x_iconst hx hb dX11_market_228 ?_
                          refine lv_istore (lv' := [(4, .int (xJ 0)), (0, .ref (h0 + 268)), (3, .int (xJ i3_122))]) hx hb dX11_market_229 hl (by decide) rfl (fun ls hl => ?_)
                          have L231 : ∀ (fu : Nat) (i4_231 : Int) (s_231 : xS) (H : Heap) (locs : List Loc) (ls : Array Slot), (xR i4_231) → (xFr (fun k => k = 268 ∨ k = 269 ∨ k = 272 ∨ k = 273 ∨ k = 288) s0 s_231) → (IMn s_231) → (IMk s_231) → (IMo s_231) → (IR s_231) → (s_231 268 8 = 0) → (s_231 268 58 = s0 268 58) → (s_231 268 10 = n) → (s_231 268 14 = s15 268 14) → (s_231 268 15 = s15 268 15) → (s_231 268 16 = s15 268 16) → (s_231 268 34 = s15 268 34) → (s_231 268 35 = s15 268 35) → (s_231 268 36 = s15 268 36) → (s_231 268 37 = s15 268 37) → (0 ≤ i4_231) → (i4_231 ≤ 10) → (10 + 1 - i4_231).toNat < fu → xW D g h0 s H locs s_231 → lv_has ls 5 [(0, .ref (h0 + 268)), (3, .int (xJ i3_122)), (4, .int (xJ i4_231))] → W p l e { frames := 3, cells := 0, slots := 0, locals := 67 } s m args below meth c H locs 0 0 Q (F0 m 231 ls []) := by
                            intro fu
                            induction fu with
                            | zero => intro i4_231 s_231 H locs ls ri4_231 hF_231 q231_0 q231_1 q231_2 q231_3 q231_4 q231_5 q231_6 q231_7 q231_8 q231_9 q231_10 q231_11 q231_12 q231_13 v231_0 v231_1 hm; exact absurd hm (Nat.not_lt_zero _)
                            | succ fu ih231 =>
                              intro i4_231 s_231 H locs ls ri4_231 hF_231 q231_0 q231_1 q231_2 q231_3 q231_4 q231_5 q231_6 q231_7 q231_8 q231_9 q231_10 q231_11 q231_12 q231_13 v231_0 v231_1 hm hW hl
                              refine x_iload hx hb hl 2 rfl dX11_market_231 ?_
                              refine x_bipush hx hb dX11_market_233 (by decide) ?_
                              refine x_icmp_ge (tgt := 290) hx hb ri4_231 (by decide) dX11_market_235 (by decide) (fun c48 => ?_) (fun c48 => ?_)
                              · skip
                                refine x_aload_n hx hb hl 0 rfl dX11_market_290 rfl ?_
                                refine x_iconst hx hb dX11_market_291 ?_
                                refine x_put (j := 58) hx hb hown hT hE hW cls_X11 (by decide) (fun σ => so_268 h0 g σ) (by decide) (st_X11_58 h0 s_231 268 0) (ln_X11_58 h0 _ _) wq1243 rfl rfl rfl (by decide) dX11_market_292 (fun H locs s49 es49 hW => ?_)
                                have q50 : IMn s49 := by rw [es49]; exact IMn_268 q231_0 (by omega)
                                have q51 : IMk s49 := by rw [es49]; exact IMk_268 q231_1 (by omega)
                                have q52 : IMo s49 := by rw [es49]; exact IMo_o (by unfold suIMo; omega) q231_2
                                have q53 : IR s49 := by rw [es49]; exact IR_268 q231_3 (by omega)
                                have q54 : s49 268 8 = 0 := (show s49 268 8 = s_231 268 8 from by rw [es49, xU_j _ _ (by decide)]).trans q231_4
                                have q55 : s49 268 58 = 0 := by rw [es49, xU_s]
                                have q56 : s49 268 10 = n := (show s49 268 10 = s_231 268 10 from by rw [es49, xU_j _ _ (by decide)]).trans q231_6
                                have q57 : s49 268 14 = s15 268 14 := (show s49 268 14 = s_231 268 14 from by rw [es49, xU_j _ _ (by decide)]).trans q231_7
                                have q58 : s49 268 15 = s15 268 15 := (show s49 268 15 = s_231 268 15 from by rw [es49, xU_j _ _ (by decide)]).trans q231_8
                                have q59 : s49 268 16 = s15 268 16 := (show s49 268 16 = s_231 268 16 from by rw [es49, xU_j _ _ (by decide)]).trans q231_9
                                have q60 : s49 268 34 = s15 268 34 := (show s49 268 34 = s_231 268 34 from by rw [es49, xU_j _ _ (by decide)]).trans q231_10
                                have q61 : s49 268 35 = s15 268 35 := (show s49 268 35 = s_231 268 35 from by rw [es49, xU_j _ _ (by decide)]).trans q231_11
                                have q62 : s49 268 36 = s15 268 36 := (show s49 268 36 = s_231 268 36 from by rw [es49, xU_j _ _ (by decide)]).trans q231_12
                                have q63 : s49 268 37 = s15 268 37 := (show s49 268 37 = s_231 268 37 from by rw [es49, xU_j _ _ (by decide)]).trans q231_13
                                have hF64 := hF_231.put es49 (by omega)
                                refine x_iconst hx hb dX11_market_295 ?_
                                refine lv_istore (lv' := [(4, .int (xJ 0)), (0, .ref (h0 + 268)), (3, .int (xJ i3_122))]) hx hb dX11_market_296 hl (by decide) rfl (fun ls hl => ?_)
                                have L298 : ∀ (fu : Nat) (i4_298 : Int) (s_298 : xS) (H : Heap) (locs : List Loc) (ls : Array Slot), (xR i4_298) → (xFr (fun k => k = 268 ∨ k = 269 ∨ k = 272 ∨ k = 273 ∨ k = 288) s0 s_298) → (IMn s_298) → (IMk s_298) → (IMo s_298) → (IR s_298) → (s_298 268 8 = 0) → (s_298 268 58 = 0) → (s_298 268 10 = n) → (s_298 268 14 = s15 268 14) → (s_298 268 15 = s15 268 15) → (s_298 268 16 = s15 268 16) → (s_298 268 34 = s15 268 34) → (s_298 268 35 = s15 268 35) → (s_298 268 36 = s15 268 36) → (s_298 268 37 = s15 268 37) → (0 ≤ i4_298) → (i4_298 ≤ 4) → (4 + 1 - i4_298).toNat < fu → xW D g h0 s H locs s_298 → lv_has ls 5 [(0, .ref (h0 + 268)), (3, .int (xJ i3_122)), (4, .int (xJ i4_298))] → W p l e { frames := 3, cells := 0, slots := 0, locals := 67 } s m args below meth c H locs 0 0 Q (F0 m 298 ls []) := by
                                  intro fu
                                  induction fu with
                                  | zero => intro i4_298 s_298 H locs ls ri4_298 hF_298 q298_0 q298_1 q298_2 q298_3 q298_4 q298_5 q298_6 q298_7 q298_8 q298_9 q298_10 q298_11 q298_12 q298_13 v298_0 v298_1 hm; exact absurd hm (Nat.not_lt_zero _)
                                  | succ fu ih298 =>
                                    intro i4_298 s_298 H locs ls ri4_298 hF_298 q298_0 q298_1 q298_2 q298_3 q298_4 q298_5 q298_6 q298_7 q298_8 q298_9 q298_10 q298_11 q298_12 q298_13 v298_0 v298_1 hm hW hl
                                    refine x_iload hx hb hl 2 rfl dX11_market_298 ?_
                                    refine x_iconst hx hb dX11_market_300 ?_
                                    refine x_icmp_ge (tgt := 343) hx hb ri4_298 (by decide) dX11_market_301 (by decide) (fun c65 => ?_) (fun c65 => ?_)
                                    · skip
                                      refine x_iload_n hx hb hl 1 rfl dX11_market_343 rfl ?_
                                      rw [eQ]
                                      exact x_iret hx hb hr hlk hW ri3_122 ⟨hF_298, ⟨q298_0, q298_1, q298_2, trivial⟩, by omega⟩ dX11_market_344
                                    refine x_aload_n hx hb hl 0 rfl dX11_market_304 rfl ?_
                                    refine x_get (j := 4) (v := .ref (h0 + 273)) hx hb hown hT hE hW cls_X11 (Or.inl (by decide)) (so_268 h0 g _) (by decide) rfl wq1189 dX11_market_305 ?_
                                    refine x_iload hx hb hl 2 rfl dX11_market_308 ?_
                                    refine x_iald hx hb hE hW (Or.inl (by decide)) (sa_273 h0 g _) (by omega) (by decide) dX11_market_310 ?_
                                    refine x_rd hW (fun x66 ex66 rx66 => ?_)
                                    have bx66 : -1 ≤ x66 ∧ x66 ≤ 99 := by rw [ex66]; exact IMn.l q298_0 _ (by omega) (by omega)
                                    refine x_iconst hx hb dX11_market_311 ?_
                                    refine x_icmp_eq (tgt := 337) hx hb rx66 (by decide) dX11_market_312 (by decide) (fun c67 => ?_) (fun c67 => ?_)
                                    · skip
                                      refine x_iinc (lv' := [(4, .int (xJ (i4_298 + 1))), (0, .ref (h0 + 268)), (3, .int (xJ i3_122))]) hx hb hl 2 rfl dX11_market_337 (by decide) rfl (fun ls hl => ?_)
                                      refine lv_goto (tgt := 298) hx hb dX11_market_340 (by decide) ?_
                                      exact ih298 (i4_298 + 1) s_298 H locs ls (by omega) hF_298 q298_0 q298_1 q298_2 q298_3 q298_4 q298_5 q298_6 q298_7 q298_8 q298_9 q298_10 q298_11 q298_12 q298_13 (by omega) (by omega) (by omega) hW (lv_sub hl [1, 2, 0] rfl)
                                    refine x_aload_n hx hb hl 0 rfl dX11_market_315 rfl ?_
                                    refine x_aload_n hx hb hl 0 rfl dX11_market_316 rfl ?_
                                    refine x_get (j := 4) (v := .ref (h0 + 273)) hx hb hown hT hE hW cls_X11 (Or.inl (by decide)) (so_268 h0 g _) (by decide) rfl wq1189 dX11_market_317 ?_
                                    refine x_iload hx hb hl 2 rfl dX11_market_320 ?_
                                    refine x_iald hx hb hE hW (Or.inl (by decide)) (sa_273 h0 g _) (by omega) (by decide) dX11_market_322 ?_
                                    refine x_rd hW (fun x68 ex68 rx68 => ?_)
                                    have bx68 : -1 ≤ x68 ∧ x68 ≤ 99 := by rw [ex68]; exact IMn.l q298_0 _ (by omega) (by omega)
                                    refine x_goi (x_runV (As := [.int (xJ x68)]) hx hb hml hown hT hE hW hl.1 (Or.inl (by decide)) (so_268 h0 g _) rfl cf_X11_isGround wq1419 wq110 wq1417 (c_X11_isGround l D g T h0 s_298 hW.2.1 x68 rx68 (by omega) q298_0 q298_1 q298_2) ⟨rfl, rfl, ⟨by decide, by decide⟩, ⟨by decide, by decide⟩⟩ rfl rfl (Nat.le_of_ble_eq_true rfl) dX11_market_323) hW (fun x69 s70 H locs rx69 hp71 hW => ?_)
                                    obtain ⟨es70, hp71⟩ := hp71
                                    subst es70
                                    have ghp71 := hp71
                                    refine x_if_ne (tgt := 337) hx hb rx69 dX11_market_326 (by decide) (fun c72 => ?_) (fun c72 => ?_)
                                    · skip
                                      refine x_iinc (lv' := [(4, .int (xJ (i4_298 + 1))), (0, .ref (h0 + 268)), (3, .int (xJ i3_122))]) hx hb hl 2 rfl dX11_market_337 (by decide) rfl (fun ls hl => ?_)
                                      refine lv_goto (tgt := 298) hx hb dX11_market_340 (by decide) ?_
                                      exact ih298 (i4_298 + 1) s_298 H locs ls (by omega) hF_298 q298_0 q298_1 q298_2 q298_3 q298_4 q298_5 q298_6 q298_7 q298_8 q298_9 q298_10 q298_11 q298_12 q298_13 (by omega) (by omega) (by omega) hW (lv_sub hl [1, 2, 0] rfl)
                                    refine x_aload_n hx hb hl 0 rfl dX11_market_329 rfl ?_
                                    refine x_get (j := 4) (v := .ref (h0 + 273)) hx hb hown hT hE hW cls_X11 (Or.inl (by decide)) (so_268 h0 g _) (by decide) rfl wq1189 dX11_market_330 ?_
                                    refine x_iload hx hb hl 2 rfl dX11_market_333 ?_
                                    refine x_iconst hx hb dX11_market_335 ?_
                                    refine x_iast hx hb hE hW (by decide) (fun σ => sa_273 h0 g σ) (by omega) (by decide) (by decide) dX11_market_336 (fun H locs s73 es73 hW => ?_)
                                    have q74 : IMn s73 := by rw [es73]; exact IMn_273 q298_0 (by omega)
                                    have q75 : IMk s73 := by rw [es73]; exact IMk_o (by unfold suIMk; omega) q298_1
                                    have q76 : IMo s73 := by rw [es73]; exact IMo_o (by unfold suIMo; omega) q298_2
                                    have q77 : IR s73 := by rw [es73]; exact IR_o (by unfold suIR; omega) q298_3
                                    have q78 : s73 268 8 = 0 := (show s73 268 8 = s_298 268 8 from by rw [es73, xU_k _ _ _ (by omega)]).trans q298_4
                                    have q79 : s73 268 58 = 0 := (show s73 268 58 = s_298 268 58 from by rw [es73, xU_k _ _ _ (by omega)]).trans q298_5
                                    have q80 : s73 268 10 = n := (show s73 268 10 = s_298 268 10 from by rw [es73, xU_k _ _ _ (by omega)]).trans q298_6
                                    have q81 : s73 268 14 = s15 268 14 := (show s73 268 14 = s_298 268 14 from by rw [es73, xU_k _ _ _ (by omega)]).trans q298_7
                                    have q82 : s73 268 15 = s15 268 15 := (show s73 268 15 = s_298 268 15 from by rw [es73, xU_k _ _ _ (by omega)]).trans q298_8
                                    have q83 : s73 268 16 = s15 268 16 := (show s73 268 16 = s_298 268 16 from by rw [es73, xU_k _ _ _ (by omega)]).trans q298_9
                                    have q84 : s73 268 34 = s15 268 34 := (show s73 268 34 = s_298 268 34 from by rw [es73, xU_k _ _ _ (by omega)]).trans q298_10
                                    have q85 : s73 268 35 = s15 268 35 := (show s73 268 35 = s_298 268 35 from by rw [es73, xU_k _ _ _ (by omega)]).trans q298_11
                                    have q86 : s73 268 36 = s15 268 36 := (show s73 268 36 = s_298 268 36 from by rw [es73, xU_k _ _ _ (by omega)]).trans q298_12
                                    have q87 : s73 268 37 = s15 268 37 := (show s73 268 37 = s_298 268 37 from by rw [es73, xU_k _ _ _ (by omega)]).trans q298_13
                                    have hF88 := hF_298.put es73 (by omega)
                                    refine x_iinc (lv' := [(4, .int (xJ (i4_298 + 1))), (0, .ref (h0 + 268)), (3, .int (xJ i3_122))]) hx hb hl 2 rfl dX11_market_337 (by decide) rfl (fun ls hl => ?_)
                                    refine lv_goto (tgt := 298) hx hb dX11_market_340 (by decide) ?_
                                    exact ih298 (i4_298 + 1) s73 H locs ls (by omega) hF88 q74 q75 q76 q77 q78 q79 q80 q81 q82 q83 q84 q85 q86 q87 (by omega) (by omega) (by omega) hW (lv_sub hl [1, 2, 0] rfl)
                                exact L298 ((4 + 1 - 0 : Int).toNat + 1) 0 s49 H locs ls (by decide) hF64 q50 q51 q52 q53 q54 q55 q56 q57 q58 q59 q60 q61 q62 q63 (by omega) (by omega) (Nat.lt_succ_self _) hW (lv_sub hl [1, 2, 0] rfl)
                              refine x_aload_n hx hb hl 0 rfl dX11_market_238 rfl ?_
                              refine x_iload hx hb hl 2 rfl dX11_market_239 ?_
                              refine x_goi (x_runV (As := [.int (xJ i4_231)]) hx hb hml hown hT hE hW hl.1 (Or.inl (by decide)) (so_268 h0 g _) rfl cf_X11_isFelon wq1423 wq111 wq1421 (c_X11_isFelon l D g T h0 s_231 hW.2.1 i4_231 ri4_231 q231_0 q231_1 q231_2) ⟨rfl, rfl, ⟨by decide, by decide⟩, ⟨by decide, by decide⟩⟩ rfl rfl (Nat.le_of_ble_eq_true rfl) dX11_market_241) hW (fun x89 s90 H locs rx89 hp91 hW => ?_)
                              obtain ⟨es90, hp91⟩ := hp91
                              subst es90
                              have ghp91 := hp91
                              refine x_if_eq (tgt := 284) hx hb rx89 dX11_market_244 (by decide) (fun c92 => ?_) (fun c92 => ?_)
                              · skip
                                refine x_iinc (lv' := [(4, .int (xJ (i4_231 + 1))), (0, .ref (h0 + 268)), (3, .int (xJ i3_122))]) hx hb hl 2 rfl dX11_market_284 (by decide) rfl (fun ls hl => ?_)
                                refine lv_goto (tgt := 231) hx hb dX11_market_287 (by decide) ?_
                                exact ih231 (i4_231 + 1) s_231 H locs ls (by omega) hF_231 q231_0 q231_1 q231_2 q231_3 q231_4 q231_5 q231_6 q231_7 q231_8 q231_9 q231_10 q231_11 q231_12 q231_13 (by omega) (by omega) (by omega) hW (lv_sub hl [1, 2, 0] rfl)
                              refine x_aload_n hx hb hl 0 rfl dX11_market_247 rfl ?_
                              refine x_aload_n hx hb hl 0 rfl dX11_market_248 rfl ?_
                              refine x_get (j := 0) (v := .ref (h0 + 269)) hx hb hown hT hE hW cls_X11 (Or.inl (by decide)) (so_268 h0 g _) (by decide) rfl wq1185 dX11_market_249 ?_
                              refine x_iconst hx hb dX11_market_252 ?_
                              refine x_iload hx hb hl 2 rfl dX11_market_253 ?_
                              refine x_iadd hx hb dX11_market_255 ?_
                              refine x_iald hx hb hE hW (Or.inl (by decide)) (sa_269 h0 g _) (by omega) (by decide) dX11_market_256 ?_
                              refine x_rd hW (fun x93 ex93 rx93 => ?_)
                              have bx93 : 0 ≤ x93 ∧ x93 ≤ 99 := by rw [ex93]; exact (IMn.n1 q231_0).2.2.1 _ (by omega) (by omega)
                              refine x_goi (x_runV (As := [.int (xJ x93)]) hx hb hml hown hT hE hW hl.1 (Or.inl (by decide)) (so_268 h0 g _) rfl cf_X11_isGround wq1419 wq110 wq1417 (c_X11_isGround l D g T h0 s_231 hW.2.1 x93 rx93 (by omega) q231_0 q231_1 q231_2) ⟨rfl, rfl, ⟨by decide, by decide⟩, ⟨by decide, by decide⟩⟩ rfl rfl (Nat.le_of_ble_eq_true rfl) dX11_market_257) hW (fun x94 s95 H locs rx94 hp96 hW => ?_)
                              obtain ⟨es95, hp96⟩ := hp96
                              subst es95
                              have ghp96 := hp96
                              refine x_if_ne (tgt := 284) hx hb rx94 dX11_market_260 (by decide) (fun c97 => ?_) (fun c97 => ?_)
                              · skip
                                refine x_iinc (lv' := [(4, .int (xJ (i4_231 + 1))), (0, .ref (h0 + 268)), (3, .int (xJ i3_122))]) hx hb hl 2 rfl dX11_market_284 (by decide) rfl (fun ls hl => ?_)
                                refine lv_goto (tgt := 231) hx hb dX11_market_287 (by decide) ?_
                                exact ih231 (i4_231 + 1) s_231 H locs ls (by omega) hF_231 q231_0 q231_1 q231_2 q231_3 q231_4 q231_5 q231_6 q231_7 q231_8 q231_9 q231_10 q231_11 q231_12 q231_13 (by omega) (by omega) (by omega) hW (lv_sub hl [1, 2, 0] rfl)
                              refine x_aload_n hx hb hl 0 rfl dX11_market_263 rfl ?_
                              refine x_get (j := 0) (v := .ref (h0 + 269)) hx hb hown hT hE hW cls_X11 (Or.inl (by decide)) (so_268 h0 g _) (by decide) rfl wq1185 dX11_market_264 ?_
                              refine x_bipush hx hb dX11_market_267 (by decide) ?_
                              refine x_aload_n hx hb hl 0 rfl dX11_market_269 rfl ?_
                              refine x_get (j := 0) (v := .ref (h0 + 269)) hx hb hown hT hE hW cls_X11 (Or.inl (by decide)) (so_268 h0 g _) (by decide) rfl wq1185 dX11_market_270 ?_
                              refine x_bipush hx hb dX11_market_273 (by decide) ?_
                              refine x_iald hx hb hE hW (Or.inl (by decide)) (sa_269 h0 g _) ⟨by decide, by decide⟩ (by decide) dX11_market_275 ?_
                              refine x_rd hW (fun x98 ex98 rx98 => ?_)
                              refine x_iconst hx hb dX11_market_276 ?_
                              refine x_iload hx hb hl 2 rfl dX11_market_277 ?_
                              refine lv_ishl hx hb dX11_market_279 ?_
                              refine x_any (fun x99 rx99 => ?_)
                              refine x_iconst hx hb dX11_market_280 ?_
                              refine lv_ixor hx hb dX11_market_281 ?_
                              refine x_any (fun x100 rx100 => ?_)
                              refine lv_iand hx hb dX11_market_282 ?_
                              refine x_any (fun x101 rx101 => ?_)
                              refine x_iast hx hb hE hW (by decide) (fun σ => sa_269 h0 g σ) ⟨by decide, by decide⟩ (by decide) rx101 dX11_market_283 (fun H locs s102 es102 hW => ?_)
                              have q103 : IMn s102 := by rw [es102]; exact IMn_N269 q231_0 (by omega)
                              have q104 : IMk s102 := by rw [es102]; exact IMk_o (by unfold suIMk; omega) q231_1
                              have q105 : IMo s102 := by rw [es102]; exact IMo_o (by unfold suIMo; omega) q231_2
                              have q106 : IR s102 := by rw [es102]; exact IR_o (by unfold suIR; omega) q231_3
                              have q107 : s102 268 8 = 0 := (show s102 268 8 = s_231 268 8 from by rw [es102, xU_k _ _ _ (by omega)]).trans q231_4
                              have q108 : s102 268 58 = s0 268 58 := (show s102 268 58 = s_231 268 58 from by rw [es102, xU_k _ _ _ (by omega)]).trans q231_5
                              have q109 : s102 268 10 = n := (show s102 268 10 = s_231 268 10 from by rw [es102, xU_k _ _ _ (by omega)]).trans q231_6
                              have q110 : s102 268 14 = s15 268 14 := (show s102 268 14 = s_231 268 14 from by rw [es102, xU_k _ _ _ (by omega)]).trans q231_7
                              have q111 : s102 268 15 = s15 268 15 := (show s102 268 15 = s_231 268 15 from by rw [es102, xU_k _ _ _ (by omega)]).trans q231_8
                              have q112 : s102 268 16 = s15 268 16 := (show s102 268 16 = s_231 268 16 from by rw [es102, xU_k _ _ _ (by omega)]).trans q231_9
                              have q113 : s102 268 34 = s15 268 34 := (show s102 268 34 = s_231 268 34 from by rw [es102, xU_k _ _ _ (by omega)]).trans q231_10
                              have q114 : s102 268 35 = s15 268 35 := (show s102 268 35 = s_231 268 35 from by rw [es102, xU_k _ _ _ (by omega)]).trans q231_11
                              have q115 : s102 268 36 = s15 268 36 := (show s102 268 36 = s_231 268 36 from by rw [es102, xU_k _ _ _ (by omega)]).trans q231_12
                              have q116 : s102 268 37 = s15 268 37 := (show s102 268 37 = s_231 268 37 from by rw [es102, xU_k _ _ _ (by omega)]).trans q231_13
                              have hF117 := hF_231.put es102 (by omega)
                              refine x_iinc (lv' := [(4, .int (xJ (i4_231 + 1))), (0, .ref (h0 + 268)), (3, .int (xJ i3_122))]) hx hb hl 2 rfl dX11_market_284 (by decide) rfl (fun ls hl => ?_)
                              refine lv_goto (tgt := 231) hx hb dX11_market_287 (by decide) ?_
                              exact ih231 (i4_231 + 1) s102 H locs ls (by omega) hF117 q103 q104 q105 q106 q107 q108 q109 q110 q111 q112 q113 q114 q115 q116 (by omega) (by omega) (by omega) hW (lv_sub hl [1, 2, 0] rfl)
                          exact L231 ((10 + 1 - 0 : Int).toNat + 1) 0 s_170 H locs ls (by decide) hF_170 q170_0 q170_1 q170_2 q170_3 q170_4 q170_5 q170_6 q170_7 q170_8 q170_9 q170_10 q170_11 q170_12 q170_13 (by omega) (by omega) (Nat.lt_succ_self _) hW (lv_sub hl [1, 2, 0] rfl)
                        refine x_aload_n hx hb hl 0 rfl dX11_market_176 rfl ?_
                        refine x_iload hx hb hl 2 rfl dX11_market_177 ?_
                        refine x_goi (x_runV (As := [.int (xJ i4_170)]) hx hb hml hown hT hE hW hl.1 (Or.inl (by decide)) (so_268 h0 g _) rfl cf_X11_isJudge wq1409 wq109 wq1407 (c_X11_isJudge l D g T h0 s_170 hW.2.1 i4_170 ri4_170 q170_0 q170_1 q170_2) ⟨rfl, rfl, ⟨by decide, by decide⟩, ⟨by decide, by decide⟩⟩ rfl rfl (Nat.le_of_ble_eq_true rfl) dX11_market_179) hW (fun x118 s119 H locs rx118 hp120 hW => ?_)
                        obtain ⟨es119, hp120⟩ := hp120
                        subst es119
                        have ghp120 := hp120
                        refine x_if_eq (tgt := 222) hx hb rx118 dX11_market_182 (by decide) (fun c121 => ?_) (fun c121 => ?_)
                        · skip
                          refine x_iinc (lv' := [(4, .int (xJ (i4_170 + 1))), (0, .ref (h0 + 268)), (3, .int (xJ i3_122))]) hx hb hl 2 rfl dX11_market_222 (by decide) rfl (fun ls hl => ?_)
                          refine lv_goto (tgt := 170) hx hb dX11_market_225 (by decide) ?_
                          exact ih170 (i4_170 + 1) s_170 H locs ls (by omega) hF_170 q170_0 q170_1 q170_2 q170_3 q170_4 q170_5 q170_6 q170_7 q170_8 q170_9 q170_10 q170_11 q170_12 q170_13 (by omega) (by omega) (by omega) hW (lv_sub hl [1, 2, 0] rfl)
                        refine x_aload_n hx hb hl 0 rfl dX11_market_185 rfl ?_
                        refine x_aload_n hx hb hl 0 rfl dX11_market_186 rfl ?_
                        refine x_get (j := 0) (v := .ref (h0 + 269)) hx hb hown hT hE hW cls_X11 (Or.inl (by decide)) (so_268 h0 g _) (by decide) rfl wq1185 dX11_market_187 ?_
                        refine x_iconst hx hb dX11_market_190 ?_
                        refine x_iload hx hb hl 2 rfl dX11_market_191 ?_
                        refine x_iadd hx hb dX11_market_193 ?_
                        refine x_iald hx hb hE hW (Or.inl (by decide)) (sa_269 h0 g _) (by omega) (by decide) dX11_market_194 ?_
                        refine x_rd hW (fun x122 ex122 rx122 => ?_)
                        have bx122 : 0 ≤ x122 ∧ x122 ≤ 99 := by rw [ex122]; exact (IMn.n1 q170_0).1 _ (by omega) (by omega)
                        refine x_goi (x_runV (As := [.int (xJ x122)]) hx hb hml hown hT hE hW hl.1 (Or.inl (by decide)) (so_268 h0 g _) rfl cf_X11_isGround wq1419 wq110 wq1417 (c_X11_isGround l D g T h0 s_170 hW.2.1 x122 rx122 (by omega) q170_0 q170_1 q170_2) ⟨rfl, rfl, ⟨by decide, by decide⟩, ⟨by decide, by decide⟩⟩ rfl rfl (Nat.le_of_ble_eq_true rfl) dX11_market_195) hW (fun x123 s124 H locs rx123 hp125 hW => ?_)
                        obtain ⟨es124, hp125⟩ := hp125
                        subst es124
                        have ghp125 := hp125
                        refine x_if_ne (tgt := 222) hx hb rx123 dX11_market_198 (by decide) (fun c126 => ?_) (fun c126 => ?_)
                        · skip
                          refine x_iinc (lv' := [(4, .int (xJ (i4_170 + 1))), (0, .ref (h0 + 268)), (3, .int (xJ i3_122))]) hx hb hl 2 rfl dX11_market_222 (by decide) rfl (fun ls hl => ?_)
                          refine lv_goto (tgt := 170) hx hb dX11_market_225 (by decide) ?_
                          exact ih170 (i4_170 + 1) s_170 H locs ls (by omega) hF_170 q170_0 q170_1 q170_2 q170_3 q170_4 q170_5 q170_6 q170_7 q170_8 q170_9 q170_10 q170_11 q170_12 q170_13 (by omega) (by omega) (by omega) hW (lv_sub hl [1, 2, 0] rfl)
                        refine x_aload_n hx hb hl 0 rfl dX11_market_201 rfl ?_
                        refine x_get (j := 0) (v := .ref (h0 + 269)) hx hb hown hT hE hW cls_X11 (Or.inl (by decide)) (so_268 h0 g _) (by decide) rfl wq1185 dX11_market_202 ?_
                        refine x_bipush hx hb dX11_market_205 (by decide) ?_
                        refine x_aload_n hx hb hl 0 rfl dX11_market_207 rfl ?_
                        refine x_get (j := 0) (v := .ref (h0 + 269)) hx hb hown hT hE hW cls_X11 (Or.inl (by decide)) (so_268 h0 g _) (by decide) rfl wq1185 dX11_market_208 ?_
                        refine x_bipush hx hb dX11_market_211 (by decide) ?_
                        refine x_iald hx hb hE hW (Or.inl (by decide)) (sa_269 h0 g _) ⟨by decide, by decide⟩ (by decide) dX11_market_213 ?_
                        refine x_rd hW (fun x127 ex127 rx127 => ?_)
                        refine x_iconst hx hb dX11_market_214 ?_
                        refine x_iload hx hb hl 2 rfl dX11_market_215 ?_
                        refine lv_ishl hx hb dX11_market_217 ?_
                        refine x_any (fun x128 rx128 => ?_)
                        refine x_iconst hx hb dX11_market_218 ?_
                        refine lv_ixor hx hb dX11_market_219 ?_
                        refine x_any (fun x129 rx129 => ?_)
                        refine lv_iand hx hb dX11_market_220 ?_
                        refine x_any (fun x130 rx130 => ?_)
                        refine x_iast hx hb hE hW (by decide) (fun σ => sa_269 h0 g σ) ⟨by decide, by decide⟩ (by decide) rx130 dX11_market_221 (fun H locs s131 es131 hW => ?_)
                        have q132 : IMn s131 := by rw [es131]; exact IMn_N269 q170_0 (by omega)
                        have q133 : IMk s131 := by rw [es131]; exact IMk_o (by unfold suIMk; omega) q170_1
                        have q134 : IMo s131 := by rw [es131]; exact IMo_o (by unfold suIMo; omega) q170_2
                        have q135 : IR s131 := by rw [es131]; exact IR_o (by unfold suIR; omega) q170_3
                        have q136 : s131 268 8 = 0 := (show s131 268 8 = s_170 268 8 from by rw [es131, xU_k _ _ _ (by omega)]).trans q170_4
                        have q137 : s131 268 58 = s0 268 58 := (show s131 268 58 = s_170 268 58 from by rw [es131, xU_k _ _ _ (by omega)]).trans q170_5
                        have q138 : s131 268 10 = n := (show s131 268 10 = s_170 268 10 from by rw [es131, xU_k _ _ _ (by omega)]).trans q170_6
                        have q139 : s131 268 14 = s15 268 14 := (show s131 268 14 = s_170 268 14 from by rw [es131, xU_k _ _ _ (by omega)]).trans q170_7
                        have q140 : s131 268 15 = s15 268 15 := (show s131 268 15 = s_170 268 15 from by rw [es131, xU_k _ _ _ (by omega)]).trans q170_8
                        have q141 : s131 268 16 = s15 268 16 := (show s131 268 16 = s_170 268 16 from by rw [es131, xU_k _ _ _ (by omega)]).trans q170_9
                        have q142 : s131 268 34 = s15 268 34 := (show s131 268 34 = s_170 268 34 from by rw [es131, xU_k _ _ _ (by omega)]).trans q170_10
                        have q143 : s131 268 35 = s15 268 35 := (show s131 268 35 = s_170 268 35 from by rw [es131, xU_k _ _ _ (by omega)]).trans q170_11
                        have q144 : s131 268 36 = s15 268 36 := (show s131 268 36 = s_170 268 36 from by rw [es131, xU_k _ _ _ (by omega)]).trans q170_12
                        have q145 : s131 268 37 = s15 268 37 := (show s131 268 37 = s_170 268 37 from by rw [es131, xU_k _ _ _ (by omega)]).trans q170_13
                        have hF146 := hF_170.put es131 (by omega)
                        refine x_iinc (lv' := [(4, .int (xJ (i4_170 + 1))), (0, .ref (h0 + 268)), (3, .int (xJ i3_122))]) hx hb hl 2 rfl dX11_market_222 (by decide) rfl (fun ls hl => ?_)
                        refine lv_goto (tgt := 170) hx hb dX11_market_225 (by decide) ?_
                        exact ih170 (i4_170 + 1) s131 H locs ls (by omega) hF146 q132 q133 q134 q135 q136 q137 q138 q139 q140 q141 q142 q143 q144 q145 (by omega) (by omega) (by omega) hW (lv_sub hl [1, 2, 0] rfl)
                    exact L170 ((2 + 1 - 0 : Int).toNat + 1) 0 s_122 H locs ls (by decide) hF_122 q122_0 q122_1 q122_2 q122_3 q122_4 q122_5 q122_6 q122_7 q122_8 q122_9 q122_10 q122_11 q122_12 q122_13 (by omega) (by omega) (Nat.lt_succ_self _) hW (lv_sub hl [1, 2, 0] rfl)
                  refine x_aload_n hx hb hl 0 rfl dX11_market_129 rfl ?_
                  refine x_get (j := 3) (v := .ref (h0 + 272)) hx hb hown hT hE hW cls_X11 (Or.inl (by decide)) (so_268 h0 g _) (by decide) rfl wq1188 dX11_market_130 ?_
                  refine x_iload hx hb hl 2 rfl dX11_market_133 ?_
                  refine x_aload_n hx hb hl 0 rfl dX11_market_135 rfl ?_
                  refine x_get (j := 29) (v := .ref (h0 + 288)) hx hb hown hT hE hW cls_X11 (Or.inl (by decide)) (so_268 h0 g _) (by decide) rfl wq1214 dX11_market_136 ?_
                  refine x_iload hx hb hl 2 rfl dX11_market_139 ?_
                  refine x_iald hx hb hE hW (Or.inl (by decide)) (sa_288 h0 g _) (by omega) (by decide) dX11_market_141 ?_
                  refine x_rd hW (fun x147 ex147 rx147 => ?_)
                  refine x_iast hx hb hE hW (by decide) (fun σ => sa_272 h0 g σ) (by omega) (by decide) rx147 dX11_market_142 (fun H locs s148 es148 hW => ?_)
                  have q149 : IMn s148 := by rw [es148]; exact IMn_o (by unfold suIMn; omega) q122_0
                  have q150 : IMk s148 := by rw [es148]; exact IMk_o (by unfold suIMk; omega) q122_1
                  have q151 : IMo s148 := by rw [es148]; exact IMo_o (by unfold suIMo; omega) q122_2
                  have q152 : IR s148 := by rw [es148]; exact IR_o (by unfold suIR; omega) q122_3
                  have q153 : s148 268 8 = 0 := (show s148 268 8 = s_122 268 8 from by rw [es148, xU_k _ _ _ (by omega)]).trans q122_4
                  have q154 : s148 268 58 = s0 268 58 := (show s148 268 58 = s_122 268 58 from by rw [es148, xU_k _ _ _ (by omega)]).trans q122_5
                  have q155 : s148 268 10 = n := (show s148 268 10 = s_122 268 10 from by rw [es148, xU_k _ _ _ (by omega)]).trans q122_6
                  have q156 : s148 268 14 = s15 268 14 := (show s148 268 14 = s_122 268 14 from by rw [es148, xU_k _ _ _ (by omega)]).trans q122_7
                  have q157 : s148 268 15 = s15 268 15 := (show s148 268 15 = s_122 268 15 from by rw [es148, xU_k _ _ _ (by omega)]).trans q122_8
                  have q158 : s148 268 16 = s15 268 16 := (show s148 268 16 = s_122 268 16 from by rw [es148, xU_k _ _ _ (by omega)]).trans q122_9
                  have q159 : s148 268 34 = s15 268 34 := (show s148 268 34 = s_122 268 34 from by rw [es148, xU_k _ _ _ (by omega)]).trans q122_10
                  have q160 : s148 268 35 = s15 268 35 := (show s148 268 35 = s_122 268 35 from by rw [es148, xU_k _ _ _ (by omega)]).trans q122_11
                  have q161 : s148 268 36 = s15 268 36 := (show s148 268 36 = s_122 268 36 from by rw [es148, xU_k _ _ _ (by omega)]).trans q122_12
                  have q162 : s148 268 37 = s15 268 37 := (show s148 268 37 = s_122 268 37 from by rw [es148, xU_k _ _ _ (by omega)]).trans q122_13
                  have hF163 := hF_122.put es148 (by omega)
                  refine x_iload_n hx hb hl 1 rfl dX11_market_143 rfl ?_
                  refine x_aload_n hx hb hl 0 rfl dX11_market_144 rfl ?_
                  refine x_get (j := 3) (v := .ref (h0 + 272)) hx hb hown hT hE hW cls_X11 (Or.inl (by decide)) (so_268 h0 g _) (by decide) rfl wq1188 dX11_market_145 ?_
                  refine x_iload hx hb hl 2 rfl dX11_market_148 ?_
                  refine x_iald hx hb hE hW (Or.inl (by decide)) (sa_272 h0 g _) (by omega) (by decide) dX11_market_150 ?_
                  refine x_rd hW (fun x164 ex164 rx164 => ?_)
                  refine x_if_ne (tgt := 158) hx hb rx164 dX11_market_151 (by decide) (fun c165 => ?_) (fun c165 => ?_)
                  · skip
                    refine x_iconst hx hb dX11_market_158 ?_
                    refine x_iadd hx hb dX11_market_159 ?_
                    refine x_nm (fun x166 ex166 => ?_)
                    refine lv_istore_n (lv' := [(3, .int (xJ x166)), (0, .ref (h0 + 268)), (4, .int (xJ i4_122))]) hx hb dX11_market_160 rfl hl (by decide) rfl (fun ls hl => ?_)
                    refine x_iinc (lv' := [(4, .int (xJ (i4_122 + 1))), (3, .int (xJ x166)), (0, .ref (h0 + 268))]) hx hb hl 2 rfl dX11_market_161 (by decide) rfl (fun ls hl => ?_)
                    refine lv_goto (tgt := 122) hx hb dX11_market_164 (by decide) ?_
                    exact ih122 x166 (i4_122 + 1) s148 H locs ls (by omega) (by omega) hF163 q149 q150 q151 q152 q153 q154 q155 q156 q157 q158 q159 q160 q161 q162 (by omega) (by omega) (by omega) (by omega) hW (lv_sub hl [2, 1, 0] rfl)
                  refine x_iconst hx hb dX11_market_154 ?_
                  refine lv_goto (tgt := 159) hx hb dX11_market_155 (by decide) ?_
                  refine x_iadd hx hb dX11_market_159 ?_
                  refine x_nm (fun x167 ex167 => ?_)
                  refine lv_istore_n (lv' := [(3, .int (xJ x167)), (0, .ref (h0 + 268)), (4, .int (xJ i4_122))]) hx hb dX11_market_160 rfl hl (by decide) rfl (fun ls hl => ?_)
                  refine x_iinc (lv' := [(4, .int (xJ (i4_122 + 1))), (3, .int (xJ x167)), (0, .ref (h0 + 268))]) hx hb hl 2 rfl dX11_market_161 (by decide) rfl (fun ls hl => ?_)
                  refine lv_goto (tgt := 122) hx hb dX11_market_164 (by decide) ?_
                  exact ih122 x167 (i4_122 + 1) s148 H locs ls (by omega) (by omega) hF163 q149 q150 q151 q152 q153 q154 q155 q156 q157 q158 q159 q160 q161 q162 (by omega) (by omega) (by omega) (by omega) hW (lv_sub hl [2, 1, 0] rfl)
              exact L122 ((100 + 1 - 0 : Int).toNat + 1) 0 0 s29 H locs ls (by decide) (by decide) hF44 q30 q31 q32 q33 q34 q35 q36 q37 q38 q39 q40 q41 q42 q43 (by omega) (by omega) (by omega) (Nat.lt_succ_self _) hW (lv_sub hl [2, 1, 0] rfl)
            refine x_aload_n hx hb hl 0 rfl dX11_market_112 rfl ?_
            refine x_get (j := 11) (v := .int (xJ (s29 268 11))) hx hb hown hT hE hW cls_X11 (Or.inl (by decide)) (so_268 h0 g _) (by decide) rfl wq1196 dX11_market_113 ?_
            refine x_rd hW (fun x168 ex168 rx168 => ?_)
            rw [eQ]
            exact x_iret hx hb hr hlk hW rx168 ⟨hF44, ⟨q30, q31, q32, trivial⟩, by omega⟩ dX11_market_116
          refine x_if_eq (tgt := 103) hx hb ri2_39 dX11_market_79 (by decide) (fun c169 => ?_) (fun c169 => ?_)
          · skip
            exact J103 i2_39 s_39 H locs ls ri2_39 hF_39 q39_0 q39_1 q39_2 q39_3 q39_4 q39_5 q39_6 q39_7 q39_8 q39_9 q39_10 q39_11 q39_12 q39_13 (by omega) hW (lv_sub hl [0, 1] rfl)
          refine x_aload_n hx hb hl 0 rfl dX11_market_82 rfl ?_
          refine x_get (j := 9) (v := .int (xJ (s_39 268 9))) hx hb hown hT hE hW cls_X11 (Or.inl (by decide)) (so_268 h0 g _) (by decide) rfl wq1194 dX11_market_83 ?_
          refine x_rd hW (fun x170 ex170 rx170 => ?_)
          have bx170 : 0 ≤ x170 ∧ x170 ≤ s_39 268 10 ∧ s_39 268 10 ≤ 240 := by rw [ex170]; exact q39_3
          refine x_aload_n hx hb hl 0 rfl dX11_market_86 rfl ?_
          refine x_get (j := 10) (v := .int (xJ (s_39 268 10))) hx hb hown hT hE hW cls_X11 (Or.inl (by decide)) (so_268 h0 g _) (by decide) rfl wq1195 dX11_market_87 ?_
          refine x_rd hW (fun x171 ex171 rx171 => ?_)
          have fx171 : x171 = n := ex171.trans q39_6
          refine x_icmp_ge (tgt := 103) hx hb rx170 rx171 dX11_market_90 (by decide) (fun c172 => ?_) (fun c172 => ?_)
          · skip
            exact J103 i2_39 s_39 H locs ls ri2_39 hF_39 q39_0 q39_1 q39_2 q39_3 q39_4 q39_5 q39_6 q39_7 q39_8 q39_9 q39_10 q39_11 q39_12 q39_13 (by omega) hW (lv_sub hl [0, 1] rfl)
          refine x_aload_n hx hb hl 0 rfl dX11_market_93 rfl ?_
          refine x_iconst hx hb dX11_market_94 ?_
          refine x_aload_n hx hb hl 0 rfl dX11_market_95 rfl ?_
          refine x_get (j := 9) (v := .int (xJ (s_39 268 9))) hx hb hown hT hE hW cls_X11 (Or.inl (by decide)) (so_268 h0 g _) (by decide) rfl wq1194 dX11_market_96 ?_
          refine x_rd hW (fun x173 ex173 rx173 => ?_)
          have bx173 : 0 ≤ x173 ∧ x173 ≤ s_39 268 10 ∧ s_39 268 10 ≤ 240 := by rw [ex173]; exact q39_3
          refine x_goi (x_runV (As := [.int (xJ 1), .int (xJ x173)]) hx hb hml hown hT hE hW hl.1 (Or.inl (by decide)) (so_268 h0 g _) rfl cf_X11_wrongAt wq1401 wq107 wq1399 (c_X11_wrongAt l D g T h0 s_39 hW.2.1 1 (by decide) x173 rx173 q39_0 q39_1 q39_2 q39_3) ⟨rfl, rfl, ⟨by decide, by decide⟩, ⟨by decide, by decide⟩⟩ rfl rfl (Nat.le_of_ble_eq_true rfl) dX11_market_99) hW (fun x174 s175 H locs rx174 hp176 hW => ?_)
          obtain ⟨fs175, hp176⟩ := hp176
          have hF177 := hF_39.call fs175 (fun k h => by omega)
          have ghp176 := hp176.2
          refine lv_istore_n (lv' := [(2, .int (xJ x174)), (0, .ref (h0 + 268))]) hx hb dX11_market_102 rfl hl (by decide) rfl (fun ls hl => ?_)
          exact J103 x174 s175 H locs ls rx174 hF177 hp176.1.1 hp176.1.2.1 hp176.1.2.2.1 hp176.1.2.2.2.1 (hp176.1.2.2.2.2.1.trans q39_4) (hp176.1.2.2.2.2.2.1.trans q39_5) (hp176.1.2.2.2.2.2.2.2.1.trans q39_6) (hp176.1.2.2.2.2.2.2.2.2.1.trans q39_7) (hp176.1.2.2.2.2.2.2.2.2.2.1.trans q39_8) (hp176.1.2.2.2.2.2.2.2.2.2.2.1.trans q39_9) (hp176.1.2.2.2.2.2.2.2.2.2.2.2.1.trans q39_10) (hp176.1.2.2.2.2.2.2.2.2.2.2.2.2.1.trans q39_11) (hp176.1.2.2.2.2.2.2.2.2.2.2.2.2.2.1.trans q39_12) (hp176.1.2.2.2.2.2.2.2.2.2.2.2.2.2.2.1.trans q39_13) (by omega) hW (lv_sub hl [1, 0] rfl)
        refine x_icmp_ge (tgt := 78) hx hb ri3_39 (by decide) dX11_market_42 (by decide) (fun c178 => ?_) (fun c178 => ?_)
        · skip
          exact J78 ls   (lv_sub hl [0, 1] rfl)
        refine x_iload_n hx hb hl 1 rfl dX11_market_45 rfl ?_
        refine x_if_eq (tgt := 78) hx hb ri2_39 dX11_market_46 (by decide) (fun c179 => ?_) (fun c179 => ?_)
        · skip
          exact J78 ls   (lv_sub hl [0, 1] rfl)
        refine x_aload_n hx hb hl 0 rfl dX11_market_49 rfl ?_
        refine x_bipush hx hb dX11_market_50 (by decide) ?_
        refine x_goi (x_runV (As := [.int (xJ 47)]) hx hb hml hown hT hE hW hl.1 (Or.inl (by decide)) (so_268 h0 g _) rfl cf_X11_takes wq1405 wq108 wq1403 (c_X11_takes l D g T h0 s_39 hW.2.1 47 (by decide) (by omega) q39_0 q39_1 q39_2 q39_3) ⟨rfl, rfl, ⟨by decide, by decide⟩, ⟨by decide, by decide⟩⟩ rfl rfl (Nat.le_of_ble_eq_true rfl) dX11_market_52) hW (fun x180 s181 H locs rx180 hp182 hW => ?_)
        obtain ⟨fs181, hp182⟩ := hp182
        have hF183 := hF_39.call fs181 (fun k h => by omega)
        have ghp182 := hp182.2
        refine x_if_eq (tgt := 70) hx hb rx180 dX11_market_55 (by decide) (fun c184 => ?_) (fun c184 => ?_)
        · skip
          refine x_iconst hx hb dX11_market_70 ?_
          refine lv_istore_n (lv' := [(2, .int (xJ 0)), (0, .ref (h0 + 268)), (3, .int (xJ i3_39))]) hx hb dX11_market_71 rfl hl (by decide) rfl (fun ls hl => ?_)
          refine x_iinc (lv' := [(3, .int (xJ (i3_39 + 1))), (2, .int (xJ 0)), (0, .ref (h0 + 268))]) hx hb hl 2 rfl dX11_market_72 (by decide) rfl (fun ls hl => ?_)
          refine lv_goto (tgt := 39) hx hb dX11_market_75 (by decide) ?_
          exact ih39 0 (i3_39 + 1) s181 H locs ls (by decide) (by omega) hF183 hp182.1.1 hp182.1.2.1 hp182.1.2.2.1 hp182.1.2.2.2.1 (hp182.1.2.2.2.2.1.trans q39_4) (hp182.1.2.2.2.2.2.1.trans q39_5) (hp182.1.2.2.2.2.2.2.1.trans q39_6) (hp182.1.2.2.2.2.2.2.2.1.trans q39_7) (hp182.1.2.2.2.2.2.2.2.2.1.trans q39_8) (hp182.1.2.2.2.2.2.2.2.2.2.1.trans q39_9) (hp182.1.2.2.2.2.2.2.2.2.2.2.1.trans q39_10) (hp182.1.2.2.2.2.2.2.2.2.2.2.2.1.trans q39_11) (hp182.1.2.2.2.2.2.2.2.2.2.2.2.2.1.trans q39_12) (hp182.1.2.2.2.2.2.2.2.2.2.2.2.2.2.1.trans q39_13) (by omega) (by omega) (by omega) hW (lv_sub hl [2, 1, 0] rfl)
        refine x_aload_n hx hb hl 0 rfl dX11_market_58 rfl ?_
        refine x_iload_n hx hb hl 2 rfl dX11_market_59 rfl ?_
        refine x_goi (x_runV (As := [.int (xJ i3_39)]) hx hb hml hown hT hE hW hl.1 (Or.inl (by decide)) (so_268 h0 g _) rfl cf_X11_readsRow wq1387 wq105 wq1385 (c_X11_readsRow l D g T h0 s181 hW.2.1 i3_39 ri3_39 (by omega) hp182.1.1 hp182.1.2.1 hp182.1.2.2.1 hp182.1.2.2.2.1) ⟨rfl, rfl, ⟨by decide, by decide⟩, ⟨by decide, by decide⟩⟩ rfl rfl (Nat.le_of_ble_eq_true rfl) dX11_market_60) hW (fun x185 s186 H locs rx185 hp187 hW => ?_)
        obtain ⟨fs186, hp187⟩ := hp187
        have hF188 := hF183.call fs186 (fun k h => by omega)
        have ghp187 := hp187.2
        refine x_if_eq (tgt := 70) hx hb rx185 dX11_market_63 (by decide) (fun c189 => ?_) (fun c189 => ?_)
        · skip
          refine x_iconst hx hb dX11_market_70 ?_
          refine lv_istore_n (lv' := [(2, .int (xJ 0)), (0, .ref (h0 + 268)), (3, .int (xJ i3_39))]) hx hb dX11_market_71 rfl hl (by decide) rfl (fun ls hl => ?_)
          refine x_iinc (lv' := [(3, .int (xJ (i3_39 + 1))), (2, .int (xJ 0)), (0, .ref (h0 + 268))]) hx hb hl 2 rfl dX11_market_72 (by decide) rfl (fun ls hl => ?_)
          refine lv_goto (tgt := 39) hx hb dX11_market_75 (by decide) ?_
          exact ih39 0 (i3_39 + 1) s186 H locs ls (by decide) (by omega) hF188 hp187.1.1 hp187.1.2.1 hp187.1.2.2.1 hp187.1.2.2.2.1 (hp187.1.2.2.2.2.1.trans (hp182.1.2.2.2.2.1.trans q39_4)) (hp187.1.2.2.2.2.2.1.trans (hp182.1.2.2.2.2.2.1.trans q39_5)) (hp187.1.2.2.2.2.2.2.1.trans (hp182.1.2.2.2.2.2.2.1.trans q39_6)) (hp187.1.2.2.2.2.2.2.2.1.trans (hp182.1.2.2.2.2.2.2.2.1.trans q39_7)) (hp187.1.2.2.2.2.2.2.2.2.1.trans (hp182.1.2.2.2.2.2.2.2.2.1.trans q39_8)) (hp187.1.2.2.2.2.2.2.2.2.2.1.trans (hp182.1.2.2.2.2.2.2.2.2.2.1.trans q39_9)) (hp187.1.2.2.2.2.2.2.2.2.2.2.1.trans (hp182.1.2.2.2.2.2.2.2.2.2.2.1.trans q39_10)) (hp187.1.2.2.2.2.2.2.2.2.2.2.2.1.trans (hp182.1.2.2.2.2.2.2.2.2.2.2.2.1.trans q39_11)) (hp187.1.2.2.2.2.2.2.2.2.2.2.2.2.1.trans (hp182.1.2.2.2.2.2.2.2.2.2.2.2.2.1.trans q39_12)) (hp187.1.2.2.2.2.2.2.2.2.2.2.2.2.2.1.trans (hp182.1.2.2.2.2.2.2.2.2.2.2.2.2.2.1.trans q39_13)) (by omega) (by omega) (by omega) hW (lv_sub hl [2, 1, 0] rfl)
        refine x_iconst hx hb dX11_market_66 ?_
        refine lv_goto (tgt := 71) hx hb dX11_market_67 (by decide) ?_
        refine lv_istore_n (lv' := [(2, .int (xJ 1)), (0, .ref (h0 + 268)), (3, .int (xJ i3_39))]) hx hb dX11_market_71 rfl hl (by decide) rfl (fun ls hl => ?_)
        refine x_iinc (lv' := [(3, .int (xJ (i3_39 + 1))), (2, .int (xJ 1)), (0, .ref (h0 + 268))]) hx hb hl 2 rfl dX11_market_72 (by decide) rfl (fun ls hl => ?_)
        refine lv_goto (tgt := 39) hx hb dX11_market_75 (by decide) ?_
        exact ih39 1 (i3_39 + 1) s186 H locs ls (by decide) (by omega) hF188 hp187.1.1 hp187.1.2.1 hp187.1.2.2.1 hp187.1.2.2.2.1 (hp187.1.2.2.2.2.1.trans (hp182.1.2.2.2.2.1.trans q39_4)) (hp187.1.2.2.2.2.2.1.trans (hp182.1.2.2.2.2.2.1.trans q39_5)) (hp187.1.2.2.2.2.2.2.1.trans (hp182.1.2.2.2.2.2.2.1.trans q39_6)) (hp187.1.2.2.2.2.2.2.2.1.trans (hp182.1.2.2.2.2.2.2.2.1.trans q39_7)) (hp187.1.2.2.2.2.2.2.2.2.1.trans (hp182.1.2.2.2.2.2.2.2.2.1.trans q39_8)) (hp187.1.2.2.2.2.2.2.2.2.2.1.trans (hp182.1.2.2.2.2.2.2.2.2.2.1.trans q39_9)) (hp187.1.2.2.2.2.2.2.2.2.2.2.1.trans (hp182.1.2.2.2.2.2.2.2.2.2.2.1.trans q39_10)) (hp187.1.2.2.2.2.2.2.2.2.2.2.2.1.trans (hp182.1.2.2.2.2.2.2.2.2.2.2.2.1.trans q39_11)) (hp187.1.2.2.2.2.2.2.2.2.2.2.2.2.1.trans (hp182.1.2.2.2.2.2.2.2.2.2.2.2.2.1.trans q39_12)) (hp187.1.2.2.2.2.2.2.2.2.2.2.2.2.2.1.trans (hp182.1.2.2.2.2.2.2.2.2.2.2.2.2.2.1.trans q39_13)) (by omega) (by omega) (by omega) hW (lv_sub hl [2, 1, 0] rfl)
    exact L39 ((10 - 1 : Int).toNat + 1) x25 1 s26 H locs ls rx25 (by decide) hF28 hp27.1.1 hp27.1.2.1 hp27.1.2.2.1 hp27.1.2.2.2.1 (hp27.1.2.2.2.2.1.trans q19) (hp27.1.2.2.2.2.2.1.trans q20) (hp27.1.2.2.2.2.2.2.1.trans q22) hp27.1.2.2.2.2.2.2.2.1 hp27.1.2.2.2.2.2.2.2.2.1 hp27.1.2.2.2.2.2.2.2.2.2.1 hp27.1.2.2.2.2.2.2.2.2.2.2.1 hp27.1.2.2.2.2.2.2.2.2.2.2.2.1 hp27.1.2.2.2.2.2.2.2.2.2.2.2.2.1 hp27.1.2.2.2.2.2.2.2.2.2.2.2.2.2.1 (by omega) (by omega) (Nat.lt_succ_self _) hW (lv_sub hl [2, 1, 0] rfl)
  refine x_iconst hx hb dX11_market_19 ?_
  rw [eQ]
  exact x_iret hx hb hr hlk hW (by decide) ⟨hF, ⟨p0, p1, p2, trivial⟩, by omega⟩ dX11_market_20
set_option maxHeartbeats 4000000 in
set_option maxRecDepth 100000 in
theorem c_X11_repeats (l : Launch) (D : va_G) (g : xG) (T : Nat × Nat × Nat) (h0 : Nat) (s0 : xS) (hσ : xRR s0) (a : Int) (ra : xR a) (b : Int) (rb : xR b) (q : Int) (rq : xR q) (ha0 : 0 ≤ a ∧ a ≤ s0 268 34 ∧ s0 268 34 ≤ 60) (hb0 : 1 ≤ b ∧ b ≤ 9) (p0 : IMn s0) (p1 : IMk s0) (p2 : IMo s0) (p3 : IR s0) : Met l yX11_repeats (xws yX11_repeats cX11_repeats 6 (some .boolean)) { frames := 1, cells := 0, slots := 0, locals := 22 } (xP [.ref (h0 + 268), .int (xJ a), .int (xJ b), .int (xJ q)] D g T h0 s0) (xQi D g h0 (fun r τ => xFr (fun k => k = 268 ∨ k = 289) s0 τ ∧ (((IMn τ) ∧ (IMk τ) ∧ (IMo τ) ∧ (IR τ) ∧ (τ 268 8 = s0 268 8) ∧ (τ 268 58 = s0 268 58) ∧ (τ 268 9 = s0 268 9) ∧ (τ 268 10 = s0 268 10) ∧ (τ 268 14 = s0 268 14) ∧ (τ 268 15 = s0 268 15) ∧ (τ 268 16 = s0 268 16) ∧ (τ 268 35 = s0 268 35) ∧ (τ 268 36 = s0 268 36) ∧ (τ 268 37 = s0 268 37) ∧ True) ∧ (r = 0 ∨ (r = 1 ∧ s0 268 34 ≤ τ 268 34 ∧ τ 268 34 ≤ 60))))) 0 0 (xA h0) := by
  refine x_met hσ (by decide) (Nat.le_of_ble_eq_true rfl) ?_
  intro p e s m args below meth c hx hb hr hml hown hT hlk hnm hE hW ls hl
  have hl : lv_has ls 6 [(0, .ref (h0 + 268)), (1, .int (xJ a)), (2, .int (xJ b)), (3, .int (xJ q))] := hl
  obtain ⟨Q, eQ⟩ : ∃ Q, Q = MQ below (xQi D g h0 (fun r τ => xFr (fun k => k = 268 ∨ k = 289) s0 τ ∧ (((IMn τ) ∧ (IMk τ) ∧ (IMo τ) ∧ (IR τ) ∧ (τ 268 8 = s0 268 8) ∧ (τ 268 58 = s0 268 58) ∧ (τ 268 9 = s0 268 9) ∧ (τ 268 10 = s0 268 10) ∧ (τ 268 14 = s0 268 14) ∧ (τ 268 15 = s0 268 15) ∧ (τ 268 16 = s0 268 16) ∧ (τ 268 35 = s0 268 35) ∧ (τ 268 36 = s0 268 36) ∧ (τ 268 37 = s0 268 37) ∧ True) ∧ (r = 0 ∨ (r = 1 ∧ s0 268 34 ≤ τ 268 34 ∧ τ 268 34 ≤ 60))))) args s 0 0 (xA h0) := ⟨_, rfl⟩
  rw [← eQ]
  generalize hHe : ([] : List Loc) = locs at hW ⊢
  obtain ⟨H, eH⟩ : ∃ H, H = s.heap := ⟨_, rfl⟩
  rw [← eH] at hW ⊢
  have hF : xFr (fun k => k = 268 ∨ k = 289) s0 s0 := xFr.rf
  have k268_8 : s0 268 8 = s0 268 8 := rfl
  have k268_58 : s0 268 58 = s0 268 58 := rfl
  have k268_9 : s0 268 9 = s0 268 9 := rfl
  have k268_10 : s0 268 10 = s0 268 10 := rfl
  have k268_14 : s0 268 14 = s0 268 14 := rfl
  have k268_15 : s0 268 15 = s0 268 15 := rfl
  have k268_16 : s0 268 16 = s0 268 16 := rfl
  have k268_35 : s0 268 35 = s0 268 35 := rfl
  have k268_36 : s0 268 36 = s0 268 36 := rfl
  have k268_37 : s0 268 37 = s0 268 37 := rfl
  have k268_34 : s0 268 34 = s0 268 34 := rfl
  refine x_aload_n hx hb hl 0 rfl dX11_repeats_0 rfl ?_
  refine x_get (j := 34) (v := .int (xJ (s0 268 34))) hx hb hown hT hE hW cls_X11 (Or.inl (by decide)) (so_268 h0 g _) (by decide) rfl wq1219 dX11_repeats_1 ?_
  refine x_rd hW (fun x1 ex1 rx1 => ?_)
  have fx1 : x1 = s0 268 34 := ex1.trans k268_34
  refine x_iload_n hx hb hl 1 rfl dX11_repeats_4 rfl ?_
  refine x_isub hx hb dX11_repeats_5 ?_
  refine x_nm (fun x2 ex2 => ?_)
  refine lv_istore (lv' := [(4, .int (xJ x2)), (0, .ref (h0 + 268)), (1, .int (xJ a)), (2, .int (xJ b)), (3, .int (xJ q))]) hx hb dX11_repeats_6 hl (by decide) rfl (fun ls hl => ?_)
  have mb := xmulr (by omega : 0 ≤ x2) hb0
  refine x_iload_n hx hb hl 2 rfl dX11_repeats_8 rfl ?_
  refine x_iload hx hb hl 0 rfl dX11_repeats_9 ?_
  refine x_iload_n hx hb hl 3 rfl dX11_repeats_11 rfl ?_
  refine x_imul hx hb dX11_repeats_12 ?_
  refine x_iadd hx hb dX11_repeats_13 ?_
  refine x_bipush hx hb dX11_repeats_14 (by decide) ?_
  refine x_icmp_le (tgt := 27) hx hb (by omega) (by decide) dX11_repeats_16 (by decide) (fun c3 => ?_) (fun c3 => ?_)
  · skip
    refine x_iload hx hb hl 0 rfl dX11_repeats_27 ?_
    refine lv_istore (lv' := [(5, .int (xJ x2)), (4, .int (xJ x2)), (0, .ref (h0 + 268)), (1, .int (xJ a)), (2, .int (xJ b)), (3, .int (xJ q))]) hx hb dX11_repeats_29 hl (by decide) rfl (fun ls hl => ?_)
    have L31 : ∀ (fu : Nat) (i5_31 : Int) (s_31 : xS) (H : Heap) (locs : List Loc) (ls : Array Slot), (xR i5_31) → (xFr (fun k => k = 268 ∨ k = 289) s0 s_31) → (IMn s_31) → (IMk s_31) → (IMo s_31) → (IR s_31) → (s_31 268 8 = s0 268 8) → (s_31 268 58 = s0 268 58) → (s_31 268 9 = s0 268 9) → (s_31 268 10 = s0 268 10) → (s_31 268 14 = s0 268 14) → (s_31 268 15 = s0 268 15) → (s_31 268 16 = s0 268 16) → (s_31 268 35 = s0 268 35) → (s_31 268 36 = s0 268 36) → (s_31 268 37 = s0 268 37) → (s_31 268 34 = s0 268 34) → (x2 ≤ i5_31) → (x2 * b - i5_31).toNat < fu → xW D g h0 s H locs s_31 → lv_has ls 6 [(0, .ref (h0 + 268)), (1, .int (xJ a)), (2, .int (xJ b)), (4, .int (xJ x2)), (5, .int (xJ i5_31))] → W p l e { frames := 1, cells := 0, slots := 0, locals := 22 } s m args below meth c H locs 0 0 Q (F0 m 31 ls []) := by
      intro fu
      induction fu with
      | zero => intro i5_31 s_31 H locs ls ri5_31 hF_31 q31_0 q31_1 q31_2 q31_3 q31_4 q31_5 q31_6 q31_7 q31_8 q31_9 q31_10 q31_11 q31_12 q31_13 q31_14 v31_0 hm; exact absurd hm (Nat.not_lt_zero _)
      | succ fu ih31 =>
        intro i5_31 s_31 H locs ls ri5_31 hF_31 q31_0 q31_1 q31_2 q31_3 q31_4 q31_5 q31_6 q31_7 q31_8 q31_9 q31_10 q31_11 q31_12 q31_13 q31_14 v31_0 hm hW hl
        refine x_iload hx hb hl 4 rfl dX11_repeats_31 ?_
        refine x_iload hx hb hl 3 rfl dX11_repeats_33 ?_
        refine x_iload_n hx hb hl 2 rfl dX11_repeats_35 rfl ?_
        refine x_imul hx hb dX11_repeats_36 ?_
        refine x_icmp_ge (tgt := 67) hx hb ri5_31 (by omega) dX11_repeats_37 (by decide) (fun c4 => ?_) (fun c4 => ?_)
        · skip
          refine x_aload_n hx hb hl 0 rfl dX11_repeats_67 rfl ?_
          refine x_iload_n hx hb hl 1 rfl dX11_repeats_68 rfl ?_
          refine x_iload hx hb hl 3 rfl dX11_repeats_69 ?_
          refine x_iload_n hx hb hl 2 rfl dX11_repeats_71 rfl ?_
          refine x_imul hx hb dX11_repeats_72 ?_
          refine x_iadd hx hb dX11_repeats_73 ?_
          refine x_put (j := 34) hx hb hown hT hE hW cls_X11 (by decide) (fun σ => so_268 h0 g σ) (by decide) (st_X11_34 h0 s_31 268 (a + (x2 * b))) (ln_X11_34 h0 _ _) wq1219 rfl rfl rfl (by omega) dX11_repeats_74 (fun H locs s5 es5 hW => ?_)
          have q6 : IMn s5 := by rw [es5]; exact IMn_268 q31_0 (by omega)
          have q7 : IMk s5 := by rw [es5]; exact IMk_268 q31_1 (by omega)
          have q8 : IMo s5 := by rw [es5]; exact IMo_o (by unfold suIMo; omega) q31_2
          have q9 : IR s5 := by rw [es5]; exact IR_268 q31_3 (by omega)
          have q10 : s5 268 8 = s0 268 8 := (show s5 268 8 = s_31 268 8 from by rw [es5, xU_j _ _ (by decide)]).trans q31_4
          have q11 : s5 268 58 = s0 268 58 := (show s5 268 58 = s_31 268 58 from by rw [es5, xU_j _ _ (by decide)]).trans q31_5
          have q12 : s5 268 9 = s0 268 9 := (show s5 268 9 = s_31 268 9 from by rw [es5, xU_j _ _ (by decide)]).trans q31_6
          have q13 : s5 268 10 = s0 268 10 := (show s5 268 10 = s_31 268 10 from by rw [es5, xU_j _ _ (by decide)]).trans q31_7
          have q14 : s5 268 14 = s0 268 14 := (show s5 268 14 = s_31 268 14 from by rw [es5, xU_j _ _ (by decide)]).trans q31_8
          have q15 : s5 268 15 = s0 268 15 := (show s5 268 15 = s_31 268 15 from by rw [es5, xU_j _ _ (by decide)]).trans q31_9
          have q16 : s5 268 16 = s0 268 16 := (show s5 268 16 = s_31 268 16 from by rw [es5, xU_j _ _ (by decide)]).trans q31_10
          have q17 : s5 268 35 = s0 268 35 := (show s5 268 35 = s_31 268 35 from by rw [es5, xU_j _ _ (by decide)]).trans q31_11
          have q18 : s5 268 36 = s0 268 36 := (show s5 268 36 = s_31 268 36 from by rw [es5, xU_j _ _ (by decide)]).trans q31_12
          have q19 : s5 268 37 = s0 268 37 := (show s5 268 37 = s_31 268 37 from by rw [es5, xU_j _ _ (by decide)]).trans q31_13
          have q20 : s5 268 34 = (a + (x2 * b)) := by rw [es5, xU_s]
          have hF21 := hF_31.put es5 (by omega)
          refine x_iconst hx hb dX11_repeats_77 ?_
          rw [eQ]
          exact x_zret hx hb hr hlk hW (by omega) ⟨hF21, ⟨q6, q7, q8, q9, q10, q11, q12, q13, q14, q15, q16, q17, q18, q19, trivial⟩, by omega⟩ dX11_repeats_78
        refine x_aload_n hx hb hl 0 rfl dX11_repeats_40 rfl ?_
        refine x_get (j := 30) (v := .ref (h0 + 289)) hx hb hown hT hE hW cls_X11 (Or.inl (by decide)) (so_268 h0 g _) (by decide) rfl wq1215 dX11_repeats_41 ?_
        refine x_iload_n hx hb hl 1 rfl dX11_repeats_44 rfl ?_
        refine x_iload hx hb hl 4 rfl dX11_repeats_45 ?_
        refine x_iadd hx hb dX11_repeats_47 ?_
        refine x_aload_n hx hb hl 0 rfl dX11_repeats_48 rfl ?_
        refine x_get (j := 30) (v := .ref (h0 + 289)) hx hb hown hT hE hW cls_X11 (Or.inl (by decide)) (so_268 h0 g _) (by decide) rfl wq1215 dX11_repeats_49 ?_
        refine x_iload_n hx hb hl 1 rfl dX11_repeats_52 rfl ?_
        refine x_iload hx hb hl 4 rfl dX11_repeats_53 ?_
        refine x_iadd hx hb dX11_repeats_55 ?_
        refine x_iload hx hb hl 3 rfl dX11_repeats_56 ?_
        refine x_isub hx hb dX11_repeats_58 ?_
        refine x_bald hx hb hE hW (Or.inl (by decide)) (sa_289 h0 g _) (by omega) (by decide) dX11_repeats_59 ?_
        refine x_rd hW (fun x22 ex22 rx22 => ?_)
        obtain ⟨y24, ey24, ry24⟩ := xnb x22
        refine x_bast (w := y24) hx hb hE hW (by decide) (fun σ => sa_289 h0 g σ) (by omega) (by decide) ey24 ry24 dX11_repeats_60 (fun H locs s23 es23 hW => ?_)
        have q25 : IMn s23 := by rw [es23]; exact IMn_o (by unfold suIMn; omega) q31_0
        have q26 : IMk s23 := by rw [es23]; exact IMk_o (by unfold suIMk; omega) q31_1
        have q27 : IMo s23 := by rw [es23]; exact IMo_o (by unfold suIMo; omega) q31_2
        have q28 : IR s23 := by rw [es23]; exact IR_o (by unfold suIR; omega) q31_3
        have q29 : s23 268 8 = s0 268 8 := (show s23 268 8 = s_31 268 8 from by rw [es23, xU_k _ _ _ (by omega)]).trans q31_4
        have q30 : s23 268 58 = s0 268 58 := (show s23 268 58 = s_31 268 58 from by rw [es23, xU_k _ _ _ (by omega)]).trans q31_5
        have q31 : s23 268 9 = s0 268 9 := (show s23 268 9 = s_31 268 9 from by rw [es23, xU_k _ _ _ (by omega)]).trans q31_6
        have q32 : s23 268 10 = s0 268 10 := (show s23 268 10 = s_31 268 10 from by rw [es23, xU_k _ _ _ (by omega)]).trans q31_7
        have q33 : s23 268 14 = s0 268 14 := (show s23 268 14 = s_31 268 14 from by rw [es23, xU_k _ _ _ (by omega)]).trans q31_8
        have q34 : s23 268 15 = s0 268 15 := (show s23 268 15 = s_31 268 15 from by rw [es23, xU_k _ _ _ (by omega)]).trans q31_9
        have q35 : s23 268 16 = s0 268 16 := (show s23 268 16 = s_31 268 16 from by rw [es23, xU_k _ _ _ (by omega)]).trans q31_10
        have q36 : s23 268 35 = s0 268 35 := (show s23 268 35 = s_31 268 35 from by rw [es23, xU_k _ _ _ (by omega)]).trans q31_11
        have q37 : s23 268 36 = s0 268 36 := (show s23 268 36 = s_31 268 36 from by rw [es23, xU_k _ _ _ (by omega)]).trans q31_12
        have q38 : s23 268 37 = s0 268 37 := (show s23 268 37 = s_31 268 37 from by rw [es23, xU_k _ _ _ (by omega)]).trans q31_13
        have q39 : s23 268 34 = s0 268 34 := (show s23 268 34 = s_31 268 34 from by rw [es23, xU_k _ _ _ (by omega)]).trans q31_14
        have hF40 := hF_31.put es23 (by omega)
        refine x_iinc (lv' := [(5, .int (xJ (i5_31 + 1))), (0, .ref (h0 + 268)), (1, .int (xJ a)), (2, .int (xJ b)), (4, .int (xJ x2))]) hx hb hl 4 rfl dX11_repeats_61 (by decide) rfl (fun ls hl => ?_)
        refine lv_goto (tgt := 31) hx hb dX11_repeats_64 (by decide) ?_
        exact ih31 (i5_31 + 1) s23 H locs ls (by omega) hF40 q25 q26 q27 q28 q29 q30 q31 q32 q33 q34 q35 q36 q37 q38 q39 (by omega) (by omega) hW (lv_sub hl [1, 2, 3, 4, 0] rfl)
    exact L31 ((x2 * b - x2 : Int).toNat + 1) x2 s0 H locs ls (by omega) hF p0 p1 p2 p3 k268_8 k268_58 k268_9 k268_10 k268_14 k268_15 k268_16 k268_35 k268_36 k268_37 k268_34 (by omega) (Nat.lt_succ_self _) hW (lv_sub hl [2, 3, 4, 1, 0] rfl)
  refine x_aload_n hx hb hl 1 rfl dX11_repeats_19 rfl ?_
  refine x_bipush hx hb dX11_repeats_20 (by decide) ?_
  refine x_iload_n hx hb hl 4 rfl dX11_repeats_22 rfl ?_
  refine x_goi (x_runV (As := [.int (xJ 6), .int (xJ q)]) hx hb hml hown hT hE hW hl.1 (Or.inl (by decide)) (so_268 h0 g _) rfl cf_X11_wrongAt wq1401 wq107 wq1399 (c_X11_wrongAt l D g T h0 s0 hW.2.1 6 (by decide) q rq p0 p1 p2 p3) ⟨rfl, rfl, ⟨by decide, by decide⟩, ⟨by decide, by decide⟩⟩ rfl rfl (Nat.le_of_ble_eq_true rfl) dX11_repeats_23) hW (fun x41 s42 H locs rx41 hp43 hW => ?_)
  obtain ⟨fs42, hp43⟩ := hp43
  have hF44 := hF.call fs42 (fun k h => by omega)
  have ghp43 := hp43.2
  rw [eQ]
  exact x_zret hx hb hr hlk hW (by omega) ⟨hF44, ⟨hp43.1.1, hp43.1.2.1, hp43.1.2.2.1, hp43.1.2.2.2.1, (hp43.1.2.2.2.2.1.trans k268_8), (hp43.1.2.2.2.2.2.1.trans k268_58), (hp43.1.2.2.2.2.2.2.1.trans k268_9), (hp43.1.2.2.2.2.2.2.2.1.trans k268_10), (hp43.1.2.2.2.2.2.2.2.2.1.trans k268_14), (hp43.1.2.2.2.2.2.2.2.2.2.1.trans k268_15), (hp43.1.2.2.2.2.2.2.2.2.2.2.1.trans k268_16), (hp43.1.2.2.2.2.2.2.2.2.2.2.2.2.1.trans k268_35), (hp43.1.2.2.2.2.2.2.2.2.2.2.2.2.2.1.trans k268_36), (hp43.1.2.2.2.2.2.2.2.2.2.2.2.2.2.2.1.trans k268_37), trivial⟩, by omega⟩ dX11_repeats_26
set_option maxHeartbeats 4000000 in
set_option maxRecDepth 100000 in
theorem c_X11_readsTimes (l : Launch) (D : va_G) (g : xG) (T : Nat × Nat × Nat) (h0 : Nat) (s0 : xS) (hσ : xRR s0) (p0 : IMn s0) (p1 : IMk s0) (p2 : IMo s0) (p3 : IR s0) : Met l yX11_readsTimes (xws yX11_readsTimes cX11_readsTimes 1 none) { frames := 1, cells := 0, slots := 0, locals := 22 } (xP [.ref (h0 + 268)] D g T h0 s0) (xQv D g h0 (fun τ => xFr (fun k => k = 268) s0 τ ∧ (((IMn τ) ∧ (IMk τ) ∧ (IMo τ) ∧ (IR τ) ∧ (τ 268 8 = s0 268 8) ∧ (τ 268 58 = s0 268 58) ∧ (τ 268 10 = s0 268 10) ∧ (τ 268 14 = s0 268 14) ∧ (τ 268 15 = s0 268 15) ∧ (τ 268 16 = s0 268 16) ∧ (τ 268 34 = s0 268 34) ∧ (τ 268 35 = s0 268 35) ∧ True) ∧ ((1 ≤ τ 268 37 ∧ τ 268 37 ≤ 9) ∧ s0 268 9 ≤ τ 268 9)))) 0 0 (xA h0) := by
  refine x_met hσ (by decide) (Nat.le_of_ble_eq_true rfl) ?_
  intro p e s m args below meth c hx hb hr hml hown hT hlk hnm hE hW ls hl
  have hl : lv_has ls 1 [(0, .ref (h0 + 268))] := hl
  obtain ⟨Q, eQ⟩ : ∃ Q, Q = MQ below (xQv D g h0 (fun τ => xFr (fun k => k = 268) s0 τ ∧ (((IMn τ) ∧ (IMk τ) ∧ (IMo τ) ∧ (IR τ) ∧ (τ 268 8 = s0 268 8) ∧ (τ 268 58 = s0 268 58) ∧ (τ 268 10 = s0 268 10) ∧ (τ 268 14 = s0 268 14) ∧ (τ 268 15 = s0 268 15) ∧ (τ 268 16 = s0 268 16) ∧ (τ 268 34 = s0 268 34) ∧ (τ 268 35 = s0 268 35) ∧ True) ∧ ((1 ≤ τ 268 37 ∧ τ 268 37 ≤ 9) ∧ s0 268 9 ≤ τ 268 9)))) args s 0 0 (xA h0) := ⟨_, rfl⟩
  rw [← eQ]
  generalize hHe : ([] : List Loc) = locs at hW ⊢
  obtain ⟨H, eH⟩ : ∃ H, H = s.heap := ⟨_, rfl⟩
  rw [← eH] at hW ⊢
  have hF : xFr (fun k => k = 268) s0 s0 := xFr.rf
  have k268_8 : s0 268 8 = s0 268 8 := rfl
  have k268_58 : s0 268 58 = s0 268 58 := rfl
  have k268_10 : s0 268 10 = s0 268 10 := rfl
  have k268_14 : s0 268 14 = s0 268 14 := rfl
  have k268_15 : s0 268 15 = s0 268 15 := rfl
  have k268_16 : s0 268 16 = s0 268 16 := rfl
  have k268_34 : s0 268 34 = s0 268 34 := rfl
  have k268_35 : s0 268 35 = s0 268 35 := rfl
  have k268_9 : s0 268 9 = s0 268 9 := rfl
  refine x_aload_n hx hb hl 0 rfl dX11_readsTimes_0 rfl ?_
  refine x_aload_n hx hb hl 0 rfl dX11_readsTimes_1 rfl ?_
  refine x_get (j := 9) (v := .int (xJ (s0 268 9))) hx hb hown hT hE hW cls_X11 (Or.inl (by decide)) (so_268 h0 g _) (by decide) rfl wq1194 dX11_readsTimes_2 ?_
  refine x_rd hW (fun x1 ex1 rx1 => ?_)
  have bx1 : 0 ≤ x1 ∧ x1 ≤ s0 268 10 ∧ s0 268 10 ≤ 240 := by rw [ex1]; exact p3
  have fx1 : x1 = s0 268 9 := ex1.trans k268_9
  refine x_put (j := 36) hx hb hown hT hE hW cls_X11 (by decide) (fun σ => so_268 h0 g σ) (by decide) (st_X11_36 h0 s0 268 x1) (ln_X11_36 h0 _ _) wq1221 rfl rfl rfl rx1 dX11_readsTimes_5 (fun H locs s2 es2 hW => ?_)
  have q3 : IMn s2 := by rw [es2]; exact IMn_268 p0 (by omega)
  have q4 : IMk s2 := by rw [es2]; exact IMk_268 p1 (by omega)
  have q5 : IMo s2 := by rw [es2]; exact IMo_o (by unfold suIMo; omega) p2
  have q6 : IR s2 := by rw [es2]; exact IR_268 p3 (by omega)
  have q7 : s2 268 8 = s0 268 8 := (show s2 268 8 = s0 268 8 from by rw [es2, xU_j _ _ (by decide)]).trans k268_8
  have q8 : s2 268 58 = s0 268 58 := (show s2 268 58 = s0 268 58 from by rw [es2, xU_j _ _ (by decide)]).trans k268_58
  have q9 : s2 268 10 = s0 268 10 := (show s2 268 10 = s0 268 10 from by rw [es2, xU_j _ _ (by decide)]).trans k268_10
  have q10 : s2 268 14 = s0 268 14 := (show s2 268 14 = s0 268 14 from by rw [es2, xU_j _ _ (by decide)]).trans k268_14
  have q11 : s2 268 15 = s0 268 15 := (show s2 268 15 = s0 268 15 from by rw [es2, xU_j _ _ (by decide)]).trans k268_15
  have q12 : s2 268 16 = s0 268 16 := (show s2 268 16 = s0 268 16 from by rw [es2, xU_j _ _ (by decide)]).trans k268_16
  have q13 : s2 268 34 = s0 268 34 := (show s2 268 34 = s0 268 34 from by rw [es2, xU_j _ _ (by decide)]).trans k268_34
  have q14 : s2 268 35 = s0 268 35 := (show s2 268 35 = s0 268 35 from by rw [es2, xU_j _ _ (by decide)]).trans k268_35
  have q15 : s2 268 9 = s0 268 9 := (show s2 268 9 = s0 268 9 from by rw [es2, xU_j _ _ (by decide)]).trans k268_9
  have hF16 := hF.put es2 (by omega)
  refine x_aload_n hx hb hl 0 rfl dX11_readsTimes_8 rfl ?_
  refine x_iconst hx hb dX11_readsTimes_9 ?_
  refine x_put (j := 37) hx hb hown hT hE hW cls_X11 (by decide) (fun σ => so_268 h0 g σ) (by decide) (st_X11_37 h0 s2 268 1) (ln_X11_37 h0 _ _) wq1222 rfl rfl rfl (by decide) dX11_readsTimes_10 (fun H locs s17 es17 hW => ?_)
  have q18 : IMn s17 := by rw [es17]; exact IMn_268 q3 (by omega)
  have q19 : IMk s17 := by rw [es17]; exact IMk_268 q4 (by omega)
  have q20 : IMo s17 := by rw [es17]; exact IMo_o (by unfold suIMo; omega) q5
  have q21 : IR s17 := by rw [es17]; exact IR_268 q6 (by omega)
  have q22 : s17 268 8 = s0 268 8 := (show s17 268 8 = s2 268 8 from by rw [es17, xU_j _ _ (by decide)]).trans q7
  have q23 : s17 268 58 = s0 268 58 := (show s17 268 58 = s2 268 58 from by rw [es17, xU_j _ _ (by decide)]).trans q8
  have q24 : s17 268 10 = s0 268 10 := (show s17 268 10 = s2 268 10 from by rw [es17, xU_j _ _ (by decide)]).trans q9
  have q25 : s17 268 14 = s0 268 14 := (show s17 268 14 = s2 268 14 from by rw [es17, xU_j _ _ (by decide)]).trans q10
  have q26 : s17 268 15 = s0 268 15 := (show s17 268 15 = s2 268 15 from by rw [es17, xU_j _ _ (by decide)]).trans q11
  have q27 : s17 268 16 = s0 268 16 := (show s17 268 16 = s2 268 16 from by rw [es17, xU_j _ _ (by decide)]).trans q12
  have q28 : s17 268 34 = s0 268 34 := (show s17 268 34 = s2 268 34 from by rw [es17, xU_j _ _ (by decide)]).trans q13
  have q29 : s17 268 35 = s0 268 35 := (show s17 268 35 = s2 268 35 from by rw [es17, xU_j _ _ (by decide)]).trans q14
  have q30 : s17 268 9 = s0 268 9 := (show s17 268 9 = s2 268 9 from by rw [es17, xU_j _ _ (by decide)]).trans q15
  have q31 : s17 268 37 = 1 := by rw [es17, xU_s]
  have hF32 := hF16.put es17 (by omega)
  refine x_aload_n hx hb hl 0 rfl dX11_readsTimes_13 rfl ?_
  refine x_goi (x_runV (As := []) hx hb hml hown hT hE hW hl.1 (Or.inl (by decide)) (so_268 h0 g _) rfl cf_X11_here wq1391 wq106 wq1389 (c_X11_here l D g T h0 s17 hW.2.1 q18 q19 q20 q21) ⟨rfl, rfl, ⟨by decide, by decide⟩, ⟨by decide, by decide⟩⟩ rfl rfl (Nat.le_of_ble_eq_true rfl) dX11_readsTimes_14) hW (fun x33 s34 H locs rx33 hp35 hW => ?_)
  obtain ⟨es34, hp35⟩ := hp35
  subst es34
  have ghp35 := hp35
  refine x_bipush hx hb dX11_readsTimes_17 (by decide) ?_
  refine x_bipush hx hb dX11_readsTimes_19 (by decide) ?_
  refine x_goi (x_runS (As := [.int (xJ x33), .int (xJ 50), .int (xJ 57)]) hx hb hml hown hT hE hW hl.1 cf_X11_in wq1383 wq1382 (c_X11_in l D g T h0 s17 hW.2.1 x33 rx33 50 (by decide) 57 (by decide)) ⟨rfl, rfl, ⟨by decide, by decide⟩, ⟨by decide, by decide⟩⟩ rfl rfl (Nat.le_of_ble_eq_true rfl) dX11_readsTimes_21) hW (fun x36 s37 H locs rx36 hp38 hW => ?_)
  obtain ⟨es37, hp38⟩ := hp38
  subst es37
  have ghp38 := hp38
  refine x_if_ne (tgt := 28) hx hb rx36 dX11_readsTimes_24 (by decide) (fun c39 => ?_) (fun c39 => ?_)
  · skip
    refine x_aload_n hx hb hl 0 rfl dX11_readsTimes_28 rfl ?_
    refine x_aload_n hx hb hl 0 rfl dX11_readsTimes_29 rfl ?_
    refine x_goi (x_runV (As := []) hx hb hml hown hT hE hW hl.1 (Or.inl (by decide)) (so_268 h0 g _) rfl cf_X11_here wq1391 wq106 wq1389 (c_X11_here l D g T h0 s17 hW.2.1 q18 q19 q20 q21) ⟨rfl, rfl, ⟨by decide, by decide⟩, ⟨by decide, by decide⟩⟩ rfl rfl (Nat.le_of_ble_eq_true rfl) dX11_readsTimes_30) hW (fun x40 s41 H locs rx40 hp42 hW => ?_)
    obtain ⟨es41, hp42⟩ := hp42
    subst es41
    have ghp42 := hp42
    refine x_bipush hx hb dX11_readsTimes_33 (by decide) ?_
    refine x_isub hx hb dX11_readsTimes_35 ?_
    refine x_put (j := 37) hx hb hown hT hE hW cls_X11 (by decide) (fun σ => so_268 h0 g σ) (by decide) (st_X11_37 h0 s17 268 (x40 - 48)) (ln_X11_37 h0 _ _) wq1222 rfl rfl rfl (by omega) dX11_readsTimes_36 (fun H locs s43 es43 hW => ?_)
    have q44 : IMn s43 := by rw [es43]; exact IMn_268 q18 (by omega)
    have q45 : IMk s43 := by rw [es43]; exact IMk_268 q19 (by omega)
    have q46 : IMo s43 := by rw [es43]; exact IMo_o (by unfold suIMo; omega) q20
    have q47 : IR s43 := by rw [es43]; exact IR_268 q21 (by omega)
    have q48 : s43 268 8 = s0 268 8 := (show s43 268 8 = s17 268 8 from by rw [es43, xU_j _ _ (by decide)]).trans q22
    have q49 : s43 268 58 = s0 268 58 := (show s43 268 58 = s17 268 58 from by rw [es43, xU_j _ _ (by decide)]).trans q23
    have q50 : s43 268 10 = s0 268 10 := (show s43 268 10 = s17 268 10 from by rw [es43, xU_j _ _ (by decide)]).trans q24
    have q51 : s43 268 14 = s0 268 14 := (show s43 268 14 = s17 268 14 from by rw [es43, xU_j _ _ (by decide)]).trans q25
    have q52 : s43 268 15 = s0 268 15 := (show s43 268 15 = s17 268 15 from by rw [es43, xU_j _ _ (by decide)]).trans q26
    have q53 : s43 268 16 = s0 268 16 := (show s43 268 16 = s17 268 16 from by rw [es43, xU_j _ _ (by decide)]).trans q27
    have q54 : s43 268 34 = s0 268 34 := (show s43 268 34 = s17 268 34 from by rw [es43, xU_j _ _ (by decide)]).trans q28
    have q55 : s43 268 35 = s0 268 35 := (show s43 268 35 = s17 268 35 from by rw [es43, xU_j _ _ (by decide)]).trans q29
    have q56 : s43 268 9 = s0 268 9 := (show s43 268 9 = s17 268 9 from by rw [es43, xU_j _ _ (by decide)]).trans q30
    have q57 : s43 268 37 = (x40 - 48) := by rw [es43, xU_s]
    have hF58 := hF32.put es43 (by omega)
    refine x_aload_n hx hb hl 0 rfl dX11_readsTimes_39 rfl ?_
    refine x_aload_n hx hb hl 0 rfl dX11_readsTimes_40 rfl ?_
    refine x_get (j := 9) (v := .int (xJ (s43 268 9))) hx hb hown hT hE hW cls_X11 (Or.inl (by decide)) (so_268 h0 g _) (by decide) rfl wq1194 dX11_readsTimes_41 ?_
    refine x_rd hW (fun x59 ex59 rx59 => ?_)
    have bx59 : 0 ≤ x59 ∧ x59 ≤ s43 268 10 ∧ s43 268 10 ≤ 240 := by rw [ex59]; exact q47
    have fx59 : x59 = s0 268 9 := ex59.trans q56
    refine x_iconst hx hb dX11_readsTimes_44 ?_
    refine x_iadd hx hb dX11_readsTimes_45 ?_
    refine x_put (j := 9) hx hb hown hT hE hW cls_X11 (by decide) (fun σ => so_268 h0 g σ) (by decide) (st_X11_9 h0 s43 268 (x59 + 1)) (ln_X11_9 h0 _ _) wq1194 rfl rfl rfl (by omega) dX11_readsTimes_46 (fun H locs s60 es60 hW => ?_)
    have q61 : IMn s60 := by rw [es60]; exact IMn_268 q44 (by omega)
    have q62 : IMk s60 := by rw [es60]; exact IMk_268 q45 (by omega)
    have q63 : IMo s60 := by rw [es60]; exact IMo_o (by unfold suIMo; omega) q46
    have q64 : IR s60 := by rw [es60]; exact IR_268 q47 (by omega)
    have q65 : s60 268 8 = s0 268 8 := (show s60 268 8 = s43 268 8 from by rw [es60, xU_j _ _ (by decide)]).trans q48
    have q66 : s60 268 58 = s0 268 58 := (show s60 268 58 = s43 268 58 from by rw [es60, xU_j _ _ (by decide)]).trans q49
    have q67 : s60 268 10 = s0 268 10 := (show s60 268 10 = s43 268 10 from by rw [es60, xU_j _ _ (by decide)]).trans q50
    have q68 : s60 268 14 = s0 268 14 := (show s60 268 14 = s43 268 14 from by rw [es60, xU_j _ _ (by decide)]).trans q51
    have q69 : s60 268 15 = s0 268 15 := (show s60 268 15 = s43 268 15 from by rw [es60, xU_j _ _ (by decide)]).trans q52
    have q70 : s60 268 16 = s0 268 16 := (show s60 268 16 = s43 268 16 from by rw [es60, xU_j _ _ (by decide)]).trans q53
    have q71 : s60 268 34 = s0 268 34 := (show s60 268 34 = s43 268 34 from by rw [es60, xU_j _ _ (by decide)]).trans q54
    have q72 : s60 268 35 = s0 268 35 := (show s60 268 35 = s43 268 35 from by rw [es60, xU_j _ _ (by decide)]).trans q55
    have q73 : s60 268 9 = (x59 + 1) := by rw [es60, xU_s]
    have q74 : s60 268 37 = (x40 - 48) := (show s60 268 37 = s43 268 37 from by rw [es60, xU_j _ _ (by decide)]).trans q57
    have hF75 := hF58.put es60 (by omega)
    rw [eQ]
    exact x_vret hx hb hr hlk hW ⟨hF75, ⟨q61, q62, q63, q64, q65, q66, q67, q68, q69, q70, q71, q72, trivial⟩, by omega⟩ dX11_readsTimes_49
  rw [eQ]
  exact x_vret hx hb hr hlk hW ⟨hF32, ⟨q18, q19, q20, q21, q22, q23, q24, q25, q26, q27, q28, q29, trivial⟩, by omega⟩ dX11_readsTimes_27
set_option maxHeartbeats 4000000 in
set_option maxRecDepth 100000 in
theorem c_X11_readsStep (l : Launch) (D : va_G) (g : xG) (T : Nat × Nat × Nat) (h0 : Nat) (s0 : xS) (hσ : xRR s0) (hrw : zRW s0) (p0 : IMn s0) (p1 : IMk s0) (p2 : IMo s0) (p3 : IR s0) : Met l yX11_readsStep (xws yX11_readsStep cX11_readsStep 4 (some .boolean)) { frames := 2, cells := 0, slots := 0, locals := 47 } (xP [.ref (h0 + 268)] D g T h0 s0) (xQi D g h0 (fun r τ => xFr (fun k => k = 268 ∨ k = 289 ∨ k = 290 ∨ k = 291 ∨ k = 292) s0 τ ∧ (((IMn τ) ∧ (IMk τ) ∧ (IMo τ) ∧ (IR τ) ∧ (τ 268 8 = s0 268 8) ∧ (τ 268 58 = s0 268 58) ∧ (τ 268 10 = s0 268 10) ∧ (τ 268 14 = s0 268 14) ∧ (τ 268 15 = s0 268 15) ∧ (τ 268 16 = s0 268 16) ∧ True) ∧ ((r = 0 ∧ s0 268 9 ≤ τ 268 9) ∨ (r = 1 ∧ zRW τ ∧ s0 268 9 + 1 ≤ τ 268 9))))) 0 0 (xA h0) := by
  refine x_met hσ (by decide) (Nat.le_of_ble_eq_true rfl) ?_
  intro p e s m args below meth c hx hb hr hml hown hT hlk hnm hE hW ls hl
  have hl : lv_has ls 4 [(0, .ref (h0 + 268))] := hl
  obtain ⟨Q, eQ⟩ : ∃ Q, Q = MQ below (xQi D g h0 (fun r τ => xFr (fun k => k = 268 ∨ k = 289 ∨ k = 290 ∨ k = 291 ∨ k = 292) s0 τ ∧ (((IMn τ) ∧ (IMk τ) ∧ (IMo τ) ∧ (IR τ) ∧ (τ 268 8 = s0 268 8) ∧ (τ 268 58 = s0 268 58) ∧ (τ 268 10 = s0 268 10) ∧ (τ 268 14 = s0 268 14) ∧ (τ 268 15 = s0 268 15) ∧ (τ 268 16 = s0 268 16) ∧ True) ∧ ((r = 0 ∧ s0 268 9 ≤ τ 268 9) ∨ (r = 1 ∧ zRW τ ∧ s0 268 9 + 1 ≤ τ 268 9))))) args s 0 0 (xA h0) := ⟨_, rfl⟩
  rw [← eQ]
  generalize hHe : ([] : List Loc) = locs at hW ⊢
  obtain ⟨H, eH⟩ : ∃ H, H = s.heap := ⟨_, rfl⟩
  rw [← eH] at hW ⊢
  have hF : xFr (fun k => k = 268 ∨ k = 289 ∨ k = 290 ∨ k = 291 ∨ k = 292) s0 s0 := xFr.rf
  have k268_8 : s0 268 8 = s0 268 8 := rfl
  have k268_58 : s0 268 58 = s0 268 58 := rfl
  have k268_10 : s0 268 10 = s0 268 10 := rfl
  have k268_14 : s0 268 14 = s0 268 14 := rfl
  have k268_15 : s0 268 15 = s0 268 15 := rfl
  have k268_16 : s0 268 16 = s0 268 16 := rfl
  have k268_9 : s0 268 9 = s0 268 9 := rfl
  have k268_34 : s0 268 34 = s0 268 34 := rfl
  have k268_35 : s0 268 35 = s0 268 35 := rfl
  refine x_aload_n hx hb hl 0 rfl dX11_readsStep_0 rfl ?_
  refine x_gov (x_runV (As := []) hx hb hml hown hT hE hW hl.1 (Or.inl (by decide)) (so_268 h0 g _) rfl cf_X11_readsTimes wq1450 wq113 wq1448 (c_X11_readsTimes l D g T h0 s0 hW.2.1 p0 p1 p2 p3) ⟨rfl, rfl, ⟨by decide, by decide⟩, ⟨by decide, by decide⟩⟩ rfl rfl (Nat.le_of_ble_eq_true rfl) dX11_readsStep_1) hW (fun s2 H locs hp3 hW => ?_)
  obtain ⟨fs2, hp3⟩ := hp3
  have hF4 := hF.call fs2 (fun k h => by omega)
  have ghp3 := hp3.2
  have A1 := And.intro True.intro (hrw.f (τ := s2) (by have := hrw.2.1; omega) (by have := hrw.1; omega) (hF4 291 (by omega)) (hF4 292 (by omega)))
  have L4 : ∀ (fu : Nat) (s_4 : xS) (H : Heap) (locs : List Loc) (ls : Array Slot), (xFr (fun k => k = 268 ∨ k = 289 ∨ k = 290 ∨ k = 291 ∨ k = 292) s0 s_4) → (IMn s_4) → (IMk s_4) → (IMo s_4) → (IR s_4) → (s_4 268 8 = s0 268 8) → (s_4 268 58 = s0 268 58) → (s_4 268 10 = s0 268 10) → (s_4 268 14 = s0 268 14) → (s_4 268 15 = s0 268 15) → (s_4 268 16 = s0 268 16) → (s_4 268 34 = s0 268 34) → (zRW s_4) → (1 ≤ s_4 268 37 ∧ s_4 268 37 ≤ 9) → (s0 268 9 ≤ s_4 268 9) → (241 - s_4 268 9).toNat < fu → xW D g h0 s H locs s_4 → lv_has ls 4 [(0, .ref (h0 + 268))] → W p l e { frames := 2, cells := 0, slots := 0, locals := 47 } s m args below meth c H locs 0 0 Q (F0 m 4 ls []) := by
    intro fu
    induction fu with
    | zero => intro s_4 H locs ls hF_4 q4_0 q4_1 q4_2 q4_3 q4_4 q4_5 q4_6 q4_7 q4_8 q4_9 q4_10 v4_0 v4_1 v4_2 hm; exact absurd hm (Nat.not_lt_zero _)
    | succ fu ih4 =>
      intro s_4 H locs ls hF_4 q4_0 q4_1 q4_2 q4_3 q4_4 q4_5 q4_6 q4_7 q4_8 q4_9 q4_10 v4_0 v4_1 v4_2 hm hW hl
      have Y4 := q4_3
      unfold IR at Y4
      have w4 := v4_0.2.1
      have u4 := v4_0.1
      refine x_aload_n hx hb hl 0 rfl dX11_readsStep_4 rfl ?_
      refine x_goi (x_runV (As := []) hx hb hml hown hT hE hW hl.1 (Or.inl (by decide)) (so_268 h0 g _) rfl cf_X11_here wq1391 wq106 wq1389 (c_X11_here l D g T h0 s_4 hW.2.1 q4_0 q4_1 q4_2 q4_3) ⟨rfl, rfl, ⟨by decide, by decide⟩, ⟨by decide, by decide⟩⟩ rfl rfl (Nat.le_of_ble_eq_true rfl) dX11_readsStep_5) hW (fun x5 s6 H locs rx5 hp7 hW => ?_)
      obtain ⟨es6, hp7⟩ := hp7
      subst es6
      have ghp7 := hp7
      have q8 : s_4 268 37 = s_4 268 37 := rfl
      have q9 : s_4 268 35 = s_4 268 35 := rfl
      refine x_bipush hx hb dX11_readsStep_8 (by decide) ?_
      refine x_icmp_ne (tgt := 97) hx hb rx5 (by decide) dX11_readsStep_10 (by decide) (fun c10 => ?_) (fun c10 => ?_)
      · skip
        refine x_aload_n hx hb hl 0 rfl dX11_readsStep_97 rfl ?_
        refine x_get (j := 36) (v := .int (xJ (s_4 268 36))) hx hb hown hT hE hW cls_X11 (Or.inl (by decide)) (so_268 h0 g _) (by decide) rfl wq1221 dX11_readsStep_98 ?_
        refine x_rd hW (fun x11 ex11 rx11 => ?_)
        have q12 : s_4 291 = s_4 291 := rfl
        have q13 : s_4 292 = s_4 292 := rfl
        refine lv_istore_n (lv' := [(1, .int (xJ x11)), (0, .ref (h0 + 268))]) hx hb dX11_readsStep_101 rfl hl (by decide) rfl (fun ls hl => ?_)
        refine x_aload_n hx hb hl 1 rfl dX11_readsStep_102 rfl ?_
        refine x_get (j := 37) (v := .int (xJ (s_4 268 37))) hx hb hown hT hE hW cls_X11 (Or.inl (by decide)) (so_268 h0 g _) (by decide) rfl wq1222 dX11_readsStep_103 ?_
        refine x_rd hW (fun x14 ex14 rx14 => ?_)
        have fx14 : x14 = s_4 268 37 := ex14.trans q8
        refine lv_istore_n (lv' := [(2, .int (xJ x14)), (1, .int (xJ x11)), (0, .ref (h0 + 268))]) hx hb dX11_readsStep_106 rfl hl (by decide) rfl (fun ls hl => ?_)
        refine x_aload_n hx hb hl 2 rfl dX11_readsStep_107 rfl ?_
        refine x_goi (x_runV (As := []) hx hb hml hown hT hE hW hl.1 (Or.inl (by decide)) (so_268 h0 g _) rfl cf_X11_here wq1391 wq106 wq1389 (c_X11_here l D g T h0 s_4 hW.2.1 q4_0 q4_1 q4_2 q4_3) ⟨rfl, rfl, ⟨by decide, by decide⟩, ⟨by decide, by decide⟩⟩ rfl rfl (Nat.le_of_ble_eq_true rfl) dX11_readsStep_108) hW (fun x15 s16 H locs rx15 hp17 hW => ?_)
        obtain ⟨es16, hp17⟩ := hp17
        subst es16
        have ghp17 := hp17
        refine x_goi (x_runS (As := [.int (xJ x15)]) hx hb hml hown hT hE hW hl.1 cf_X11_wayOf wq1453 wq1452 (c_X11_wayOf l D g T h0 s_4 hW.2.1 x15 rx15) ⟨rfl, rfl, ⟨by decide, by decide⟩, ⟨by decide, by decide⟩⟩ rfl rfl (Nat.le_of_ble_eq_true rfl) dX11_readsStep_111) hW (fun x18 s19 H locs rx18 hp20 hW => ?_)
        obtain ⟨es19, hp20⟩ := hp20
        subst es19
        have ghp20 := hp20
        refine lv_istore_n (lv' := [(3, .int (xJ x18)), (2, .int (xJ x14)), (1, .int (xJ x11)), (0, .ref (h0 + 268))]) hx hb dX11_readsStep_114 rfl hl (by decide) rfl (fun ls hl => ?_)
        refine x_iload_n hx hb hl 0 rfl dX11_readsStep_115 rfl ?_
        refine x_iconst hx hb dX11_readsStep_116 ?_
        refine x_icmp_ne (tgt := 130) hx hb rx18 (by decide) dX11_readsStep_117 (by decide) (fun c21 => ?_) (fun c21 => ?_)
        · skip
          refine x_aload_n hx hb hl 3 rfl dX11_readsStep_130 rfl ?_
          refine x_aload_n hx hb hl 3 rfl dX11_readsStep_131 rfl ?_
          refine x_get (j := 9) (v := .int (xJ (s_4 268 9))) hx hb hown hT hE hW cls_X11 (Or.inl (by decide)) (so_268 h0 g _) (by decide) rfl wq1194 dX11_readsStep_132 ?_
          refine x_rd hW (fun x22 ex22 rx22 => ?_)
          have bx22 : 0 ≤ x22 ∧ x22 ≤ s_4 268 10 ∧ s_4 268 10 ≤ 240 := by rw [ex22]; exact q4_3
          have q23 : s_4 268 9 = x22 := ex22.symm
          refine x_iconst hx hb dX11_readsStep_135 ?_
          refine x_iadd hx hb dX11_readsStep_136 ?_
          refine x_put (j := 9) hx hb hown hT hE hW cls_X11 (by decide) (fun σ => so_268 h0 g σ) (by decide) (st_X11_9 h0 s_4 268 (x22 + 1)) (ln_X11_9 h0 _ _) wq1194 rfl rfl rfl (by omega) dX11_readsStep_137 (fun H locs s24 es24 hW => ?_)
          have q25 : IMn s24 := by rw [es24]; exact IMn_268 q4_0 (by omega)
          have q26 : IMk s24 := by rw [es24]; exact IMk_268 q4_1 (by omega)
          have q27 : IMo s24 := by rw [es24]; exact IMo_o (by unfold suIMo; omega) q4_2
          have q28 : IR s24 := by rw [es24]; exact IR_268 q4_3 (by omega)
          have q29 : s24 268 8 = s0 268 8 := (show s24 268 8 = s_4 268 8 from by rw [es24, xU_j _ _ (by decide)]).trans q4_4
          have q30 : s24 268 58 = s0 268 58 := (show s24 268 58 = s_4 268 58 from by rw [es24, xU_j _ _ (by decide)]).trans q4_5
          have q31 : s24 268 10 = s0 268 10 := (show s24 268 10 = s_4 268 10 from by rw [es24, xU_j _ _ (by decide)]).trans q4_6
          have q32 : s24 268 14 = s0 268 14 := (show s24 268 14 = s_4 268 14 from by rw [es24, xU_j _ _ (by decide)]).trans q4_7
          have q33 : s24 268 15 = s0 268 15 := (show s24 268 15 = s_4 268 15 from by rw [es24, xU_j _ _ (by decide)]).trans q4_8
          have q34 : s24 268 16 = s0 268 16 := (show s24 268 16 = s_4 268 16 from by rw [es24, xU_j _ _ (by decide)]).trans q4_9
          have q35 : s24 268 34 = s0 268 34 := (show s24 268 34 = s_4 268 34 from by rw [es24, xU_j _ _ (by decide)]).trans q4_10
          have q36 : s24 268 37 = s_4 268 37 := (show s24 268 37 = s_4 268 37 from by rw [es24, xU_j _ _ (by decide)]).trans q8
          have q37 : s24 268 35 = s_4 268 35 := (show s24 268 35 = s_4 268 35 from by rw [es24, xU_j _ _ (by decide)]).trans q9
          have q38 : s24 291 = s_4 291 := by rw [es24, xU_k _ _ _ (by omega)]; exact q12
          have q39 : s24 292 = s_4 292 := by rw [es24, xU_k _ _ _ (by omega)]; exact q13
          have q40 : s24 268 9 = (x22 + 1) := by rw [es24, xU_s]
          have hF41 := hF_4.put es24 (by omega)
          refine x_aload_n hx hb hl 3 rfl dX11_readsStep_140 rfl ?_
          refine x_get (j := 34) (v := .int (xJ (s24 268 34))) hx hb hown hT hE hW cls_X11 (Or.inl (by decide)) (so_268 h0 g _) (by decide) rfl wq1219 dX11_readsStep_141 ?_
          refine x_rd hW (fun x42 ex42 rx42 => ?_)
          have fx42 : x42 = s0 268 34 := ex42.trans q35
          refine x_iload_n hx hb hl 1 rfl dX11_readsStep_144 rfl ?_
          refine x_iadd hx hb dX11_readsStep_145 ?_
          refine x_bipush hx hb dX11_readsStep_146 (by decide) ?_
          refine x_icmp_le (tgt := 159) hx hb (by omega) (by decide) dX11_readsStep_148 (by decide) (fun c43 => ?_) (fun c43 => ?_)
          · skip
            refine x_aload_n hx hb hl 3 rfl dX11_readsStep_159 rfl ?_
            refine x_get (j := 30) (v := .ref (h0 + 289)) hx hb hown hT hE hW cls_X11 (Or.inl (by decide)) (so_268 h0 g _) (by decide) rfl wq1215 dX11_readsStep_160 ?_
            refine x_aload_n hx hb hl 3 rfl dX11_readsStep_163 rfl ?_
            refine x_get (j := 34) (v := .int (xJ (s24 268 34))) hx hb hown hT hE hW cls_X11 (Or.inl (by decide)) (so_268 h0 g _) (by decide) rfl wq1219 dX11_readsStep_164 ?_
            refine x_rd hW (fun x44 ex44 rx44 => ?_)
            have fx44 : x44 = s0 268 34 := ex44.trans q35
            refine x_iload_n hx hb hl 0 rfl dX11_readsStep_167 rfl ?_
            refine lv_i2b hx hb dX11_readsStep_168 rfl ?_
            refine x_any (fun x45 rx45 => ?_)
            obtain ⟨y47, ey47, ry47⟩ := xnb x45
            refine x_bast (w := y47) hx hb hE hW (by decide) (fun σ => sa_289 h0 g σ) (by omega) (by decide) ey47 ry47 dX11_readsStep_169 (fun H locs s46 es46 hW => ?_)
            have q48 : IMn s46 := by rw [es46]; exact IMn_o (by unfold suIMn; omega) q25
            have q49 : IMk s46 := by rw [es46]; exact IMk_o (by unfold suIMk; omega) q26
            have q50 : IMo s46 := by rw [es46]; exact IMo_o (by unfold suIMo; omega) q27
            have q51 : IR s46 := by rw [es46]; exact IR_o (by unfold suIR; omega) q28
            have q52 : s46 268 8 = s0 268 8 := (show s46 268 8 = s24 268 8 from by rw [es46, xU_k _ _ _ (by omega)]).trans q29
            have q53 : s46 268 58 = s0 268 58 := (show s46 268 58 = s24 268 58 from by rw [es46, xU_k _ _ _ (by omega)]).trans q30
            have q54 : s46 268 10 = s0 268 10 := (show s46 268 10 = s24 268 10 from by rw [es46, xU_k _ _ _ (by omega)]).trans q31
            have q55 : s46 268 14 = s0 268 14 := (show s46 268 14 = s24 268 14 from by rw [es46, xU_k _ _ _ (by omega)]).trans q32
            have q56 : s46 268 15 = s0 268 15 := (show s46 268 15 = s24 268 15 from by rw [es46, xU_k _ _ _ (by omega)]).trans q33
            have q57 : s46 268 16 = s0 268 16 := (show s46 268 16 = s24 268 16 from by rw [es46, xU_k _ _ _ (by omega)]).trans q34
            have q58 : s46 268 34 = s0 268 34 := (show s46 268 34 = s24 268 34 from by rw [es46, xU_k _ _ _ (by omega)]).trans q35
            have q59 : s46 268 37 = s_4 268 37 := (show s46 268 37 = s24 268 37 from by rw [es46, xU_k _ _ _ (by omega)]).trans q36
            have q60 : s46 268 35 = s_4 268 35 := (show s46 268 35 = s24 268 35 from by rw [es46, xU_k _ _ _ (by omega)]).trans q37
            have q61 : s46 291 = s_4 291 := by rw [es46, xU_k _ _ _ (by omega)]; exact q38
            have q62 : s46 292 = s_4 292 := by rw [es46, xU_k _ _ _ (by omega)]; exact q39
            have q63 : s46 268 9 = (x22 + 1) := (show s46 268 9 = s24 268 9 from by rw [es46, xU_k _ _ _ (by omega)]).trans q40
            have hF64 := hF41.put es46 (by omega)
            refine x_aload_n hx hb hl 3 rfl dX11_readsStep_170 rfl ?_
            refine x_aload_n hx hb hl 3 rfl dX11_readsStep_171 rfl ?_
            refine x_get (j := 34) (v := .int (xJ (s46 268 34))) hx hb hown hT hE hW cls_X11 (Or.inl (by decide)) (so_268 h0 g _) (by decide) rfl wq1219 dX11_readsStep_172 ?_
            refine x_rd hW (fun x65 ex65 rx65 => ?_)
            have fx65 : x65 = s0 268 34 := ex65.trans q58
            refine x_iconst hx hb dX11_readsStep_175 ?_
            refine x_iadd hx hb dX11_readsStep_176 ?_
            refine x_put (j := 34) hx hb hown hT hE hW cls_X11 (by decide) (fun σ => so_268 h0 g σ) (by decide) (st_X11_34 h0 s46 268 (x65 + 1)) (ln_X11_34 h0 _ _) wq1219 rfl rfl rfl (by omega) dX11_readsStep_177 (fun H locs s66 es66 hW => ?_)
            have q67 : IMn s66 := by rw [es66]; exact IMn_268 q48 (by omega)
            have q68 : IMk s66 := by rw [es66]; exact IMk_268 q49 (by omega)
            have q69 : IMo s66 := by rw [es66]; exact IMo_o (by unfold suIMo; omega) q50
            have q70 : IR s66 := by rw [es66]; exact IR_268 q51 (by omega)
            have q71 : s66 268 8 = s0 268 8 := (show s66 268 8 = s46 268 8 from by rw [es66, xU_j _ _ (by decide)]).trans q52
            have q72 : s66 268 58 = s0 268 58 := (show s66 268 58 = s46 268 58 from by rw [es66, xU_j _ _ (by decide)]).trans q53
            have q73 : s66 268 10 = s0 268 10 := (show s66 268 10 = s46 268 10 from by rw [es66, xU_j _ _ (by decide)]).trans q54
            have q74 : s66 268 14 = s0 268 14 := (show s66 268 14 = s46 268 14 from by rw [es66, xU_j _ _ (by decide)]).trans q55
            have q75 : s66 268 15 = s0 268 15 := (show s66 268 15 = s46 268 15 from by rw [es66, xU_j _ _ (by decide)]).trans q56
            have q76 : s66 268 16 = s0 268 16 := (show s66 268 16 = s46 268 16 from by rw [es66, xU_j _ _ (by decide)]).trans q57
            have q77 : s66 268 34 = (x65 + 1) := by rw [es66, xU_s]
            have q78 : s66 268 37 = s_4 268 37 := (show s66 268 37 = s46 268 37 from by rw [es66, xU_j _ _ (by decide)]).trans q59
            have q79 : s66 268 35 = s_4 268 35 := (show s66 268 35 = s46 268 35 from by rw [es66, xU_j _ _ (by decide)]).trans q60
            have q80 : s66 291 = s_4 291 := by rw [es66, xU_k _ _ _ (by omega)]; exact q61
            have q81 : s66 292 = s_4 292 := by rw [es66, xU_k _ _ _ (by omega)]; exact q62
            have q82 : s66 268 9 = (x22 + 1) := (show s66 268 9 = s46 268 9 from by rw [es66, xU_j _ _ (by decide)]).trans q63
            have hF83 := hF64.put es66 (by omega)
            refine x_aload_n hx hb hl 3 rfl dX11_readsStep_180 rfl ?_
            refine x_aload_n hx hb hl 3 rfl dX11_readsStep_181 rfl ?_
            refine x_get (j := 34) (v := .int (xJ (s66 268 34))) hx hb hown hT hE hW cls_X11 (Or.inl (by decide)) (so_268 h0 g _) (by decide) rfl wq1219 dX11_readsStep_182 ?_
            refine x_rd hW (fun x84 ex84 rx84 => ?_)
            have fx84 : x84 = (x65 + 1) := ex84.trans q77
            refine x_iconst hx hb dX11_readsStep_185 ?_
            refine x_isub hx hb dX11_readsStep_186 ?_
            refine x_iload_n hx hb hl 1 rfl dX11_readsStep_187 rfl ?_
            refine x_iload_n hx hb hl 2 rfl dX11_readsStep_188 rfl ?_
            refine x_goi (x_runV (As := [.int (xJ (x84 - 1)), .int (xJ x14), .int (xJ x11)]) hx hb hml hown hT hE hW hl.1 (Or.inl (by decide)) (so_268 h0 g _) rfl cf_X11_repeats wq1457 wq114 wq1455 (c_X11_repeats l D g T h0 s66 hW.2.1 (x84 - 1) (by omega) x14 rx14 x11 rx11 (by omega) (by omega) q67 q68 q69 q70) ⟨rfl, rfl, ⟨by decide, by decide⟩, ⟨by decide, by decide⟩⟩ rfl rfl (Nat.le_of_ble_eq_true rfl) dX11_readsStep_189) hW (fun x85 s86 H locs rx85 hp87 hW => ?_)
            obtain ⟨fs86, hp87⟩ := hp87
            have hF88 := hF83.call fs86 (fun k h => by omega)
            have q89 : s86 291 = s_4 291 := by rw [fs86 291 (by omega)]; exact q80
            have q90 : s86 292 = s_4 292 := by rw [fs86 292 (by omega)]; exact q81
            have ghp87 := hp87.2
            refine x_if_ne (tgt := 197) hx hb rx85 dX11_readsStep_192 (by decide) (fun c91 => ?_) (fun c91 => ?_)
            · skip
              have L197 : ∀ (fu : Nat) (s_197 : xS) (H : Heap) (locs : List Loc) (ls : Array Slot), (xFr (fun k => k = 268 ∨ k = 289 ∨ k = 290 ∨ k = 291 ∨ k = 292) s0 s_197) → (IMn s_197) → (IMk s_197) → (IMo s_197) → (IR s_197) → (s_197 268 8 = s0 268 8) → (s_197 268 58 = s0 268 58) → (s_197 268 10 = s0 268 10) → (s_197 268 14 = s0 268 14) → (s_197 268 15 = s0 268 15) → (s_197 268 16 = s0 268 16) → (s_197 268 36 = s66 268 36) → (s_197 268 37 = s_4 268 37) → (zRW s_197) → (s0 268 9 + 1 ≤ s_197 268 9) → (241 - s_197 268 9).toNat < fu → xW D g h0 s H locs s_197 → lv_has ls 4 [(0, .ref (h0 + 268))] → W p l e { frames := 2, cells := 0, slots := 0, locals := 47 } s m args below meth c H locs 0 0 Q (F0 m 197 ls []) := by
                intro fu
                induction fu with
                | zero => intro s_197 H locs ls hF_197 q197_2 q197_3 q197_4 q197_5 q197_6 q197_7 q197_9 q197_10 q197_11 q197_12 q197_14 q197_15 v197_0 v197_1 hm; exact absurd hm (Nat.not_lt_zero _)
                | succ fu ih197 =>
                  intro s_197 H locs ls hF_197 q197_2 q197_3 q197_4 q197_5 q197_6 q197_7 q197_9 q197_10 q197_11 q197_12 q197_14 q197_15 v197_0 v197_1 hm hW hl
                  have Y197 := q197_5
                  unfold IR at Y197
                  have w197 := v197_0.2.1
                  have u197 := v197_0.1
                  refine x_aload_n hx hb hl 0 rfl dX11_readsStep_197 rfl ?_
                  refine x_goi (x_runV (As := []) hx hb hml hown hT hE hW hl.1 (Or.inl (by decide)) (so_268 h0 g _) rfl cf_X11_here wq1391 wq106 wq1389 (c_X11_here l D g T h0 s_197 hW.2.1 q197_2 q197_3 q197_4 q197_5) ⟨rfl, rfl, ⟨by decide, by decide⟩, ⟨by decide, by decide⟩⟩ rfl rfl (Nat.le_of_ble_eq_true rfl) dX11_readsStep_198) hW (fun x92 s93 H locs rx92 hp94 hW => ?_)
                  obtain ⟨es93, hp94⟩ := hp94
                  subst es93
                  have ghp94 := hp94
                  have q95 : s_197 291 = s_197 291 := rfl
                  have q96 : s_197 292 = s_197 292 := rfl
                  have q97 : s_197 268 35 = s_197 268 35 := rfl
                  have q98 : s_197 268 34 = s_197 268 34 := rfl
                  refine x_bipush hx hb dX11_readsStep_201 (by decide) ?_
                  refine x_icmp_ne (tgt := 269) hx hb rx92 (by decide) dX11_readsStep_203 (by decide) (fun c99 => ?_) (fun c99 => ?_)
                  · skip
                    refine x_iconst hx hb dX11_readsStep_269 ?_
                    rw [eQ]
                    exact x_zret hx hb hr hlk hW (by omega) ⟨hF_197, ⟨q197_2, q197_3, q197_4, q197_5, q197_6, q197_7, q197_9, q197_10, q197_11, q197_12, trivial⟩, by first | exact Or.inl ⟨by omega, by omega⟩ | exact Or.inr ⟨rfl, v197_0, by omega⟩⟩ dX11_readsStep_270
                  refine x_aload_n hx hb hl 0 rfl dX11_readsStep_206 rfl ?_
                  refine x_get (j := 35) (v := .int (xJ (s_197 268 35))) hx hb hown hT hE hW cls_X11 (Or.inl (by decide)) (so_268 h0 g _) (by decide) rfl wq1220 dX11_readsStep_207 ?_
                  refine x_rd hW (fun x100 ex100 rx100 => ?_)
                  have fx100 : x100 = s_197 268 35 := ex100.trans q97
                  refine x_if_le (tgt := 269) hx hb rx100 dX11_readsStep_210 (by decide) (fun c101 => ?_) (fun c101 => ?_)
                  · skip
                    refine x_iconst hx hb dX11_readsStep_269 ?_
                    rw [eQ]
                    exact x_zret hx hb hr hlk hW (by omega) ⟨hF_197, ⟨q197_2, q197_3, q197_4, q197_5, q197_6, q197_7, q197_9, q197_10, q197_11, q197_12, trivial⟩, by first | exact Or.inl ⟨by omega, by omega⟩ | exact Or.inr ⟨rfl, v197_0, by omega⟩⟩ dX11_readsStep_270
                  refine x_aload_n hx hb hl 0 rfl dX11_readsStep_213 rfl ?_
                  refine x_aload_n hx hb hl 0 rfl dX11_readsStep_214 rfl ?_
                  refine x_get (j := 9) (v := .int (xJ (s_197 268 9))) hx hb hown hT hE hW cls_X11 (Or.inl (by decide)) (so_268 h0 g _) (by decide) rfl wq1194 dX11_readsStep_215 ?_
                  refine x_rd hW (fun x102 ex102 rx102 => ?_)
                  have bx102 : 0 ≤ x102 ∧ x102 ≤ s_197 268 10 ∧ s_197 268 10 ≤ 240 := by rw [ex102]; exact q197_5
                  have q103 : s_197 268 9 = x102 := ex102.symm
                  refine x_iconst hx hb dX11_readsStep_218 ?_
                  refine x_iadd hx hb dX11_readsStep_219 ?_
                  refine x_put (j := 9) hx hb hown hT hE hW cls_X11 (by decide) (fun σ => so_268 h0 g σ) (by decide) (st_X11_9 h0 s_197 268 (x102 + 1)) (ln_X11_9 h0 _ _) wq1194 rfl rfl rfl (by omega) dX11_readsStep_220 (fun H locs s104 es104 hW => ?_)
                  have q105 : IMn s104 := by rw [es104]; exact IMn_268 q197_2 (by omega)
                  have q106 : IMk s104 := by rw [es104]; exact IMk_268 q197_3 (by omega)
                  have q107 : IMo s104 := by rw [es104]; exact IMo_o (by unfold suIMo; omega) q197_4
                  have q108 : IR s104 := by rw [es104]; exact IR_268 q197_5 (by omega)
                  have q109 : s104 268 8 = s0 268 8 := (show s104 268 8 = s_197 268 8 from by rw [es104, xU_j _ _ (by decide)]).trans q197_6
                  have q110 : s104 268 58 = s0 268 58 := (show s104 268 58 = s_197 268 58 from by rw [es104, xU_j _ _ (by decide)]).trans q197_7
                  have q111 : s104 268 10 = s0 268 10 := (show s104 268 10 = s_197 268 10 from by rw [es104, xU_j _ _ (by decide)]).trans q197_9
                  have q112 : s104 268 14 = s0 268 14 := (show s104 268 14 = s_197 268 14 from by rw [es104, xU_j _ _ (by decide)]).trans q197_10
                  have q113 : s104 268 15 = s0 268 15 := (show s104 268 15 = s_197 268 15 from by rw [es104, xU_j _ _ (by decide)]).trans q197_11
                  have q114 : s104 268 16 = s0 268 16 := (show s104 268 16 = s_197 268 16 from by rw [es104, xU_j _ _ (by decide)]).trans q197_12
                  have q115 : s104 268 36 = s66 268 36 := (show s104 268 36 = s_197 268 36 from by rw [es104, xU_j _ _ (by decide)]).trans q197_14
                  have q116 : s104 268 37 = s_4 268 37 := (show s104 268 37 = s_197 268 37 from by rw [es104, xU_j _ _ (by decide)]).trans q197_15
                  have q117 : s104 291 = s_197 291 := by rw [es104, xU_k _ _ _ (by omega)]; exact q95
                  have q118 : s104 292 = s_197 292 := by rw [es104, xU_k _ _ _ (by omega)]; exact q96
                  have q119 : s104 268 35 = s_197 268 35 := (show s104 268 35 = s_197 268 35 from by rw [es104, xU_j _ _ (by decide)]).trans q97
                  have q120 : s104 268 34 = s_197 268 34 := (show s104 268 34 = s_197 268 34 from by rw [es104, xU_j _ _ (by decide)]).trans q98
                  have q121 : s104 268 9 = (x102 + 1) := by rw [es104, xU_s]
                  have hF122 := hF_197.put es104 (by omega)
                  refine x_aload_n hx hb hl 0 rfl dX11_readsStep_223 rfl ?_
                  refine x_aload_n hx hb hl 0 rfl dX11_readsStep_224 rfl ?_
                  refine x_get (j := 35) (v := .int (xJ (s104 268 35))) hx hb hown hT hE hW cls_X11 (Or.inl (by decide)) (so_268 h0 g _) (by decide) rfl wq1220 dX11_readsStep_225 ?_
                  refine x_rd hW (fun x123 ex123 rx123 => ?_)
                  have fx123 : x123 = s_197 268 35 := ex123.trans q119
                  refine x_iconst hx hb dX11_readsStep_228 ?_
                  refine x_isub hx hb dX11_readsStep_229 ?_
                  refine x_put (j := 35) hx hb hown hT hE hW cls_X11 (by decide) (fun σ => so_268 h0 g σ) (by decide) (st_X11_35 h0 s104 268 (x123 - 1)) (ln_X11_35 h0 _ _) wq1220 rfl rfl rfl (by omega) dX11_readsStep_230 (fun H locs s124 es124 hW => ?_)
                  have q125 : IMn s124 := by rw [es124]; exact IMn_268 q105 (by omega)
                  have q126 : IMk s124 := by rw [es124]; exact IMk_268 q106 (by omega)
                  have q127 : IMo s124 := by rw [es124]; exact IMo_o (by unfold suIMo; omega) q107
                  have q128 : IR s124 := by rw [es124]; exact IR_268 q108 (by omega)
                  have q129 : s124 268 8 = s0 268 8 := (show s124 268 8 = s104 268 8 from by rw [es124, xU_j _ _ (by decide)]).trans q109
                  have q130 : s124 268 58 = s0 268 58 := (show s124 268 58 = s104 268 58 from by rw [es124, xU_j _ _ (by decide)]).trans q110
                  have q131 : s124 268 10 = s0 268 10 := (show s124 268 10 = s104 268 10 from by rw [es124, xU_j _ _ (by decide)]).trans q111
                  have q132 : s124 268 14 = s0 268 14 := (show s124 268 14 = s104 268 14 from by rw [es124, xU_j _ _ (by decide)]).trans q112
                  have q133 : s124 268 15 = s0 268 15 := (show s124 268 15 = s104 268 15 from by rw [es124, xU_j _ _ (by decide)]).trans q113
                  have q134 : s124 268 16 = s0 268 16 := (show s124 268 16 = s104 268 16 from by rw [es124, xU_j _ _ (by decide)]).trans q114
                  have q135 : s124 268 36 = s66 268 36 := (show s124 268 36 = s104 268 36 from by rw [es124, xU_j _ _ (by decide)]).trans q115
                  have q136 : s124 268 37 = s_4 268 37 := (show s124 268 37 = s104 268 37 from by rw [es124, xU_j _ _ (by decide)]).trans q116
                  have q137 : s124 291 = s_197 291 := by rw [es124, xU_k _ _ _ (by omega)]; exact q117
                  have q138 : s124 292 = s_197 292 := by rw [es124, xU_k _ _ _ (by omega)]; exact q118
                  have q139 : s124 268 35 = (x123 - 1) := by rw [es124, xU_s]
                  have q140 : s124 268 34 = s_197 268 34 := (show s124 268 34 = s104 268 34 from by rw [es124, xU_j _ _ (by decide)]).trans q120
                  have q141 : s124 268 9 = (x102 + 1) := (show s124 268 9 = s104 268 9 from by rw [es124, xU_j _ _ (by decide)]).trans q121
                  have hF142 := hF122.put es124 (by omega)
                  refine x_aload_n hx hb hl 0 rfl dX11_readsStep_233 rfl ?_
                  refine x_aload_n hx hb hl 0 rfl dX11_readsStep_234 rfl ?_
                  refine x_get (j := 32) (v := .ref (h0 + 291)) hx hb hown hT hE hW cls_X11 (Or.inl (by decide)) (so_268 h0 g _) (by decide) rfl wq1217 dX11_readsStep_235 ?_
                  refine x_aload_n hx hb hl 0 rfl dX11_readsStep_238 rfl ?_
                  refine x_get (j := 35) (v := .int (xJ (s124 268 35))) hx hb hown hT hE hW cls_X11 (Or.inl (by decide)) (so_268 h0 g _) (by decide) rfl wq1220 dX11_readsStep_239 ?_
                  refine x_rd hW (fun x143 ex143 rx143 => ?_)
                  have fx143 : x143 = (x123 - 1) := ex143.trans q139
                  refine x_iald hx hb hE hW (Or.inl (by decide)) (sa_291 h0 g _) (by omega) (by decide) dX11_readsStep_242 ?_
                  refine x_rd hW (fun x144 ex144 rx144 => ?_)
                  have gx144 := v197_0.2.2 x143 (by omega) (by omega)
                  have hx144 : x144 = s_197 291 x143 := ex144.trans (congrFun q137 _)
                  refine x_aload_n hx hb hl 0 rfl dX11_readsStep_243 rfl ?_
                  refine x_get (j := 33) (v := .ref (h0 + 292)) hx hb hown hT hE hW cls_X11 (Or.inl (by decide)) (so_268 h0 g _) (by decide) rfl wq1218 dX11_readsStep_244 ?_
                  refine x_aload_n hx hb hl 0 rfl dX11_readsStep_247 rfl ?_
                  refine x_get (j := 35) (v := .int (xJ (s124 268 35))) hx hb hown hT hE hW cls_X11 (Or.inl (by decide)) (so_268 h0 g _) (by decide) rfl wq1220 dX11_readsStep_248 ?_
                  refine x_rd hW (fun x145 ex145 rx145 => ?_)
                  have fx145 : x145 = (x123 - 1) := ex145.trans q139
                  refine x_iald hx hb hE hW (Or.inl (by decide)) (sa_292 h0 g _) (by omega) (by decide) dX11_readsStep_251 ?_
                  refine x_rd hW (fun x146 ex146 rx146 => ?_)
                  have gx146 := v197_0.2.2 x145 (by omega) (by omega)
                  have hx146 : x146 = s_197 292 x145 := ex146.trans (congrFun q138 _)
                  refine x_aload_n hx hb hl 0 rfl dX11_readsStep_252 rfl ?_
                  refine x_get (j := 31) (v := .ref (h0 + 290)) hx hb hown hT hE hW cls_X11 (Or.inl (by decide)) (so_268 h0 g _) (by decide) rfl wq1216 dX11_readsStep_253 ?_
                  refine x_aload_n hx hb hl 0 rfl dX11_readsStep_256 rfl ?_
                  refine x_get (j := 35) (v := .int (xJ (s124 268 35))) hx hb hown hT hE hW cls_X11 (Or.inl (by decide)) (so_268 h0 g _) (by decide) rfl wq1220 dX11_readsStep_257 ?_
                  refine x_rd hW (fun x147 ex147 rx147 => ?_)
                  have fx147 : x147 = (x123 - 1) := ex147.trans q139
                  refine x_iald hx hb hE hW (Or.inl (by decide)) (sa_290 h0 g _) (by omega) (by decide) dX11_readsStep_260 ?_
                  refine x_rd hW (fun x148 ex148 rx148 => ?_)
                  refine x_goi (x_runV (As := [.int (xJ x144), .int (xJ x146), .int (xJ x148)]) hx hb hml hown hT hE hW hl.1 (Or.inl (by decide)) (so_268 h0 g _) rfl cf_X11_repeats wq1457 wq114 wq1455 (c_X11_repeats l D g T h0 s124 hW.2.1 x144 rx144 x146 rx146 x148 rx148 (by omega) (by omega) q125 q126 q127 q128) ⟨rfl, rfl, ⟨by decide, by decide⟩, ⟨by decide, by decide⟩⟩ rfl rfl (Nat.le_of_ble_eq_true rfl) dX11_readsStep_261) hW (fun x149 s150 H locs rx149 hp151 hW => ?_)
                  obtain ⟨fs150, hp151⟩ := hp151
                  have hF152 := hF142.call fs150 (fun k h => by omega)
                  have q153 : s150 291 = s_197 291 := by rw [fs150 291 (by omega)]; exact q137
                  have q154 : s150 292 = s_197 292 := by rw [fs150 292 (by omega)]; exact q138
                  have ghp151 := hp151.2
                  refine x_if_ne (tgt := 197) hx hb rx149 dX11_readsStep_264 (by decide) (fun c155 => ?_) (fun c155 => ?_)
                  · skip
                    exact ih197 s150 H locs ls hF152 hp151.1.1 hp151.1.2.1 hp151.1.2.2.1 hp151.1.2.2.2.1 (hp151.1.2.2.2.2.1.trans q129) (hp151.1.2.2.2.2.2.1.trans q130) (hp151.1.2.2.2.2.2.2.2.1.trans q131) (hp151.1.2.2.2.2.2.2.2.2.1.trans q132) (hp151.1.2.2.2.2.2.2.2.2.2.1.trans q133) (hp151.1.2.2.2.2.2.2.2.2.2.2.1.trans q134) (hp151.1.2.2.2.2.2.2.2.2.2.2.2.2.1.trans q135) (hp151.1.2.2.2.2.2.2.2.2.2.2.2.2.2.1.trans q136) (v197_0.f (by omega) (by omega) q153 q154) (by omega) (by omega) hW (lv_sub hl [0] rfl)
                  refine x_iconst hx hb dX11_readsStep_267 ?_
                  rw [eQ]
                  exact x_zret hx hb hr hlk hW (by omega) ⟨hF152, ⟨hp151.1.1, hp151.1.2.1, hp151.1.2.2.1, hp151.1.2.2.2.1, (hp151.1.2.2.2.2.1.trans q129), (hp151.1.2.2.2.2.2.1.trans q130), (hp151.1.2.2.2.2.2.2.2.1.trans q131), (hp151.1.2.2.2.2.2.2.2.2.1.trans q132), (hp151.1.2.2.2.2.2.2.2.2.2.1.trans q133), (hp151.1.2.2.2.2.2.2.2.2.2.2.1.trans q134), trivial⟩, by first | exact Or.inl ⟨by omega, by omega⟩ | exact Or.inr ⟨rfl, v197_0, by omega⟩⟩ dX11_readsStep_268
              exact L197 ((241 - s86 268 9 : Int).toNat + 1) s86 H locs ls hF88 hp87.1.1 hp87.1.2.1 hp87.1.2.2.1 hp87.1.2.2.2.1 (hp87.1.2.2.2.2.1.trans q71) (hp87.1.2.2.2.2.2.1.trans q72) (hp87.1.2.2.2.2.2.2.2.1.trans q73) (hp87.1.2.2.2.2.2.2.2.2.1.trans q74) (hp87.1.2.2.2.2.2.2.2.2.2.1.trans q75) (hp87.1.2.2.2.2.2.2.2.2.2.2.1.trans q76) hp87.1.2.2.2.2.2.2.2.2.2.2.2.2.1 (hp87.1.2.2.2.2.2.2.2.2.2.2.2.2.2.1.trans q78) (v4_0.f (by omega) (by omega) q89 q90) (by omega) (Nat.lt_succ_self _) hW (lv_sub hl [3] rfl)
            refine x_iconst hx hb dX11_readsStep_195 ?_
            rw [eQ]
            exact x_zret hx hb hr hlk hW (by omega) ⟨hF88, ⟨hp87.1.1, hp87.1.2.1, hp87.1.2.2.1, hp87.1.2.2.2.1, (hp87.1.2.2.2.2.1.trans q71), (hp87.1.2.2.2.2.2.1.trans q72), (hp87.1.2.2.2.2.2.2.2.1.trans q73), (hp87.1.2.2.2.2.2.2.2.2.1.trans q74), (hp87.1.2.2.2.2.2.2.2.2.2.1.trans q75), (hp87.1.2.2.2.2.2.2.2.2.2.2.1.trans q76), trivial⟩, by first | exact Or.inl ⟨by omega, by omega⟩ | exact Or.inr ⟨rfl, v197_0, by omega⟩⟩ dX11_readsStep_196
          refine x_aload_n hx hb hl 3 rfl dX11_readsStep_151 rfl ?_
          refine x_bipush hx hb dX11_readsStep_152 (by decide) ?_
          refine x_iload_n hx hb hl 2 rfl dX11_readsStep_154 rfl ?_
          refine x_goi (x_runV (As := [.int (xJ 6), .int (xJ x11)]) hx hb hml hown hT hE hW hl.1 (Or.inl (by decide)) (so_268 h0 g _) rfl cf_X11_wrongAt wq1401 wq107 wq1399 (c_X11_wrongAt l D g T h0 s24 hW.2.1 6 (by decide) x11 rx11 q25 q26 q27 q28) ⟨rfl, rfl, ⟨by decide, by decide⟩, ⟨by decide, by decide⟩⟩ rfl rfl (Nat.le_of_ble_eq_true rfl) dX11_readsStep_155) hW (fun x156 s157 H locs rx156 hp158 hW => ?_)
          obtain ⟨fs157, hp158⟩ := hp158
          have hF159 := hF41.call fs157 (fun k h => by omega)
          have q160 : s157 291 = s_4 291 := by rw [fs157 291 (by omega)]; exact q38
          have q161 : s157 292 = s_4 292 := by rw [fs157 292 (by omega)]; exact q39
          have ghp158 := hp158.2
          rw [eQ]
          exact x_zret hx hb hr hlk hW (by omega) ⟨hF159, ⟨hp158.1.1, hp158.1.2.1, hp158.1.2.2.1, hp158.1.2.2.2.1, (hp158.1.2.2.2.2.1.trans q29), (hp158.1.2.2.2.2.2.1.trans q30), (hp158.1.2.2.2.2.2.2.2.1.trans q31), (hp158.1.2.2.2.2.2.2.2.2.1.trans q32), (hp158.1.2.2.2.2.2.2.2.2.2.1.trans q33), (hp158.1.2.2.2.2.2.2.2.2.2.2.1.trans q34), trivial⟩, by first | exact Or.inl ⟨by omega, by omega⟩ | exact Or.inr ⟨rfl, v197_0, by omega⟩⟩ dX11_readsStep_158
        refine x_aload_n hx hb hl 3 rfl dX11_readsStep_120 rfl ?_
        refine x_iconst hx hb dX11_readsStep_121 ?_
        refine x_aload_n hx hb hl 3 rfl dX11_readsStep_122 rfl ?_
        refine x_get (j := 9) (v := .int (xJ (s_4 268 9))) hx hb hown hT hE hW cls_X11 (Or.inl (by decide)) (so_268 h0 g _) (by decide) rfl wq1194 dX11_readsStep_123 ?_
        refine x_rd hW (fun x162 ex162 rx162 => ?_)
        have bx162 : 0 ≤ x162 ∧ x162 ≤ s_4 268 10 ∧ s_4 268 10 ≤ 240 := by rw [ex162]; exact q4_3
        have q163 : s_4 268 9 = x162 := ex162.symm
        refine x_goi (x_runV (As := [.int (xJ 1), .int (xJ x162)]) hx hb hml hown hT hE hW hl.1 (Or.inl (by decide)) (so_268 h0 g _) rfl cf_X11_wrongAt wq1401 wq107 wq1399 (c_X11_wrongAt l D g T h0 s_4 hW.2.1 1 (by decide) x162 rx162 q4_0 q4_1 q4_2 q4_3) ⟨rfl, rfl, ⟨by decide, by decide⟩, ⟨by decide, by decide⟩⟩ rfl rfl (Nat.le_of_ble_eq_true rfl) dX11_readsStep_126) hW (fun x164 s165 H locs rx164 hp166 hW => ?_)
        obtain ⟨fs165, hp166⟩ := hp166
        have hF167 := hF_4.call fs165 (fun k h => by omega)
        have q168 : s165 291 = s_4 291 := by rw [fs165 291 (by omega)]; exact q12
        have q169 : s165 292 = s_4 292 := by rw [fs165 292 (by omega)]; exact q13
        have ghp166 := hp166.2
        rw [eQ]
        exact x_zret hx hb hr hlk hW (by omega) ⟨hF167, ⟨hp166.1.1, hp166.1.2.1, hp166.1.2.2.1, hp166.1.2.2.2.1, (hp166.1.2.2.2.2.1.trans q4_4), (hp166.1.2.2.2.2.2.1.trans q4_5), (hp166.1.2.2.2.2.2.2.2.1.trans q4_6), (hp166.1.2.2.2.2.2.2.2.2.1.trans q4_7), (hp166.1.2.2.2.2.2.2.2.2.2.1.trans q4_8), (hp166.1.2.2.2.2.2.2.2.2.2.2.1.trans q4_9), trivial⟩, by first | exact Or.inl ⟨by omega, by omega⟩ | exact Or.inr ⟨rfl, v197_0, by omega⟩⟩ dX11_readsStep_129
      refine x_aload_n hx hb hl 0 rfl dX11_readsStep_13 rfl ?_
      refine x_get (j := 35) (v := .int (xJ (s_4 268 35))) hx hb hown hT hE hW cls_X11 (Or.inl (by decide)) (so_268 h0 g _) (by decide) rfl wq1220 dX11_readsStep_14 ?_
      refine x_rd hW (fun x170 ex170 rx170 => ?_)
      have fx170 : x170 = s_4 268 35 := ex170.trans q9
      refine x_iconst hx hb dX11_readsStep_17 ?_
      refine x_icmp_ne (tgt := 31) hx hb rx170 (by decide) dX11_readsStep_18 (by decide) (fun c171 => ?_) (fun c171 => ?_)
      · skip
        refine x_aload_n hx hb hl 0 rfl dX11_readsStep_31 rfl ?_
        refine x_get (j := 31) (v := .ref (h0 + 290)) hx hb hown hT hE hW cls_X11 (Or.inl (by decide)) (so_268 h0 g _) (by decide) rfl wq1216 dX11_readsStep_32 ?_
        refine x_aload_n hx hb hl 0 rfl dX11_readsStep_35 rfl ?_
        refine x_get (j := 35) (v := .int (xJ (s_4 268 35))) hx hb hown hT hE hW cls_X11 (Or.inl (by decide)) (so_268 h0 g _) (by decide) rfl wq1220 dX11_readsStep_36 ?_
        refine x_rd hW (fun x172 ex172 rx172 => ?_)
        have fx172 : x172 = s_4 268 35 := ex172.trans q9
        refine x_aload_n hx hb hl 0 rfl dX11_readsStep_39 rfl ?_
        refine x_get (j := 36) (v := .int (xJ (s_4 268 36))) hx hb hown hT hE hW cls_X11 (Or.inl (by decide)) (so_268 h0 g _) (by decide) rfl wq1221 dX11_readsStep_40 ?_
        refine x_rd hW (fun x173 ex173 rx173 => ?_)
        refine x_iast hx hb hE hW (by decide) (fun σ => sa_290 h0 g σ) (by omega) (by decide) rx173 dX11_readsStep_43 (fun H locs s174 es174 hW => ?_)
        have q175 : IMn s174 := by rw [es174]; exact IMn_o (by unfold suIMn; omega) q4_0
        have q176 : IMk s174 := by rw [es174]; exact IMk_o (by unfold suIMk; omega) q4_1
        have q177 : IMo s174 := by rw [es174]; exact IMo_o (by unfold suIMo; omega) q4_2
        have q178 : IR s174 := by rw [es174]; exact IR_o (by unfold suIR; omega) q4_3
        have q179 : s174 268 8 = s0 268 8 := (show s174 268 8 = s_4 268 8 from by rw [es174, xU_k _ _ _ (by omega)]).trans q4_4
        have q180 : s174 268 58 = s0 268 58 := (show s174 268 58 = s_4 268 58 from by rw [es174, xU_k _ _ _ (by omega)]).trans q4_5
        have q181 : s174 268 10 = s0 268 10 := (show s174 268 10 = s_4 268 10 from by rw [es174, xU_k _ _ _ (by omega)]).trans q4_6
        have q182 : s174 268 14 = s0 268 14 := (show s174 268 14 = s_4 268 14 from by rw [es174, xU_k _ _ _ (by omega)]).trans q4_7
        have q183 : s174 268 15 = s0 268 15 := (show s174 268 15 = s_4 268 15 from by rw [es174, xU_k _ _ _ (by omega)]).trans q4_8
        have q184 : s174 268 16 = s0 268 16 := (show s174 268 16 = s_4 268 16 from by rw [es174, xU_k _ _ _ (by omega)]).trans q4_9
        have q185 : s174 268 34 = s0 268 34 := (show s174 268 34 = s_4 268 34 from by rw [es174, xU_k _ _ _ (by omega)]).trans q4_10
        have q186 : s174 268 37 = s_4 268 37 := (show s174 268 37 = s_4 268 37 from by rw [es174, xU_k _ _ _ (by omega)]).trans q8
        have q187 : s174 268 35 = s_4 268 35 := (show s174 268 35 = s_4 268 35 from by rw [es174, xU_k _ _ _ (by omega)]).trans q9
        have hF188 := hF_4.put es174 (by omega)
        have E43 := es174
        refine x_aload_n hx hb hl 0 rfl dX11_readsStep_44 rfl ?_
        refine x_get (j := 32) (v := .ref (h0 + 291)) hx hb hown hT hE hW cls_X11 (Or.inl (by decide)) (so_268 h0 g _) (by decide) rfl wq1217 dX11_readsStep_45 ?_
        refine x_aload_n hx hb hl 0 rfl dX11_readsStep_48 rfl ?_
        refine x_get (j := 35) (v := .int (xJ (s174 268 35))) hx hb hown hT hE hW cls_X11 (Or.inl (by decide)) (so_268 h0 g _) (by decide) rfl wq1220 dX11_readsStep_49 ?_
        refine x_rd hW (fun x189 ex189 rx189 => ?_)
        have fx189 : x189 = s_4 268 35 := ex189.trans q187
        refine x_aload_n hx hb hl 0 rfl dX11_readsStep_52 rfl ?_
        refine x_get (j := 34) (v := .int (xJ (s174 268 34))) hx hb hown hT hE hW cls_X11 (Or.inl (by decide)) (so_268 h0 g _) (by decide) rfl wq1219 dX11_readsStep_53 ?_
        refine x_rd hW (fun x190 ex190 rx190 => ?_)
        have fx190 : x190 = s0 268 34 := ex190.trans q185
        refine x_iast hx hb hE hW (by decide) (fun σ => sa_291 h0 g σ) (by omega) (by decide) rx190 dX11_readsStep_56 (fun H locs s191 es191 hW => ?_)
        have q192 : IMn s191 := by rw [es191]; exact IMn_o (by unfold suIMn; omega) q175
        have q193 : IMk s191 := by rw [es191]; exact IMk_o (by unfold suIMk; omega) q176
        have q194 : IMo s191 := by rw [es191]; exact IMo_o (by unfold suIMo; omega) q177
        have q195 : IR s191 := by rw [es191]; exact IR_o (by unfold suIR; omega) q178
        have q196 : s191 268 8 = s0 268 8 := (show s191 268 8 = s174 268 8 from by rw [es191, xU_k _ _ _ (by omega)]).trans q179
        have q197 : s191 268 58 = s0 268 58 := (show s191 268 58 = s174 268 58 from by rw [es191, xU_k _ _ _ (by omega)]).trans q180
        have q198 : s191 268 10 = s0 268 10 := (show s191 268 10 = s174 268 10 from by rw [es191, xU_k _ _ _ (by omega)]).trans q181
        have q199 : s191 268 14 = s0 268 14 := (show s191 268 14 = s174 268 14 from by rw [es191, xU_k _ _ _ (by omega)]).trans q182
        have q200 : s191 268 15 = s0 268 15 := (show s191 268 15 = s174 268 15 from by rw [es191, xU_k _ _ _ (by omega)]).trans q183
        have q201 : s191 268 16 = s0 268 16 := (show s191 268 16 = s174 268 16 from by rw [es191, xU_k _ _ _ (by omega)]).trans q184
        have q202 : s191 268 34 = s0 268 34 := (show s191 268 34 = s174 268 34 from by rw [es191, xU_k _ _ _ (by omega)]).trans q185
        have q203 : s191 268 37 = s_4 268 37 := (show s191 268 37 = s174 268 37 from by rw [es191, xU_k _ _ _ (by omega)]).trans q186
        have q204 : s191 268 35 = s_4 268 35 := (show s191 268 35 = s174 268 35 from by rw [es191, xU_k _ _ _ (by omega)]).trans q187
        have hF205 := hF188.put es191 (by omega)
        have q206 : s191 291 = xud (s_4 291) (s_4 268 35) (s_4 268 34) := by rw [es191, xU_xud, E43, xU_k _ _ _ (by omega), show x189 = s_4 268 35 from by omega, show x190 = s_4 268 34 from by omega]
        have E56 := es191
        refine x_aload_n hx hb hl 0 rfl dX11_readsStep_57 rfl ?_
        refine x_get (j := 33) (v := .ref (h0 + 292)) hx hb hown hT hE hW cls_X11 (Or.inl (by decide)) (so_268 h0 g _) (by decide) rfl wq1218 dX11_readsStep_58 ?_
        refine x_aload_n hx hb hl 0 rfl dX11_readsStep_61 rfl ?_
        refine x_get (j := 35) (v := .int (xJ (s191 268 35))) hx hb hown hT hE hW cls_X11 (Or.inl (by decide)) (so_268 h0 g _) (by decide) rfl wq1220 dX11_readsStep_62 ?_
        refine x_rd hW (fun x207 ex207 rx207 => ?_)
        have fx207 : x207 = s_4 268 35 := ex207.trans q204
        refine x_aload_n hx hb hl 0 rfl dX11_readsStep_65 rfl ?_
        refine x_get (j := 37) (v := .int (xJ (s191 268 37))) hx hb hown hT hE hW cls_X11 (Or.inl (by decide)) (so_268 h0 g _) (by decide) rfl wq1222 dX11_readsStep_66 ?_
        refine x_rd hW (fun x208 ex208 rx208 => ?_)
        have fx208 : x208 = s_4 268 37 := ex208.trans q203
        refine x_iast hx hb hE hW (by decide) (fun σ => sa_292 h0 g σ) (by omega) (by decide) rx208 dX11_readsStep_69 (fun H locs s209 es209 hW => ?_)
        have q210 : IMn s209 := by rw [es209]; exact IMn_o (by unfold suIMn; omega) q192
        have q211 : IMk s209 := by rw [es209]; exact IMk_o (by unfold suIMk; omega) q193
        have q212 : IMo s209 := by rw [es209]; exact IMo_o (by unfold suIMo; omega) q194
        have q213 : IR s209 := by rw [es209]; exact IR_o (by unfold suIR; omega) q195
        have q214 : s209 268 8 = s0 268 8 := (show s209 268 8 = s191 268 8 from by rw [es209, xU_k _ _ _ (by omega)]).trans q196
        have q215 : s209 268 58 = s0 268 58 := (show s209 268 58 = s191 268 58 from by rw [es209, xU_k _ _ _ (by omega)]).trans q197
        have q216 : s209 268 10 = s0 268 10 := (show s209 268 10 = s191 268 10 from by rw [es209, xU_k _ _ _ (by omega)]).trans q198
        have q217 : s209 268 14 = s0 268 14 := (show s209 268 14 = s191 268 14 from by rw [es209, xU_k _ _ _ (by omega)]).trans q199
        have q218 : s209 268 15 = s0 268 15 := (show s209 268 15 = s191 268 15 from by rw [es209, xU_k _ _ _ (by omega)]).trans q200
        have q219 : s209 268 16 = s0 268 16 := (show s209 268 16 = s191 268 16 from by rw [es209, xU_k _ _ _ (by omega)]).trans q201
        have q220 : s209 268 34 = s0 268 34 := (show s209 268 34 = s191 268 34 from by rw [es209, xU_k _ _ _ (by omega)]).trans q202
        have q221 : s209 268 37 = s_4 268 37 := (show s209 268 37 = s191 268 37 from by rw [es209, xU_k _ _ _ (by omega)]).trans q203
        have q222 : s209 268 35 = s_4 268 35 := (show s209 268 35 = s191 268 35 from by rw [es209, xU_k _ _ _ (by omega)]).trans q204
        have q223 : s209 291 = xud (s_4 291) (s_4 268 35) (s_4 268 34) := by rw [es209, xU_k _ _ _ (by omega)]; exact q206
        have hF224 := hF205.put es209 (by omega)
        have q225 : s209 292 = xud (s_4 292) (s_4 268 35) (s_4 268 37) := by rw [es209, xU_xud, E56, xU_k _ _ _ (by omega), E43, xU_k _ _ _ (by omega), show x207 = s_4 268 35 from by omega, show x208 = s_4 268 37 from by omega]
        refine x_aload_n hx hb hl 0 rfl dX11_readsStep_70 rfl ?_
        refine x_aload_n hx hb hl 0 rfl dX11_readsStep_71 rfl ?_
        refine x_get (j := 35) (v := .int (xJ (s209 268 35))) hx hb hown hT hE hW cls_X11 (Or.inl (by decide)) (so_268 h0 g _) (by decide) rfl wq1220 dX11_readsStep_72 ?_
        refine x_rd hW (fun x226 ex226 rx226 => ?_)
        have fx226 : x226 = s_4 268 35 := ex226.trans q222
        refine x_iconst hx hb dX11_readsStep_75 ?_
        refine x_iadd hx hb dX11_readsStep_76 ?_
        refine x_put (j := 35) hx hb hown hT hE hW cls_X11 (by decide) (fun σ => so_268 h0 g σ) (by decide) (st_X11_35 h0 s209 268 (x226 + 1)) (ln_X11_35 h0 _ _) wq1220 rfl rfl rfl (by omega) dX11_readsStep_77 (fun H locs s227 es227 hW => ?_)
        have q228 : IMn s227 := by rw [es227]; exact IMn_268 q210 (by omega)
        have q229 : IMk s227 := by rw [es227]; exact IMk_268 q211 (by omega)
        have q230 : IMo s227 := by rw [es227]; exact IMo_o (by unfold suIMo; omega) q212
        have q231 : IR s227 := by rw [es227]; exact IR_268 q213 (by omega)
        have q232 : s227 268 8 = s0 268 8 := (show s227 268 8 = s209 268 8 from by rw [es227, xU_j _ _ (by decide)]).trans q214
        have q233 : s227 268 58 = s0 268 58 := (show s227 268 58 = s209 268 58 from by rw [es227, xU_j _ _ (by decide)]).trans q215
        have q234 : s227 268 10 = s0 268 10 := (show s227 268 10 = s209 268 10 from by rw [es227, xU_j _ _ (by decide)]).trans q216
        have q235 : s227 268 14 = s0 268 14 := (show s227 268 14 = s209 268 14 from by rw [es227, xU_j _ _ (by decide)]).trans q217
        have q236 : s227 268 15 = s0 268 15 := (show s227 268 15 = s209 268 15 from by rw [es227, xU_j _ _ (by decide)]).trans q218
        have q237 : s227 268 16 = s0 268 16 := (show s227 268 16 = s209 268 16 from by rw [es227, xU_j _ _ (by decide)]).trans q219
        have q238 : s227 268 34 = s0 268 34 := (show s227 268 34 = s209 268 34 from by rw [es227, xU_j _ _ (by decide)]).trans q220
        have q239 : s227 268 37 = s_4 268 37 := (show s227 268 37 = s209 268 37 from by rw [es227, xU_j _ _ (by decide)]).trans q221
        have q240 : s227 268 35 = (x226 + 1) := by rw [es227, xU_s]
        have q241 : s227 291 = xud (s_4 291) (s_4 268 35) (s_4 268 34) := by rw [es227, xU_k _ _ _ (by omega)]; exact q223
        have q242 : s227 292 = xud (s_4 292) (s_4 268 35) (s_4 268 37) := by rw [es227, xU_k _ _ _ (by omega)]; exact q225
        have hF243 := hF224.put es227 (by omega)
        refine x_aload_n hx hb hl 0 rfl dX11_readsStep_80 rfl ?_
        refine x_aload_n hx hb hl 0 rfl dX11_readsStep_81 rfl ?_
        refine x_get (j := 9) (v := .int (xJ (s227 268 9))) hx hb hown hT hE hW cls_X11 (Or.inl (by decide)) (so_268 h0 g _) (by decide) rfl wq1194 dX11_readsStep_82 ?_
        refine x_rd hW (fun x244 ex244 rx244 => ?_)
        have bx244 : 0 ≤ x244 ∧ x244 ≤ s227 268 10 ∧ s227 268 10 ≤ 240 := by rw [ex244]; exact q231
        have q245 : s227 268 9 = x244 := ex244.symm
        refine x_iconst hx hb dX11_readsStep_85 ?_
        refine x_iadd hx hb dX11_readsStep_86 ?_
        refine x_put (j := 9) hx hb hown hT hE hW cls_X11 (by decide) (fun σ => so_268 h0 g σ) (by decide) (st_X11_9 h0 s227 268 (x244 + 1)) (ln_X11_9 h0 _ _) wq1194 rfl rfl rfl (by omega) dX11_readsStep_87 (fun H locs s246 es246 hW => ?_)
        have q247 : IMn s246 := by rw [es246]; exact IMn_268 q228 (by omega)
        have q248 : IMk s246 := by rw [es246]; exact IMk_268 q229 (by omega)
        have q249 : IMo s246 := by rw [es246]; exact IMo_o (by unfold suIMo; omega) q230
        have q250 : IR s246 := by rw [es246]; exact IR_268 q231 (by omega)
        have q251 : s246 268 8 = s0 268 8 := (show s246 268 8 = s227 268 8 from by rw [es246, xU_j _ _ (by decide)]).trans q232
        have q252 : s246 268 58 = s0 268 58 := (show s246 268 58 = s227 268 58 from by rw [es246, xU_j _ _ (by decide)]).trans q233
        have q253 : s246 268 10 = s0 268 10 := (show s246 268 10 = s227 268 10 from by rw [es246, xU_j _ _ (by decide)]).trans q234
        have q254 : s246 268 14 = s0 268 14 := (show s246 268 14 = s227 268 14 from by rw [es246, xU_j _ _ (by decide)]).trans q235
        have q255 : s246 268 15 = s0 268 15 := (show s246 268 15 = s227 268 15 from by rw [es246, xU_j _ _ (by decide)]).trans q236
        have q256 : s246 268 16 = s0 268 16 := (show s246 268 16 = s227 268 16 from by rw [es246, xU_j _ _ (by decide)]).trans q237
        have q257 : s246 268 34 = s0 268 34 := (show s246 268 34 = s227 268 34 from by rw [es246, xU_j _ _ (by decide)]).trans q238
        have q258 : s246 268 37 = s_4 268 37 := (show s246 268 37 = s227 268 37 from by rw [es246, xU_j _ _ (by decide)]).trans q239
        have q259 : s246 268 35 = (x226 + 1) := (show s246 268 35 = s227 268 35 from by rw [es246, xU_j _ _ (by decide)]).trans q240
        have q260 : s246 291 = xud (s_4 291) (s_4 268 35) (s_4 268 34) := by rw [es246, xU_k _ _ _ (by omega)]; exact q241
        have q261 : s246 292 = xud (s_4 292) (s_4 268 35) (s_4 268 37) := by rw [es246, xU_k _ _ _ (by omega)]; exact q242
        have q262 : s246 268 9 = (x244 + 1) := by rw [es246, xU_s]
        have hF263 := hF243.put es246 (by omega)
        refine x_aload_n hx hb hl 0 rfl dX11_readsStep_90 rfl ?_
        refine x_gov (x_runV (As := []) hx hb hml hown hT hE hW hl.1 (Or.inl (by decide)) (so_268 h0 g _) rfl cf_X11_readsTimes wq1450 wq113 wq1448 (c_X11_readsTimes l D g T h0 s246 hW.2.1 q247 q248 q249 q250) ⟨rfl, rfl, ⟨by decide, by decide⟩, ⟨by decide, by decide⟩⟩ rfl rfl (Nat.le_of_ble_eq_true rfl) dX11_readsStep_91) hW (fun s265 H locs hp266 hW => ?_)
        obtain ⟨fs265, hp266⟩ := hp266
        have hF267 := hF263.call fs265 (fun k h => by omega)
        have q268 : s265 291 = xud (s_4 291) (s_4 268 35) (s_4 268 34) := by rw [fs265 291 (by omega)]; exact q260
        have q269 : s265 292 = xud (s_4 292) (s_4 268 35) (s_4 268 37) := by rw [fs265 292 (by omega)]; exact q261
        have ghp266 := hp266.2
        refine lv_goto (tgt := 4) hx hb dX11_readsStep_94 (by decide) ?_
        exact ih4 s265 H locs ls hF267 hp266.1.1 hp266.1.2.1 hp266.1.2.2.1 hp266.1.2.2.2.1 (hp266.1.2.2.2.2.1.trans q251) (hp266.1.2.2.2.2.2.1.trans q252) (hp266.1.2.2.2.2.2.2.1.trans q253) (hp266.1.2.2.2.2.2.2.2.1.trans q254) (hp266.1.2.2.2.2.2.2.2.2.1.trans q255) (hp266.1.2.2.2.2.2.2.2.2.2.1.trans q256) (hp266.1.2.2.2.2.2.2.2.2.2.2.1.trans q257) (v4_0.push (by omega) (by omega) q268 q269 (by omega)) (by omega) (by omega) (by omega) hW (lv_sub hl [0] rfl)
      refine x_aload_n hx hb hl 0 rfl dX11_readsStep_21 rfl ?_
      refine x_iconst hx hb dX11_readsStep_22 ?_
      refine x_aload_n hx hb hl 0 rfl dX11_readsStep_23 rfl ?_
      refine x_get (j := 9) (v := .int (xJ (s_4 268 9))) hx hb hown hT hE hW cls_X11 (Or.inl (by decide)) (so_268 h0 g _) (by decide) rfl wq1194 dX11_readsStep_24 ?_
      refine x_rd hW (fun x270 ex270 rx270 => ?_)
      have bx270 : 0 ≤ x270 ∧ x270 ≤ s_4 268 10 ∧ s_4 268 10 ≤ 240 := by rw [ex270]; exact q4_3
      have q271 : s_4 268 9 = x270 := ex270.symm
      refine x_goi (x_runV (As := [.int (xJ 5), .int (xJ x270)]) hx hb hml hown hT hE hW hl.1 (Or.inl (by decide)) (so_268 h0 g _) rfl cf_X11_wrongAt wq1401 wq107 wq1399 (c_X11_wrongAt l D g T h0 s_4 hW.2.1 5 (by decide) x270 rx270 q4_0 q4_1 q4_2 q4_3) ⟨rfl, rfl, ⟨by decide, by decide⟩, ⟨by decide, by decide⟩⟩ rfl rfl (Nat.le_of_ble_eq_true rfl) dX11_readsStep_27) hW (fun x272 s273 H locs rx272 hp274 hW => ?_)
      obtain ⟨fs273, hp274⟩ := hp274
      have hF275 := hF_4.call fs273 (fun k h => by omega)
      have ghp274 := hp274.2
      rw [eQ]
      exact x_zret hx hb hr hlk hW (by omega) ⟨hF275, ⟨hp274.1.1, hp274.1.2.1, hp274.1.2.2.1, hp274.1.2.2.2.1, (hp274.1.2.2.2.2.1.trans q4_4), (hp274.1.2.2.2.2.2.1.trans q4_5), (hp274.1.2.2.2.2.2.2.2.1.trans q4_6), (hp274.1.2.2.2.2.2.2.2.2.1.trans q4_7), (hp274.1.2.2.2.2.2.2.2.2.2.1.trans q4_8), (hp274.1.2.2.2.2.2.2.2.2.2.2.1.trans q4_9), trivial⟩, by first | exact Or.inl ⟨by omega, by omega⟩ | exact Or.inr ⟨rfl, v197_0, by omega⟩⟩ dX11_readsStep_30
  exact L4 ((241 - s2 268 9 : Int).toNat + 1) s2 H locs ls hF4 hp3.1.1 hp3.1.2.1 hp3.1.2.2.1 hp3.1.2.2.2.1 (hp3.1.2.2.2.2.1.trans k268_8) (hp3.1.2.2.2.2.2.1.trans k268_58) (hp3.1.2.2.2.2.2.2.1.trans k268_10) (hp3.1.2.2.2.2.2.2.2.1.trans k268_14) (hp3.1.2.2.2.2.2.2.2.2.1.trans k268_15) (hp3.1.2.2.2.2.2.2.2.2.2.1.trans k268_16) (hp3.1.2.2.2.2.2.2.2.2.2.2.1.trans k268_34) (A1.2) (by omega) (by omega) (Nat.lt_succ_self _) hW (lv_sub hl [0] rfl)
set_option maxHeartbeats 4000000 in
set_option maxRecDepth 100000 in
theorem c_X11_walk (l : Launch) (D : va_G) (g : xG) (T : Nat × Nat × Nat) (h0 : Nat) (s0 : xS) (hσ : xRR s0) (j : Int) (rj : xR j) (n : Int) (rn : xR n) (p0 : IMn s0) (p1 : IMk s0) (p2 : IMo s0) : Met l yX11_walk (xws yX11_walk cX11_walk 5 (some .int)) { frames := 3, cells := 0, slots := 0, locals := 70 } (xP [.ref (h0 + 268), .int (xJ j), .int (xJ n)] D g T h0 s0) (xQi D g h0 (fun r τ => xFr (fun k => k = 268 ∨ k = 269 ∨ k = 274 ∨ k = 275 ∨ k = 289 ∨ k = 290 ∨ k = 291 ∨ k = 292) s0 τ ∧ (((IMn τ) ∧ (IMk τ) ∧ (IMo τ) ∧ (τ 268 58 = s0 268 58) ∧ True) ∧ (((j < 0 ∨ 1 < j ∨ n < 1 ∨ 80 < n ∨ s0 268 8 < n) ∧ τ 268 8 = s0 268 8 ∧ r = -1) ∨ (¬ (j < 0 ∨ 1 < j ∨ n < 1 ∨ 80 < n ∨ s0 268 8 < n) ∧ τ 268 8 = 0))))) 0 0 (xA h0) := by
  refine x_met hσ (by decide) (Nat.le_of_ble_eq_true rfl) ?_
  intro p e s m args below meth c hx hb hr hml hown hT hlk hnm hE hW ls hl
  have hl : lv_has ls 5 [(0, .ref (h0 + 268)), (1, .int (xJ j)), (2, .int (xJ n))] := hl
  obtain ⟨Q, eQ⟩ : ∃ Q, Q = MQ below (xQi D g h0 (fun r τ => xFr (fun k => k = 268 ∨ k = 269 ∨ k = 274 ∨ k = 275 ∨ k = 289 ∨ k = 290 ∨ k = 291 ∨ k = 292) s0 τ ∧ (((IMn τ) ∧ (IMk τ) ∧ (IMo τ) ∧ (τ 268 58 = s0 268 58) ∧ True) ∧ (((j < 0 ∨ 1 < j ∨ n < 1 ∨ 80 < n ∨ s0 268 8 < n) ∧ τ 268 8 = s0 268 8 ∧ r = -1) ∨ (¬ (j < 0 ∨ 1 < j ∨ n < 1 ∨ 80 < n ∨ s0 268 8 < n) ∧ τ 268 8 = 0))))) args s 0 0 (xA h0) := ⟨_, rfl⟩
  rw [← eQ]
  generalize hHe : ([] : List Loc) = locs at hW ⊢
  obtain ⟨H, eH⟩ : ∃ H, H = s.heap := ⟨_, rfl⟩
  rw [← eH] at hW ⊢
  have hF : xFr (fun k => k = 268 ∨ k = 269 ∨ k = 274 ∨ k = 275 ∨ k = 289 ∨ k = 290 ∨ k = 291 ∨ k = 292) s0 s0 := xFr.rf
  have k268_58 : s0 268 58 = s0 268 58 := rfl
  have k268_8 : s0 268 8 = s0 268 8 := rfl
  refine x_iload_n hx hb hl 1 rfl dX11_walk_0 rfl ?_
  refine x_iconst hx hb dX11_walk_1 ?_
  refine x_goi (x_runS (As := [.int (xJ j), .int (xJ 2)]) hx hb hml hown hT hE hW hl.1 cf_X11_isFive wq1412 wq1411 (c_X11_isFive l D g T h0 s0 hW.2.1 j rj 2 (by decide)) ⟨rfl, rfl, ⟨by decide, by decide⟩, ⟨by decide, by decide⟩⟩ rfl rfl (Nat.le_of_ble_eq_true rfl) dX11_walk_2) hW (fun x1 s2 H locs rx1 hp3 hW => ?_)
  obtain ⟨es2, hp3⟩ := hp3
  subst es2
  have ghp3 := hp3
  refine x_if_eq (tgt := 26) hx hb rx1 dX11_walk_5 (by decide) (fun c4 => ?_) (fun c4 => ?_)
  · skip
    refine x_iconst hx hb dX11_walk_26 ?_
    rw [eQ]
    exact x_iret hx hb hr hlk hW (by decide) ⟨hF, ⟨p0, p1, p2, k268_58, trivial⟩, by omega⟩ dX11_walk_27
  refine x_iload_n hx hb hl 2 rfl dX11_walk_8 rfl ?_
  refine x_iconst hx hb dX11_walk_9 ?_
  refine x_bipush hx hb dX11_walk_10 (by decide) ?_
  refine x_goi (x_runS (As := [.int (xJ n), .int (xJ 1), .int (xJ 80)]) hx hb hml hown hT hE hW hl.1 cf_X11_in wq1383 wq1382 (c_X11_in l D g T h0 s0 hW.2.1 n rn 1 (by decide) 80 (by decide)) ⟨rfl, rfl, ⟨by decide, by decide⟩, ⟨by decide, by decide⟩⟩ rfl rfl (Nat.le_of_ble_eq_true rfl) dX11_walk_12) hW (fun x5 s6 H locs rx5 hp7 hW => ?_)
  obtain ⟨es6, hp7⟩ := hp7
  subst es6
  have ghp7 := hp7
  refine x_if_eq (tgt := 26) hx hb rx5 dX11_walk_15 (by decide) (fun c8 => ?_) (fun c8 => ?_)
  · skip
    refine x_iconst hx hb dX11_walk_26 ?_
    rw [eQ]
    exact x_iret hx hb hr hlk hW (by decide) ⟨hF, ⟨p0, p1, p2, k268_58, trivial⟩, by omega⟩ dX11_walk_27
  refine x_iload_n hx hb hl 2 rfl dX11_walk_18 rfl ?_
  refine x_aload_n hx hb hl 0 rfl dX11_walk_19 rfl ?_
  refine x_get (j := 8) (v := .int (xJ (s0 268 8))) hx hb hown hT hE hW cls_X11 (Or.inl (by decide)) (so_268 h0 g _) (by decide) rfl wq1193 dX11_walk_20 ?_
  refine x_rd hW (fun x9 ex9 rx9 => ?_)
  have bx9 : 0 ≤ x9 ∧ x9 ≤ 260 := by rw [ex9]; exact IMn.t p0
  have fx9 : x9 = s0 268 8 := ex9.trans k268_8
  refine x_icmp_le (tgt := 28) hx hb rn rx9 dX11_walk_23 (by decide) (fun c10 => ?_) (fun c10 => ?_)
  · skip
    refine x_aload_n hx hb hl 0 rfl dX11_walk_28 rfl ?_
    refine x_iconst hx hb dX11_walk_29 ?_
    refine x_put (j := 9) hx hb hown hT hE hW cls_X11 (by decide) (fun σ => so_268 h0 g σ) (by decide) (st_X11_9 h0 s0 268 0) (ln_X11_9 h0 _ _) wq1194 rfl rfl rfl (by decide) dX11_walk_30 (fun H locs s11 es11 hW => ?_)
    have q12 : IMn s11 := by rw [es11]; exact IMn_268 p0 (by omega)
    have q13 : IMk s11 := by rw [es11]; exact IMk_268 p1 (by omega)
    have q14 : IMo s11 := by rw [es11]; exact IMo_o (by unfold suIMo; omega) p2
    have q15 : s11 268 58 = s0 268 58 := (show s11 268 58 = s0 268 58 from by rw [es11, xU_j _ _ (by decide)]).trans k268_58
    have q16 : s11 268 8 = s0 268 8 := (show s11 268 8 = s0 268 8 from by rw [es11, xU_j _ _ (by decide)]).trans k268_8
    have q17 : s11 268 9 = 0 := by rw [es11, xU_s]
    have hF18 := hF.put es11 (by omega)
    refine x_aload_n hx hb hl 0 rfl dX11_walk_33 rfl ?_
    refine x_iload_n hx hb hl 2 rfl dX11_walk_34 rfl ?_
    refine x_put (j := 10) hx hb hown hT hE hW cls_X11 (by decide) (fun σ => so_268 h0 g σ) (by decide) (st_X11_10 h0 s11 268 n) (ln_X11_10 h0 _ _) wq1195 rfl rfl rfl rn dX11_walk_35 (fun H locs s19 es19 hW => ?_)
    have q20 : IMn s19 := by rw [es19]; exact IMn_268 q12 (by omega)
    have q21 : IMk s19 := by rw [es19]; exact IMk_268 q13 (by omega)
    have q22 : IMo s19 := by rw [es19]; exact IMo_o (by unfold suIMo; omega) q14
    have q23 : s19 268 58 = s0 268 58 := (show s19 268 58 = s11 268 58 from by rw [es19, xU_j _ _ (by decide)]).trans q15
    have q24 : s19 268 8 = s0 268 8 := (show s19 268 8 = s11 268 8 from by rw [es19, xU_j _ _ (by decide)]).trans q16
    have q25 : s19 268 9 = 0 := (show s19 268 9 = s11 268 9 from by rw [es19, xU_j _ _ (by decide)]).trans q17
    have q26 : s19 268 10 = n := by rw [es19, xU_s]
    have hF27 := hF18.put es19 (by omega)
    have q28 : IR s19 := by unfold IR; omega
    refine x_aload_n hx hb hl 0 rfl dX11_walk_38 rfl ?_
    refine x_iconst hx hb dX11_walk_39 ?_
    refine x_put (j := 34) hx hb hown hT hE hW cls_X11 (by decide) (fun σ => so_268 h0 g σ) (by decide) (st_X11_34 h0 s19 268 0) (ln_X11_34 h0 _ _) wq1219 rfl rfl rfl (by decide) dX11_walk_40 (fun H locs s29 es29 hW => ?_)
    have q30 : IMn s29 := by rw [es29]; exact IMn_268 q20 (by omega)
    have q31 : IMk s29 := by rw [es29]; exact IMk_268 q21 (by omega)
    have q32 : IMo s29 := by rw [es29]; exact IMo_o (by unfold suIMo; omega) q22
    have q33 : s29 268 58 = s0 268 58 := (show s29 268 58 = s19 268 58 from by rw [es29, xU_j _ _ (by decide)]).trans q23
    have q34 : s29 268 8 = s0 268 8 := (show s29 268 8 = s19 268 8 from by rw [es29, xU_j _ _ (by decide)]).trans q24
    have q35 : s29 268 9 = 0 := (show s29 268 9 = s19 268 9 from by rw [es29, xU_j _ _ (by decide)]).trans q25
    have q36 : s29 268 10 = n := (show s29 268 10 = s19 268 10 from by rw [es29, xU_j _ _ (by decide)]).trans q26
    have q37 : IR s29 := by rw [es29]; exact IR_268 q28 (by omega)
    have q38 : s29 268 34 = 0 := by rw [es29, xU_s]
    have hF39 := hF27.put es29 (by omega)
    refine x_aload_n hx hb hl 0 rfl dX11_walk_43 rfl ?_
    refine x_iconst hx hb dX11_walk_44 ?_
    refine x_put (j := 35) hx hb hown hT hE hW cls_X11 (by decide) (fun σ => so_268 h0 g σ) (by decide) (st_X11_35 h0 s29 268 0) (ln_X11_35 h0 _ _) wq1220 rfl rfl rfl (by decide) dX11_walk_45 (fun H locs s40 es40 hW => ?_)
    have q41 : IMn s40 := by rw [es40]; exact IMn_268 q30 (by omega)
    have q42 : IMk s40 := by rw [es40]; exact IMk_268 q31 (by omega)
    have q43 : IMo s40 := by rw [es40]; exact IMo_o (by unfold suIMo; omega) q32
    have q44 : s40 268 58 = s0 268 58 := (show s40 268 58 = s29 268 58 from by rw [es40, xU_j _ _ (by decide)]).trans q33
    have q45 : s40 268 8 = s0 268 8 := (show s40 268 8 = s29 268 8 from by rw [es40, xU_j _ _ (by decide)]).trans q34
    have q46 : s40 268 9 = 0 := (show s40 268 9 = s29 268 9 from by rw [es40, xU_j _ _ (by decide)]).trans q35
    have q47 : s40 268 10 = n := (show s40 268 10 = s29 268 10 from by rw [es40, xU_j _ _ (by decide)]).trans q36
    have q48 : IR s40 := by rw [es40]; exact IR_268 q37 (by omega)
    have q49 : s40 268 34 = 0 := (show s40 268 34 = s29 268 34 from by rw [es40, xU_j _ _ (by decide)]).trans q38
    have q50 : s40 268 35 = 0 := by rw [es40, xU_s]
    have hF51 := hF39.put es40 (by omega)
    refine x_aload_n hx hb hl 0 rfl dX11_walk_48 rfl ?_
    refine x_goi (x_runV (As := []) hx hb hml hown hT hE hW hl.1 (Or.inl (by decide)) (so_268 h0 g _) rfl cf_X11_readsStep wq1446 wq112 wq1444 (c_X11_readsStep l D g T h0 s40 hW.2.1 (zRW.new (by omega) (by omega)) q41 q42 q43 q48) ⟨rfl, rfl, ⟨by decide, by decide⟩, ⟨by decide, by decide⟩⟩ rfl rfl (Nat.le_of_ble_eq_true rfl) dX11_walk_49) hW (fun x52 s53 H locs rx52 hp54 hW => ?_)
    obtain ⟨fs53, hp54⟩ := hp54
    have hF55 := hF51.call fs53 (fun k h => by omega)
    have ghp54 := hp54.2
    have A49 := ghp54
    refine lv_istore_n (lv' := [(3, .int (xJ x52)), (0, .ref (h0 + 268)), (1, .int (xJ j)), (2, .int (xJ n))]) hx hb dX11_walk_52 rfl hl (by decide) rfl (fun ls hl => ?_)
    have L53 : ∀ (fu : Nat) (i3_53 : Int) (s_53 : xS) (H : Heap) (locs : List Loc) (ls : Array Slot), (xR i3_53) → (xFr (fun k => k = 268 ∨ k = 269 ∨ k = 274 ∨ k = 275 ∨ k = 289 ∨ k = 290 ∨ k = 291 ∨ k = 292) s0 s_53) → (IMn s_53) → (IMk s_53) → (IMo s_53) → (IR s_53) → (s_53 268 8 = s0 268 8) → (s_53 268 58 = s0 268 58) → (s_53 268 10 = n) → (s_53 268 14 = s40 268 14) → (s_53 268 15 = s40 268 15) → (s_53 268 16 = s40 268 16) → (i3_53 = 0 ∨ (i3_53 = 1 ∧ zRW s_53)) → (2 * (241 - s_53 268 9) + i3_53).toNat < fu → xW D g h0 s H locs s_53 → lv_has ls 5 [(0, .ref (h0 + 268)), (1, .int (xJ j)), (3, .int (xJ i3_53))] → W p l e { frames := 3, cells := 0, slots := 0, locals := 70 } s m args below meth c H locs 0 0 Q (F0 m 53 ls []) := by
      intro fu
      induction fu with
      | zero => intro i3_53 s_53 H locs ls ri3_53 hF_53 q53_0 q53_1 q53_2 q53_3 q53_4 q53_5 q53_6 q53_7 q53_8 q53_9 v53_0 hm; exact absurd hm (Nat.not_lt_zero _)
      | succ fu ih53 =>
        intro i3_53 s_53 H locs ls ri3_53 hF_53 q53_0 q53_1 q53_2 q53_3 q53_4 q53_5 q53_6 q53_7 q53_8 q53_9 v53_0 hm hW hl
        have Y53 := q53_3
        unfold IR at Y53
        refine x_iload_n hx hb hl 2 rfl dX11_walk_53 rfl ?_
        have J83 : ∀ (ls : Array Slot), (i3_53 = 0 ∨ (i3_53 = 1 ∧ zRW s_53)) → lv_has ls 5 [(0, .ref (h0 + 268)), (1, .int (xJ j)), (3, .int (xJ i3_53))] → W p l e { frames := 3, cells := 0, slots := 0, locals := 70 } s m args below meth c H locs 0 0 Q (F0 m 83 ls []) := by
          intro ls v83_0  hl
          refine x_aload_n hx hb hl 0 rfl dX11_walk_83 rfl ?_
          refine x_iconst hx hb dX11_walk_84 ?_
          have q56 : s_53 268 34 = s_83 268 34 := rfl
          refine x_put (j := 8) hx hb hown hT hE hW cls_X11 (by decide) (fun σ => so_268 h0 g σ) (by decide) (st_X11_8 h0 s_53 268 0) (ln_X11_8 h0 _ _) wq1193 rfl rfl rfl (by decide) dX11_walk_85 (fun H locs s57 es57 hW => ?_)
          have q58 : IMn s57 := by rw [es57]; exact IMn_268 q53_0 (by omega)
          have q59 : IMk s57 := by rw [es57]; exact IMk_268 q53_1 (by omega)
          have q60 : IMo s57 := by rw [es57]; exact IMo_o (by unfold suIMo; omega) q53_2
          have q61 : IR s57 := by rw [es57]; exact IR_268 q53_3 (by omega)
          have q62 : s57 268 8 = 0 := by rw [es57, xU_s]
          have q63 : s57 268 58 = s0 268 58 := (show s57 268 58 = s_53 268 58 from by rw [es57, xU_j _ _ (by decide)]).trans q53_5
          have q64 : s57 268 10 = n := (show s57 268 10 = s_53 268 10 from by rw [es57, xU_j _ _ (by decide)]).trans q53_6
          have q65 : s57 268 14 = s40 268 14 := (show s57 268 14 = s_53 268 14 from by rw [es57, xU_j _ _ (by decide)]).trans q53_7
          have q66 : s57 268 15 = s40 268 15 := (show s57 268 15 = s_53 268 15 from by rw [es57, xU_j _ _ (by decide)]).trans q53_8
          have q67 : s57 268 16 = s40 268 16 := (show s57 268 16 = s_53 268 16 from by rw [es57, xU_j _ _ (by decide)]).trans q53_9
          have q68 : s57 268 34 = s_83 268 34 := (show s57 268 34 = s_53 268 34 from by rw [es57, xU_j _ _ (by decide)]).trans q56
          have hF69 := hF_53.put es57 (by omega)
          refine x_iload_n hx hb hl 2 rfl dX11_walk_88 rfl ?_
          refine x_if_ne (tgt := 97) hx hb ri3_53 dX11_walk_89 (by decide) (fun c70 => ?_) (fun c70 => ?_)
          · skip
            refine x_aload_n hx hb hl 0 rfl dX11_walk_97 rfl ?_
            refine x_get (j := 5) (v := .ref (h0 + 274)) hx hb hown hT hE hW cls_X11 (Or.inl (by decide)) (so_268 h0 g _) (by decide) rfl wq1190 dX11_walk_98 ?_
            have R98 := ((v83_0.resolve_left (by omega)).2).1
            refine x_iload_n hx hb hl 1 rfl dX11_walk_101 rfl ?_
            refine x_aload_n hx hb hl 0 rfl dX11_walk_102 rfl ?_
            refine x_get (j := 34) (v := .int (xJ (s57 268 34))) hx hb hown hT hE hW cls_X11 (Or.inl (by decide)) (so_268 h0 g _) (by decide) rfl wq1219 dX11_walk_103 ?_
            refine x_rd hW (fun x71 ex71 rx71 => ?_)
            have fx71 : x71 = s_83 268 34 := ex71.trans q68
            refine x_iast hx hb hE hW (by decide) (fun σ => sa_274 h0 g σ) (by omega) (by decide) rx71 dX11_walk_106 (fun H locs s72 es72 hW => ?_)
            have q73 : IMn s72 := by rw [es72]; exact IMn_274 q58 (by omega)
            have q74 : IMk s72 := by rw [es72]; exact IMk_o (by unfold suIMk; omega) q59
            have q75 : IMo s72 := by rw [es72]; exact IMo_o (by unfold suIMo; omega) q60
            have q76 : IR s72 := by rw [es72]; exact IR_o (by unfold suIR; omega) q61
            have q77 : s72 268 8 = 0 := (show s72 268 8 = s57 268 8 from by rw [es72, xU_k _ _ _ (by omega)]).trans q62
            have q78 : s72 268 58 = s0 268 58 := (show s72 268 58 = s57 268 58 from by rw [es72, xU_k _ _ _ (by omega)]).trans q63
            have q79 : s72 268 10 = n := (show s72 268 10 = s57 268 10 from by rw [es72, xU_k _ _ _ (by omega)]).trans q64
            have q80 : s72 268 14 = s40 268 14 := (show s72 268 14 = s57 268 14 from by rw [es72, xU_k _ _ _ (by omega)]).trans q65
            have q81 : s72 268 15 = s40 268 15 := (show s72 268 15 = s57 268 15 from by rw [es72, xU_k _ _ _ (by omega)]).trans q66
            have q82 : s72 268 16 = s40 268 16 := (show s72 268 16 = s57 268 16 from by rw [es72, xU_k _ _ _ (by omega)]).trans q67
            have q83 : s72 268 34 = s_83 268 34 := (show s72 268 34 = s57 268 34 from by rw [es72, xU_k _ _ _ (by omega)]).trans q68
            have hF84 := hF69.put es72 (by omega)
            refine x_aload_n hx hb hl 0 rfl dX11_walk_107 rfl ?_
            refine x_get (j := 0) (v := .ref (h0 + 269)) hx hb hown hT hE hW cls_X11 (Or.inl (by decide)) (so_268 h0 g _) (by decide) rfl wq1185 dX11_walk_108 ?_
            refine x_iconst hx hb dX11_walk_111 ?_
            refine x_iload_n hx hb hl 1 rfl dX11_walk_112 rfl ?_
            refine x_iadd hx hb dX11_walk_113 ?_
            refine x_iconst hx hb dX11_walk_114 ?_
            refine x_iast hx hb hE hW (by decide) (fun σ => sa_269 h0 g σ) (by omega) (by decide) (by decide) dX11_walk_115 (fun H locs s85 es85 hW => ?_)
            have q86 : IMn s85 := by rw [es85]; exact IMn_N269 q73 (by omega)
            have q87 : IMk s85 := by rw [es85]; exact IMk_o (by unfold suIMk; omega) q74
            have q88 : IMo s85 := by rw [es85]; exact IMo_o (by unfold suIMo; omega) q75
            have q89 : IR s85 := by rw [es85]; exact IR_o (by unfold suIR; omega) q76
            have q90 : s85 268 8 = 0 := (show s85 268 8 = s72 268 8 from by rw [es85, xU_k _ _ _ (by omega)]).trans q77
            have q91 : s85 268 58 = s0 268 58 := (show s85 268 58 = s72 268 58 from by rw [es85, xU_k _ _ _ (by omega)]).trans q78
            have q92 : s85 268 10 = n := (show s85 268 10 = s72 268 10 from by rw [es85, xU_k _ _ _ (by omega)]).trans q79
            have q93 : s85 268 14 = s40 268 14 := (show s85 268 14 = s72 268 14 from by rw [es85, xU_k _ _ _ (by omega)]).trans q80
            have q94 : s85 268 15 = s40 268 15 := (show s85 268 15 = s72 268 15 from by rw [es85, xU_k _ _ _ (by omega)]).trans q81
            have q95 : s85 268 16 = s40 268 16 := (show s85 268 16 = s72 268 16 from by rw [es85, xU_k _ _ _ (by omega)]).trans q82
            have q96 : s85 268 34 = s_83 268 34 := (show s85 268 34 = s72 268 34 from by rw [es85, xU_k _ _ _ (by omega)]).trans q83
            have hF97 := hF84.put es85 (by omega)
            refine x_iconst hx hb dX11_walk_116 ?_
            refine lv_istore (lv' := [(4, .int (xJ 0)), (0, .ref (h0 + 268)), (1, .int (xJ j)), (3, .int (xJ i3_53))]) hx hb dX11_walk_117 hl (by decide) rfl (fun ls hl => ?_)
            have L119 : ∀ (fu : Nat) (i4_119 : Int) (s_119 : xS) (H : Heap) (locs : List Loc) (ls : Array Slot), (xR i4_119) → (xFr (fun k => k = 268 ∨ k = 269 ∨ k = 274 ∨ k = 275 ∨ k = 289 ∨ k = 290 ∨ k = 291 ∨ k = 292) s0 s_119) → (IMn s_119) → (IMk s_119) → (IMo s_119) → (IR s_119) → (s_119 268 8 = 0) → (s_119 268 58 = s0 268 58) → (s_119 268 10 = n) → (s_119 268 14 = s40 268 14) → (s_119 268 15 = s40 268 15) → (s_119 268 16 = s40 268 16) → (s_119 268 34 = s_83 268 34) → (0 ≤ i4_119) → (60 - i4_119).toNat < fu → xW D g h0 s H locs s_119 → lv_has ls 5 [(0, .ref (h0 + 268)), (1, .int (xJ j)), (4, .int (xJ i4_119))] → W p l e { frames := 3, cells := 0, slots := 0, locals := 70 } s m args below meth c H locs 0 0 Q (F0 m 119 ls []) := by
              intro fu
              induction fu with
              | zero => intro i4_119 s_119 H locs ls ri4_119 hF_119 q119_0 q119_1 q119_2 q119_3 q119_4 q119_5 q119_6 q119_7 q119_8 q119_9 q119_10 v119_0 hm; exact absurd hm (Nat.not_lt_zero _)
              | succ fu ih119 =>
                intro i4_119 s_119 H locs ls ri4_119 hF_119 q119_0 q119_1 q119_2 q119_3 q119_4 q119_5 q119_6 q119_7 q119_8 q119_9 q119_10 v119_0 hm hW hl
                refine x_iload hx hb hl 2 rfl dX11_walk_119 ?_
                refine x_aload_n hx hb hl 0 rfl dX11_walk_121 rfl ?_
                refine x_get (j := 34) (v := .int (xJ (s_119 268 34))) hx hb hown hT hE hW cls_X11 (Or.inl (by decide)) (so_268 h0 g _) (by decide) rfl wq1219 dX11_walk_122 ?_
                refine x_rd hW (fun x98 ex98 rx98 => ?_)
                have fx98 : x98 = s_83 268 34 := ex98.trans q119_10
                refine x_icmp_ge (tgt := 153) hx hb ri4_119 rx98 dX11_walk_125 (by decide) (fun c99 => ?_) (fun c99 => ?_)
                · skip
                  refine x_aload_n hx hb hl 0 rfl dX11_walk_153 rfl ?_
                  refine x_get (j := 34) (v := .int (xJ (s_119 268 34))) hx hb hown hT hE hW cls_X11 (Or.inl (by decide)) (so_268 h0 g _) (by decide) rfl wq1219 dX11_walk_154 ?_
                  refine x_rd hW (fun x100 ex100 rx100 => ?_)
                  have fx100 : x100 = s_83 268 34 := ex100.trans q119_10
                  rw [eQ]
                  exact x_iret hx hb hr hlk hW rx100 ⟨hF_119, ⟨q119_0, q119_1, q119_2, q119_5, trivial⟩, by omega⟩ dX11_walk_157
                refine x_aload_n hx hb hl 0 rfl dX11_walk_128 rfl ?_
                refine x_get (j := 6) (v := .ref (h0 + 275)) hx hb hown hT hE hW cls_X11 (Or.inl (by decide)) (so_268 h0 g _) (by decide) rfl wq1191 dX11_walk_129 ?_
                refine x_bipush hx hb dX11_walk_132 (by decide) ?_
                refine x_iload_n hx hb hl 1 rfl dX11_walk_134 rfl ?_
                refine x_imul hx hb dX11_walk_135 ?_
                refine x_iload hx hb hl 2 rfl dX11_walk_136 ?_
                refine x_iadd hx hb dX11_walk_138 ?_
                refine x_aload_n hx hb hl 0 rfl dX11_walk_139 rfl ?_
                refine x_get (j := 30) (v := .ref (h0 + 289)) hx hb hown hT hE hW cls_X11 (Or.inl (by decide)) (so_268 h0 g _) (by decide) rfl wq1215 dX11_walk_140 ?_
                refine x_iload hx hb hl 2 rfl dX11_walk_143 ?_
                refine x_bald hx hb hE hW (Or.inl (by decide)) (sa_289 h0 g _) (by omega) (by decide) dX11_walk_145 ?_
                refine x_rd hW (fun x101 ex101 rx101 => ?_)
                obtain ⟨y103, ey103, ry103⟩ := xnb x101
                refine x_bast (w := y103) hx hb hE hW (by decide) (fun σ => sa_275 h0 g σ) (by omega) (by decide) ey103 ry103 dX11_walk_146 (fun H locs s102 es102 hW => ?_)
                have q104 : IMn s102 := by rw [es102]; exact IMn_o (by unfold suIMn; omega) q119_0
                have q105 : IMk s102 := by rw [es102]; exact IMk_o (by unfold suIMk; omega) q119_1
                have q106 : IMo s102 := by rw [es102]; exact IMo_o (by unfold suIMo; omega) q119_2
                have q107 : IR s102 := by rw [es102]; exact IR_o (by unfold suIR; omega) q119_3
                have q108 : s102 268 8 = 0 := (show s102 268 8 = s_119 268 8 from by rw [es102, xU_k _ _ _ (by omega)]).trans q119_4
                have q109 : s102 268 58 = s0 268 58 := (show s102 268 58 = s_119 268 58 from by rw [es102, xU_k _ _ _ (by omega)]).trans q119_5
                have q110 : s102 268 10 = n := (show s102 268 10 = s_119 268 10 from by rw [es102, xU_k _ _ _ (by omega)]).trans q119_6
                have q111 : s102 268 14 = s40 268 14 := (show s102 268 14 = s_119 268 14 from by rw [es102, xU_k _ _ _ (by omega)]).trans q119_7
                have q112 : s102 268 15 = s40 268 15 := (show s102 268 15 = s_119 268 15 from by rw [es102, xU_k _ _ _ (by omega)]).trans q119_8
                have q113 : s102 268 16 = s40 268 16 := (show s102 268 16 = s_119 268 16 from by rw [es102, xU_k _ _ _ (by omega)]).trans q119_9
                have q114 : s102 268 34 = s_83 268 34 := (show s102 268 34 = s_119 268 34 from by rw [es102, xU_k _ _ _ (by omega)]).trans q119_10
                have hF115 := hF_119.put es102 (by omega)
                refine x_iinc (lv' := [(4, .int (xJ (i4_119 + 1))), (0, .ref (h0 + 268)), (1, .int (xJ j))]) hx hb hl 2 rfl dX11_walk_147 (by decide) rfl (fun ls hl => ?_)
                refine lv_goto (tgt := 119) hx hb dX11_walk_150 (by decide) ?_
                exact ih119 (i4_119 + 1) s102 H locs ls (by omega) hF115 q104 q105 q106 q107 q108 q109 q110 q111 q112 q113 q114 (by omega) (by omega) hW (lv_sub hl [1, 2, 0] rfl)
            exact L119 ((60 - 0 : Int).toNat + 1) 0 s85 H locs ls (by decide) hF97 q86 q87 q88 q89 q90 q91 q92 q93 q94 q95 q96 (by omega) (Nat.lt_succ_self _) hW (lv_sub hl [1, 2, 0] rfl)
          refine x_aload_n hx hb hl 0 rfl dX11_walk_92 rfl ?_
          refine x_get (j := 11) (v := .int (xJ (s57 268 11))) hx hb hown hT hE hW cls_X11 (Or.inl (by decide)) (so_268 h0 g _) (by decide) rfl wq1196 dX11_walk_93 ?_
          refine x_rd hW (fun x116 ex116 rx116 => ?_)
          rw [eQ]
          exact x_iret hx hb hr hlk hW rx116 ⟨hF69, ⟨q58, q59, q60, q63, trivial⟩, by omega⟩ dX11_walk_96
        refine x_if_eq (tgt := 83) hx hb ri3_53 dX11_walk_54 (by decide) (fun c117 => ?_) (fun c117 => ?_)
        · skip
          exact J83 ls (v53_0)  (lv_sub hl [0, 1, 2] rfl)
        refine x_aload_n hx hb hl 0 rfl dX11_walk_57 rfl ?_
        refine x_get (j := 9) (v := .int (xJ (s_53 268 9))) hx hb hown hT hE hW cls_X11 (Or.inl (by decide)) (so_268 h0 g _) (by decide) rfl wq1194 dX11_walk_58 ?_
        refine x_rd hW (fun x118 ex118 rx118 => ?_)
        have bx118 : 0 ≤ x118 ∧ x118 ≤ s_53 268 10 ∧ s_53 268 10 ≤ 240 := by rw [ex118]; exact q53_3
        refine x_aload_n hx hb hl 0 rfl dX11_walk_61 rfl ?_
        refine x_get (j := 10) (v := .int (xJ (s_53 268 10))) hx hb hown hT hE hW cls_X11 (Or.inl (by decide)) (so_268 h0 g _) (by decide) rfl wq1195 dX11_walk_62 ?_
        refine x_rd hW (fun x119 ex119 rx119 => ?_)
        have fx119 : x119 = n := ex119.trans q53_6
        have J75 : ∀ (ls : Array Slot), lv_has ls 5 [(0, .ref (h0 + 268)), (1, .int (xJ j))] → W p l e { frames := 3, cells := 0, slots := 0, locals := 70 } s m args below meth c H locs 0 0 Q (F0 m 75 ls []) := by
          intro ls   hl
          refine x_aload_n hx hb hl 0 rfl dX11_walk_75 rfl ?_
          refine x_goi (x_runV (As := []) hx hb hml hown hT hE hW hl.1 (Or.inl (by decide)) (so_268 h0 g _) rfl cf_X11_readsStep wq1446 wq112 wq1444 (c_X11_readsStep l D g T h0 s_53 hW.2.1 ((v53_0.resolve_left (by omega)).2) q53_0 q53_1 q53_2 q53_3) ⟨rfl, rfl, ⟨by decide, by decide⟩, ⟨by decide, by decide⟩⟩ rfl rfl (Nat.le_of_ble_eq_true rfl) dX11_walk_76) hW (fun x120 s121 H locs rx120 hp122 hW => ?_)
          obtain ⟨fs121, hp122⟩ := hp122
          have hF123 := hF_53.call fs121 (fun k h => by omega)
          have ghp122 := hp122.2
          have A76 := ghp122
          refine lv_istore_n (lv' := [(3, .int (xJ x120)), (0, .ref (h0 + 268)), (1, .int (xJ j))]) hx hb dX11_walk_79 rfl hl (by decide) rfl (fun ls hl => ?_)
          refine lv_goto (tgt := 53) hx hb dX11_walk_80 (by decide) ?_
          exact ih53 x120 s121 H locs ls rx120 hF123 hp122.1.1 hp122.1.2.1 hp122.1.2.2.1 hp122.1.2.2.2.1 (hp122.1.2.2.2.2.1.trans q53_4) (hp122.1.2.2.2.2.2.1.trans q53_5) (hp122.1.2.2.2.2.2.2.1.trans q53_6) (hp122.1.2.2.2.2.2.2.2.1.trans q53_7) (hp122.1.2.2.2.2.2.2.2.2.1.trans q53_8) (hp122.1.2.2.2.2.2.2.2.2.2.1.trans q53_9) (A76.elim (fun q => Or.inl (by omega)) (fun q => Or.inr ⟨by omega, q.2.1⟩)) (by omega) hW (lv_sub hl [1, 2, 0] rfl)
        refine x_icmp_lt (tgt := 75) hx hb rx118 rx119 dX11_walk_65 (by decide) (fun c124 => ?_) (fun c124 => ?_)
        · skip
          exact J75 ls   (lv_sub hl [0, 1] rfl)
        refine x_aload_n hx hb hl 0 rfl dX11_walk_68 rfl ?_
        refine x_get (j := 35) (v := .int (xJ (s_53 268 35))) hx hb hown hT hE hW cls_X11 (Or.inl (by decide)) (so_268 h0 g _) (by decide) rfl wq1220 dX11_walk_69 ?_
        refine x_rd hW (fun x125 ex125 rx125 => ?_)
        refine x_if_le (tgt := 83) hx hb rx125 dX11_walk_72 (by decide) (fun c126 => ?_) (fun c126 => ?_)
        · skip
          exact J83 ls (v53_0)  (lv_sub hl [0, 1, 2] rfl)
        exact J75 ls   (lv_sub hl [0, 1] rfl)
    exact L53 ((2 * (241 - s53 268 9) + x52 : Int).toNat + 1) x52 s53 H locs ls rx52 hF55 hp54.1.1 hp54.1.2.1 hp54.1.2.2.1 hp54.1.2.2.2.1 (hp54.1.2.2.2.2.1.trans q45) (hp54.1.2.2.2.2.2.1.trans q44) (hp54.1.2.2.2.2.2.2.1.trans q47) hp54.1.2.2.2.2.2.2.2.1 hp54.1.2.2.2.2.2.2.2.2.1 hp54.1.2.2.2.2.2.2.2.2.2.1 (A49.elim (fun q => Or.inl (by omega)) (fun q => Or.inr ⟨by omega, q.2.1⟩)) (Nat.lt_succ_self _) hW (lv_sub hl [1, 2, 0] rfl)
  refine x_iconst hx hb dX11_walk_26 ?_
  rw [eQ]
  exact x_iret hx hb hr hlk hW (by decide) ⟨hF, ⟨p0, p1, p2, k268_58, trivial⟩, by omega⟩ dX11_walk_27
