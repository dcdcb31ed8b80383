set_option maxHeartbeats 4000000 in
set_option maxRecDepth 100000 in
theorem c_X11_minutesGoJ (l : Launch) (D : va_G) (g : xG) (T : Nat × Nat × Nat) (h0 : Nat) (s0 : xS) (hσ : xRR s0) (n : Int) (rn : xR n) (K9 : Int → Int) (n9 : Int → Int) (w9 : Int → Int → Int) (hK : ∀ t : Int, 0 ≤ t → t < 100 → s0 272 t = K9 t ∧ 0 ≤ K9 t ∧ K9 t ≤ 3) (hw : ∀ j : Int, 0 ≤ j → j < 2 → s0 274 j = n9 j ∧ ∀ i : Int, 0 ≤ i → i < n9 j → s0 275 (60 * j + i) = w9 j i) (p0 : IMn s0) (p1 : IMk s0) (p2 : IMo s0) : Met l yX11_minutesGo (xws yX11_minutesGo cX11_minutesGo 3 none) { frames := 8, cells := 0, slots := 0, locals := 187 } (xP [.ref (h0 + 268), .int (xJ n)] D g T h0 s0) (xQv D g h0 (fun τ => xFr (fun k => k = 268 ∨ k = 269 ∨ k = 293 ∨ k = 294 ∨ k = 295 ∨ k = 296 ∨ k = 297 ∨ k = 298 ∨ k = 299) s0 τ ∧ (((IMn τ) ∧ (IMk τ) ∧ (IMo τ) ∧ (τ 268 8 = s0 268 8) ∧ (τ 268 58 = s0 268 58) ∧ (τ 269 34 = s0 269 34) ∧ True) ∧ (zrt (τ 269) = zjn K9 n9 w9 (τ 269 37 - s0 269 37).toNat (zrt (s0 269)) ∧ s0 269 37 ≤ τ 269 37 ∧ (0 ≤ n → (τ 269 37 = s0 269 37 + n ∨ (9999 ≤ τ 269 37 ∧ s0 269 37 ≤ τ 269 37 ∧ τ 269 37 ≤ s0 269 37 + n))))))) 0 0 (xA h0) := by
  refine x_met hσ (by decide) (Nat.le_of_ble_eq_true rfl) ?_
  intro p e s m args below meth c hx hb hr hml hown hT hlk hnm hE hW ls hl
  have hl : lv_has ls 3 [(0, .ref (h0 + 268)), (1, .int (xJ n))] := hl
  obtain ⟨Q, eQ⟩ : ∃ Q, Q = MQ below (xQv D g h0 (fun τ => xFr (fun k => k = 268 ∨ k = 269 ∨ k = 293 ∨ k = 294 ∨ k = 295 ∨ k = 296 ∨ k = 297 ∨ k = 298 ∨ k = 299) s0 τ ∧ (((IMn τ) ∧ (IMk τ) ∧ (IMo τ) ∧ (τ 268 8 = s0 268 8) ∧ (τ 268 58 = s0 268 58) ∧ (τ 269 34 = s0 269 34) ∧ True) ∧ (zrt (τ 269) = zjn K9 n9 w9 (τ 269 37 - s0 269 37).toNat (zrt (s0 269)) ∧ s0 269 37 ≤ τ 269 37 ∧ (0 ≤ n → (τ 269 37 = s0 269 37 + n ∨ (9999 ≤ τ 269 37 ∧ s0 269 37 ≤ τ 269 37 ∧ τ 269 37 ≤ s0 269 37 + n))))))) args s 0 0 (xA h0) := ⟨_, rfl⟩
  rw [← eQ]
  generalize hHe : ([] : List Loc) = locs at hW ⊢
  obtain ⟨H, eH⟩ : ∃ H, H = s.heap := ⟨_, rfl⟩
  rw [← eH] at hW ⊢
  have hF : xFr (fun k => k = 268 ∨ k = 269 ∨ k = 293 ∨ k = 294 ∨ k = 295 ∨ k = 296 ∨ k = 297 ∨ k = 298 ∨ k = 299) s0 s0 := xFr.rf
  have k268_8 : s0 268 8 = s0 268 8 := rfl
  have k268_58 : s0 268 58 = s0 268 58 := rfl
  have k269_34 : s0 269 34 = s0 269 34 := rfl
  have k269_37 : s0 269 37 = s0 269 37 := rfl
  refine x_aload_n hx hb hl 0 rfl dX11_minutesGo_0 rfl ?_
  refine x_gov (x_runV (As := []) hx hb hml hown hT hE hW hl.1 (Or.inl (by decide)) (so_268 h0 g _) rfl cf_X11_begins wq1543 wq131 wq1541 (c_X11_begins l D g T h0 s0 hW.2.1 p0 p1 p2) ⟨rfl, rfl, ⟨by decide, by decide⟩, ⟨by decide, by decide⟩⟩ rfl rfl (Nat.le_of_ble_eq_true rfl) dX11_minutesGo_1) hW (fun s2 H locs hp3 hW => ?_)
  obtain ⟨fs2, hp3⟩ := hp3
  have hF4 := hF.call fs2 (fun k h => by omega)
  have q5 : s2 269 34 = s0 269 34 := (congrFun (fs2 _ (by omega)) _).trans k269_34
  have q6 : s2 269 37 = s0 269 37 := (congrFun (fs2 _ (by omega)) _).trans k269_37
  have ghp3 := hp3.2
  refine x_iconst hx hb dX11_minutesGo_4 ?_
  refine lv_istore_n (lv' := [(2, .int (xJ 0)), (0, .ref (h0 + 268)), (1, .int (xJ n))]) hx hb dX11_minutesGo_5 rfl hl (by decide) rfl (fun ls hl => ?_)
  have L6 : ∀ (fu : Nat) (i2_6 : Int) (s_6 : xS) (H : Heap) (locs : List Loc) (ls : Array Slot), (xR i2_6) → (xFr (fun k => k = 268 ∨ k = 269 ∨ k = 293 ∨ k = 294 ∨ k = 295 ∨ k = 296 ∨ k = 297 ∨ k = 298 ∨ k = 299) s0 s_6) → (s_6 269 34 = s0 269 34) → (IMn s_6) → (IMk s_6) → (IMo s_6) → (s_6 268 8 = s0 268 8) → (s_6 268 58 = s0 268 58) → (0 ≤ i2_6) → (s_6 269 37 = s0 269 37 + i2_6) → (0 ≤ n → i2_6 ≤ n) → (zrt (s_6 269) = zjn K9 n9 w9 (i2_6).toNat (zrt (s0 269))) → (n + 1 - i2_6).toNat < fu → xW D g h0 s H locs s_6 → lv_has ls 3 [(0, .ref (h0 + 268)), (1, .int (xJ n)), (2, .int (xJ i2_6))] → W p l e { frames := 8, cells := 0, slots := 0, locals := 187 } s m args below meth c H locs 0 0 Q (F0 m 6 ls []) := by
    intro fu
    induction fu with
    | zero => intro i2_6 s_6 H locs ls ri2_6 hF_6 q6_0 q6_2 q6_3 q6_4 q6_5 q6_6 v6_0 v6_1 v6_2 v6_3 hm; exact absurd hm (Nat.not_lt_zero _)
    | succ fu ih6 =>
      intro i2_6 s_6 H locs ls ri2_6 hF_6 q6_0 q6_2 q6_3 q6_4 q6_5 q6_6 v6_0 v6_1 v6_2 v6_3 hm hW hl
      have hm_6 := fun (_ : Unit) => hm
      clear hm
      refine x_iload_n hx hb hl 2 rfl dX11_minutesGo_6 rfl ?_
      refine x_iload_n hx hb hl 1 rfl dX11_minutesGo_7 rfl ?_
      refine x_icmp_ge (tgt := 44) hx hb ri2_6 rn dX11_minutesGo_8 (by decide) (fun c7 => ?_) (fun c7 => ?_)
      · skip
        rw [eQ]
        exact x_vret hx hb hr hlk hW ⟨hF_6, ⟨q6_2, q6_3, q6_4, q6_5, q6_6, q6_0, trivial⟩, ⟨by rw [show (s_6 269 37 - s0 269 37).toNat = i2_6.toNat from by omega]; exact v6_3, by omega, by omega⟩⟩ dX11_minutesGo_44
      refine x_aload_n hx hb hl 0 rfl dX11_minutesGo_11 rfl ?_
      refine x_get (j := 0) (v := .ref (h0 + 269)) hx hb hown hT hE hW cls_X11 (Or.inl (by decide)) (so_268 h0 g _) (by decide) rfl wq1185 dX11_minutesGo_12 ?_
      refine x_bipush hx hb dX11_minutesGo_15 (by decide) ?_
      refine x_iald hx hb hE hW (Or.inl (by decide)) (sa_269 h0 g _) ⟨by decide, by decide⟩ (by decide) dX11_minutesGo_17 ?_
      refine x_rd hW (fun x8 ex8 rx8 => ?_)
      have bx8 : 0 ≤ x8 ∧ x8 ≤ 9999 := by rw [ex8]; exact (IMn.n1 q6_2).2.2.2.1
      have q9 : s_6 269 37 = x8 := ex8.symm
      refine x_sipush hx hb dX11_minutesGo_18 (by decide) ?_
      refine x_icmp_ge (tgt := 44) hx hb rx8 (by decide) dX11_minutesGo_21 (by decide) (fun c10 => ?_) (fun c10 => ?_)
      · skip
        rw [eQ]
        exact x_vret hx hb hr hlk hW ⟨hF_6, ⟨q6_2, q6_3, q6_4, q6_5, q6_6, q6_0, trivial⟩, ⟨by rw [show (s_6 269 37 - s0 269 37).toNat = i2_6.toNat from by omega]; exact v6_3, by omega, by omega⟩⟩ dX11_minutesGo_44
      refine x_aload_n hx hb hl 0 rfl dX11_minutesGo_24 rfl ?_
      refine x_iconst hx hb dX11_minutesGo_25 ?_
      refine x_gov (x_runV (As := [.int (xJ 0)]) hx hb hml hown hT hE hW hl.1 (Or.inl (by decide)) (so_268 h0 g _) rfl cf_X11_walksOn wq1547 wq132 wq1545 (c_X11_walksOnJ l D g T h0 s_6 hW.2.1 0 (by decide) K9 n9 w9 (by omega) (by first | exact hK | exact fun t t1 t2 => by rw [hF_6 272 (by first | decide | omega)]; exact hK t t1 t2) (by first | exact hw | exact (by rw [hF_6 274 (by first | decide | omega), hF_6 275 (by first | decide | omega)]; exact hw)) q6_2 q6_3 q6_4) ⟨rfl, rfl, ⟨by decide, by decide⟩, ⟨by decide, by decide⟩⟩ rfl rfl (Nat.le_of_ble_eq_true rfl) dX11_minutesGo_26) hW (fun s12 H locs hp13 hW => ?_)
      obtain ⟨fs12, hp13⟩ := hp13
      have hF14 := hF_6.call fs12 (fun k h => by omega)
      have q15 : s12 268 8 = s0 268 8 := (congrFun (fs12 _ (by omega)) _).trans q6_5
      have q16 : s12 268 58 = s0 268 58 := (congrFun (fs12 _ (by omega)) _).trans q6_6
      have ghp13 := hp13.2
      have H26 := ghp13.1
      refine x_aload_n hx hb hl 0 rfl dX11_minutesGo_29 rfl ?_
      refine x_iconst hx hb dX11_minutesGo_30 ?_
      refine x_gov (x_runV (As := [.int (xJ 1)]) hx hb hml hown hT hE hW hl.1 (Or.inl (by decide)) (so_268 h0 g _) rfl cf_X11_walksOn wq1547 wq132 wq1545 (c_X11_walksOnJ l D g T h0 s12 hW.2.1 1 (by decide) K9 n9 w9 (by omega) (by first | exact hK | exact fun t t1 t2 => by rw [hF14 272 (by first | decide | omega)]; exact hK t t1 t2) (by first | exact hw | exact (by rw [hF14 274 (by first | decide | omega), hF14 275 (by first | decide | omega)]; exact hw)) hp13.1.1 hp13.1.2.1 hp13.1.2.2.1) ⟨rfl, rfl, ⟨by decide, by decide⟩, ⟨by decide, by decide⟩⟩ rfl rfl (Nat.le_of_ble_eq_true rfl) dX11_minutesGo_31) hW (fun s18 H locs hp19 hW => ?_)
      obtain ⟨fs18, hp19⟩ := hp19
      have hF20 := hF14.call fs18 (fun k h => by omega)
      have q21 : s18 268 8 = s0 268 8 := (congrFun (fs18 _ (by omega)) _).trans q15
      have q22 : s18 268 58 = s0 268 58 := (congrFun (fs18 _ (by omega)) _).trans q16
      have ghp19 := hp19.2
      have H31 := ghp19.1
      have Q31 : zrt (s18 269) = zjs K9 n9 w9 (zrt (s_6 269)) := H31.trans (congrArg (zjk K9 n9 w9 1) H26)
      refine x_aload_n hx hb hl 0 rfl dX11_minutesGo_34 rfl ?_
      refine x_gov (x_runV (As := []) hx hb hml hown hT hE hW hl.1 (Or.inl (by decide)) (so_268 h0 g _) rfl cf_X11_shadesGo wq1564 wq134 wq1562 (c_X11_shadesGoJ l D g T h0 s18 hW.2.1 (by have := (hp19.1.2.2.2.1.trans (hp13.1.2.2.2.1.trans q9)); omega) hp19.1.1 hp19.1.2.1 hp19.1.2.2.1) ⟨rfl, rfl, ⟨by decide, by decide⟩, ⟨by decide, by decide⟩⟩ rfl rfl (Nat.le_of_ble_eq_true rfl) dX11_minutesGo_35) hW (fun s24 H locs hp25 hW => ?_)
      obtain ⟨fs24, hp25⟩ := hp25
      have hF26 := hF20.call fs24 (fun k h => by omega)
      have ghp25 := hp25.2
      have Q35 : zrt (s24 269) = zjs K9 n9 w9 (zrt (s_6 269)) := (zrt_f (by omega) (by omega) (by omega) (by omega) (by omega)).trans Q31
      refine x_iinc (lv' := [(2, .int (xJ (i2_6 + 1))), (0, .ref (h0 + 268)), (1, .int (xJ n))]) hx hb hl 2 rfl dX11_minutesGo_38 (by decide) rfl (fun ls hl => ?_)
      refine lv_goto (tgt := 6) hx hb dX11_minutesGo_41 (by decide) ?_
      exact ih6 (i2_6 + 1) s24 H locs ls (by omega) hF26 (hp25.1.2.2.2.2.2.2.2.2.2.1.trans (hp19.1.2.2.2.2.1.trans (hp13.1.2.2.2.2.1.trans q6_0))) hp25.1.1 hp25.1.2.1 hp25.1.2.2.1 (hp25.1.2.2.2.1.trans q21) (hp25.1.2.2.2.2.1.trans q22) (by omega) (by omega) (by omega) (((zjn_n (K := K9) (n := n9) (w := w9) (q := i2_6.toNat) (by omega)).trans ((congrArg (zjs K9 n9 w9) v6_3.symm).trans Q35.symm)).symm) (by have hm := hm_6 (); omega) hW (lv_sub hl [1, 2, 0] rfl)
  exact L6 ((n + 1 - 0 : Int).toNat + 1) 0 s2 H locs ls (by decide) hF4 q5 hp3.1.1 hp3.1.2.1 hp3.1.2.2.1 (hp3.1.2.2.2.1.trans k268_8) (hp3.1.2.2.2.2.1.trans k268_58) (by omega) (by omega) (by omega) (by first | rfl | (rw [fs2 269 (by first | decide | omega)]; rfl)) (Nat.lt_succ_self _) hW (lv_sub hl [1, 2, 0] rfl)
set_option maxHeartbeats 4000000 in
set_option maxRecDepth 100000 in
theorem c_X11_minutesJ (l : Launch) (D : va_G) (g : xG) (T : Nat × Nat × Nat) (h0 : Nat) (s0 : xS) (hσ : xRR s0) (n : Int) (rn : xR n) (K9 : Int → Int) (n9 : Int → Int) (w9 : Int → Int → Int) (hK : ∀ t : Int, 0 ≤ t → t < 100 → s0 272 t = K9 t ∧ 0 ≤ K9 t ∧ K9 t ≤ 3) (hw : ∀ j : Int, 0 ≤ j → j < 2 → s0 274 j = n9 j ∧ ∀ i : Int, 0 ≤ i → i < n9 j → s0 275 (60 * j + i) = w9 j i) (p0 : IMn s0) (p1 : IMk s0) (p2 : IMo s0) : Met l yX11_minutes (xws yX11_minutes cX11_minutes 2 (some .int)) { frames := 9, cells := 0, slots := 0, locals := 209 } (xP [.ref (h0 + 268), .int (xJ n)] D g T h0 s0) (xQi D g h0 (fun r τ => xFr (fun k => k = 268 ∨ k = 269 ∨ k = 293 ∨ k = 294 ∨ k = 295 ∨ k = 296 ∨ k = 297 ∨ k = 298 ∨ k = 299) s0 τ ∧ (((IMn τ) ∧ (IMk τ) ∧ (IMo τ) ∧ (τ 268 8 = s0 268 8) ∧ (τ 268 58 = s0 268 58) ∧ (τ 269 34 = s0 269 34) ∧ True) ∧ ((1 ≤ n ∧ n ≤ 120 ∧ zrt (τ 269) = zjn K9 n9 w9 (τ 269 37 - s0 269 37).toNat (zrt (s0 269)) ∧ s0 269 37 ≤ τ 269 37 ∧ (τ 269 37 = s0 269 37 + n ∨ (9999 ≤ τ 269 37 ∧ s0 269 37 ≤ τ 269 37 ∧ τ 269 37 ≤ s0 269 37 + n))) ∨ (¬ (1 ≤ n ∧ n ≤ 120) ∧ τ 269 37 = s0 269 37 ∧ τ 269 = s0 269 ∧ r = -1))))) 0 0 (xA h0) := by
  refine x_met hσ (by decide) (Nat.le_of_ble_eq_true rfl) ?_
  intro p e s m args below meth c hx hb hr hml hown hT hlk hnm hE hW ls hl
  have hl : lv_has ls 2 [(0, .ref (h0 + 268)), (1, .int (xJ n))] := hl
  obtain ⟨Q, eQ⟩ : ∃ Q, Q = MQ below (xQi D g h0 (fun r τ => xFr (fun k => k = 268 ∨ k = 269 ∨ k = 293 ∨ k = 294 ∨ k = 295 ∨ k = 296 ∨ k = 297 ∨ k = 298 ∨ k = 299) s0 τ ∧ (((IMn τ) ∧ (IMk τ) ∧ (IMo τ) ∧ (τ 268 8 = s0 268 8) ∧ (τ 268 58 = s0 268 58) ∧ (τ 269 34 = s0 269 34) ∧ True) ∧ ((1 ≤ n ∧ n ≤ 120 ∧ zrt (τ 269) = zjn K9 n9 w9 (τ 269 37 - s0 269 37).toNat (zrt (s0 269)) ∧ s0 269 37 ≤ τ 269 37 ∧ (τ 269 37 = s0 269 37 + n ∨ (9999 ≤ τ 269 37 ∧ s0 269 37 ≤ τ 269 37 ∧ τ 269 37 ≤ s0 269 37 + n))) ∨ (¬ (1 ≤ n ∧ n ≤ 120) ∧ τ 269 37 = s0 269 37 ∧ τ 269 = s0 269 ∧ r = -1))))) args s 0 0 (xA h0) := ⟨_, rfl⟩
  rw [← eQ]
  generalize hHe : ([] : List Loc) = locs at hW ⊢
  obtain ⟨H, eH⟩ : ∃ H, H = s.heap := ⟨_, rfl⟩
  rw [← eH] at hW ⊢
  have hF : xFr (fun k => k = 268 ∨ k = 269 ∨ k = 293 ∨ k = 294 ∨ k = 295 ∨ k = 296 ∨ k = 297 ∨ k = 298 ∨ k = 299) s0 s0 := xFr.rf
  have k268_8 : s0 268 8 = s0 268 8 := rfl
  have k268_58 : s0 268 58 = s0 268 58 := rfl
  have k269_34 : s0 269 34 = s0 269 34 := rfl
  have k269_37 : s0 269 37 = s0 269 37 := rfl
  refine x_iload_n hx hb hl 1 rfl dX11_minutes_0 rfl ?_
  refine x_iconst hx hb dX11_minutes_1 ?_
  refine x_bipush hx hb dX11_minutes_2 (by decide) ?_
  refine x_goi (x_runS (As := [.int (xJ n), .int (xJ 1), .int (xJ 120)]) hx hb hml hown hT hE hW hl.1 cf_X11_in wq1383 wq1382 (c_X11_in l D g T h0 s0 hW.2.1 n rn 1 (by decide) 120 (by decide)) ⟨rfl, rfl, ⟨by decide, by decide⟩, ⟨by decide, by decide⟩⟩ rfl rfl (Nat.le_of_ble_eq_true rfl) dX11_minutes_4) hW (fun x1 s2 H locs rx1 hp3 hW => ?_)
  obtain ⟨es2, hp3⟩ := hp3
  subst es2
  have ghp3 := hp3
  refine x_if_ne (tgt := 12) hx hb rx1 dX11_minutes_7 (by decide) (fun c4 => ?_) (fun c4 => ?_)
  · skip
    refine x_aload_n hx hb hl 0 rfl dX11_minutes_12 rfl ?_
    refine x_iload_n hx hb hl 1 rfl dX11_minutes_13 rfl ?_
    refine x_gov (x_runV (As := [.int (xJ n)]) hx hb hml hown hT hE hW hl.1 (Or.inl (by decide)) (so_268 h0 g _) rfl cf_X11_minutesGo wq1539 wq130 wq1537 (c_X11_minutesGoJ l D g T h0 s0 hW.2.1 n rn K9 n9 w9 (by first | exact hK | exact fun t t1 t2 => by rw [hF 272 (by omega)]; exact hK t t1 t2) (by first | exact hw | exact (by rw [hF 274 (by omega), hF 275 (by omega)]; exact hw)) p0 p1 p2) ⟨rfl, rfl, ⟨by decide, by decide⟩, ⟨by decide, by decide⟩⟩ rfl rfl (Nat.le_of_ble_eq_true rfl) dX11_minutes_14) hW (fun s6 H locs hp7 hW => ?_)
    obtain ⟨fs6, hp7⟩ := hp7
    have hF8 := hF.call fs6 (fun k h => by omega)
    have ghp7 := hp7.2
    have H14 := ghp7
    refine x_aload_n hx hb hl 0 rfl dX11_minutes_17 rfl ?_
    refine x_get (j := 41) (v := .int (xJ (s6 268 41))) hx hb hown hT hE hW cls_X11 (Or.inl (by decide)) (so_268 h0 g _) (by decide) rfl wq1226 dX11_minutes_18 ?_
    refine x_rd hW (fun x9 ex9 rx9 => ?_)
    rw [eQ]
    exact x_iret hx hb hr hlk hW rx9 ⟨hF8, ⟨hp7.1.1, hp7.1.2.1, hp7.1.2.2.1, (hp7.1.2.2.2.1.trans k268_8), (hp7.1.2.2.2.2.1.trans k268_58), (hp7.1.2.2.2.2.2.1.trans k269_34), trivial⟩, Or.inl ⟨by omega, by omega, H14.1, H14.2.1, by have y := H14.2.2; omega⟩⟩ dX11_minutes_21
  refine x_iconst hx hb dX11_minutes_10 ?_
  rw [eQ]
  exact x_iret hx hb hr hlk hW (by decide) ⟨hF, ⟨p0, p1, p2, k268_8, k268_58, k269_34, trivial⟩, Or.inr ⟨by omega, by omega, rfl, by omega⟩⟩ dX11_minutes_11
set_option maxHeartbeats 4000000 in
set_option maxRecDepth 100000 in
theorem c_X11_triedT (l : Launch) (D : va_G) (g : xG) (T : Nat × Nat × Nat) (h0 : Nat) (s0 : xS) (hσ : xRR s0) (n : Int) (rn : xR n) (x : Int) (rx : xR x) (p0 : IMn s0) (p1 : IMk s0) (p2 : IMo s0) : Met l yX11_tried (xws yX11_tried cX11_tried 5 (some .int)) { frames := 9, cells := 0, slots := 0, locals := 209 } (xP [.ref (h0 + 268), .int (xJ n), .int (xJ x)] D g T h0 s0) (xQi D g h0 (fun r τ => xFr (fun k => k = 268 ∨ k = 269 ∨ k = 270 ∨ k = 293 ∨ k = 294 ∨ k = 295 ∨ k = 296 ∨ k = 297 ∨ k = 298 ∨ k = 299) s0 τ ∧ (((IMn τ) ∧ (IMk τ) ∧ (IMo τ) ∧ (τ 268 8 = s0 268 8) ∧ (τ 268 58 = s0 268 58) ∧ (τ 269 0 = s0 269 0) ∧ (τ 269 1 = s0 269 1) ∧ (τ 269 2 = s0 269 2) ∧ (τ 269 3 = s0 269 3) ∧ (τ 269 34 = s0 269 34) ∧ (τ 269 37 = s0 269 37) ∧ True) ∧ (True)))) 0 0 (xA h0) := by
  refine x_met hσ (by decide) (Nat.le_of_ble_eq_true rfl) ?_
  intro p e s m args below meth c hx hb hr hml hown hT hlk hnm hE hW ls hl
  have hl : lv_has ls 5 [(0, .ref (h0 + 268)), (1, .int (xJ n)), (2, .int (xJ x))] := hl
  obtain ⟨Q, eQ⟩ : ∃ Q, Q = MQ below (xQi D g h0 (fun r τ => xFr (fun k => k = 268 ∨ k = 269 ∨ k = 270 ∨ k = 293 ∨ k = 294 ∨ k = 295 ∨ k = 296 ∨ k = 297 ∨ k = 298 ∨ k = 299) s0 τ ∧ (((IMn τ) ∧ (IMk τ) ∧ (IMo τ) ∧ (τ 268 8 = s0 268 8) ∧ (τ 268 58 = s0 268 58) ∧ (τ 269 0 = s0 269 0) ∧ (τ 269 1 = s0 269 1) ∧ (τ 269 2 = s0 269 2) ∧ (τ 269 3 = s0 269 3) ∧ (τ 269 34 = s0 269 34) ∧ (τ 269 37 = s0 269 37) ∧ True) ∧ (True)))) args s 0 0 (xA h0) := ⟨_, rfl⟩
  rw [← eQ]
  generalize hHe : ([] : List Loc) = locs at hW ⊢
  obtain ⟨H, eH⟩ : ∃ H, H = s.heap := ⟨_, rfl⟩
  rw [← eH] at hW ⊢
  have hF : xFr (fun k => k = 268 ∨ k = 269 ∨ k = 270 ∨ k = 293 ∨ k = 294 ∨ k = 295 ∨ k = 296 ∨ k = 297 ∨ k = 298 ∨ k = 299) s0 s0 := xFr.rf
  have k268_8 : s0 268 8 = s0 268 8 := rfl
  have k268_58 : s0 268 58 = s0 268 58 := rfl
  have k269_0 : s0 269 0 = s0 269 0 := rfl
  have k269_1 : s0 269 1 = s0 269 1 := rfl
  have k269_2 : s0 269 2 = s0 269 2 := rfl
  have k269_3 : s0 269 3 = s0 269 3 := rfl
  have k269_34 : s0 269 34 = s0 269 34 := rfl
  have k269_37 : s0 269 37 = s0 269 37 := rfl
  refine x_iload_n hx hb hl 2 rfl dX11_tried_0 rfl ?_
  refine x_iconst hx hb dX11_tried_1 ?_
  refine x_iconst hx hb dX11_tried_2 ?_
  refine x_goi (x_runS (As := [.int (xJ x), .int (xJ 0), .int (xJ 5)]) hx hb hml hown hT hE hW hl.1 cf_X11_in wq1383 wq1382 (c_X11_in l D g T h0 s0 hW.2.1 x rx 0 (by decide) 5 (by decide)) ⟨rfl, rfl, ⟨by decide, by decide⟩, ⟨by decide, by decide⟩⟩ rfl rfl (Nat.le_of_ble_eq_true rfl) dX11_tried_3) hW (fun x1 s2 H locs rx1 hp3 hW => ?_)
  obtain ⟨es2, hp3⟩ := hp3
  subst es2
  have ghp3 := hp3
  have J58 : ∀ (t0_58 : Int) (H : Heap) (locs : List Loc) (ls : Array Slot), (xR t0_58) → (t0_58 = 0 ∨ (t0_58 = 1 ∧ ((0 ≤ x ∧ x ≤ 5) ∨ (10 ≤ x ∧ x ≤ 31)))) → xW D g h0 s H locs s0 → lv_has ls 5 [(0, .ref (h0 + 268)), (1, .int (xJ n)), (2, .int (xJ x))] → W p l e { frames := 9, cells := 0, slots := 0, locals := 209 } s m args below meth c H locs 0 0 Q (F0 m 58 ls [.int (xJ t0_58)]) := by
    intro t0_58 H locs ls rt0_58 v58_0 hW hl
    refine lv_istore_n (lv' := [(3, .int (xJ t0_58)), (0, .ref (h0 + 268)), (1, .int (xJ n)), (2, .int (xJ x))]) hx hb dX11_tried_58 rfl hl (by decide) rfl (fun ls hl => ?_)
    refine x_iload_n hx hb hl 2 rfl dX11_tried_59 rfl ?_
    refine x_iconst hx hb dX11_tried_60 ?_
    refine x_bipush hx hb dX11_tried_61 (by decide) ?_
    refine x_goi (x_runS (As := [.int (xJ n), .int (xJ 1), .int (xJ 120)]) hx hb hml hown hT hE hW hl.1 cf_X11_in wq1383 wq1382 (c_X11_in l D g T h0 s0 hW.2.1 n rn 1 (by decide) 120 (by decide)) ⟨rfl, rfl, ⟨by decide, by decide⟩, ⟨by decide, by decide⟩⟩ rfl rfl (Nat.le_of_ble_eq_true rfl) dX11_tried_63) hW (fun x4 s5 H locs rx4 hp6 hW => ?_)
    obtain ⟨es5, hp6⟩ := hp6
    subst es5
    have ghp6 := hp6
    refine x_if_eq (tgt := 73) hx hb rx4 dX11_tried_66 (by decide) (fun c7 => ?_) (fun c7 => ?_)
    · skip
      refine x_iconst hx hb dX11_tried_73 ?_
      rw [eQ]
      exact x_iret hx hb hr hlk hW (by decide) ⟨hF, ⟨p0, p1, p2, k268_8, k268_58, k269_0, k269_1, k269_2, k269_3, k269_34, k269_37, trivial⟩, trivial⟩ dX11_tried_74
    refine x_iload_n hx hb hl 0 rfl dX11_tried_69 rfl ?_
    refine x_if_ne (tgt := 75) hx hb rt0_58 dX11_tried_70 (by decide) (fun c8 => ?_) (fun c8 => ?_)
    · skip
      refine x_aload_n hx hb hl 1 rfl dX11_tried_75 rfl ?_
      refine x_get (j := 0) (v := .ref (h0 + 269)) hx hb hown hT hE hW cls_X11 (Or.inl (by decide)) (so_268 h0 g _) (by decide) rfl wq1185 dX11_tried_76 ?_
      refine x_aload_n hx hb hl 1 rfl dX11_tried_79 rfl ?_
      refine x_get (j := 1) (v := .ref (h0 + 270)) hx hb hown hT hE hW cls_X11 (Or.inl (by decide)) (so_268 h0 g _) (by decide) rfl wq1186 dX11_tried_80 ?_
      refine x_gov (x_runS (As := [.ref (h0 + 269), .ref (h0 + 270)]) hx hb hml hown hT hE hW hl.1 cf_X11_copies wq1647 wq1646 (c_X11_copiesMA l D g T h0 s0 hW.2.1 p0 p1 p2) ⟨rfl, rfl, ⟨by decide, by decide⟩, ⟨by decide, by decide⟩⟩ rfl rfl (Nat.le_of_ble_eq_true rfl) dX11_tried_83) hW (fun s10 H locs hp11 hW => ?_)
      obtain ⟨fs10, hp11⟩ := hp11
      have hF12 := hF.call fs10 (fun k h => by omega)
      have q13 : s10 268 8 = s0 268 8 := (congrFun (fs10 _ (by omega)) _).trans k268_8
      have q14 : s10 268 58 = s0 268 58 := (congrFun (fs10 _ (by omega)) _).trans k268_58
      have q15 : s10 269 0 = s0 269 0 := (congrFun (fs10 _ (by omega)) _).trans k269_0
      have q16 : s10 269 1 = s0 269 1 := (congrFun (fs10 _ (by omega)) _).trans k269_1
      have q17 : s10 269 2 = s0 269 2 := (congrFun (fs10 _ (by omega)) _).trans k269_2
      have q18 : s10 269 3 = s0 269 3 := (congrFun (fs10 _ (by omega)) _).trans k269_3
      have q19 : s10 269 34 = s0 269 34 := (congrFun (fs10 _ (by omega)) _).trans k269_34
      have q20 : s10 269 37 = s0 269 37 := (congrFun (fs10 _ (by omega)) _).trans k269_37
      have ghp11 := hp11.2
      have q21 : s10 270 0 = s0 269 0 := (ghp11 0 (by decide) (by decide)).trans ((congrFun (fs10 269 (by first | decide | omega)) 0).symm.trans q15)
      have q22 : s10 270 1 = s0 269 1 := (ghp11 1 (by decide) (by decide)).trans ((congrFun (fs10 269 (by first | decide | omega)) 1).symm.trans q16)
      have q23 : s10 270 2 = s0 269 2 := (ghp11 2 (by decide) (by decide)).trans ((congrFun (fs10 269 (by first | decide | omega)) 2).symm.trans q17)
      have q24 : s10 270 3 = s0 269 3 := (ghp11 3 (by decide) (by decide)).trans ((congrFun (fs10 269 (by first | decide | omega)) 3).symm.trans q18)
      have q25 : s10 270 34 = s0 269 34 := (ghp11 34 (by decide) (by decide)).trans ((congrFun (fs10 269 (by first | decide | omega)) 34).symm.trans q19)
      have q26 : s10 270 37 = s0 269 37 := (ghp11 37 (by decide) (by decide)).trans ((congrFun (fs10 269 (by first | decide | omega)) 37).symm.trans q20)
      refine x_aload_n hx hb hl 1 rfl dX11_tried_86 rfl ?_
      refine x_iload_n hx hb hl 2 rfl dX11_tried_87 rfl ?_
      refine x_gov (x_runV (As := [.int (xJ n)]) hx hb hml hown hT hE hW hl.1 (Or.inl (by decide)) (so_268 h0 g _) rfl cf_X11_minutesGo wq1539 wq130 wq1537 (c_X11_minutesGo l D g T h0 s10 hW.2.1 n rn hp11.1.1 hp11.1.2.1 hp11.1.2.2.1) ⟨rfl, rfl, ⟨by decide, by decide⟩, ⟨by decide, by decide⟩⟩ rfl rfl (Nat.le_of_ble_eq_true rfl) dX11_tried_88) hW (fun s28 H locs hp29 hW => ?_)
      obtain ⟨fs28, hp29⟩ := hp29
      have hF30 := hF12.call fs28 (fun k h => by omega)
      have q31 : s28 270 0 = s0 269 0 := (congrFun (fs28 _ (by omega)) _).trans q21
      have q32 : s28 270 1 = s0 269 1 := (congrFun (fs28 _ (by omega)) _).trans q22
      have q33 : s28 270 2 = s0 269 2 := (congrFun (fs28 _ (by omega)) _).trans q23
      have q34 : s28 270 3 = s0 269 3 := (congrFun (fs28 _ (by omega)) _).trans q24
      have q35 : s28 270 34 = s0 269 34 := (congrFun (fs28 _ (by omega)) _).trans q25
      have q36 : s28 270 37 = s0 269 37 := (congrFun (fs28 _ (by omega)) _).trans q26
      have ghp29 := hp29.2
      refine x_iload_n hx hb hl 3 rfl dX11_tried_91 rfl ?_
      have J254 : ∀ (i4_254 : Int) (H : Heap) (locs : List Loc) (ls : Array Slot), (xR i4_254) → xW D g h0 s H locs s28 → lv_has ls 5 [(0, .ref (h0 + 268)), (4, .int (xJ i4_254))] → W p l e { frames := 9, cells := 0, slots := 0, locals := 209 } s m args below meth c H locs 0 0 Q (F0 m 254 ls []) := by
        intro i4_254 H locs ls ri4_254 hW hl
        refine x_aload_n hx hb hl 0 rfl dX11_tried_254 rfl ?_
        refine x_get (j := 1) (v := .ref (h0 + 270)) hx hb hown hT hE hW cls_X11 (Or.inl (by decide)) (so_268 h0 g _) (by decide) rfl wq1186 dX11_tried_255 ?_
        refine x_aload_n hx hb hl 0 rfl dX11_tried_258 rfl ?_
        refine x_get (j := 0) (v := .ref (h0 + 269)) hx hb hown hT hE hW cls_X11 (Or.inl (by decide)) (so_268 h0 g _) (by decide) rfl wq1185 dX11_tried_259 ?_
        refine x_gov (x_runS (As := [.ref (h0 + 270), .ref (h0 + 269)]) hx hb hml hown hT hE hW hl.1 cf_X11_copies wq1647 wq1646 (c_X11_copiesMB l D g T h0 s28 hW.2.1 hp29.1.1 hp29.1.2.1 hp29.1.2.2.1) ⟨rfl, rfl, ⟨by decide, by decide⟩, ⟨by decide, by decide⟩⟩ rfl rfl (Nat.le_of_ble_eq_true rfl) dX11_tried_262) hW (fun s38 H locs hp39 hW => ?_)
        obtain ⟨fs38, hp39⟩ := hp39
        have hF40 := hF30.call fs38 (fun k h => by omega)
        have q41 : s38 270 0 = s0 269 0 := (congrFun (fs38 _ (by omega)) _).trans q31
        have q42 : s38 270 1 = s0 269 1 := (congrFun (fs38 _ (by omega)) _).trans q32
        have q43 : s38 270 2 = s0 269 2 := (congrFun (fs38 _ (by omega)) _).trans q33
        have q44 : s38 270 3 = s0 269 3 := (congrFun (fs38 _ (by omega)) _).trans q34
        have q45 : s38 270 34 = s0 269 34 := (congrFun (fs38 _ (by omega)) _).trans q35
        have q46 : s38 270 37 = s0 269 37 := (congrFun (fs38 _ (by omega)) _).trans q36
        have q47 : s38 268 8 = s0 268 8 := (congrFun (fs38 _ (by omega)) _).trans (hp29.1.2.2.2.1.trans q13)
        have q48 : s38 268 58 = s0 268 58 := (congrFun (fs38 _ (by omega)) _).trans (hp29.1.2.2.2.2.1.trans q14)
        have ghp39 := hp39.2
        have q49 : s38 269 0 = s0 269 0 := (ghp39 0 (by decide) (by decide)).trans ((congrFun (fs38 270 (by first | decide | omega)) 0).symm.trans q41)
        have q50 : s38 269 1 = s0 269 1 := (ghp39 1 (by decide) (by decide)).trans ((congrFun (fs38 270 (by first | decide | omega)) 1).symm.trans q42)
        have q51 : s38 269 2 = s0 269 2 := (ghp39 2 (by decide) (by decide)).trans ((congrFun (fs38 270 (by first | decide | omega)) 2).symm.trans q43)
        have q52 : s38 269 3 = s0 269 3 := (ghp39 3 (by decide) (by decide)).trans ((congrFun (fs38 270 (by first | decide | omega)) 3).symm.trans q44)
        have q53 : s38 269 34 = s0 269 34 := (ghp39 34 (by decide) (by decide)).trans ((congrFun (fs38 270 (by first | decide | omega)) 34).symm.trans q45)
        have q54 : s38 269 37 = s0 269 37 := (ghp39 37 (by decide) (by decide)).trans ((congrFun (fs38 270 (by first | decide | omega)) 37).symm.trans q46)
        refine x_iload hx hb hl 1 rfl dX11_tried_265 ?_
        rw [eQ]
        exact x_iret hx hb hr hlk hW ri4_254 ⟨hF40, ⟨hp39.1.1, hp39.1.2.1, hp39.1.2.2.1, q47, q48, q49, q50, q51, q52, q53, q54, trivial⟩, trivial⟩ dX11_tried_267
      rcases (show (x < 0 ∨ 5 < x) ∨ x = 0 ∨ x = 1 ∨ x = 2 ∨ x = 3 ∨ x = 4 ∨ x = 5 from by omega) with c55 | c55 | c55 | c55 | c55 | c55 | c55
      · refine x_tabOut (tgt := 200) hx hb rx dX11_tried_92 c55 (by decide) ?_
        refine x_iload_n hx hb hl 3 rfl dX11_tried_200 rfl ?_
        refine x_bipush hx hb dX11_tried_201 (by decide) ?_
        have J252 : ∀ (t0_252 : Int) (ls : Array Slot), (xR t0_252) → lv_has ls 5 [(0, .ref (h0 + 268))] → W p l e { frames := 9, cells := 0, slots := 0, locals := 209 } s m args below meth c H locs 0 0 Q (F0 m 252 ls [.int (xJ t0_252)]) := by
          intro t0_252 ls rt0_252  hl
          refine lv_istore (lv' := [(4, .int (xJ t0_252)), (0, .ref (h0 + 268))]) hx hb dX11_tried_252 hl (by decide) rfl (fun ls hl => ?_)
          exact J254 t0_252 H locs ls rt0_252 hW (lv_sub hl [1, 0] rfl)
        refine x_icmp_ge (tgt := 220) hx hb rx (by decide) dX11_tried_203 (by decide) (fun c56 => ?_) (fun c56 => ?_)
        · skip
          refine x_iload_n hx hb hl 3 rfl dX11_tried_220 rfl ?_
          refine x_bipush hx hb dX11_tried_221 (by decide) ?_
          refine x_icmp_ge (tgt := 241) hx hb rx (by decide) dX11_tried_223 (by decide) (fun c57 => ?_) (fun c57 => ?_)
          · skip
            refine x_aload_n hx hb hl 1 rfl dX11_tried_241 rfl ?_
            refine x_get (j := 0) (v := .ref (h0 + 269)) hx hb hown hT hE hW cls_X11 (Or.inl (by decide)) (so_268 h0 g _) (by decide) rfl wq1185 dX11_tried_242 ?_
            refine x_iconst hx hb dX11_tried_245 ?_
            refine x_iload_n hx hb hl 3 rfl dX11_tried_246 rfl ?_
            refine x_iadd hx hb dX11_tried_247 ?_
            refine x_bipush hx hb dX11_tried_248 (by decide) ?_
            refine x_isub hx hb dX11_tried_250 ?_
            refine x_iald hx hb hE hW (Or.inl (by decide)) (sa_269 h0 g _) (by omega) (by decide) dX11_tried_251 ?_
            refine x_rd hW (fun x58 ex58 rx58 => ?_)
            have bx58 : 0 ≤ x58 ∧ x58 ≤ 99 := by rw [ex58]; exact (IMn.n1 hp29.1.1).1 _ (by omega) (by omega)
            exact J252 x58 ls rx58  (lv_sub hl [1] rfl)
          refine x_aload_n hx hb hl 1 rfl dX11_tried_226 rfl ?_
          refine x_get (j := 0) (v := .ref (h0 + 269)) hx hb hown hT hE hW cls_X11 (Or.inl (by decide)) (so_268 h0 g _) (by decide) rfl wq1185 dX11_tried_227 ?_
          refine x_bipush hx hb dX11_tried_230 (by decide) ?_
          refine x_iload_n hx hb hl 3 rfl dX11_tried_232 rfl ?_
          refine x_iadd hx hb dX11_tried_233 ?_
          refine x_bipush hx hb dX11_tried_234 (by decide) ?_
          refine x_isub hx hb dX11_tried_236 ?_
          refine x_iald hx hb hE hW (Or.inl (by decide)) (sa_269 h0 g _) (by omega) (by decide) dX11_tried_237 ?_
          refine x_rd hW (fun x59 ex59 rx59 => ?_)
          refine lv_goto (tgt := 252) hx hb dX11_tried_238 (by decide) ?_
          exact J252 x59 ls rx59  (lv_sub hl [1] rfl)
        refine x_aload_n hx hb hl 1 rfl dX11_tried_206 rfl ?_
        refine x_get (j := 0) (v := .ref (h0 + 269)) hx hb hown hT hE hW cls_X11 (Or.inl (by decide)) (so_268 h0 g _) (by decide) rfl wq1185 dX11_tried_207 ?_
        refine x_iconst hx hb dX11_tried_210 ?_
        refine x_iload_n hx hb hl 3 rfl dX11_tried_211 rfl ?_
        refine x_iadd hx hb dX11_tried_212 ?_
        refine x_bipush hx hb dX11_tried_213 (by decide) ?_
        refine x_isub hx hb dX11_tried_215 ?_
        refine x_iald hx hb hE hW (Or.inl (by decide)) (sa_269 h0 g _) (by omega) (by decide) dX11_tried_216 ?_
        refine x_rd hW (fun x60 ex60 rx60 => ?_)
        have bx60 : 0 ≤ x60 ∧ x60 ≤ 99 := by rw [ex60]; exact (IMn.n1 hp29.1.1).2.2.1 _ (by omega) (by omega)
        refine lv_goto (tgt := 252) hx hb dX11_tried_217 (by decide) ?_
        exact J252 x60 ls rx60  (lv_sub hl [1] rfl)
      · refine x_tabIn (v := 0) (tgt := 132) hx hb rx c55 dX11_tried_92 (by decide) rfl (by decide) ?_
        refine x_aload_n hx hb hl 1 rfl dX11_tried_132 rfl ?_
        refine x_get (j := 41) (v := .int (xJ (s28 268 41))) hx hb hown hT hE hW cls_X11 (Or.inl (by decide)) (so_268 h0 g _) (by decide) rfl wq1226 dX11_tried_133 ?_
        refine x_rd hW (fun x61 ex61 rx61 => ?_)
        refine lv_istore (lv' := [(4, .int (xJ x61)), (3, .int (xJ t0_58)), (0, .ref (h0 + 268)), (1, .int (xJ n)), (2, .int (xJ x))]) hx hb dX11_tried_136 hl (by decide) rfl (fun ls hl => ?_)
        refine lv_goto (tgt := 254) hx hb dX11_tried_138 (by decide) ?_
        exact J254 x61 H locs ls rx61 hW (lv_sub hl [2, 0] rfl)
      · refine x_tabIn (v := 1) (tgt := 141) hx hb rx c55 dX11_tried_92 (by decide) rfl (by decide) ?_
        refine x_aload_n hx hb hl 1 rfl dX11_tried_141 rfl ?_
        refine x_get (j := 42) (v := .int (xJ (s28 268 42))) hx hb hown hT hE hW cls_X11 (Or.inl (by decide)) (so_268 h0 g _) (by decide) rfl wq1227 dX11_tried_142 ?_
        refine x_rd hW (fun x62 ex62 rx62 => ?_)
        refine lv_istore (lv' := [(4, .int (xJ x62)), (3, .int (xJ t0_58)), (0, .ref (h0 + 268)), (1, .int (xJ n)), (2, .int (xJ x))]) hx hb dX11_tried_145 hl (by decide) rfl (fun ls hl => ?_)
        refine lv_goto (tgt := 254) hx hb dX11_tried_147 (by decide) ?_
        exact J254 x62 H locs ls rx62 hW (lv_sub hl [2, 0] rfl)
      · refine x_tabIn (v := 2) (tgt := 150) hx hb rx c55 dX11_tried_92 (by decide) rfl (by decide) ?_
        refine x_aload_n hx hb hl 1 rfl dX11_tried_150 rfl ?_
        refine x_get (j := 0) (v := .ref (h0 + 269)) hx hb hown hT hE hW cls_X11 (Or.inl (by decide)) (so_268 h0 g _) (by decide) rfl wq1185 dX11_tried_151 ?_
        refine x_bipush hx hb dX11_tried_154 (by decide) ?_
        refine x_iald hx hb hE hW (Or.inl (by decide)) (sa_269 h0 g _) ⟨by decide, by decide⟩ (by decide) dX11_tried_156 ?_
        refine x_rd hW (fun x63 ex63 rx63 => ?_)
        refine x_aload_n hx hb hl 1 rfl dX11_tried_157 rfl ?_
        refine x_get (j := 0) (v := .ref (h0 + 269)) hx hb hown hT hE hW cls_X11 (Or.inl (by decide)) (so_268 h0 g _) (by decide) rfl wq1185 dX11_tried_158 ?_
        refine x_bipush hx hb dX11_tried_161 (by decide) ?_
        refine x_iald hx hb hE hW (Or.inl (by decide)) (sa_269 h0 g _) ⟨by decide, by decide⟩ (by decide) dX11_tried_163 ?_
        refine x_rd hW (fun x64 ex64 rx64 => ?_)
        refine lv_iand hx hb dX11_tried_164 ?_
        refine x_any (fun x65 rx65 => ?_)
        refine x_goi (x_runS (As := [.int (xJ x65)]) hx hb hml hown hT hE hW hl.1 cf_X11_bits wq1650 wq1649 (c_X11_bits l D g T h0 s28 hW.2.1 x65 rx65) ⟨rfl, rfl, ⟨by decide, by decide⟩, ⟨by decide, by decide⟩⟩ rfl rfl (Nat.le_of_ble_eq_true rfl) dX11_tried_165) hW (fun x66 s67 H locs rx66 hp68 hW => ?_)
        obtain ⟨es67, hp68⟩ := hp68
        subst es67
        have ghp68 := hp68
        refine lv_istore (lv' := [(4, .int (xJ x66)), (3, .int (xJ t0_58)), (0, .ref (h0 + 268)), (1, .int (xJ n)), (2, .int (xJ x))]) hx hb dX11_tried_168 hl (by decide) rfl (fun ls hl => ?_)
        refine lv_goto (tgt := 254) hx hb dX11_tried_170 (by decide) ?_
        exact J254 x66 H locs ls rx66 hW (lv_sub hl [2, 0] rfl)
      · refine x_tabIn (v := 3) (tgt := 173) hx hb rx c55 dX11_tried_92 (by decide) rfl (by decide) ?_
        refine x_aload_n hx hb hl 1 rfl dX11_tried_173 rfl ?_
        refine x_get (j := 43) (v := .int (xJ (s28 268 43))) hx hb hown hT hE hW cls_X11 (Or.inl (by decide)) (so_268 h0 g _) (by decide) rfl wq1228 dX11_tried_174 ?_
        refine x_rd hW (fun x69 ex69 rx69 => ?_)
        refine lv_istore (lv' := [(4, .int (xJ x69)), (3, .int (xJ t0_58)), (0, .ref (h0 + 268)), (1, .int (xJ n)), (2, .int (xJ x))]) hx hb dX11_tried_177 hl (by decide) rfl (fun ls hl => ?_)
        refine lv_goto (tgt := 254) hx hb dX11_tried_179 (by decide) ?_
        exact J254 x69 H locs ls rx69 hW (lv_sub hl [2, 0] rfl)
      · refine x_tabIn (v := 4) (tgt := 182) hx hb rx c55 dX11_tried_92 (by decide) rfl (by decide) ?_
        refine x_aload_n hx hb hl 1 rfl dX11_tried_182 rfl ?_
        refine x_get (j := 44) (v := .int (xJ (s28 268 44))) hx hb hown hT hE hW cls_X11 (Or.inl (by decide)) (so_268 h0 g _) (by decide) rfl wq1229 dX11_tried_183 ?_
        refine x_rd hW (fun x70 ex70 rx70 => ?_)
        refine lv_istore (lv' := [(4, .int (xJ x70)), (3, .int (xJ t0_58)), (0, .ref (h0 + 268)), (1, .int (xJ n)), (2, .int (xJ x))]) hx hb dX11_tried_186 hl (by decide) rfl (fun ls hl => ?_)
        refine lv_goto (tgt := 254) hx hb dX11_tried_188 (by decide) ?_
        exact J254 x70 H locs ls rx70 hW (lv_sub hl [2, 0] rfl)
      · refine x_tabIn (v := 5) (tgt := 191) hx hb rx c55 dX11_tried_92 (by decide) rfl (by decide) ?_
        refine x_aload_n hx hb hl 1 rfl dX11_tried_191 rfl ?_
        refine x_goi (x_runV (As := []) hx hb hml hown hT hE hW hl.1 (Or.inl (by decide)) (so_268 h0 g _) rfl cf_X11_freeMany wq1654 wq152 wq1652 (c_X11_freeMany l D g T h0 s28 hW.2.1 hp29.1.1 hp29.1.2.1 hp29.1.2.2.1) ⟨rfl, rfl, ⟨by decide, by decide⟩, ⟨by decide, by decide⟩⟩ rfl rfl (Nat.le_of_ble_eq_true rfl) dX11_tried_192) hW (fun x71 s72 H locs rx71 hp73 hW => ?_)
        obtain ⟨es72, hp73⟩ := hp73
        subst es72
        have ghp73 := hp73
        refine lv_istore (lv' := [(4, .int (xJ x71)), (3, .int (xJ t0_58)), (0, .ref (h0 + 268)), (1, .int (xJ n)), (2, .int (xJ x))]) hx hb dX11_tried_195 hl (by decide) rfl (fun ls hl => ?_)
        refine lv_goto (tgt := 254) hx hb dX11_tried_197 (by decide) ?_
        exact J254 x71 H locs ls rx71 hW (lv_sub hl [2, 0] rfl)
    refine x_iconst hx hb dX11_tried_73 ?_
    rw [eQ]
    exact x_iret hx hb hr hlk hW (by decide) ⟨hF, ⟨p0, p1, p2, k268_8, k268_58, k269_0, k269_1, k269_2, k269_3, k269_34, k269_37, trivial⟩, trivial⟩ dX11_tried_74
  refine x_if_ne (tgt := 53) hx hb rx1 dX11_tried_6 (by decide) (fun c74 => ?_) (fun c74 => ?_)
  · skip
    refine x_iconst hx hb dX11_tried_53 ?_
    refine lv_goto (tgt := 58) hx hb dX11_tried_54 (by decide) ?_
    exact J58 1 H locs ls (by decide) (by omega) hW (lv_sub hl [0, 1, 2] rfl)
  refine x_iload_n hx hb hl 2 rfl dX11_tried_9 rfl ?_
  refine x_bipush hx hb dX11_tried_10 (by decide) ?_
  refine x_bipush hx hb dX11_tried_12 (by decide) ?_
  refine x_goi (x_runS (As := [.int (xJ x), .int (xJ 10), .int (xJ 29)]) hx hb hml hown hT hE hW hl.1 cf_X11_in wq1383 wq1382 (c_X11_in l D g T h0 s0 hW.2.1 x rx 10 (by decide) 29 (by decide)) ⟨rfl, rfl, ⟨by decide, by decide⟩, ⟨by decide, by decide⟩⟩ rfl rfl (Nat.le_of_ble_eq_true rfl) dX11_tried_14) hW (fun x75 s76 H locs rx75 hp77 hW => ?_)
  obtain ⟨es76, hp77⟩ := hp77
  subst es76
  have ghp77 := hp77
  refine x_if_eq (tgt := 31) hx hb rx75 dX11_tried_17 (by decide) (fun c78 => ?_) (fun c78 => ?_)
  · skip
    refine x_iload_n hx hb hl 2 rfl dX11_tried_31 rfl ?_
    refine x_bipush hx hb dX11_tried_32 (by decide) ?_
    refine x_bipush hx hb dX11_tried_34 (by decide) ?_
    refine x_goi (x_runS (As := [.int (xJ x), .int (xJ 30), .int (xJ 31)]) hx hb hml hown hT hE hW hl.1 cf_X11_in wq1383 wq1382 (c_X11_in l D g T h0 s0 hW.2.1 x rx 30 (by decide) 31 (by decide)) ⟨rfl, rfl, ⟨by decide, by decide⟩, ⟨by decide, by decide⟩⟩ rfl rfl (Nat.le_of_ble_eq_true rfl) dX11_tried_36) hW (fun x79 s80 H locs rx79 hp81 hW => ?_)
    obtain ⟨es80, hp81⟩ := hp81
    subst es80
    have ghp81 := hp81
    refine x_if_eq (tgt := 57) hx hb rx79 dX11_tried_39 (by decide) (fun c82 => ?_) (fun c82 => ?_)
    · skip
      refine x_iconst hx hb dX11_tried_57 ?_
      exact J58 0 H locs ls (by decide) (by omega) hW (lv_sub hl [0, 1, 2] rfl)
    refine x_aload_n hx hb hl 0 rfl dX11_tried_42 rfl ?_
    refine x_iload_n hx hb hl 2 rfl dX11_tried_43 rfl ?_
    refine x_bipush hx hb dX11_tried_44 (by decide) ?_
    refine x_isub hx hb dX11_tried_46 ?_
    refine x_goi (x_runV (As := [.int (xJ (x - 30))]) hx hb hml hown hT hE hW hl.1 (Or.inl (by decide)) (so_268 h0 g _) rfl cf_X11_isJudge wq1409 wq109 wq1407 (c_X11_isJudge l D g T h0 s0 hW.2.1 (x - 30) (by omega) p0 p1 p2) ⟨rfl, rfl, ⟨by decide, by decide⟩, ⟨by decide, by decide⟩⟩ rfl rfl (Nat.le_of_ble_eq_true rfl) dX11_tried_47) hW (fun x83 s84 H locs rx83 hp85 hW => ?_)
    obtain ⟨es84, hp85⟩ := hp85
    subst es84
    have ghp85 := hp85
    refine x_if_eq (tgt := 57) hx hb rx83 dX11_tried_50 (by decide) (fun c86 => ?_) (fun c86 => ?_)
    · skip
      refine x_iconst hx hb dX11_tried_57 ?_
      exact J58 0 H locs ls (by decide) (by omega) hW (lv_sub hl [0, 1, 2] rfl)
    refine x_iconst hx hb dX11_tried_53 ?_
    refine lv_goto (tgt := 58) hx hb dX11_tried_54 (by decide) ?_
    exact J58 1 H locs ls (by decide) (by omega) hW (lv_sub hl [0, 1, 2] rfl)
  refine x_aload_n hx hb hl 0 rfl dX11_tried_20 rfl ?_
  refine x_iload_n hx hb hl 2 rfl dX11_tried_21 rfl ?_
  refine x_bipush hx hb dX11_tried_22 (by decide) ?_
  refine x_irem hx hb rx (by decide) (by omega) (by decide) dX11_tried_24 ?_
  refine x_goi (x_runV (As := [.int (xJ (x % 10))]) hx hb hml hown hT hE hW hl.1 (Or.inl (by decide)) (so_268 h0 g _) rfl cf_X11_isFelon wq1423 wq111 wq1421 (c_X11_isFelon l D g T h0 s0 hW.2.1 (x % 10) (by omega) p0 p1 p2) ⟨rfl, rfl, ⟨by decide, by decide⟩, ⟨by decide, by decide⟩⟩ rfl rfl (Nat.le_of_ble_eq_true rfl) dX11_tried_25) hW (fun x87 s88 H locs rx87 hp89 hW => ?_)
  obtain ⟨es88, hp89⟩ := hp89
  subst es88
  have ghp89 := hp89
  refine x_if_ne (tgt := 53) hx hb rx87 dX11_tried_28 (by decide) (fun c90 => ?_) (fun c90 => ?_)
  · skip
    refine x_iconst hx hb dX11_tried_53 ?_
    refine lv_goto (tgt := 58) hx hb dX11_tried_54 (by decide) ?_
    exact J58 1 H locs ls (by decide) (by omega) hW (lv_sub hl [0, 1, 2] rfl)
  refine x_iload_n hx hb hl 2 rfl dX11_tried_31 rfl ?_
  refine x_bipush hx hb dX11_tried_32 (by decide) ?_
  refine x_bipush hx hb dX11_tried_34 (by decide) ?_
  refine x_goi (x_runS (As := [.int (xJ x), .int (xJ 30), .int (xJ 31)]) hx hb hml hown hT hE hW hl.1 cf_X11_in wq1383 wq1382 (c_X11_in l D g T h0 s0 hW.2.1 x rx 30 (by decide) 31 (by decide)) ⟨rfl, rfl, ⟨by decide, by decide⟩, ⟨by decide, by decide⟩⟩ rfl rfl (Nat.le_of_ble_eq_true rfl) dX11_tried_36) hW (fun x91 s92 H locs rx91 hp93 hW => ?_)
  obtain ⟨es92, hp93⟩ := hp93
  subst es92
  have ghp93 := hp93
  refine x_if_eq (tgt := 57) hx hb rx91 dX11_tried_39 (by decide) (fun c94 => ?_) (fun c94 => ?_)
  · skip
    refine x_iconst hx hb dX11_tried_57 ?_
    exact J58 0 H locs ls (by decide) (by omega) hW (lv_sub hl [0, 1, 2] rfl)
  refine x_aload_n hx hb hl 0 rfl dX11_tried_42 rfl ?_
  refine x_iload_n hx hb hl 2 rfl dX11_tried_43 rfl ?_
  refine x_bipush hx hb dX11_tried_44 (by decide) ?_
  refine x_isub hx hb dX11_tried_46 ?_
  refine x_goi (x_runV (As := [.int (xJ (x - 30))]) hx hb hml hown hT hE hW hl.1 (Or.inl (by decide)) (so_268 h0 g _) rfl cf_X11_isJudge wq1409 wq109 wq1407 (c_X11_isJudge l D g T h0 s0 hW.2.1 (x - 30) (by omega) p0 p1 p2) ⟨rfl, rfl, ⟨by decide, by decide⟩, ⟨by decide, by decide⟩⟩ rfl rfl (Nat.le_of_ble_eq_true rfl) dX11_tried_47) hW (fun x95 s96 H locs rx95 hp97 hW => ?_)
  obtain ⟨es96, hp97⟩ := hp97
  subst es96
  have ghp97 := hp97
  refine x_if_eq (tgt := 57) hx hb rx95 dX11_tried_50 (by decide) (fun c98 => ?_) (fun c98 => ?_)
  · skip
    refine x_iconst hx hb dX11_tried_57 ?_
    exact J58 0 H locs ls (by decide) (by omega) hW (lv_sub hl [0, 1, 2] rfl)
  refine x_iconst hx hb dX11_tried_53 ?_
  refine lv_goto (tgt := 58) hx hb dX11_tried_54 (by decide) ?_
  exact J58 1 H locs ls (by decide) (by omega) hW (lv_sub hl [0, 1, 2] rfl)
set_option maxHeartbeats 4000000 in
set_option maxRecDepth 100000 in
theorem c_X11_fewestT (l : Launch) (D : va_G) (g : xG) (T : Nat × Nat × Nat) (h0 : Nat) (s0 : xS) (hσ : xRR s0) (f : Int) (rf : xR f) (n : Int) (rn : xR n) (q : Int) (rq : xR q) (p0 : IMn s0) (p1 : IMk s0) (p2 : IMo s0) : Met l yX11_fewest (xws yX11_fewest cX11_fewest 6 (some .int)) { frames := 5, cells := 0, slots := 0, locals := 115 } (xP [.ref (h0 + 268), .int (xJ f), .int (xJ n), .int (xJ q)] D g T h0 s0) (xQi D g h0 (fun r τ => xFr (fun k => k = 269 ∨ k = 270 ∨ k = 293 ∨ k = 294 ∨ k = 295 ∨ k = 296 ∨ k = 302 ∨ k = 303 ∨ k = 304) s0 τ ∧ (((IMn τ) ∧ (IMk τ) ∧ (IMo τ) ∧ (τ 269 0 = s0 269 0) ∧ (τ 269 1 = s0 269 1) ∧ (τ 269 2 = s0 269 2) ∧ (τ 269 3 = s0 269 3) ∧ (τ 269 34 = s0 269 34) ∧ (τ 269 37 = s0 269 37) ∧ True) ∧ (True)))) 0 0 (xA h0) := by
  refine x_met hσ (by decide) (Nat.le_of_ble_eq_true rfl) ?_
  intro p e s m args below meth c hx hb hr hml hown hT hlk hnm hE hW ls hl
  have hl : lv_has ls 6 [(0, .ref (h0 + 268)), (1, .int (xJ f)), (2, .int (xJ n)), (3, .int (xJ q))] := hl
  obtain ⟨Q, eQ⟩ : ∃ Q, Q = MQ below (xQi D g h0 (fun r τ => xFr (fun k => k = 269 ∨ k = 270 ∨ k = 293 ∨ k = 294 ∨ k = 295 ∨ k = 296 ∨ k = 302 ∨ k = 303 ∨ k = 304) s0 τ ∧ (((IMn τ) ∧ (IMk τ) ∧ (IMo τ) ∧ (τ 269 0 = s0 269 0) ∧ (τ 269 1 = s0 269 1) ∧ (τ 269 2 = s0 269 2) ∧ (τ 269 3 = s0 269 3) ∧ (τ 269 34 = s0 269 34) ∧ (τ 269 37 = s0 269 37) ∧ True) ∧ (True)))) args s 0 0 (xA h0) := ⟨_, rfl⟩
  rw [← eQ]
  generalize hHe : ([] : List Loc) = locs at hW ⊢
  obtain ⟨H, eH⟩ : ∃ H, H = s.heap := ⟨_, rfl⟩
  rw [← eH] at hW ⊢
  have hF : xFr (fun k => k = 269 ∨ k = 270 ∨ k = 293 ∨ k = 294 ∨ k = 295 ∨ k = 296 ∨ k = 302 ∨ k = 303 ∨ k = 304) s0 s0 := xFr.rf
  have k268_8 : s0 268 8 = s0 268 8 := rfl
  have k268_58 : s0 268 58 = s0 268 58 := rfl
  have k269_0 : s0 269 0 = s0 269 0 := rfl
  have k269_1 : s0 269 1 = s0 269 1 := rfl
  have k269_2 : s0 269 2 = s0 269 2 := rfl
  have k269_3 : s0 269 3 = s0 269 3 := rfl
  have k269_34 : s0 269 34 = s0 269 34 := rfl
  have k269_37 : s0 269 37 = s0 269 37 := rfl
  refine x_aload_n hx hb hl 0 rfl dX11_fewest_0 rfl ?_
  refine x_iload_n hx hb hl 1 rfl dX11_fewest_1 rfl ?_
  refine x_goi (x_runV (As := [.int (xJ f)]) hx hb hml hown hT hE hW hl.1 (Or.inl (by decide)) (so_268 h0 g _) rfl cf_X11_isFelon wq1423 wq111 wq1421 (c_X11_isFelon l D g T h0 s0 hW.2.1 f rf p0 p1 p2) ⟨rfl, rfl, ⟨by decide, by decide⟩, ⟨by decide, by decide⟩⟩ rfl rfl (Nat.le_of_ble_eq_true rfl) dX11_fewest_2) hW (fun x1 s2 H locs rx1 hp3 hW => ?_)
  obtain ⟨es2, hp3⟩ := hp3
  subst es2
  have ghp3 := hp3
  refine x_if_eq (tgt := 27) hx hb rx1 dX11_fewest_5 (by decide) (fun c4 => ?_) (fun c4 => ?_)
  · skip
    refine x_iconst hx hb dX11_fewest_27 ?_
    rw [eQ]
    exact x_iret hx hb hr hlk hW (by decide) ⟨hF, ⟨p0, p1, p2, k269_0, k269_1, k269_2, k269_3, k269_34, k269_37, trivial⟩, trivial⟩ dX11_fewest_28
  refine x_iload_n hx hb hl 2 rfl dX11_fewest_8 rfl ?_
  refine x_iconst hx hb dX11_fewest_9 ?_
  refine x_bipush hx hb dX11_fewest_10 (by decide) ?_
  refine x_goi (x_runS (As := [.int (xJ n), .int (xJ 1), .int (xJ 30)]) hx hb hml hown hT hE hW hl.1 cf_X11_in wq1383 wq1382 (c_X11_in l D g T h0 s0 hW.2.1 n rn 1 (by decide) 30 (by decide)) ⟨rfl, rfl, ⟨by decide, by decide⟩, ⟨by decide, by decide⟩⟩ rfl rfl (Nat.le_of_ble_eq_true rfl) dX11_fewest_12) hW (fun x5 s6 H locs rx5 hp7 hW => ?_)
  obtain ⟨es6, hp7⟩ := hp7
  subst es6
  have ghp7 := hp7
  refine x_if_eq (tgt := 27) hx hb rx5 dX11_fewest_15 (by decide) (fun c8 => ?_) (fun c8 => ?_)
  · skip
    refine x_iconst hx hb dX11_fewest_27 ?_
    rw [eQ]
    exact x_iret hx hb hr hlk hW (by decide) ⟨hF, ⟨p0, p1, p2, k269_0, k269_1, k269_2, k269_3, k269_34, k269_37, trivial⟩, trivial⟩ dX11_fewest_28
  refine x_iload_n hx hb hl 3 rfl dX11_fewest_18 rfl ?_
  refine x_iconst hx hb dX11_fewest_19 ?_
  refine x_iload_n hx hb hl 2 rfl dX11_fewest_20 rfl ?_
  refine x_goi (x_runS (As := [.int (xJ q), .int (xJ 1), .int (xJ n)]) hx hb hml hown hT hE hW hl.1 cf_X11_in wq1383 wq1382 (c_X11_in l D g T h0 s0 hW.2.1 q rq 1 (by decide) n rn) ⟨rfl, rfl, ⟨by decide, by decide⟩, ⟨by decide, by decide⟩⟩ rfl rfl (Nat.le_of_ble_eq_true rfl) dX11_fewest_21) hW (fun x9 s10 H locs rx9 hp11 hW => ?_)
  obtain ⟨es10, hp11⟩ := hp11
  subst es10
  have ghp11 := hp11
  refine x_if_ne (tgt := 29) hx hb rx9 dX11_fewest_24 (by decide) (fun c12 => ?_) (fun c12 => ?_)
  · skip
    refine x_aload_n hx hb hl 0 rfl dX11_fewest_29 rfl ?_
    refine x_get (j := 0) (v := .ref (h0 + 269)) hx hb hown hT hE hW cls_X11 (Or.inl (by decide)) (so_268 h0 g _) (by decide) rfl wq1185 dX11_fewest_30 ?_
    refine x_aload_n hx hb hl 0 rfl dX11_fewest_33 rfl ?_
    refine x_get (j := 1) (v := .ref (h0 + 270)) hx hb hown hT hE hW cls_X11 (Or.inl (by decide)) (so_268 h0 g _) (by decide) rfl wq1186 dX11_fewest_34 ?_
    refine x_gov (x_runS (As := [.ref (h0 + 269), .ref (h0 + 270)]) hx hb hml hown hT hE hW hl.1 cf_X11_copies wq1647 wq1646 (c_X11_copiesMA l D g T h0 s0 hW.2.1 p0 p1 p2) ⟨rfl, rfl, ⟨by decide, by decide⟩, ⟨by decide, by decide⟩⟩ rfl rfl (Nat.le_of_ble_eq_true rfl) dX11_fewest_37) hW (fun s14 H locs hp15 hW => ?_)
    obtain ⟨fs14, hp15⟩ := hp15
    have hF16 := hF.call fs14 (fun k h => by omega)
    have q17 : s14 268 8 = s0 268 8 := (congrFun (fs14 _ (by omega)) _).trans k268_8
    have q18 : s14 268 58 = s0 268 58 := (congrFun (fs14 _ (by omega)) _).trans k268_58
    have q19 : s14 269 0 = s0 269 0 := (congrFun (fs14 _ (by omega)) _).trans k269_0
    have q20 : s14 269 1 = s0 269 1 := (congrFun (fs14 _ (by omega)) _).trans k269_1
    have q21 : s14 269 2 = s0 269 2 := (congrFun (fs14 _ (by omega)) _).trans k269_2
    have q22 : s14 269 3 = s0 269 3 := (congrFun (fs14 _ (by omega)) _).trans k269_3
    have q23 : s14 269 34 = s0 269 34 := (congrFun (fs14 _ (by omega)) _).trans k269_34
    have q24 : s14 269 37 = s0 269 37 := (congrFun (fs14 _ (by omega)) _).trans k269_37
    have ghp15 := hp15.2
    have q25 : s14 270 0 = s0 269 0 := (ghp15 0 (by decide) (by decide)).trans ((congrFun (fs14 269 (by first | decide | omega)) 0).symm.trans q19)
    have q26 : s14 270 1 = s0 269 1 := (ghp15 1 (by decide) (by decide)).trans ((congrFun (fs14 269 (by first | decide | omega)) 1).symm.trans q20)
    have q27 : s14 270 2 = s0 269 2 := (ghp15 2 (by decide) (by decide)).trans ((congrFun (fs14 269 (by first | decide | omega)) 2).symm.trans q21)
    have q28 : s14 270 3 = s0 269 3 := (ghp15 3 (by decide) (by decide)).trans ((congrFun (fs14 269 (by first | decide | omega)) 3).symm.trans q22)
    have q29 : s14 270 34 = s0 269 34 := (ghp15 34 (by decide) (by decide)).trans ((congrFun (fs14 269 (by first | decide | omega)) 34).symm.trans q23)
    have q30 : s14 270 37 = s0 269 37 := (ghp15 37 (by decide) (by decide)).trans ((congrFun (fs14 269 (by first | decide | omega)) 37).symm.trans q24)
    refine x_aload_n hx hb hl 0 rfl dX11_fewest_40 rfl ?_
    refine x_gov (x_runV (As := []) hx hb hml hown hT hE hW hl.1 (Or.inl (by decide)) (so_268 h0 g _) rfl cf_X11_laysSteps wq1685 wq155 wq1683 (c_X11_laysSteps l D g T h0 s14 hW.2.1 hp15.1.1 hp15.1.2.1 hp15.1.2.2.1) ⟨rfl, rfl, ⟨by decide, by decide⟩, ⟨by decide, by decide⟩⟩ rfl rfl (Nat.le_of_ble_eq_true rfl) dX11_fewest_41) hW (fun s32 H locs hp33 hW => ?_)
    obtain ⟨fs32, hp33⟩ := hp33
    have hF34 := hF16.call fs32 (fun k h => by omega)
    have q35 : s32 268 8 = s0 268 8 := (congrFun (fs32 _ (by omega)) _).trans q17
    have q36 : s32 268 58 = s0 268 58 := (congrFun (fs32 _ (by omega)) _).trans q18
    have q37 : s32 269 0 = s0 269 0 := (congrFun (fs32 _ (by omega)) _).trans q19
    have q38 : s32 269 1 = s0 269 1 := (congrFun (fs32 _ (by omega)) _).trans q20
    have q39 : s32 269 2 = s0 269 2 := (congrFun (fs32 _ (by omega)) _).trans q21
    have q40 : s32 269 3 = s0 269 3 := (congrFun (fs32 _ (by omega)) _).trans q22
    have q41 : s32 269 34 = s0 269 34 := (congrFun (fs32 _ (by omega)) _).trans q23
    have q42 : s32 269 37 = s0 269 37 := (congrFun (fs32 _ (by omega)) _).trans q24
    have q43 : s32 270 0 = s0 269 0 := (congrFun (fs32 _ (by omega)) _).trans q25
    have q44 : s32 270 1 = s0 269 1 := (congrFun (fs32 _ (by omega)) _).trans q26
    have q45 : s32 270 2 = s0 269 2 := (congrFun (fs32 _ (by omega)) _).trans q27
    have q46 : s32 270 3 = s0 269 3 := (congrFun (fs32 _ (by omega)) _).trans q28
    have q47 : s32 270 34 = s0 269 34 := (congrFun (fs32 _ (by omega)) _).trans q29
    have q48 : s32 270 37 = s0 269 37 := (congrFun (fs32 _ (by omega)) _).trans q30
    have ghp33 := hp33.2
    refine x_iconst hx hb dX11_fewest_44 ?_
    refine lv_istore (lv' := [(4, .int (xJ 0)), (0, .ref (h0 + 268)), (1, .int (xJ f)), (2, .int (xJ n)), (3, .int (xJ q))]) hx hb dX11_fewest_45 hl (by decide) rfl (fun ls hl => ?_)
    have L47 : ∀ (fu : Nat) (i4_47 : Int) (s_47 : xS) (H : Heap) (locs : List Loc) (ls : Array Slot), (xR i4_47) → (xFr (fun k => k = 269 ∨ k = 270 ∨ k = 293 ∨ k = 294 ∨ k = 295 ∨ k = 296 ∨ k = 302 ∨ k = 303 ∨ k = 304) s0 s_47) → (s_47 268 8 = s0 268 8) → (s_47 268 58 = s0 268 58) → (s_47 269 0 = s0 269 0) → (s_47 269 1 = s0 269 1) → (s_47 269 2 = s0 269 2) → (s_47 269 3 = s0 269 3) → (s_47 269 34 = s0 269 34) → (s_47 269 37 = s0 269 37) → (s_47 270 0 = s0 269 0) → (s_47 270 1 = s0 269 1) → (s_47 270 2 = s0 269 2) → (s_47 270 3 = s0 269 3) → (s_47 270 34 = s0 269 34) → (s_47 270 37 = s0 269 37) → (IMn s_47) → (IMk s_47) → (IMo s_47) → (0 ≤ i4_47) → (i4_47 ≤ 3100) → (3100 + 1 - i4_47).toNat < fu → xW D g h0 s H locs s_47 → lv_has ls 6 [(0, .ref (h0 + 268)), (1, .int (xJ f)), (2, .int (xJ n)), (3, .int (xJ q)), (4, .int (xJ i4_47))] → W p l e { frames := 5, cells := 0, slots := 0, locals := 115 } s m args below meth c H locs 0 0 Q (F0 m 47 ls []) := by
      intro fu
      induction fu with
      | zero => intro i4_47 s_47 H locs ls ri4_47 hF_47 q47_0 q47_1 q47_2 q47_3 q47_4 q47_5 q47_6 q47_7 q47_8 q47_9 q47_10 q47_11 q47_12 q47_13 q47_14 q47_15 q47_16 v47_0 v47_1 hm; exact absurd hm (Nat.not_lt_zero _)
      | succ fu ih47 =>
        intro i4_47 s_47 H locs ls ri4_47 hF_47 q47_0 q47_1 q47_2 q47_3 q47_4 q47_5 q47_6 q47_7 q47_8 q47_9 q47_10 q47_11 q47_12 q47_13 q47_14 q47_15 q47_16 v47_0 v47_1 hm hW hl
        have hm_47 := fun (_ : Unit) => hm
        clear hm
        refine x_iload hx hb hl 4 rfl dX11_fewest_47 ?_
        refine x_sipush hx hb dX11_fewest_49 (by decide) ?_
        refine x_icmp_ge (tgt := 91) hx hb ri4_47 (by decide) dX11_fewest_52 (by decide) (fun c49 => ?_) (fun c49 => ?_)
        · skip
          refine x_iconst hx hb dX11_fewest_91 ?_
          refine lv_istore (lv' := [(4, .int (xJ 0)), (0, .ref (h0 + 268)), (1, .int (xJ f)), (2, .int (xJ n)), (3, .int (xJ q))]) hx hb dX11_fewest_92 hl (by decide) rfl (fun ls hl => ?_)
          have L94 : ∀ (fu : Nat) (i4_94 : Int) (s_94 : xS) (H : Heap) (locs : List Loc) (ls : Array Slot), (xR i4_94) → (xFr (fun k => k = 269 ∨ k = 270 ∨ k = 293 ∨ k = 294 ∨ k = 295 ∨ k = 296 ∨ k = 302 ∨ k = 303 ∨ k = 304) s0 s_94) → (s_94 268 8 = s0 268 8) → (s_94 268 58 = s0 268 58) → (s_94 269 37 = s0 269 37) → (s_94 270 0 = s0 269 0) → (s_94 270 1 = s0 269 1) → (s_94 270 2 = s0 269 2) → (s_94 270 3 = s0 269 3) → (s_94 270 34 = s0 269 34) → (s_94 270 37 = s0 269 37) → (IMn s_94) → (IMk s_94) → (IMo s_94) → (0 ≤ i4_94) → (n + 1 - i4_94).toNat < fu → xW D g h0 s H locs s_94 → lv_has ls 6 [(0, .ref (h0 + 268)), (2, .int (xJ n)), (3, .int (xJ q)), (4, .int (xJ i4_94))] → W p l e { frames := 5, cells := 0, slots := 0, locals := 115 } s m args below meth c H locs 0 0 Q (F0 m 94 ls []) := by
            intro fu
            induction fu with
            | zero => intro i4_94 s_94 H locs ls ri4_94 hF_94 q94_0 q94_1 q94_7 q94_8 q94_9 q94_10 q94_11 q94_12 q94_13 q94_14 q94_15 q94_16 v94_0 hm; exact absurd hm (Nat.not_lt_zero _)
            | succ fu ih94 =>
              intro i4_94 s_94 H locs ls ri4_94 hF_94 q94_0 q94_1 q94_7 q94_8 q94_9 q94_10 q94_11 q94_12 q94_13 q94_14 q94_15 q94_16 v94_0 hm hW hl
              have hm_94 := fun (_ : Unit) => hm
              clear hm
              refine x_iload hx hb hl 3 rfl dX11_fewest_94 ?_
              refine x_iload_n hx hb hl 1 rfl dX11_fewest_96 rfl ?_
              refine x_icmp_ge (tgt := 165) hx hb ri4_94 rn dX11_fewest_97 (by decide) (fun c50 => ?_) (fun c50 => ?_)
              · skip
                refine x_aload_n hx hb hl 0 rfl dX11_fewest_165 rfl ?_
                refine x_get (j := 1) (v := .ref (h0 + 270)) hx hb hown hT hE hW cls_X11 (Or.inl (by decide)) (so_268 h0 g _) (by decide) rfl wq1186 dX11_fewest_166 ?_
                refine x_aload_n hx hb hl 0 rfl dX11_fewest_169 rfl ?_
                refine x_get (j := 0) (v := .ref (h0 + 269)) hx hb hown hT hE hW cls_X11 (Or.inl (by decide)) (so_268 h0 g _) (by decide) rfl wq1185 dX11_fewest_170 ?_
                refine x_gov (x_runS (As := [.ref (h0 + 270), .ref (h0 + 269)]) hx hb hml hown hT hE hW hl.1 cf_X11_copies wq1647 wq1646 (c_X11_copiesMB l D g T h0 s_94 hW.2.1 q94_14 q94_15 q94_16) ⟨rfl, rfl, ⟨by decide, by decide⟩, ⟨by decide, by decide⟩⟩ rfl rfl (Nat.le_of_ble_eq_true rfl) dX11_fewest_173) hW (fun s52 H locs hp53 hW => ?_)
                obtain ⟨fs52, hp53⟩ := hp53
                have hF54 := hF_94.call fs52 (fun k h => by omega)
                have q55 : s52 268 8 = s0 268 8 := (congrFun (fs52 _ (by omega)) _).trans q94_0
                have q56 : s52 268 58 = s0 268 58 := (congrFun (fs52 _ (by omega)) _).trans q94_1
                have q57 : s52 270 0 = s0 269 0 := (congrFun (fs52 _ (by omega)) _).trans q94_8
                have q58 : s52 270 1 = s0 269 1 := (congrFun (fs52 _ (by omega)) _).trans q94_9
                have q59 : s52 270 2 = s0 269 2 := (congrFun (fs52 _ (by omega)) _).trans q94_10
                have q60 : s52 270 3 = s0 269 3 := (congrFun (fs52 _ (by omega)) _).trans q94_11
                have q61 : s52 270 34 = s0 269 34 := (congrFun (fs52 _ (by omega)) _).trans q94_12
                have q62 : s52 270 37 = s0 269 37 := (congrFun (fs52 _ (by omega)) _).trans q94_13
                have ghp53 := hp53.2
                have q63 : s52 269 0 = s0 269 0 := (ghp53 0 (by decide) (by decide)).trans ((congrFun (fs52 270 (by first | decide | omega)) 0).symm.trans q57)
                have q64 : s52 269 1 = s0 269 1 := (ghp53 1 (by decide) (by decide)).trans ((congrFun (fs52 270 (by first | decide | omega)) 1).symm.trans q58)
                have q65 : s52 269 2 = s0 269 2 := (ghp53 2 (by decide) (by decide)).trans ((congrFun (fs52 270 (by first | decide | omega)) 2).symm.trans q59)
                have q66 : s52 269 3 = s0 269 3 := (ghp53 3 (by decide) (by decide)).trans ((congrFun (fs52 270 (by first | decide | omega)) 3).symm.trans q60)
                have q67 : s52 269 34 = s0 269 34 := (ghp53 34 (by decide) (by decide)).trans ((congrFun (fs52 270 (by first | decide | omega)) 34).symm.trans q61)
                have q68 : s52 269 37 = s0 269 37 := (ghp53 37 (by decide) (by decide)).trans ((congrFun (fs52 270 (by first | decide | omega)) 37).symm.trans q62)
                refine lv_ldcw (v := xJ 1000000000) hx hb hown (hT _ wq1622) dX11_fewest_176 ?_
                refine lv_istore (lv' := [(4, .int (xJ 1000000000)), (0, .ref (h0 + 268)), (2, .int (xJ n)), (3, .int (xJ q))]) hx hb dX11_fewest_179 hl (by decide) rfl (fun ls hl => ?_)
                refine x_iconst hx hb dX11_fewest_181 ?_
                refine lv_istore (lv' := [(5, .int (xJ 0)), (4, .int (xJ 1000000000)), (0, .ref (h0 + 268)), (2, .int (xJ n)), (3, .int (xJ q))]) hx hb dX11_fewest_182 hl (by decide) rfl (fun ls hl => ?_)
                have L184 : ∀ (fu : Nat) (i4_184 : Int) (i5_184 : Int) (H : Heap) (locs : List Loc) (ls : Array Slot), (xR i4_184) → (xR i5_184) → (0 ≤ i5_184) → (i5_184 ≤ 100) → (100 + 1 - i5_184).toNat < fu → xW D g h0 s H locs s52 → lv_has ls 6 [(0, .ref (h0 + 268)), (3, .int (xJ q)), (4, .int (xJ i4_184)), (5, .int (xJ i5_184))] → W p l e { frames := 5, cells := 0, slots := 0, locals := 115 } s m args below meth c H locs 0 0 Q (F0 m 184 ls []) := by
                  intro fu
                  induction fu with
                  | zero => intro i4_184 i5_184 H locs ls ri4_184 ri5_184 v184_0 v184_1 hm; exact absurd hm (Nat.not_lt_zero _)
                  | succ fu ih184 =>
                    intro i4_184 i5_184 H locs ls ri4_184 ri5_184 v184_0 v184_1 hm hW hl
                    have hm_184 := fun (_ : Unit) => hm
                    clear hm
                    refine x_iload hx hb hl 3 rfl dX11_fewest_184 ?_
                    refine x_bipush hx hb dX11_fewest_186 (by decide) ?_
                    refine x_icmp_ge (tgt := 216) hx hb ri5_184 (by decide) dX11_fewest_188 (by decide) (fun c69 => ?_) (fun c69 => ?_)
                    · skip
                      refine x_iload hx hb hl 2 rfl dX11_fewest_216 ?_
                      refine lv_ldcw (v := xJ 1000000000) hx hb hown (hT _ wq1622) dX11_fewest_218 ?_
                      refine x_icmp_ne (tgt := 229) hx hb ri4_184 (by decide) dX11_fewest_221 (by decide) (fun c70 => ?_) (fun c70 => ?_)
                      · skip
                        refine x_iload hx hb hl 2 rfl dX11_fewest_229 ?_
                        rw [eQ]
                        exact x_iret hx hb hr hlk hW ri4_184 ⟨hF54, ⟨hp53.1.1, hp53.1.2.1, hp53.1.2.2.1, q63, q64, q65, q66, q67, q68, trivial⟩, trivial⟩ dX11_fewest_231
                      refine x_bipush hx hb dX11_fewest_224 (by decide) ?_
                      refine lv_goto (tgt := 231) hx hb dX11_fewest_226 (by decide) ?_
                      rw [eQ]
                      exact x_iret hx hb hr hlk hW (by decide) ⟨hF54, ⟨hp53.1.1, hp53.1.2.1, hp53.1.2.2.1, q63, q64, q65, q66, q67, q68, trivial⟩, trivial⟩ dX11_fewest_231
                    refine x_iload hx hb hl 2 rfl dX11_fewest_191 ?_
                    refine x_aload_n hx hb hl 0 rfl dX11_fewest_193 rfl ?_
                    refine x_get (j := 52) (v := .ref (h0 + 302)) hx hb hown hT hE hW cls_X11 (Or.inl (by decide)) (so_268 h0 g _) (by decide) rfl wq1237 dX11_fewest_194 ?_
                    refine x_bipush hx hb dX11_fewest_197 (by decide) ?_
                    refine x_iload hx hb hl 3 rfl dX11_fewest_199 ?_
                    refine x_imul hx hb dX11_fewest_201 ?_
                    refine x_iload_n hx hb hl 1 rfl dX11_fewest_202 rfl ?_
                    refine x_iadd hx hb dX11_fewest_203 ?_
                    refine x_iald hx hb hE hW (Or.inl (by decide)) (sa_302 h0 g _) (by omega) (by decide) dX11_fewest_204 ?_
                    refine x_rd hW (fun x71 ex71 rx71 => ?_)
                    refine x_goi (x_runS (As := [.int (xJ i4_184), .int (xJ x71)]) hx hb hml hown hT hE hW hl.1 cf_X11_min wq1640 wq1639 (c_X11_min l D g T h0 s52 hW.2.1 i4_184 ri4_184 x71 rx71) ⟨rfl, rfl, ⟨by decide, by decide⟩, ⟨by decide, by decide⟩⟩ rfl rfl (Nat.le_of_ble_eq_true rfl) dX11_fewest_205) hW (fun x72 s73 H locs rx72 hp74 hW => ?_)
                    obtain ⟨es73, hp74⟩ := hp74
                    subst es73
                    have ghp74 := hp74
                    refine lv_istore (lv' := [(4, .int (xJ x72)), (0, .ref (h0 + 268)), (3, .int (xJ q)), (5, .int (xJ i5_184))]) hx hb dX11_fewest_208 hl (by decide) rfl (fun ls hl => ?_)
                    refine x_iinc (lv' := [(5, .int (xJ (i5_184 + 1))), (4, .int (xJ x72)), (0, .ref (h0 + 268)), (3, .int (xJ q))]) hx hb hl 3 rfl dX11_fewest_210 (by decide) rfl (fun ls hl => ?_)
                    refine lv_goto (tgt := 184) hx hb dX11_fewest_213 (by decide) ?_
                    exact ih184 x72 (i5_184 + 1) H locs ls rx72 (by omega) (by omega) (by omega) (by have hm := hm_184 (); omega) hW (lv_sub hl [2, 3, 1, 0] rfl)
                exact L184 ((100 + 1 - 0 : Int).toNat + 1) 1000000000 0 H locs ls (by decide) (by decide) (by omega) (by omega) (Nat.lt_succ_self _) hW (lv_sub hl [2, 4, 1, 0] rfl)
              refine x_aload_n hx hb hl 0 rfl dX11_fewest_100 rfl ?_
              refine x_iconst hx hb dX11_fewest_101 ?_
              refine x_gov (x_runV (As := [.int (xJ 0)]) hx hb hml hown hT hE hW hl.1 (Or.inl (by decide)) (so_268 h0 g _) rfl cf_X11_walksOn wq1547 wq132 wq1545 (c_X11_walksOn l D g T h0 s_94 hW.2.1 0 (by decide) (by omega) q94_14 q94_15 q94_16) ⟨rfl, rfl, ⟨by decide, by decide⟩, ⟨by decide, by decide⟩⟩ rfl rfl (Nat.le_of_ble_eq_true rfl) dX11_fewest_102) hW (fun s76 H locs hp77 hW => ?_)
              obtain ⟨fs76, hp77⟩ := hp77
              have hF78 := hF_94.call fs76 (fun k h => by omega)
              have q79 : s76 268 8 = s0 268 8 := (congrFun (fs76 _ (by omega)) _).trans q94_0
              have q80 : s76 268 58 = s0 268 58 := (congrFun (fs76 _ (by omega)) _).trans q94_1
              have q81 : s76 270 0 = s0 269 0 := (congrFun (fs76 _ (by omega)) _).trans q94_8
              have q82 : s76 270 1 = s0 269 1 := (congrFun (fs76 _ (by omega)) _).trans q94_9
              have q83 : s76 270 2 = s0 269 2 := (congrFun (fs76 _ (by omega)) _).trans q94_10
              have q84 : s76 270 3 = s0 269 3 := (congrFun (fs76 _ (by omega)) _).trans q94_11
              have q85 : s76 270 34 = s0 269 34 := (congrFun (fs76 _ (by omega)) _).trans q94_12
              have q86 : s76 270 37 = s0 269 37 := (congrFun (fs76 _ (by omega)) _).trans q94_13
              have ghp77 := hp77.2
              refine x_aload_n hx hb hl 0 rfl dX11_fewest_105 rfl ?_
              refine x_iconst hx hb dX11_fewest_106 ?_
              refine x_gov (x_runV (As := [.int (xJ 1)]) hx hb hml hown hT hE hW hl.1 (Or.inl (by decide)) (so_268 h0 g _) rfl cf_X11_walksOn wq1547 wq132 wq1545 (c_X11_walksOn l D g T h0 s76 hW.2.1 1 (by decide) (by omega) hp77.1.1 hp77.1.2.1 hp77.1.2.2.1) ⟨rfl, rfl, ⟨by decide, by decide⟩, ⟨by decide, by decide⟩⟩ rfl rfl (Nat.le_of_ble_eq_true rfl) dX11_fewest_107) hW (fun s88 H locs hp89 hW => ?_)
              obtain ⟨fs88, hp89⟩ := hp89
              have hF90 := hF78.call fs88 (fun k h => by omega)
              have q91 : s88 268 8 = s0 268 8 := (congrFun (fs88 _ (by omega)) _).trans q79
              have q92 : s88 268 58 = s0 268 58 := (congrFun (fs88 _ (by omega)) _).trans q80
              have q93 : s88 270 0 = s0 269 0 := (congrFun (fs88 _ (by omega)) _).trans q81
              have q94 : s88 270 1 = s0 269 1 := (congrFun (fs88 _ (by omega)) _).trans q82
              have q95 : s88 270 2 = s0 269 2 := (congrFun (fs88 _ (by omega)) _).trans q83
              have q96 : s88 270 3 = s0 269 3 := (congrFun (fs88 _ (by omega)) _).trans q84
              have q97 : s88 270 34 = s0 269 34 := (congrFun (fs88 _ (by omega)) _).trans q85
              have q98 : s88 270 37 = s0 269 37 := (congrFun (fs88 _ (by omega)) _).trans q86
              have ghp89 := hp89.2
              refine x_aload_n hx hb hl 0 rfl dX11_fewest_110 rfl ?_
              refine x_gov (x_runV (As := []) hx hb hml hown hT hE hW hl.1 (Or.inl (by decide)) (so_268 h0 g _) rfl cf_X11_bares wq1592 wq140 wq1590 (c_X11_bares l D g T h0 s88 hW.2.1 hp89.1.1 hp89.1.2.1 hp89.1.2.2.1) ⟨rfl, rfl, ⟨by decide, by decide⟩, ⟨by decide, by decide⟩⟩ rfl rfl (Nat.le_of_ble_eq_true rfl) dX11_fewest_111) hW (fun s100 H locs hp101 hW => ?_)
              obtain ⟨fs100, hp101⟩ := hp101
              have hF102 := hF90.call fs100 (fun k h => by omega)
              have q103 : s100 268 8 = s0 268 8 := (congrFun (fs100 _ (by omega)) _).trans q91
              have q104 : s100 268 58 = s0 268 58 := (congrFun (fs100 _ (by omega)) _).trans q92
              have q105 : s100 270 0 = s0 269 0 := (congrFun (fs100 _ (by omega)) _).trans q93
              have q106 : s100 270 1 = s0 269 1 := (congrFun (fs100 _ (by omega)) _).trans q94
              have q107 : s100 270 2 = s0 269 2 := (congrFun (fs100 _ (by omega)) _).trans q95
              have q108 : s100 270 3 = s0 269 3 := (congrFun (fs100 _ (by omega)) _).trans q96
              have q109 : s100 270 34 = s0 269 34 := (congrFun (fs100 _ (by omega)) _).trans q97
              have q110 : s100 270 37 = s0 269 37 := (congrFun (fs100 _ (by omega)) _).trans q98
              have q111 : s100 269 37 = s0 269 37 := (congrFun (fs100 _ (by omega)) _).trans (hp89.1.2.2.2.1.trans (hp77.1.2.2.2.1.trans q94_7))
              have ghp101 := hp101.2
              refine x_iconst hx hb dX11_fewest_114 ?_
              refine lv_istore (lv' := [(5, .int (xJ 0)), (0, .ref (h0 + 268)), (2, .int (xJ n)), (3, .int (xJ q)), (4, .int (xJ i4_94))]) hx hb dX11_fewest_115 hl (by decide) rfl (fun ls hl => ?_)
              have L117 : ∀ (fu : Nat) (i5_117 : Int) (s_117 : xS) (H : Heap) (locs : List Loc) (ls : Array Slot), (xR i5_117) → (xFr (fun k => k = 269 ∨ k = 270 ∨ k = 293 ∨ k = 294 ∨ k = 295 ∨ k = 296 ∨ k = 302 ∨ k = 303 ∨ k = 304) s0 s_117) → (s_117 268 8 = s0 268 8) → (s_117 268 58 = s0 268 58) → (s_117 270 0 = s0 269 0) → (s_117 270 1 = s0 269 1) → (s_117 270 2 = s0 269 2) → (s_117 270 3 = s0 269 3) → (s_117 270 34 = s0 269 34) → (s_117 270 37 = s0 269 37) → (s_117 269 37 = s0 269 37) → (IMn s_117) → (IMk s_117) → (IMo s_117) → (0 ≤ i5_117) → (i5_117 ≤ 2) → (2 + 1 - i5_117).toNat < fu → xW D g h0 s H locs s_117 → lv_has ls 6 [(0, .ref (h0 + 268)), (2, .int (xJ n)), (3, .int (xJ q)), (4, .int (xJ i4_94)), (5, .int (xJ i5_117))] → W p l e { frames := 5, cells := 0, slots := 0, locals := 115 } s m args below meth c H locs 0 0 Q (F0 m 117 ls []) := by
                intro fu
                induction fu with
                | zero => intro i5_117 s_117 H locs ls ri5_117 hF_117 q117_0 q117_1 q117_2 q117_3 q117_4 q117_5 q117_6 q117_7 q117_8 q117_9 q117_10 q117_11 v117_0 v117_1 hm; exact absurd hm (Nat.not_lt_zero _)
                | succ fu ih117 =>
                  intro i5_117 s_117 H locs ls ri5_117 hF_117 q117_0 q117_1 q117_2 q117_3 q117_4 q117_5 q117_6 q117_7 q117_8 q117_9 q117_10 q117_11 v117_0 v117_1 hm hW hl
                  have hm_117 := fun (_ : Unit) => hm
                  clear hm
                  refine x_iload hx hb hl 4 rfl dX11_fewest_117 ?_
                  refine x_iconst hx hb dX11_fewest_119 ?_
                  refine x_icmp_ge (tgt := 154) hx hb ri5_117 (by decide) dX11_fewest_120 (by decide) (fun c112 => ?_) (fun c112 => ?_)
                  · skip
                    refine x_aload_n hx hb hl 0 rfl dX11_fewest_154 rfl ?_
                    refine x_iload_n hx hb hl 2 rfl dX11_fewest_155 rfl ?_
                    refine x_gov (x_runV (As := [.int (xJ q)]) hx hb hml hown hT hE hW hl.1 (Or.inl (by decide)) (so_268 h0 g _) rfl cf_X11_goesFew wq1689 wq156 wq1687 (c_X11_goesFew l D g T h0 s_117 hW.2.1 q rq (by omega) q117_9 q117_10 q117_11) ⟨rfl, rfl, ⟨by decide, by decide⟩, ⟨by decide, by decide⟩⟩ rfl rfl (Nat.le_of_ble_eq_true rfl) dX11_fewest_156) hW (fun s114 H locs hp115 hW => ?_)
                    obtain ⟨fs114, hp115⟩ := hp115
                    have hF116 := hF_117.call fs114 (fun k h => by omega)
                    have q117 : s114 268 8 = s0 268 8 := (congrFun (fs114 _ (by omega)) _).trans q117_0
                    have q118 : s114 268 58 = s0 268 58 := (congrFun (fs114 _ (by omega)) _).trans q117_1
                    have q119 : s114 270 0 = s0 269 0 := (congrFun (fs114 _ (by omega)) _).trans q117_2
                    have q120 : s114 270 1 = s0 269 1 := (congrFun (fs114 _ (by omega)) _).trans q117_3
                    have q121 : s114 270 2 = s0 269 2 := (congrFun (fs114 _ (by omega)) _).trans q117_4
                    have q122 : s114 270 3 = s0 269 3 := (congrFun (fs114 _ (by omega)) _).trans q117_5
                    have q123 : s114 270 34 = s0 269 34 := (congrFun (fs114 _ (by omega)) _).trans q117_6
                    have q124 : s114 270 37 = s0 269 37 := (congrFun (fs114 _ (by omega)) _).trans q117_7
                    have q125 : s114 269 37 = s0 269 37 := (congrFun (fs114 _ (by omega)) _).trans q117_8
                    have ghp115 := hp115.2
                    refine x_iinc (lv' := [(4, .int (xJ (i4_94 + 1))), (0, .ref (h0 + 268)), (2, .int (xJ n)), (3, .int (xJ q)), (5, .int (xJ i5_117))]) hx hb hl 3 rfl dX11_fewest_159 (by decide) rfl (fun ls hl => ?_)
                    refine lv_goto (tgt := 94) hx hb dX11_fewest_162 (by decide) ?_
                    exact ih94 (i4_94 + 1) s114 H locs ls (by omega) hF116 q117 q118 q125 q119 q120 q121 q122 q123 q124 hp115.1.1 hp115.1.2.1 hp115.1.2.2.1 (by omega) (by have hm := hm_94 (); omega) hW (lv_sub hl [1, 2, 3, 0] rfl)
                  refine x_aload_n hx hb hl 0 rfl dX11_fewest_123 rfl ?_
                  refine x_iload hx hb hl 4 rfl dX11_fewest_124 ?_
                  refine x_goi (x_runV (As := [.int (xJ i5_117)]) hx hb hml hown hT hE hW hl.1 (Or.inl (by decide)) (so_268 h0 g _) rfl cf_X11_isJudge wq1409 wq109 wq1407 (c_X11_isJudge l D g T h0 s_117 hW.2.1 i5_117 ri5_117 q117_9 q117_10 q117_11) ⟨rfl, rfl, ⟨by decide, by decide⟩, ⟨by decide, by decide⟩⟩ rfl rfl (Nat.le_of_ble_eq_true rfl) dX11_fewest_126) hW (fun x126 s127 H locs rx126 hp128 hW => ?_)
                  obtain ⟨es127, hp128⟩ := hp128
                  subst es127
                  have ghp128 := hp128
                  refine x_if_eq (tgt := 148) hx hb rx126 dX11_fewest_129 (by decide) (fun c129 => ?_) (fun c129 => ?_)
                  · skip
                    refine x_iinc (lv' := [(5, .int (xJ (i5_117 + 1))), (0, .ref (h0 + 268)), (2, .int (xJ n)), (3, .int (xJ q)), (4, .int (xJ i4_94))]) hx hb hl 4 rfl dX11_fewest_148 (by decide) rfl (fun ls hl => ?_)
                    refine lv_goto (tgt := 117) hx hb dX11_fewest_151 (by decide) ?_
                    exact ih117 (i5_117 + 1) s_117 H locs ls (by omega) hF_117 q117_0 q117_1 q117_2 q117_3 q117_4 q117_5 q117_6 q117_7 q117_8 q117_9 q117_10 q117_11 (by omega) (by omega) (by have hm := hm_117 (); omega) hW (lv_sub hl [1, 2, 3, 4, 0] rfl)
                  refine x_aload_n hx hb hl 0 rfl dX11_fewest_132 rfl ?_
                  refine x_iload hx hb hl 4 rfl dX11_fewest_133 ?_
                  refine x_aload_n hx hb hl 0 rfl dX11_fewest_135 rfl ?_
                  refine x_get (j := 1) (v := .ref (h0 + 270)) hx hb hown hT hE hW cls_X11 (Or.inl (by decide)) (so_268 h0 g _) (by decide) rfl wq1186 dX11_fewest_136 ?_
                  refine x_bipush hx hb dX11_fewest_139 (by decide) ?_
                  refine x_iald hx hb hE hW (Or.inl (by decide)) (sa_270 h0 g _) ⟨by decide, by decide⟩ (by decide) dX11_fewest_141 ?_
                  refine x_rd hW (fun x130 ex130 rx130 => ?_)
                  have bx130 : 0 ≤ x130 ∧ x130 ≤ 9999 := by rw [ex130]; exact (IMn.n2 q117_9).2.2.2.1
                  have fx130 : x130 = s0 269 37 := ex130.trans q117_7
                  refine x_iload hx hb hl 3 rfl dX11_fewest_142 ?_
                  refine x_iadd hx hb dX11_fewest_144 ?_
                  refine x_gov (x_runV (As := [.int (xJ i5_117), .int (xJ (x130 + i4_94))]) hx hb hml hown hT hE hW hl.1 (Or.inl (by decide)) (so_268 h0 g _) rfl cf_X11_fallsOf wq1596 wq141 wq1594 (c_X11_fallsOf l D g T h0 s_117 hW.2.1 i5_117 ri5_117 (x130 + i4_94) (by omega) (by omega) q117_9 q117_10 q117_11) ⟨rfl, rfl, ⟨by decide, by decide⟩, ⟨by decide, by decide⟩⟩ rfl rfl (Nat.le_of_ble_eq_true rfl) dX11_fewest_145) hW (fun s132 H locs hp133 hW => ?_)
                  obtain ⟨fs132, hp133⟩ := hp133
                  have hF134 := hF_117.call fs132 (fun k h => by omega)
                  have q135 : s132 268 8 = s0 268 8 := (congrFun (fs132 _ (by omega)) _).trans q117_0
                  have q136 : s132 268 58 = s0 268 58 := (congrFun (fs132 _ (by omega)) _).trans q117_1
                  have q137 : s132 270 0 = s0 269 0 := (congrFun (fs132 _ (by omega)) _).trans q117_2
                  have q138 : s132 270 1 = s0 269 1 := (congrFun (fs132 _ (by omega)) _).trans q117_3
                  have q139 : s132 270 2 = s0 269 2 := (congrFun (fs132 _ (by omega)) _).trans q117_4
                  have q140 : s132 270 3 = s0 269 3 := (congrFun (fs132 _ (by omega)) _).trans q117_5
                  have q141 : s132 270 34 = s0 269 34 := (congrFun (fs132 _ (by omega)) _).trans q117_6
                  have q142 : s132 270 37 = s0 269 37 := (congrFun (fs132 _ (by omega)) _).trans q117_7
                  have q143 : s132 269 37 = s0 269 37 := (congrFun (fs132 _ (by omega)) _).trans q117_8
                  have ghp133 := hp133.2
                  refine x_iinc (lv' := [(5, .int (xJ (i5_117 + 1))), (0, .ref (h0 + 268)), (2, .int (xJ n)), (3, .int (xJ q)), (4, .int (xJ i4_94))]) hx hb hl 4 rfl dX11_fewest_148 (by decide) rfl (fun ls hl => ?_)
                  refine lv_goto (tgt := 117) hx hb dX11_fewest_151 (by decide) ?_
                  exact ih117 (i5_117 + 1) s132 H locs ls (by omega) hF134 q135 q136 q137 q138 q139 q140 q141 q142 q143 hp133.1.1 hp133.1.2.1 hp133.1.2.2.1 (by omega) (by omega) (by have hm := hm_117 (); omega) hW (lv_sub hl [1, 2, 3, 4, 0] rfl)
              exact L117 ((2 + 1 - 0 : Int).toNat + 1) 0 s100 H locs ls (by decide) hF102 q103 q104 q105 q106 q107 q108 q109 q110 q111 hp101.1.1 hp101.1.2.1 hp101.1.2.2.1 (by omega) (by omega) (Nat.lt_succ_self _) hW (lv_sub hl [1, 2, 3, 4, 0] rfl)
          exact L94 ((n + 1 - 0 : Int).toNat + 1) 0 s_47 H locs ls (by decide) hF_47 q47_0 q47_1 q47_7 q47_8 q47_9 q47_10 q47_11 q47_12 q47_13 q47_14 q47_15 q47_16 (by omega) (Nat.lt_succ_self _) hW (lv_sub hl [1, 3, 4, 0] rfl)
        refine x_aload_n hx hb hl 0 rfl dX11_fewest_55 rfl ?_
        refine x_get (j := 52) (v := .ref (h0 + 302)) hx hb hown hT hE hW cls_X11 (Or.inl (by decide)) (so_268 h0 g _) (by decide) rfl wq1237 dX11_fewest_56 ?_
        refine x_iload hx hb hl 4 rfl dX11_fewest_59 ?_
        refine x_iload hx hb hl 4 rfl dX11_fewest_61 ?_
        refine x_bipush hx hb dX11_fewest_63 (by decide) ?_
        refine x_aload_n hx hb hl 0 rfl dX11_fewest_65 rfl ?_
        refine x_get (j := 0) (v := .ref (h0 + 269)) hx hb hown hT hE hW cls_X11 (Or.inl (by decide)) (so_268 h0 g _) (by decide) rfl wq1185 dX11_fewest_66 ?_
        refine x_iconst hx hb dX11_fewest_69 ?_
        refine x_iload_n hx hb hl 1 rfl dX11_fewest_70 rfl ?_
        refine x_iadd hx hb dX11_fewest_71 ?_
        refine x_iald hx hb hE hW (Or.inl (by decide)) (sa_269 h0 g _) (by omega) (by decide) dX11_fewest_72 ?_
        refine x_rd hW (fun x144 ex144 rx144 => ?_)
        have bx144 : 0 ≤ x144 ∧ x144 ≤ 99 := by rw [ex144]; exact (IMn.n1 q47_14).2.2.1 _ (by omega) (by omega)
        refine x_imul hx hb dX11_fewest_73 ?_
        refine x_icmp_ne (tgt := 81) hx hb ri4_47 (by omega) dX11_fewest_74 (by decide) (fun c145 => ?_) (fun c145 => ?_)
        · skip
          refine lv_ldcw (v := xJ 1000000000) hx hb hown (hT _ wq1622) dX11_fewest_81 ?_
          refine x_iast hx hb hE hW (by decide) (fun σ => sa_302 h0 g σ) (by omega) (by decide) (by decide) dX11_fewest_84 (fun H locs s146 es146 hW => ?_)
          have q147 : s146 268 8 = s0 268 8 := (show s146 268 8 = s_47 268 8 from by rw [es146, xU_k _ _ _ (by first | decide | omega)]).trans q47_0
          have q148 : s146 268 58 = s0 268 58 := (show s146 268 58 = s_47 268 58 from by rw [es146, xU_k _ _ _ (by first | decide | omega)]).trans q47_1
          have q149 : s146 269 0 = s0 269 0 := (show s146 269 0 = s_47 269 0 from by rw [es146, xU_k _ _ _ (by first | decide | omega)]).trans q47_2
          have q150 : s146 269 1 = s0 269 1 := (show s146 269 1 = s_47 269 1 from by rw [es146, xU_k _ _ _ (by first | decide | omega)]).trans q47_3
          have q151 : s146 269 2 = s0 269 2 := (show s146 269 2 = s_47 269 2 from by rw [es146, xU_k _ _ _ (by first | decide | omega)]).trans q47_4
          have q152 : s146 269 3 = s0 269 3 := (show s146 269 3 = s_47 269 3 from by rw [es146, xU_k _ _ _ (by first | decide | omega)]).trans q47_5
          have q153 : s146 269 34 = s0 269 34 := (show s146 269 34 = s_47 269 34 from by rw [es146, xU_k _ _ _ (by first | decide | omega)]).trans q47_6
          have q154 : s146 269 37 = s0 269 37 := (show s146 269 37 = s_47 269 37 from by rw [es146, xU_k _ _ _ (by first | decide | omega)]).trans q47_7
          have q155 : s146 270 0 = s0 269 0 := (show s146 270 0 = s_47 270 0 from by rw [es146, xU_k _ _ _ (by first | decide | omega)]).trans q47_8
          have q156 : s146 270 1 = s0 269 1 := (show s146 270 1 = s_47 270 1 from by rw [es146, xU_k _ _ _ (by first | decide | omega)]).trans q47_9
          have q157 : s146 270 2 = s0 269 2 := (show s146 270 2 = s_47 270 2 from by rw [es146, xU_k _ _ _ (by first | decide | omega)]).trans q47_10
          have q158 : s146 270 3 = s0 269 3 := (show s146 270 3 = s_47 270 3 from by rw [es146, xU_k _ _ _ (by first | decide | omega)]).trans q47_11
          have q159 : s146 270 34 = s0 269 34 := (show s146 270 34 = s_47 270 34 from by rw [es146, xU_k _ _ _ (by first | decide | omega)]).trans q47_12
          have q160 : s146 270 37 = s0 269 37 := (show s146 270 37 = s_47 270 37 from by rw [es146, xU_k _ _ _ (by first | decide | omega)]).trans q47_13
          have q161 : IMn s146 := by rw [es146]; exact IMn_o (by unfold suIMn; first | decide | omega) q47_14
          have q162 : IMk s146 := by rw [es146]; exact IMk_o (by unfold suIMk; first | decide | omega) q47_15
          have q163 : IMo s146 := by rw [es146]; exact IMo_o (by unfold suIMo; first | decide | omega) q47_16
          have hF164 := hF_47.put es146 (by omega)
          refine x_iinc (lv' := [(4, .int (xJ (i4_47 + 1))), (0, .ref (h0 + 268)), (1, .int (xJ f)), (2, .int (xJ n)), (3, .int (xJ q))]) hx hb hl 4 rfl dX11_fewest_85 (by decide) rfl (fun ls hl => ?_)
          refine lv_goto (tgt := 47) hx hb dX11_fewest_88 (by decide) ?_
          exact ih47 (i4_47 + 1) s146 H locs ls (by omega) hF164 q147 q148 q149 q150 q151 q152 q153 q154 q155 q156 q157 q158 q159 q160 q161 q162 q163 (by omega) (by omega) (by have hm := hm_47 (); omega) hW (lv_sub hl [1, 2, 3, 4, 0] rfl)
        refine x_iconst hx hb dX11_fewest_77 ?_
        refine lv_goto (tgt := 84) hx hb dX11_fewest_78 (by decide) ?_
        refine x_iast hx hb hE hW (by decide) (fun σ => sa_302 h0 g σ) (by omega) (by decide) (by decide) dX11_fewest_84 (fun H locs s165 es165 hW => ?_)
        have q166 : s165 268 8 = s0 268 8 := (show s165 268 8 = s_47 268 8 from by rw [es165, xU_k _ _ _ (by first | decide | omega)]).trans q47_0
        have q167 : s165 268 58 = s0 268 58 := (show s165 268 58 = s_47 268 58 from by rw [es165, xU_k _ _ _ (by first | decide | omega)]).trans q47_1
        have q168 : s165 269 0 = s0 269 0 := (show s165 269 0 = s_47 269 0 from by rw [es165, xU_k _ _ _ (by first | decide | omega)]).trans q47_2
        have q169 : s165 269 1 = s0 269 1 := (show s165 269 1 = s_47 269 1 from by rw [es165, xU_k _ _ _ (by first | decide | omega)]).trans q47_3
        have q170 : s165 269 2 = s0 269 2 := (show s165 269 2 = s_47 269 2 from by rw [es165, xU_k _ _ _ (by first | decide | omega)]).trans q47_4
        have q171 : s165 269 3 = s0 269 3 := (show s165 269 3 = s_47 269 3 from by rw [es165, xU_k _ _ _ (by first | decide | omega)]).trans q47_5
        have q172 : s165 269 34 = s0 269 34 := (show s165 269 34 = s_47 269 34 from by rw [es165, xU_k _ _ _ (by first | decide | omega)]).trans q47_6
        have q173 : s165 269 37 = s0 269 37 := (show s165 269 37 = s_47 269 37 from by rw [es165, xU_k _ _ _ (by first | decide | omega)]).trans q47_7
        have q174 : s165 270 0 = s0 269 0 := (show s165 270 0 = s_47 270 0 from by rw [es165, xU_k _ _ _ (by first | decide | omega)]).trans q47_8
        have q175 : s165 270 1 = s0 269 1 := (show s165 270 1 = s_47 270 1 from by rw [es165, xU_k _ _ _ (by first | decide | omega)]).trans q47_9
        have q176 : s165 270 2 = s0 269 2 := (show s165 270 2 = s_47 270 2 from by rw [es165, xU_k _ _ _ (by first | decide | omega)]).trans q47_10
        have q177 : s165 270 3 = s0 269 3 := (show s165 270 3 = s_47 270 3 from by rw [es165, xU_k _ _ _ (by first | decide | omega)]).trans q47_11
        have q178 : s165 270 34 = s0 269 34 := (show s165 270 34 = s_47 270 34 from by rw [es165, xU_k _ _ _ (by first | decide | omega)]).trans q47_12
        have q179 : s165 270 37 = s0 269 37 := (show s165 270 37 = s_47 270 37 from by rw [es165, xU_k _ _ _ (by first | decide | omega)]).trans q47_13
        have q180 : IMn s165 := by rw [es165]; exact IMn_o (by unfold suIMn; first | decide | omega) q47_14
        have q181 : IMk s165 := by rw [es165]; exact IMk_o (by unfold suIMk; first | decide | omega) q47_15
        have q182 : IMo s165 := by rw [es165]; exact IMo_o (by unfold suIMo; first | decide | omega) q47_16
        have hF183 := hF_47.put es165 (by omega)
        refine x_iinc (lv' := [(4, .int (xJ (i4_47 + 1))), (0, .ref (h0 + 268)), (1, .int (xJ f)), (2, .int (xJ n)), (3, .int (xJ q))]) hx hb hl 4 rfl dX11_fewest_85 (by decide) rfl (fun ls hl => ?_)
        refine lv_goto (tgt := 47) hx hb dX11_fewest_88 (by decide) ?_
        exact ih47 (i4_47 + 1) s165 H locs ls (by omega) hF183 q166 q167 q168 q169 q170 q171 q172 q173 q174 q175 q176 q177 q178 q179 q180 q181 q182 (by omega) (by omega) (by have hm := hm_47 (); omega) hW (lv_sub hl [1, 2, 3, 4, 0] rfl)
    exact L47 ((3100 + 1 - 0 : Int).toNat + 1) 0 s32 H locs ls (by decide) hF34 q35 q36 q37 q38 q39 q40 q41 q42 q43 q44 q45 q46 q47 q48 hp33.1.1 hp33.1.2.1 hp33.1.2.2.1 (by omega) (by omega) (Nat.lt_succ_self _) hW (lv_sub hl [1, 2, 3, 4, 0] rfl)
  refine x_iconst hx hb dX11_fewest_27 ?_
  rw [eQ]
  exact x_iret hx hb hr hlk hW (by decide) ⟨hF, ⟨p0, p1, p2, k269_0, k269_1, k269_2, k269_3, k269_34, k269_37, trivial⟩, trivial⟩ dX11_fewest_28
set_option maxHeartbeats 4000000 in
set_option maxRecDepth 100000 in
theorem c_X11_servedInT (l : Launch) (D : va_G) (g : xG) (T : Nat × Nat × Nat) (h0 : Nat) (s0 : xS) (hσ : xRR s0) (j : Int) (rj : xR j) (n : Int) (rn : xR n) (a : Int) (ra : xR a) (hj : 0 ≤ j ∧ j < 2) (p0 : IMn s0) (p1 : IMk s0) (p2 : IMo s0) : Met l yX11_servedIn (xws yX11_servedIn cX11_servedIn 5 (some .int)) { frames := 8, cells := 0, slots := 0, locals := 187 } (xP [.ref (h0 + 268), .int (xJ j), .int (xJ n), .int (xJ a)] D g T h0 s0) (xQi D g h0 (fun r τ => xFr (fun k => k = 268 ∨ k = 269 ∨ k = 270 ∨ k = 293 ∨ k = 294 ∨ k = 295 ∨ k = 296 ∨ k = 297 ∨ k = 298 ∨ k = 299) s0 τ ∧ (((IMn τ) ∧ (IMk τ) ∧ (IMo τ) ∧ (τ 268 8 = s0 268 8) ∧ (τ 268 58 = s0 268 58) ∧ (τ 269 0 = s0 269 0) ∧ (τ 269 1 = s0 269 1) ∧ (τ 269 2 = s0 269 2) ∧ (τ 269 3 = s0 269 3) ∧ (τ 269 34 = s0 269 34) ∧ (τ 269 37 = s0 269 37) ∧ True) ∧ (True)))) 0 0 (xA h0) := by
  refine x_met hσ (by decide) (Nat.le_of_ble_eq_true rfl) ?_
  intro p e s m args below meth c hx hb hr hml hown hT hlk hnm hE hW ls hl
  have hl : lv_has ls 5 [(0, .ref (h0 + 268)), (1, .int (xJ j)), (2, .int (xJ n)), (3, .int (xJ a))] := hl
  obtain ⟨Q, eQ⟩ : ∃ Q, Q = MQ below (xQi D g h0 (fun r τ => xFr (fun k => k = 268 ∨ k = 269 ∨ k = 270 ∨ k = 293 ∨ k = 294 ∨ k = 295 ∨ k = 296 ∨ k = 297 ∨ k = 298 ∨ k = 299) s0 τ ∧ (((IMn τ) ∧ (IMk τ) ∧ (IMo τ) ∧ (τ 268 8 = s0 268 8) ∧ (τ 268 58 = s0 268 58) ∧ (τ 269 0 = s0 269 0) ∧ (τ 269 1 = s0 269 1) ∧ (τ 269 2 = s0 269 2) ∧ (τ 269 3 = s0 269 3) ∧ (τ 269 34 = s0 269 34) ∧ (τ 269 37 = s0 269 37) ∧ True) ∧ (True)))) args s 0 0 (xA h0) := ⟨_, rfl⟩
  rw [← eQ]
  generalize hHe : ([] : List Loc) = locs at hW ⊢
  obtain ⟨H, eH⟩ : ∃ H, H = s.heap := ⟨_, rfl⟩
  rw [← eH] at hW ⊢
  have hF : xFr (fun k => k = 268 ∨ k = 269 ∨ k = 270 ∨ k = 293 ∨ k = 294 ∨ k = 295 ∨ k = 296 ∨ k = 297 ∨ k = 298 ∨ k = 299) s0 s0 := xFr.rf
  have k268_8 : s0 268 8 = s0 268 8 := rfl
  have k268_58 : s0 268 58 = s0 268 58 := rfl
  have k269_0 : s0 269 0 = s0 269 0 := rfl
  have k269_1 : s0 269 1 = s0 269 1 := rfl
  have k269_2 : s0 269 2 = s0 269 2 := rfl
  have k269_3 : s0 269 3 = s0 269 3 := rfl
  have k269_34 : s0 269 34 = s0 269 34 := rfl
  have k269_37 : s0 269 37 = s0 269 37 := rfl
  refine x_aload_n hx hb hl 0 rfl dX11_servedIn_0 rfl ?_
  refine x_get (j := 0) (v := .ref (h0 + 269)) hx hb hown hT hE hW cls_X11 (Or.inl (by decide)) (so_268 h0 g _) (by decide) rfl wq1185 dX11_servedIn_1 ?_
  refine x_aload_n hx hb hl 0 rfl dX11_servedIn_4 rfl ?_
  refine x_get (j := 1) (v := .ref (h0 + 270)) hx hb hown hT hE hW cls_X11 (Or.inl (by decide)) (so_268 h0 g _) (by decide) rfl wq1186 dX11_servedIn_5 ?_
  refine x_gov (x_runS (As := [.ref (h0 + 269), .ref (h0 + 270)]) hx hb hml hown hT hE hW hl.1 cf_X11_copies wq1647 wq1646 (c_X11_copiesMA l D g T h0 s0 hW.2.1 p0 p1 p2) ⟨rfl, rfl, ⟨by decide, by decide⟩, ⟨by decide, by decide⟩⟩ rfl rfl (Nat.le_of_ble_eq_true rfl) dX11_servedIn_8) hW (fun s2 H locs hp3 hW => ?_)
  obtain ⟨fs2, hp3⟩ := hp3
  have hF4 := hF.call fs2 (fun k h => by omega)
  have q5 : s2 268 8 = s0 268 8 := (congrFun (fs2 _ (by omega)) _).trans k268_8
  have q6 : s2 268 58 = s0 268 58 := (congrFun (fs2 _ (by omega)) _).trans k268_58
  have q7 : s2 269 0 = s0 269 0 := (congrFun (fs2 _ (by omega)) _).trans k269_0
  have q8 : s2 269 1 = s0 269 1 := (congrFun (fs2 _ (by omega)) _).trans k269_1
  have q9 : s2 269 2 = s0 269 2 := (congrFun (fs2 _ (by omega)) _).trans k269_2
  have q10 : s2 269 3 = s0 269 3 := (congrFun (fs2 _ (by omega)) _).trans k269_3
  have q11 : s2 269 34 = s0 269 34 := (congrFun (fs2 _ (by omega)) _).trans k269_34
  have q12 : s2 269 37 = s0 269 37 := (congrFun (fs2 _ (by omega)) _).trans k269_37
  have ghp3 := hp3.2
  have q13 : s2 270 0 = s0 269 0 := (ghp3 0 (by decide) (by decide)).trans ((congrFun (fs2 269 (by first | decide | omega)) 0).symm.trans q7)
  have q14 : s2 270 1 = s0 269 1 := (ghp3 1 (by decide) (by decide)).trans ((congrFun (fs2 269 (by first | decide | omega)) 1).symm.trans q8)
  have q15 : s2 270 2 = s0 269 2 := (ghp3 2 (by decide) (by decide)).trans ((congrFun (fs2 269 (by first | decide | omega)) 2).symm.trans q9)
  have q16 : s2 270 3 = s0 269 3 := (ghp3 3 (by decide) (by decide)).trans ((congrFun (fs2 269 (by first | decide | omega)) 3).symm.trans q10)
  have q17 : s2 270 34 = s0 269 34 := (ghp3 34 (by decide) (by decide)).trans ((congrFun (fs2 269 (by first | decide | omega)) 34).symm.trans q11)
  have q18 : s2 270 37 = s0 269 37 := (ghp3 37 (by decide) (by decide)).trans ((congrFun (fs2 269 (by first | decide | omega)) 37).symm.trans q12)
  refine x_aload_n hx hb hl 0 rfl dX11_servedIn_11 rfl ?_
  refine x_gov (x_runV (As := []) hx hb hml hown hT hE hW hl.1 (Or.inl (by decide)) (so_268 h0 g _) rfl cf_X11_begins wq1543 wq131 wq1541 (c_X11_begins l D g T h0 s2 hW.2.1 hp3.1.1 hp3.1.2.1 hp3.1.2.2.1) ⟨rfl, rfl, ⟨by decide, by decide⟩, ⟨by decide, by decide⟩⟩ rfl rfl (Nat.le_of_ble_eq_true rfl) dX11_servedIn_12) hW (fun s20 H locs hp21 hW => ?_)
  obtain ⟨fs20, hp21⟩ := hp21
  have hF22 := hF4.call fs20 (fun k h => by omega)
  have q23 : s20 269 0 = s0 269 0 := (congrFun (fs20 _ (by omega)) _).trans q7
  have q24 : s20 269 1 = s0 269 1 := (congrFun (fs20 _ (by omega)) _).trans q8
  have q25 : s20 269 2 = s0 269 2 := (congrFun (fs20 _ (by omega)) _).trans q9
  have q26 : s20 269 3 = s0 269 3 := (congrFun (fs20 _ (by omega)) _).trans q10
  have q27 : s20 269 34 = s0 269 34 := (congrFun (fs20 _ (by omega)) _).trans q11
  have q28 : s20 269 37 = s0 269 37 := (congrFun (fs20 _ (by omega)) _).trans q12
  have q29 : s20 270 0 = s0 269 0 := (congrFun (fs20 _ (by omega)) _).trans q13
  have q30 : s20 270 1 = s0 269 1 := (congrFun (fs20 _ (by omega)) _).trans q14
  have q31 : s20 270 2 = s0 269 2 := (congrFun (fs20 _ (by omega)) _).trans q15
  have q32 : s20 270 3 = s0 269 3 := (congrFun (fs20 _ (by omega)) _).trans q16
  have q33 : s20 270 34 = s0 269 34 := (congrFun (fs20 _ (by omega)) _).trans q17
  have q34 : s20 270 37 = s0 269 37 := (congrFun (fs20 _ (by omega)) _).trans q18
  have ghp21 := hp21.2
  refine x_iconst hx hb dX11_servedIn_15 ?_
  refine lv_istore (lv' := [(4, .int (xJ 0)), (0, .ref (h0 + 268)), (1, .int (xJ j)), (2, .int (xJ n)), (3, .int (xJ a))]) hx hb dX11_servedIn_16 hl (by decide) rfl (fun ls hl => ?_)
  have L18 : ∀ (fu : Nat) (i4_18 : Int) (s_18 : xS) (H : Heap) (locs : List Loc) (ls : Array Slot), (xR i4_18) → (xFr (fun k => k = 268 ∨ k = 269 ∨ k = 270 ∨ k = 293 ∨ k = 294 ∨ k = 295 ∨ k = 296 ∨ k = 297 ∨ k = 298 ∨ k = 299) s0 s_18) → (s_18 270 0 = s0 269 0) → (s_18 270 1 = s0 269 1) → (s_18 270 2 = s0 269 2) → (s_18 270 3 = s0 269 3) → (s_18 270 34 = s0 269 34) → (s_18 270 37 = s0 269 37) → (IMn s_18) → (IMk s_18) → (IMo s_18) → (s_18 268 8 = s0 268 8) → (s_18 268 58 = s0 268 58) → (0 ≤ i4_18) → (n + 1 - i4_18).toNat < fu → xW D g h0 s H locs s_18 → lv_has ls 5 [(0, .ref (h0 + 268)), (1, .int (xJ j)), (2, .int (xJ n)), (3, .int (xJ a)), (4, .int (xJ i4_18))] → W p l e { frames := 8, cells := 0, slots := 0, locals := 187 } s m args below meth c H locs 0 0 Q (F0 m 18 ls []) := by
    intro fu
    induction fu with
    | zero => intro i4_18 s_18 H locs ls ri4_18 hF_18 q18_6 q18_7 q18_8 q18_9 q18_10 q18_11 q18_12 q18_13 q18_14 q18_15 q18_16 v18_0 hm; exact absurd hm (Nat.not_lt_zero _)
    | succ fu ih18 =>
      intro i4_18 s_18 H locs ls ri4_18 hF_18 q18_6 q18_7 q18_8 q18_9 q18_10 q18_11 q18_12 q18_13 q18_14 q18_15 q18_16 v18_0 hm hW hl
      have hm_18 := fun (_ : Unit) => hm
      clear hm
      refine x_iload hx hb hl 4 rfl dX11_servedIn_18 ?_
      refine x_iload_n hx hb hl 2 rfl dX11_servedIn_20 rfl ?_
      refine x_icmp_ge (tgt := 87) hx hb ri4_18 rn dX11_servedIn_21 (by decide) (fun c35 => ?_) (fun c35 => ?_)
      · skip
        refine x_aload_n hx hb hl 0 rfl dX11_servedIn_87 rfl ?_
        refine x_get (j := 1) (v := .ref (h0 + 270)) hx hb hown hT hE hW cls_X11 (Or.inl (by decide)) (so_268 h0 g _) (by decide) rfl wq1186 dX11_servedIn_88 ?_
        refine x_aload_n hx hb hl 0 rfl dX11_servedIn_91 rfl ?_
        refine x_get (j := 0) (v := .ref (h0 + 269)) hx hb hown hT hE hW cls_X11 (Or.inl (by decide)) (so_268 h0 g _) (by decide) rfl wq1185 dX11_servedIn_92 ?_
        refine x_gov (x_runS (As := [.ref (h0 + 270), .ref (h0 + 269)]) hx hb hml hown hT hE hW hl.1 cf_X11_copies wq1647 wq1646 (c_X11_copiesMB l D g T h0 s_18 hW.2.1 q18_12 q18_13 q18_14) ⟨rfl, rfl, ⟨by decide, by decide⟩, ⟨by decide, by decide⟩⟩ rfl rfl (Nat.le_of_ble_eq_true rfl) dX11_servedIn_95) hW (fun s37 H locs hp38 hW => ?_)
        obtain ⟨fs37, hp38⟩ := hp38
        have hF39 := hF_18.call fs37 (fun k h => by omega)
        have q40 : s37 270 0 = s0 269 0 := (congrFun (fs37 _ (by omega)) _).trans q18_6
        have q41 : s37 270 1 = s0 269 1 := (congrFun (fs37 _ (by omega)) _).trans q18_7
        have q42 : s37 270 2 = s0 269 2 := (congrFun (fs37 _ (by omega)) _).trans q18_8
        have q43 : s37 270 3 = s0 269 3 := (congrFun (fs37 _ (by omega)) _).trans q18_9
        have q44 : s37 270 34 = s0 269 34 := (congrFun (fs37 _ (by omega)) _).trans q18_10
        have q45 : s37 270 37 = s0 269 37 := (congrFun (fs37 _ (by omega)) _).trans q18_11
        have q46 : s37 268 8 = s0 268 8 := (congrFun (fs37 _ (by omega)) _).trans q18_15
        have q47 : s37 268 58 = s0 268 58 := (congrFun (fs37 _ (by omega)) _).trans q18_16
        have ghp38 := hp38.2
        have q48 : s37 269 0 = s0 269 0 := (ghp38 0 (by decide) (by decide)).trans ((congrFun (fs37 270 (by first | decide | omega)) 0).symm.trans q40)
        have q49 : s37 269 1 = s0 269 1 := (ghp38 1 (by decide) (by decide)).trans ((congrFun (fs37 270 (by first | decide | omega)) 1).symm.trans q41)
        have q50 : s37 269 2 = s0 269 2 := (ghp38 2 (by decide) (by decide)).trans ((congrFun (fs37 270 (by first | decide | omega)) 2).symm.trans q42)
        have q51 : s37 269 3 = s0 269 3 := (ghp38 3 (by decide) (by decide)).trans ((congrFun (fs37 270 (by first | decide | omega)) 3).symm.trans q43)
        have q52 : s37 269 34 = s0 269 34 := (ghp38 34 (by decide) (by decide)).trans ((congrFun (fs37 270 (by first | decide | omega)) 34).symm.trans q44)
        have q53 : s37 269 37 = s0 269 37 := (ghp38 37 (by decide) (by decide)).trans ((congrFun (fs37 270 (by first | decide | omega)) 37).symm.trans q45)
        refine x_aload_n hx hb hl 0 rfl dX11_servedIn_98 rfl ?_
        refine x_get (j := 41) (v := .int (xJ (s37 268 41))) hx hb hown hT hE hW cls_X11 (Or.inl (by decide)) (so_268 h0 g _) (by decide) rfl wq1226 dX11_servedIn_99 ?_
        refine x_rd hW (fun x54 ex54 rx54 => ?_)
        rw [eQ]
        exact x_iret hx hb hr hlk hW rx54 ⟨hF39, ⟨hp38.1.1, hp38.1.2.1, hp38.1.2.2.1, q46, q47, q48, q49, q50, q51, q52, q53, trivial⟩, trivial⟩ dX11_servedIn_102
      refine x_aload_n hx hb hl 0 rfl dX11_servedIn_24 rfl ?_
      refine x_get (j := 0) (v := .ref (h0 + 269)) hx hb hown hT hE hW cls_X11 (Or.inl (by decide)) (so_268 h0 g _) (by decide) rfl wq1185 dX11_servedIn_25 ?_
      refine x_bipush hx hb dX11_servedIn_28 (by decide) ?_
      refine x_iald hx hb hE hW (Or.inl (by decide)) (sa_269 h0 g _) ⟨by decide, by decide⟩ (by decide) dX11_servedIn_30 ?_
      refine x_rd hW (fun x55 ex55 rx55 => ?_)
      have bx55 : 0 ≤ x55 ∧ x55 ≤ 9999 := by rw [ex55]; exact (IMn.n1 q18_12).2.2.2.1
      have q56 : s_18 269 37 = x55 := ex55.symm
      refine x_sipush hx hb dX11_servedIn_31 (by decide) ?_
      refine x_icmp_ge (tgt := 87) hx hb rx55 (by decide) dX11_servedIn_34 (by decide) (fun c57 => ?_) (fun c57 => ?_)
      · skip
        refine x_aload_n hx hb hl 0 rfl dX11_servedIn_87 rfl ?_
        refine x_get (j := 1) (v := .ref (h0 + 270)) hx hb hown hT hE hW cls_X11 (Or.inl (by decide)) (so_268 h0 g _) (by decide) rfl wq1186 dX11_servedIn_88 ?_
        refine x_aload_n hx hb hl 0 rfl dX11_servedIn_91 rfl ?_
        refine x_get (j := 0) (v := .ref (h0 + 269)) hx hb hown hT hE hW cls_X11 (Or.inl (by decide)) (so_268 h0 g _) (by decide) rfl wq1185 dX11_servedIn_92 ?_
        refine x_gov (x_runS (As := [.ref (h0 + 270), .ref (h0 + 269)]) hx hb hml hown hT hE hW hl.1 cf_X11_copies wq1647 wq1646 (c_X11_copiesMB l D g T h0 s_18 hW.2.1 q18_12 q18_13 q18_14) ⟨rfl, rfl, ⟨by decide, by decide⟩, ⟨by decide, by decide⟩⟩ rfl rfl (Nat.le_of_ble_eq_true rfl) dX11_servedIn_95) hW (fun s59 H locs hp60 hW => ?_)
        obtain ⟨fs59, hp60⟩ := hp60
        have hF61 := hF_18.call fs59 (fun k h => by omega)
        have q62 : s59 270 0 = s0 269 0 := (congrFun (fs59 _ (by omega)) _).trans q18_6
        have q63 : s59 270 1 = s0 269 1 := (congrFun (fs59 _ (by omega)) _).trans q18_7
        have q64 : s59 270 2 = s0 269 2 := (congrFun (fs59 _ (by omega)) _).trans q18_8
        have q65 : s59 270 3 = s0 269 3 := (congrFun (fs59 _ (by omega)) _).trans q18_9
        have q66 : s59 270 34 = s0 269 34 := (congrFun (fs59 _ (by omega)) _).trans q18_10
        have q67 : s59 270 37 = s0 269 37 := (congrFun (fs59 _ (by omega)) _).trans q18_11
        have q68 : s59 268 8 = s0 268 8 := (congrFun (fs59 _ (by omega)) _).trans q18_15
        have q69 : s59 268 58 = s0 268 58 := (congrFun (fs59 _ (by omega)) _).trans q18_16
        have ghp60 := hp60.2
        have q70 : s59 269 0 = s0 269 0 := (ghp60 0 (by decide) (by decide)).trans ((congrFun (fs59 270 (by first | decide | omega)) 0).symm.trans q62)
        have q71 : s59 269 1 = s0 269 1 := (ghp60 1 (by decide) (by decide)).trans ((congrFun (fs59 270 (by first | decide | omega)) 1).symm.trans q63)
        have q72 : s59 269 2 = s0 269 2 := (ghp60 2 (by decide) (by decide)).trans ((congrFun (fs59 270 (by first | decide | omega)) 2).symm.trans q64)
        have q73 : s59 269 3 = s0 269 3 := (ghp60 3 (by decide) (by decide)).trans ((congrFun (fs59 270 (by first | decide | omega)) 3).symm.trans q65)
        have q74 : s59 269 34 = s0 269 34 := (ghp60 34 (by decide) (by decide)).trans ((congrFun (fs59 270 (by first | decide | omega)) 34).symm.trans q66)
        have q75 : s59 269 37 = s0 269 37 := (ghp60 37 (by decide) (by decide)).trans ((congrFun (fs59 270 (by first | decide | omega)) 37).symm.trans q67)
        refine x_aload_n hx hb hl 0 rfl dX11_servedIn_98 rfl ?_
        refine x_get (j := 41) (v := .int (xJ (s59 268 41))) hx hb hown hT hE hW cls_X11 (Or.inl (by decide)) (so_268 h0 g _) (by decide) rfl wq1226 dX11_servedIn_99 ?_
        refine x_rd hW (fun x76 ex76 rx76 => ?_)
        rw [eQ]
        exact x_iret hx hb hr hlk hW rx76 ⟨hF61, ⟨hp60.1.1, hp60.1.2.1, hp60.1.2.2.1, q68, q69, q70, q71, q72, q73, q74, q75, trivial⟩, trivial⟩ dX11_servedIn_102
      refine x_iload_n hx hb hl 1 rfl dX11_servedIn_37 rfl ?_
      have J53 : ∀ (s_53 : xS) (H : Heap) (locs : List Loc) (ls : Array Slot), (xFr (fun k => k = 268 ∨ k = 269 ∨ k = 270 ∨ k = 293 ∨ k = 294 ∨ k = 295 ∨ k = 296 ∨ k = 297 ∨ k = 298 ∨ k = 299) s0 s_53) → (s_53 270 0 = s0 269 0) → (s_53 270 1 = s0 269 1) → (s_53 270 2 = s0 269 2) → (s_53 270 3 = s0 269 3) → (s_53 270 34 = s0 269 34) → (s_53 270 37 = s0 269 37) → (IMn s_53) → (IMk s_53) → (IMo s_53) → (s_53 268 8 = s0 268 8) → (s_53 268 58 = s0 268 58) → (s_53 269 37 = x55) → xW D g h0 s H locs s_53 → lv_has ls 5 [(0, .ref (h0 + 268)), (1, .int (xJ j)), (2, .int (xJ n)), (3, .int (xJ a)), (4, .int (xJ i4_18))] → W p l e { frames := 8, cells := 0, slots := 0, locals := 187 } s m args below meth c H locs 0 0 Q (F0 m 53 ls []) := by
        intro s_53 H locs ls hF_53 q53_0 q53_1 q53_2 q53_3 q53_4 q53_5 q53_6 q53_7 q53_8 q53_9 q53_10 q53_11 hW hl
        refine x_aload_n hx hb hl 0 rfl dX11_servedIn_53 rfl ?_
        refine x_iconst hx hb dX11_servedIn_54 ?_
        refine x_iload_n hx hb hl 1 rfl dX11_servedIn_55 rfl ?_
        refine x_isub hx hb dX11_servedIn_56 ?_
        refine x_gov (x_runV (As := [.int (xJ (1 - j))]) hx hb hml hown hT hE hW hl.1 (Or.inl (by decide)) (so_268 h0 g _) rfl cf_X11_walksOn wq1547 wq132 wq1545 (c_X11_walksOn l D g T h0 s_53 hW.2.1 (1 - j) (by omega) (by omega) q53_6 q53_7 q53_8) ⟨rfl, rfl, ⟨by decide, by decide⟩, ⟨by decide, by decide⟩⟩ rfl rfl (Nat.le_of_ble_eq_true rfl) dX11_servedIn_57) hW (fun s78 H locs hp79 hW => ?_)
        obtain ⟨fs78, hp79⟩ := hp79
        have hF80 := hF_53.call fs78 (fun k h => by omega)
        have q81 : s78 270 0 = s0 269 0 := (congrFun (fs78 _ (by omega)) _).trans q53_0
        have q82 : s78 270 1 = s0 269 1 := (congrFun (fs78 _ (by omega)) _).trans q53_1
        have q83 : s78 270 2 = s0 269 2 := (congrFun (fs78 _ (by omega)) _).trans q53_2
        have q84 : s78 270 3 = s0 269 3 := (congrFun (fs78 _ (by omega)) _).trans q53_3
        have q85 : s78 270 34 = s0 269 34 := (congrFun (fs78 _ (by omega)) _).trans q53_4
        have q86 : s78 270 37 = s0 269 37 := (congrFun (fs78 _ (by omega)) _).trans q53_5
        have q87 : s78 268 8 = s0 268 8 := (congrFun (fs78 _ (by omega)) _).trans q53_9
        have q88 : s78 268 58 = s0 268 58 := (congrFun (fs78 _ (by omega)) _).trans q53_10
        have ghp79 := hp79.2
        refine x_iload_n hx hb hl 1 rfl dX11_servedIn_60 rfl ?_
        refine x_iconst hx hb dX11_servedIn_61 ?_
        refine x_icmp_ne (tgt := 77) hx hb rj (by decide) dX11_servedIn_62 (by decide) (fun c89 => ?_) (fun c89 => ?_)
        · skip
          refine x_aload_n hx hb hl 0 rfl dX11_servedIn_77 rfl ?_
          refine x_gov (x_runV (As := []) hx hb hml hown hT hE hW hl.1 (Or.inl (by decide)) (so_268 h0 g _) rfl cf_X11_shadesGo wq1564 wq134 wq1562 (c_X11_shadesGo l D g T h0 s78 hW.2.1 (by have := (hp79.1.2.2.2.1.trans q53_11); omega) hp79.1.1 hp79.1.2.1 hp79.1.2.2.1) ⟨rfl, rfl, ⟨by decide, by decide⟩, ⟨by decide, by decide⟩⟩ rfl rfl (Nat.le_of_ble_eq_true rfl) dX11_servedIn_78) hW (fun s91 H locs hp92 hW => ?_)
          obtain ⟨fs91, hp92⟩ := hp92
          have hF93 := hF80.call fs91 (fun k h => by omega)
          have q94 : s91 270 0 = s0 269 0 := (congrFun (fs91 _ (by omega)) _).trans q81
          have q95 : s91 270 1 = s0 269 1 := (congrFun (fs91 _ (by omega)) _).trans q82
          have q96 : s91 270 2 = s0 269 2 := (congrFun (fs91 _ (by omega)) _).trans q83
          have q97 : s91 270 3 = s0 269 3 := (congrFun (fs91 _ (by omega)) _).trans q84
          have q98 : s91 270 34 = s0 269 34 := (congrFun (fs91 _ (by omega)) _).trans q85
          have q99 : s91 270 37 = s0 269 37 := (congrFun (fs91 _ (by omega)) _).trans q86
          have ghp92 := hp92.2
          refine x_iinc (lv' := [(4, .int (xJ (i4_18 + 1))), (0, .ref (h0 + 268)), (1, .int (xJ j)), (2, .int (xJ n)), (3, .int (xJ a))]) hx hb hl 4 rfl dX11_servedIn_81 (by decide) rfl (fun ls hl => ?_)
          refine lv_goto (tgt := 18) hx hb dX11_servedIn_84 (by decide) ?_
          exact ih18 (i4_18 + 1) s91 H locs ls (by omega) hF93 q94 q95 q96 q97 q98 q99 hp92.1.1 hp92.1.2.1 hp92.1.2.2.1 (hp92.1.2.2.2.1.trans q87) (hp92.1.2.2.2.2.1.trans q88) (by omega) (by have hm := hm_18 (); omega) hW (lv_sub hl [1, 2, 3, 4, 0] rfl)
        refine x_aload_n hx hb hl 0 rfl dX11_servedIn_65 rfl ?_
        refine x_iconst hx hb dX11_servedIn_66 ?_
        refine x_iload_n hx hb hl 3 rfl dX11_servedIn_67 rfl ?_
        refine x_iload_n hx hb hl 2 rfl dX11_servedIn_68 rfl ?_
        refine x_iload hx hb hl 4 rfl dX11_servedIn_69 ?_
        refine x_goi (x_runS (As := [.int (xJ a), .int (xJ n), .int (xJ i4_18)]) hx hb hml hown hT hE hW hl.1 cf_X11_stepIn wq1700 wq1699 (c_X11_stepIn l D g T h0 s78 hW.2.1 a ra n rn i4_18 ri4_18 (by omega)) ⟨rfl, rfl, ⟨by decide, by decide⟩, ⟨by decide, by decide⟩⟩ rfl rfl (Nat.le_of_ble_eq_true rfl) dX11_servedIn_71) hW (fun x100 s101 H locs rx100 hp102 hW => ?_)
        obtain ⟨es101, hp102⟩ := hp102
        subst es101
        have ghp102 := hp102
        refine x_gov (x_runV (As := [.int (xJ 1), .int (xJ x100)]) hx hb hml hown hT hE hW hl.1 (Or.inl (by decide)) (so_268 h0 g _) rfl cf_X11_steps wq1551 wq133 wq1549 (c_X11_steps l D g T h0 s78 hW.2.1 1 (by decide) x100 rx100 (by omega) hp79.1.1 hp79.1.2.1 hp79.1.2.2.1) ⟨rfl, rfl, ⟨by decide, by decide⟩, ⟨by decide, by decide⟩⟩ rfl rfl (Nat.le_of_ble_eq_true rfl) dX11_servedIn_74) hW (fun s104 H locs hp105 hW => ?_)
        obtain ⟨fs104, hp105⟩ := hp105
        have hF106 := hF80.call fs104 (fun k h => by omega)
        have q107 : s104 270 0 = s0 269 0 := (congrFun (fs104 _ (by omega)) _).trans q81
        have q108 : s104 270 1 = s0 269 1 := (congrFun (fs104 _ (by omega)) _).trans q82
        have q109 : s104 270 2 = s0 269 2 := (congrFun (fs104 _ (by omega)) _).trans q83
        have q110 : s104 270 3 = s0 269 3 := (congrFun (fs104 _ (by omega)) _).trans q84
        have q111 : s104 270 34 = s0 269 34 := (congrFun (fs104 _ (by omega)) _).trans q85
        have q112 : s104 270 37 = s0 269 37 := (congrFun (fs104 _ (by omega)) _).trans q86
        have q113 : s104 268 8 = s0 268 8 := (congrFun (fs104 _ (by omega)) _).trans q87
        have q114 : s104 268 58 = s0 268 58 := (congrFun (fs104 _ (by omega)) _).trans q88
        have ghp105 := hp105.2
        refine x_aload_n hx hb hl 0 rfl dX11_servedIn_77 rfl ?_
        refine x_gov (x_runV (As := []) hx hb hml hown hT hE hW hl.1 (Or.inl (by decide)) (so_268 h0 g _) rfl cf_X11_shadesGo wq1564 wq134 wq1562 (c_X11_shadesGo l D g T h0 s104 hW.2.1 (by have := (hp105.1.2.2.2.1.trans (hp79.1.2.2.2.1.trans q53_11)); omega) hp105.1.1 hp105.1.2.1 hp105.1.2.2.1) ⟨rfl, rfl, ⟨by decide, by decide⟩, ⟨by decide, by decide⟩⟩ rfl rfl (Nat.le_of_ble_eq_true rfl) dX11_servedIn_78) hW (fun s116 H locs hp117 hW => ?_)
        obtain ⟨fs116, hp117⟩ := hp117
        have hF118 := hF106.call fs116 (fun k h => by omega)
        have q119 : s116 270 0 = s0 269 0 := (congrFun (fs116 _ (by omega)) _).trans q107
        have q120 : s116 270 1 = s0 269 1 := (congrFun (fs116 _ (by omega)) _).trans q108
        have q121 : s116 270 2 = s0 269 2 := (congrFun (fs116 _ (by omega)) _).trans q109
        have q122 : s116 270 3 = s0 269 3 := (congrFun (fs116 _ (by omega)) _).trans q110
        have q123 : s116 270 34 = s0 269 34 := (congrFun (fs116 _ (by omega)) _).trans q111
        have q124 : s116 270 37 = s0 269 37 := (congrFun (fs116 _ (by omega)) _).trans q112
        have ghp117 := hp117.2
        refine x_iinc (lv' := [(4, .int (xJ (i4_18 + 1))), (0, .ref (h0 + 268)), (1, .int (xJ j)), (2, .int (xJ n)), (3, .int (xJ a))]) hx hb hl 4 rfl dX11_servedIn_81 (by decide) rfl (fun ls hl => ?_)
        refine lv_goto (tgt := 18) hx hb dX11_servedIn_84 (by decide) ?_
        exact ih18 (i4_18 + 1) s116 H locs ls (by omega) hF118 q119 q120 q121 q122 q123 q124 hp117.1.1 hp117.1.2.1 hp117.1.2.2.1 (hp117.1.2.2.2.1.trans q113) (hp117.1.2.2.2.2.1.trans q114) (by omega) (by have hm := hm_18 (); omega) hW (lv_sub hl [1, 2, 3, 4, 0] rfl)
      refine x_if_ne (tgt := 53) hx hb rj dX11_servedIn_38 (by decide) (fun c125 => ?_) (fun c125 => ?_)
      · skip
        exact J53 s_18 H locs ls hF_18 q18_6 q18_7 q18_8 q18_9 q18_10 q18_11 q18_12 q18_13 q18_14 q18_15 q18_16 q56 hW (lv_sub hl [0, 1, 2, 3, 4] rfl)
      refine x_aload_n hx hb hl 0 rfl dX11_servedIn_41 rfl ?_
      refine x_iconst hx hb dX11_servedIn_42 ?_
      refine x_iload_n hx hb hl 3 rfl dX11_servedIn_43 rfl ?_
      refine x_iload_n hx hb hl 2 rfl dX11_servedIn_44 rfl ?_
      refine x_iload hx hb hl 4 rfl dX11_servedIn_45 ?_
      refine x_goi (x_runS (As := [.int (xJ a), .int (xJ n), .int (xJ i4_18)]) hx hb hml hown hT hE hW hl.1 cf_X11_stepIn wq1700 wq1699 (c_X11_stepIn l D g T h0 s_18 hW.2.1 a ra n rn i4_18 ri4_18 (by omega)) ⟨rfl, rfl, ⟨by decide, by decide⟩, ⟨by decide, by decide⟩⟩ rfl rfl (Nat.le_of_ble_eq_true rfl) dX11_servedIn_47) hW (fun x126 s127 H locs rx126 hp128 hW => ?_)
      obtain ⟨es127, hp128⟩ := hp128
      subst es127
      have ghp128 := hp128
      refine x_gov (x_runV (As := [.int (xJ 0), .int (xJ x126)]) hx hb hml hown hT hE hW hl.1 (Or.inl (by decide)) (so_268 h0 g _) rfl cf_X11_steps wq1551 wq133 wq1549 (c_X11_steps l D g T h0 s_18 hW.2.1 0 (by decide) x126 rx126 (by omega) q18_12 q18_13 q18_14) ⟨rfl, rfl, ⟨by decide, by decide⟩, ⟨by decide, by decide⟩⟩ rfl rfl (Nat.le_of_ble_eq_true rfl) dX11_servedIn_50) hW (fun s130 H locs hp131 hW => ?_)
      obtain ⟨fs130, hp131⟩ := hp131
      have hF132 := hF_18.call fs130 (fun k h => by omega)
      have q133 : s130 270 0 = s0 269 0 := (congrFun (fs130 _ (by omega)) _).trans q18_6
      have q134 : s130 270 1 = s0 269 1 := (congrFun (fs130 _ (by omega)) _).trans q18_7
      have q135 : s130 270 2 = s0 269 2 := (congrFun (fs130 _ (by omega)) _).trans q18_8
      have q136 : s130 270 3 = s0 269 3 := (congrFun (fs130 _ (by omega)) _).trans q18_9
      have q137 : s130 270 34 = s0 269 34 := (congrFun (fs130 _ (by omega)) _).trans q18_10
      have q138 : s130 270 37 = s0 269 37 := (congrFun (fs130 _ (by omega)) _).trans q18_11
      have q139 : s130 268 8 = s0 268 8 := (congrFun (fs130 _ (by omega)) _).trans q18_15
      have q140 : s130 268 58 = s0 268 58 := (congrFun (fs130 _ (by omega)) _).trans q18_16
      have ghp131 := hp131.2
      exact J53 s130 H locs ls hF132 q133 q134 q135 q136 q137 q138 hp131.1.1 hp131.1.2.1 hp131.1.2.2.1 q139 q140 (hp131.1.2.2.2.1.trans q56) hW (lv_sub hl [0, 1, 2, 3, 4] rfl)
  exact L18 ((n + 1 - 0 : Int).toNat + 1) 0 s20 H locs ls (by decide) hF22 q29 q30 q31 q32 q33 q34 hp21.1.1 hp21.1.2.1 hp21.1.2.2.1 (hp21.1.2.2.2.1.trans q5) (hp21.1.2.2.2.2.1.trans q6) (by omega) (Nat.lt_succ_self _) hW (lv_sub hl [1, 2, 3, 4, 0] rfl)
set_option maxHeartbeats 4000000 in
set_option maxRecDepth 100000 in
theorem c_X11_homeT (l : Launch) (D : va_G) (g : xG) (T : Nat × Nat × Nat) (h0 : Nat) (s0 : xS) (hσ : xRR s0) (j : Int) (rj : xR j) (n : Int) (rn : xR n) (x : Int) (rx : xR x) (p0 : IMn s0) (p1 : IMk s0) (p2 : IMo s0) : Met l yX11_home (xws yX11_home cX11_home 9 (some .int)) { frames := 9, cells := 0, slots := 0, locals := 211 } (xP [.ref (h0 + 268), .int (xJ j), .int (xJ n), .int (xJ x)] D g T h0 s0) (xQi D g h0 (fun r τ => xFr (fun k => k = 268 ∨ k = 269 ∨ k = 270 ∨ k = 293 ∨ k = 294 ∨ k = 295 ∨ k = 296 ∨ k = 297 ∨ k = 298 ∨ k = 299) s0 τ ∧ (((IMn τ) ∧ (IMk τ) ∧ (IMo τ) ∧ (τ 268 8 = s0 268 8) ∧ (τ 268 58 = s0 268 58) ∧ (τ 269 0 = s0 269 0) ∧ (τ 269 1 = s0 269 1) ∧ (τ 269 2 = s0 269 2) ∧ (τ 269 3 = s0 269 3) ∧ (τ 269 34 = s0 269 34) ∧ (τ 269 37 = s0 269 37) ∧ True) ∧ (True)))) 0 0 (xA h0) := by
  refine x_met hσ (by decide) (Nat.le_of_ble_eq_true rfl) ?_
  intro p e s m args below meth c hx hb hr hml hown hT hlk hnm hE hW ls hl
  have hl : lv_has ls 9 [(0, .ref (h0 + 268)), (1, .int (xJ j)), (2, .int (xJ n)), (3, .int (xJ x))] := hl
  obtain ⟨Q, eQ⟩ : ∃ Q, Q = MQ below (xQi D g h0 (fun r τ => xFr (fun k => k = 268 ∨ k = 269 ∨ k = 270 ∨ k = 293 ∨ k = 294 ∨ k = 295 ∨ k = 296 ∨ k = 297 ∨ k = 298 ∨ k = 299) s0 τ ∧ (((IMn τ) ∧ (IMk τ) ∧ (IMo τ) ∧ (τ 268 8 = s0 268 8) ∧ (τ 268 58 = s0 268 58) ∧ (τ 269 0 = s0 269 0) ∧ (τ 269 1 = s0 269 1) ∧ (τ 269 2 = s0 269 2) ∧ (τ 269 3 = s0 269 3) ∧ (τ 269 34 = s0 269 34) ∧ (τ 269 37 = s0 269 37) ∧ True) ∧ (True)))) args s 0 0 (xA h0) := ⟨_, rfl⟩
  rw [← eQ]
  generalize hHe : ([] : List Loc) = locs at hW ⊢
  obtain ⟨H, eH⟩ : ∃ H, H = s.heap := ⟨_, rfl⟩
  rw [← eH] at hW ⊢
  have hF : xFr (fun k => k = 268 ∨ k = 269 ∨ k = 270 ∨ k = 293 ∨ k = 294 ∨ k = 295 ∨ k = 296 ∨ k = 297 ∨ k = 298 ∨ k = 299) s0 s0 := xFr.rf
  have k268_8 : s0 268 8 = s0 268 8 := rfl
  have k268_58 : s0 268 58 = s0 268 58 := rfl
  have k269_0 : s0 269 0 = s0 269 0 := rfl
  have k269_1 : s0 269 1 = s0 269 1 := rfl
  have k269_2 : s0 269 2 = s0 269 2 := rfl
  have k269_3 : s0 269 3 = s0 269 3 := rfl
  have k269_34 : s0 269 34 = s0 269 34 := rfl
  have k269_37 : s0 269 37 = s0 269 37 := rfl
  refine x_aload_n hx hb hl 0 rfl dX11_home_0 rfl ?_
  refine x_iload_n hx hb hl 1 rfl dX11_home_1 rfl ?_
  refine x_goi (x_runV (As := [.int (xJ j)]) hx hb hml hown hT hE hW hl.1 (Or.inl (by decide)) (so_268 h0 g _) rfl cf_X11_isJudge wq1409 wq109 wq1407 (c_X11_isJudge l D g T h0 s0 hW.2.1 j rj p0 p1 p2) ⟨rfl, rfl, ⟨by decide, by decide⟩, ⟨by decide, by decide⟩⟩ rfl rfl (Nat.le_of_ble_eq_true rfl) dX11_home_2) hW (fun x1 s2 H locs rx1 hp3 hW => ?_)
  obtain ⟨es2, hp3⟩ := hp3
  subst es2
  have ghp3 := hp3
  refine x_if_eq (tgt := 34) hx hb rx1 dX11_home_5 (by decide) (fun c4 => ?_) (fun c4 => ?_)
  · skip
    refine x_iconst hx hb dX11_home_34 ?_
    rw [eQ]
    exact x_iret hx hb hr hlk hW (by decide) ⟨hF, ⟨p0, p1, p2, k268_8, k268_58, k269_0, k269_1, k269_2, k269_3, k269_34, k269_37, trivial⟩, trivial⟩ dX11_home_35
  refine x_iload_n hx hb hl 2 rfl dX11_home_8 rfl ?_
  refine x_iconst hx hb dX11_home_9 ?_
  refine x_iconst hx hb dX11_home_10 ?_
  refine x_goi (x_runS (As := [.int (xJ n), .int (xJ 1), .int (xJ 5)]) hx hb hml hown hT hE hW hl.1 cf_X11_in wq1383 wq1382 (c_X11_in l D g T h0 s0 hW.2.1 n rn 1 (by decide) 5 (by decide)) ⟨rfl, rfl, ⟨by decide, by decide⟩, ⟨by decide, by decide⟩⟩ rfl rfl (Nat.le_of_ble_eq_true rfl) dX11_home_11) hW (fun x5 s6 H locs rx5 hp7 hW => ?_)
  obtain ⟨es6, hp7⟩ := hp7
  subst es6
  have ghp7 := hp7
  refine x_if_eq (tgt := 34) hx hb rx5 dX11_home_14 (by decide) (fun c8 => ?_) (fun c8 => ?_)
  · skip
    refine x_iconst hx hb dX11_home_34 ?_
    rw [eQ]
    exact x_iret hx hb hr hlk hW (by decide) ⟨hF, ⟨p0, p1, p2, k268_8, k268_58, k269_0, k269_1, k269_2, k269_3, k269_34, k269_37, trivial⟩, trivial⟩ dX11_home_35
  refine x_iload_n hx hb hl 3 rfl dX11_home_17 rfl ?_
  refine x_bipush hx hb dX11_home_18 (by decide) ?_
  refine x_icmp_eq (tgt := 36) hx hb rx (by decide) dX11_home_20 (by decide) (fun c9 => ?_) (fun c9 => ?_)
  · skip
    refine x_iconst hx hb dX11_home_36 ?_
    refine lv_istore (lv' := [(4, .int (xJ 1)), (0, .ref (h0 + 268)), (1, .int (xJ j)), (2, .int (xJ n)), (3, .int (xJ x))]) hx hb dX11_home_37 hl (by decide) rfl (fun ls hl => ?_)
    refine x_iconst hx hb dX11_home_39 ?_
    refine lv_istore (lv' := [(5, .int (xJ 0)), (4, .int (xJ 1)), (0, .ref (h0 + 268)), (1, .int (xJ j)), (2, .int (xJ n)), (3, .int (xJ x))]) hx hb dX11_home_40 hl (by decide) rfl (fun ls hl => ?_)
    have L42 : ∀ (fu : Nat) (i4_42 : Int) (i5_42 : Int) (ls : Array Slot), (xR i4_42) → (xR i5_42) → (0 ≤ i5_42) → (n + 1 - i5_42).toNat < fu → lv_has ls 9 [(0, .ref (h0 + 268)), (1, .int (xJ j)), (2, .int (xJ n)), (3, .int (xJ x)), (4, .int (xJ i4_42)), (5, .int (xJ i5_42))] → W p l e { frames := 9, cells := 0, slots := 0, locals := 211 } s m args below meth c H locs 0 0 Q (F0 m 42 ls []) := by
      intro fu
      induction fu with
      | zero => intro i4_42 i5_42 ls ri4_42 ri5_42 v42_0 hm; exact absurd hm (Nat.not_lt_zero _)
      | succ fu ih42 =>
        intro i4_42 i5_42 ls ri4_42 ri5_42 v42_0 hm  hl
        have hm_42 := fun (_ : Unit) => hm
        clear hm
        refine x_iload hx hb hl 5 rfl dX11_home_42 ?_
        refine x_iload_n hx hb hl 2 rfl dX11_home_44 rfl ?_
        refine x_icmp_ge (tgt := 60) hx hb ri5_42 rn dX11_home_45 (by decide) (fun c10 => ?_) (fun c10 => ?_)
        · skip
          refine x_iconst hx hb dX11_home_60 ?_
          refine lv_istore (lv' := [(5, .int (xJ (-1))), (0, .ref (h0 + 268)), (1, .int (xJ j)), (2, .int (xJ n)), (3, .int (xJ x)), (4, .int (xJ i4_42))]) hx hb dX11_home_61 hl (by decide) rfl (fun ls hl => ?_)
          refine x_iconst hx hb dX11_home_63 ?_
          refine lv_istore (lv' := [(6, .int (xJ (-1))), (5, .int (xJ (-1))), (0, .ref (h0 + 268)), (1, .int (xJ j)), (2, .int (xJ n)), (3, .int (xJ x)), (4, .int (xJ i4_42))]) hx hb dX11_home_64 hl (by decide) rfl (fun ls hl => ?_)
          refine x_iconst hx hb dX11_home_66 ?_
          refine lv_istore (lv' := [(7, .int (xJ 0)), (6, .int (xJ (-1))), (5, .int (xJ (-1))), (0, .ref (h0 + 268)), (1, .int (xJ j)), (2, .int (xJ n)), (3, .int (xJ x)), (4, .int (xJ i4_42))]) hx hb dX11_home_67 hl (by decide) rfl (fun ls hl => ?_)
          have L69 : ∀ (fu : Nat) (i5_69 : Int) (i6_69 : Int) (i7_69 : Int) (s_69 : xS) (H : Heap) (locs : List Loc) (ls : Array Slot), (xR i5_69) → (xR i6_69) → (xR i7_69) → (xFr (fun k => k = 268 ∨ k = 269 ∨ k = 270 ∨ k = 293 ∨ k = 294 ∨ k = 295 ∨ k = 296 ∨ k = 297 ∨ k = 298 ∨ k = 299) s0 s_69) → (IMn s_69) → (IMk s_69) → (IMo s_69) → (s_69 268 8 = s0 268 8) → (s_69 268 58 = s0 268 58) → (s_69 269 0 = s0 269 0) → (s_69 269 1 = s0 269 1) → (s_69 269 2 = s0 269 2) → (s_69 269 3 = s0 269 3) → (s_69 269 34 = s0 269 34) → (s_69 269 37 = s0 269 37) → (0 ≤ i7_69) → (i4_42 + 1 - i7_69).toNat < fu → xW D g h0 s H locs s_69 → lv_has ls 9 [(0, .ref (h0 + 268)), (1, .int (xJ j)), (2, .int (xJ n)), (3, .int (xJ x)), (4, .int (xJ i4_42)), (5, .int (xJ i5_69)), (6, .int (xJ i6_69)), (7, .int (xJ i7_69))] → W p l e { frames := 9, cells := 0, slots := 0, locals := 211 } s m args below meth c H locs 0 0 Q (F0 m 69 ls []) := by
            intro fu
            induction fu with
            | zero => intro i5_69 i6_69 i7_69 s_69 H locs ls ri5_69 ri6_69 ri7_69 hF_69 q69_0 q69_1 q69_2 q69_3 q69_4 q69_5 q69_6 q69_7 q69_8 q69_9 q69_10 v69_0 hm; exact absurd hm (Nat.not_lt_zero _)
            | succ fu ih69 =>
              intro i5_69 i6_69 i7_69 s_69 H locs ls ri5_69 ri6_69 ri7_69 hF_69 q69_0 q69_1 q69_2 q69_3 q69_4 q69_5 q69_6 q69_7 q69_8 q69_9 q69_10 v69_0 hm hW hl
              have hm_69 := fun (_ : Unit) => hm
              clear hm
              refine x_iload hx hb hl 7 rfl dX11_home_69 ?_
              refine x_iload hx hb hl 4 rfl dX11_home_71 ?_
              refine x_icmp_ge (tgt := 110) hx hb ri7_69 ri4_42 dX11_home_73 (by decide) (fun c11 => ?_) (fun c11 => ?_)
              · skip
                refine x_iload_n hx hb hl 3 rfl dX11_home_110 rfl ?_
                refine x_bipush hx hb dX11_home_111 (by decide) ?_
                refine x_icmp_ne (tgt := 121) hx hb rx (by decide) dX11_home_113 (by decide) (fun c12 => ?_) (fun c12 => ?_)
                · skip
                  refine x_iload hx hb hl 5 rfl dX11_home_121 ?_
                  refine x_iload_n hx hb hl 2 rfl dX11_home_123 rfl ?_
                  refine x_iload_n hx hb hl 3 rfl dX11_home_124 rfl ?_
                  refine x_goi (x_runS (As := [.int (xJ i5_69), .int (xJ n), .int (xJ x)]) hx hb hml hown hT hE hW hl.1 cf_X11_stepIn wq1700 wq1699 (c_X11_stepIn l D g T h0 s_69 hW.2.1 i5_69 ri5_69 n rn x rx (by omega)) ⟨rfl, rfl, ⟨by decide, by decide⟩, ⟨by decide, by decide⟩⟩ rfl rfl (Nat.le_of_ble_eq_true rfl) dX11_home_125) hW (fun x13 s14 H locs rx13 hp15 hW => ?_)
                  obtain ⟨es14, hp15⟩ := hp15
                  subst es14
                  have ghp15 := hp15
                  refine x_iconst hx hb dX11_home_128 ?_
                  refine x_idivQ hx hb (by decide) (by omega) dX11_home_129 (fun x16 rx16 => ?_)
                  rw [eQ]
                  exact x_iret hx hb hr hlk hW rx16 ⟨hF_69, ⟨q69_0, q69_1, q69_2, q69_3, q69_4, q69_5, q69_6, q69_7, q69_8, q69_9, q69_10, trivial⟩, trivial⟩ dX11_home_130
                refine x_iload hx hb hl 6 rfl dX11_home_116 ?_
                refine lv_goto (tgt := 130) hx hb dX11_home_118 (by decide) ?_
                rw [eQ]
                exact x_iret hx hb hr hlk hW ri6_69 ⟨hF_69, ⟨q69_0, q69_1, q69_2, q69_3, q69_4, q69_5, q69_6, q69_7, q69_8, q69_9, q69_10, trivial⟩, trivial⟩ dX11_home_130
              refine x_aload_n hx hb hl 0 rfl dX11_home_76 rfl ?_
              refine x_iload_n hx hb hl 1 rfl dX11_home_77 rfl ?_
              refine x_iload_n hx hb hl 2 rfl dX11_home_78 rfl ?_
              refine x_iload hx hb hl 7 rfl dX11_home_79 ?_
              refine x_goi (x_runV (As := [.int (xJ j), .int (xJ n), .int (xJ i7_69)]) hx hb hml hown hT hE hW hl.1 (Or.inl (by decide)) (so_268 h0 g _) rfl cf_X11_servedIn wq1697 wq157 wq1695 (c_X11_servedInT l D g T h0 s_69 hW.2.1 j rj n rn i7_69 ri7_69 (by omega) q69_0 q69_1 q69_2) ⟨rfl, rfl, ⟨by decide, by decide⟩, ⟨by decide, by decide⟩⟩ rfl rfl (Nat.le_of_ble_eq_true rfl) dX11_home_81) hW (fun x17 s18 H locs rx17 hp19 hW => ?_)
              obtain ⟨fs18, hp19⟩ := hp19
              have hF20 := hF_69.call fs18 (fun k h => by omega)
              have ghp19 := hp19.2
              refine lv_istore (lv' := [(8, .int (xJ x17)), (0, .ref (h0 + 268)), (1, .int (xJ j)), (2, .int (xJ n)), (3, .int (xJ x)), (4, .int (xJ i4_42)), (5, .int (xJ i5_69)), (6, .int (xJ i6_69)), (7, .int (xJ i7_69))]) hx hb dX11_home_84 hl (by decide) rfl (fun ls hl => ?_)
              refine x_iload hx hb hl 0 rfl dX11_home_86 ?_
              refine x_iload hx hb hl 7 rfl dX11_home_88 ?_
              refine x_icmp_gt (tgt := 96) hx hb rx17 ri6_69 dX11_home_90 (by decide) (fun c21 => ?_) (fun c21 => ?_)
              · skip
                refine x_iload hx hb hl 0 rfl dX11_home_96 ?_
                refine lv_istore (lv' := [(6, .int (xJ x17)), (8, .int (xJ x17)), (0, .ref (h0 + 268)), (1, .int (xJ j)), (2, .int (xJ n)), (3, .int (xJ x)), (4, .int (xJ i4_42)), (5, .int (xJ i5_69)), (7, .int (xJ i7_69))]) hx hb dX11_home_98 hl (by decide) rfl (fun ls hl => ?_)
                refine x_iload hx hb hl 8 rfl dX11_home_100 ?_
                refine lv_istore (lv' := [(5, .int (xJ i7_69)), (6, .int (xJ x17)), (8, .int (xJ x17)), (0, .ref (h0 + 268)), (1, .int (xJ j)), (2, .int (xJ n)), (3, .int (xJ x)), (4, .int (xJ i4_42)), (7, .int (xJ i7_69))]) hx hb dX11_home_102 hl (by decide) rfl (fun ls hl => ?_)
                refine x_iinc (lv' := [(7, .int (xJ (i7_69 + 1))), (5, .int (xJ i7_69)), (6, .int (xJ x17)), (8, .int (xJ x17)), (0, .ref (h0 + 268)), (1, .int (xJ j)), (2, .int (xJ n)), (3, .int (xJ x)), (4, .int (xJ i4_42))]) hx hb hl 8 rfl dX11_home_104 (by decide) rfl (fun ls hl => ?_)
                refine lv_goto (tgt := 69) hx hb dX11_home_107 (by decide) ?_
                exact ih69 i7_69 x17 (i7_69 + 1) s18 H locs ls ri7_69 rx17 (by omega) hF20 hp19.1.1 hp19.1.2.1 hp19.1.2.2.1 (hp19.1.2.2.2.1.trans q69_3) (hp19.1.2.2.2.2.1.trans q69_4) (hp19.1.2.2.2.2.2.1.trans q69_5) (hp19.1.2.2.2.2.2.2.1.trans q69_6) (hp19.1.2.2.2.2.2.2.2.1.trans q69_7) (hp19.1.2.2.2.2.2.2.2.2.1.trans q69_8) (hp19.1.2.2.2.2.2.2.2.2.2.1.trans q69_9) (hp19.1.2.2.2.2.2.2.2.2.2.2.1.trans q69_10) (by omega) (by have hm := hm_69 (); omega) hW (lv_sub hl [4, 5, 6, 7, 8, 1, 2, 0] rfl)
              refine lv_goto (tgt := 104) hx hb dX11_home_93 (by decide) ?_
              refine x_iinc (lv' := [(7, .int (xJ (i7_69 + 1))), (8, .int (xJ x17)), (0, .ref (h0 + 268)), (1, .int (xJ j)), (2, .int (xJ n)), (3, .int (xJ x)), (4, .int (xJ i4_42)), (5, .int (xJ i5_69)), (6, .int (xJ i6_69))]) hx hb hl 8 rfl dX11_home_104 (by decide) rfl (fun ls hl => ?_)
              refine lv_goto (tgt := 69) hx hb dX11_home_107 (by decide) ?_
              exact ih69 i5_69 i6_69 (i7_69 + 1) s18 H locs ls ri5_69 ri6_69 (by omega) hF20 hp19.1.1 hp19.1.2.1 hp19.1.2.2.1 (hp19.1.2.2.2.1.trans q69_3) (hp19.1.2.2.2.2.1.trans q69_4) (hp19.1.2.2.2.2.2.1.trans q69_5) (hp19.1.2.2.2.2.2.2.1.trans q69_6) (hp19.1.2.2.2.2.2.2.2.1.trans q69_7) (hp19.1.2.2.2.2.2.2.2.2.1.trans q69_8) (hp19.1.2.2.2.2.2.2.2.2.2.1.trans q69_9) (hp19.1.2.2.2.2.2.2.2.2.2.2.1.trans q69_10) (by omega) (by have hm := hm_69 (); omega) hW (lv_sub hl [2, 3, 4, 5, 6, 7, 8, 0] rfl)
          exact L69 ((i4_42 + 1 - 0 : Int).toNat + 1) (-1) (-1) 0 s0 H locs ls (by decide) (by decide) (by decide) hF p0 p1 p2 k268_8 k268_58 k269_0 k269_1 k269_2 k269_3 k269_34 k269_37 (by omega) (Nat.lt_succ_self _) hW (lv_sub hl [3, 4, 5, 6, 7, 2, 1, 0] rfl)
        refine x_iload hx hb hl 4 rfl dX11_home_48 ?_
        refine x_iconst hx hb dX11_home_50 ?_
        refine x_imul hx hb dX11_home_51 ?_
        refine x_any (fun x22 rx22 => ?_)
        refine lv_istore (lv' := [(4, .int (xJ x22)), (0, .ref (h0 + 268)), (1, .int (xJ j)), (2, .int (xJ n)), (3, .int (xJ x)), (5, .int (xJ i5_42))]) hx hb dX11_home_52 hl (by decide) rfl (fun ls hl => ?_)
        refine x_iinc (lv' := [(5, .int (xJ (i5_42 + 1))), (4, .int (xJ x22)), (0, .ref (h0 + 268)), (1, .int (xJ j)), (2, .int (xJ n)), (3, .int (xJ x))]) hx hb hl 5 rfl dX11_home_54 (by decide) rfl (fun ls hl => ?_)
        refine lv_goto (tgt := 42) hx hb dX11_home_57 (by decide) ?_
        exact ih42 x22 (i5_42 + 1) ls rx22 (by omega) (by omega) (by have hm := hm_42 (); omega)  (lv_sub hl [2, 3, 4, 5, 1, 0] rfl)
    exact L42 ((n + 1 - 0 : Int).toNat + 1) 1 0 ls (by decide) (by decide) (by omega) (Nat.lt_succ_self _)  (lv_sub hl [2, 3, 4, 5, 1, 0] rfl)
  refine x_iload_n hx hb hl 3 rfl dX11_home_23 rfl ?_
  refine x_iconst hx hb dX11_home_24 ?_
  refine x_iload_n hx hb hl 2 rfl dX11_home_25 rfl ?_
  refine x_iconst hx hb dX11_home_26 ?_
  refine x_isub hx hb dX11_home_27 ?_
  refine x_goi (x_runS (As := [.int (xJ x), .int (xJ 0), .int (xJ (n - 1))]) hx hb hml hown hT hE hW hl.1 cf_X11_in wq1383 wq1382 (c_X11_in l D g T h0 s0 hW.2.1 x rx 0 (by decide) (n - 1) (by omega)) ⟨rfl, rfl, ⟨by decide, by decide⟩, ⟨by decide, by decide⟩⟩ rfl rfl (Nat.le_of_ble_eq_true rfl) dX11_home_28) hW (fun x23 s24 H locs rx23 hp25 hW => ?_)
  obtain ⟨es24, hp25⟩ := hp25
  subst es24
  have ghp25 := hp25
  refine x_if_ne (tgt := 36) hx hb rx23 dX11_home_31 (by decide) (fun c26 => ?_) (fun c26 => ?_)
  · skip
    refine x_iconst hx hb dX11_home_36 ?_
    refine lv_istore (lv' := [(4, .int (xJ 1)), (0, .ref (h0 + 268)), (1, .int (xJ j)), (2, .int (xJ n)), (3, .int (xJ x))]) hx hb dX11_home_37 hl (by decide) rfl (fun ls hl => ?_)
    refine x_iconst hx hb dX11_home_39 ?_
    refine lv_istore (lv' := [(5, .int (xJ 0)), (4, .int (xJ 1)), (0, .ref (h0 + 268)), (1, .int (xJ j)), (2, .int (xJ n)), (3, .int (xJ x))]) hx hb dX11_home_40 hl (by decide) rfl (fun ls hl => ?_)
    have L42 : ∀ (fu : Nat) (i4_42 : Int) (i5_42 : Int) (ls : Array Slot), (xR i4_42) → (xR i5_42) → (0 ≤ i5_42) → (n + 1 - i5_42).toNat < fu → lv_has ls 9 [(0, .ref (h0 + 268)), (1, .int (xJ j)), (2, .int (xJ n)), (3, .int (xJ x)), (4, .int (xJ i4_42)), (5, .int (xJ i5_42))] → W p l e { frames := 9, cells := 0, slots := 0, locals := 211 } s m args below meth c H locs 0 0 Q (F0 m 42 ls []) := by
      intro fu
      induction fu with
      | zero => intro i4_42 i5_42 ls ri4_42 ri5_42 v42_0 hm; exact absurd hm (Nat.not_lt_zero _)
      | succ fu ih42 =>
        intro i4_42 i5_42 ls ri4_42 ri5_42 v42_0 hm  hl
        have hm_42 := fun (_ : Unit) => hm
        clear hm
        refine x_iload hx hb hl 5 rfl dX11_home_42 ?_
        refine x_iload_n hx hb hl 2 rfl dX11_home_44 rfl ?_
        refine x_icmp_ge (tgt := 60) hx hb ri5_42 rn dX11_home_45 (by decide) (fun c27 => ?_) (fun c27 => ?_)
        · skip
          refine x_iconst hx hb dX11_home_60 ?_
          refine lv_istore (lv' := [(5, .int (xJ (-1))), (0, .ref (h0 + 268)), (1, .int (xJ j)), (2, .int (xJ n)), (3, .int (xJ x)), (4, .int (xJ i4_42))]) hx hb dX11_home_61 hl (by decide) rfl (fun ls hl => ?_)
          refine x_iconst hx hb dX11_home_63 ?_
          refine lv_istore (lv' := [(6, .int (xJ (-1))), (5, .int (xJ (-1))), (0, .ref (h0 + 268)), (1, .int (xJ j)), (2, .int (xJ n)), (3, .int (xJ x)), (4, .int (xJ i4_42))]) hx hb dX11_home_64 hl (by decide) rfl (fun ls hl => ?_)
          refine x_iconst hx hb dX11_home_66 ?_
          refine lv_istore (lv' := [(7, .int (xJ 0)), (6, .int (xJ (-1))), (5, .int (xJ (-1))), (0, .ref (h0 + 268)), (1, .int (xJ j)), (2, .int (xJ n)), (3, .int (xJ x)), (4, .int (xJ i4_42))]) hx hb dX11_home_67 hl (by decide) rfl (fun ls hl => ?_)
          have L69 : ∀ (fu : Nat) (i5_69 : Int) (i6_69 : Int) (i7_69 : Int) (s_69 : xS) (H : Heap) (locs : List Loc) (ls : Array Slot), (xR i5_69) → (xR i6_69) → (xR i7_69) → (xFr (fun k => k = 268 ∨ k = 269 ∨ k = 270 ∨ k = 293 ∨ k = 294 ∨ k = 295 ∨ k = 296 ∨ k = 297 ∨ k = 298 ∨ k = 299) s0 s_69) → (IMn s_69) → (IMk s_69) → (IMo s_69) → (s_69 268 8 = s0 268 8) → (s_69 268 58 = s0 268 58) → (s_69 269 0 = s0 269 0) → (s_69 269 1 = s0 269 1) → (s_69 269 2 = s0 269 2) → (s_69 269 3 = s0 269 3) → (s_69 269 34 = s0 269 34) → (s_69 269 37 = s0 269 37) → (0 ≤ i7_69) → (i4_42 + 1 - i7_69).toNat < fu → xW D g h0 s H locs s_69 → lv_has ls 9 [(0, .ref (h0 + 268)), (1, .int (xJ j)), (2, .int (xJ n)), (3, .int (xJ x)), (4, .int (xJ i4_42)), (5, .int (xJ i5_69)), (6, .int (xJ i6_69)), (7, .int (xJ i7_69))] → W p l e { frames := 9, cells := 0, slots := 0, locals := 211 } s m args below meth c H locs 0 0 Q (F0 m 69 ls []) := by
            intro fu
            induction fu with
            | zero => intro i5_69 i6_69 i7_69 s_69 H locs ls ri5_69 ri6_69 ri7_69 hF_69 q69_0 q69_1 q69_2 q69_3 q69_4 q69_5 q69_6 q69_7 q69_8 q69_9 q69_10 v69_0 hm; exact absurd hm (Nat.not_lt_zero _)
            | succ fu ih69 =>
              intro i5_69 i6_69 i7_69 s_69 H locs ls ri5_69 ri6_69 ri7_69 hF_69 q69_0 q69_1 q69_2 q69_3 q69_4 q69_5 q69_6 q69_7 q69_8 q69_9 q69_10 v69_0 hm hW hl
              have hm_69 := fun (_ : Unit) => hm
              clear hm
              refine x_iload hx hb hl 7 rfl dX11_home_69 ?_
              refine x_iload hx hb hl 4 rfl dX11_home_71 ?_
              refine x_icmp_ge (tgt := 110) hx hb ri7_69 ri4_42 dX11_home_73 (by decide) (fun c28 => ?_) (fun c28 => ?_)
              · skip
                refine x_iload_n hx hb hl 3 rfl dX11_home_110 rfl ?_
                refine x_bipush hx hb dX11_home_111 (by decide) ?_
                refine x_icmp_ne (tgt := 121) hx hb rx (by decide) dX11_home_113 (by decide) (fun c29 => ?_) (fun c29 => ?_)
                · skip
                  refine x_iload hx hb hl 5 rfl dX11_home_121 ?_
                  refine x_iload_n hx hb hl 2 rfl dX11_home_123 rfl ?_
                  refine x_iload_n hx hb hl 3 rfl dX11_home_124 rfl ?_
                  refine x_goi (x_runS (As := [.int (xJ i5_69), .int (xJ n), .int (xJ x)]) hx hb hml hown hT hE hW hl.1 cf_X11_stepIn wq1700 wq1699 (c_X11_stepIn l D g T h0 s_69 hW.2.1 i5_69 ri5_69 n rn x rx (by omega)) ⟨rfl, rfl, ⟨by decide, by decide⟩, ⟨by decide, by decide⟩⟩ rfl rfl (Nat.le_of_ble_eq_true rfl) dX11_home_125) hW (fun x30 s31 H locs rx30 hp32 hW => ?_)
                  obtain ⟨es31, hp32⟩ := hp32
                  subst es31
                  have ghp32 := hp32
                  refine x_iconst hx hb dX11_home_128 ?_
                  refine x_idivQ hx hb (by decide) (by omega) dX11_home_129 (fun x33 rx33 => ?_)
                  rw [eQ]
                  exact x_iret hx hb hr hlk hW rx33 ⟨hF_69, ⟨q69_0, q69_1, q69_2, q69_3, q69_4, q69_5, q69_6, q69_7, q69_8, q69_9, q69_10, trivial⟩, trivial⟩ dX11_home_130
                refine x_iload hx hb hl 6 rfl dX11_home_116 ?_
                refine lv_goto (tgt := 130) hx hb dX11_home_118 (by decide) ?_
                rw [eQ]
                exact x_iret hx hb hr hlk hW ri6_69 ⟨hF_69, ⟨q69_0, q69_1, q69_2, q69_3, q69_4, q69_5, q69_6, q69_7, q69_8, q69_9, q69_10, trivial⟩, trivial⟩ dX11_home_130
              refine x_aload_n hx hb hl 0 rfl dX11_home_76 rfl ?_
              refine x_iload_n hx hb hl 1 rfl dX11_home_77 rfl ?_
              refine x_iload_n hx hb hl 2 rfl dX11_home_78 rfl ?_
              refine x_iload hx hb hl 7 rfl dX11_home_79 ?_
              refine x_goi (x_runV (As := [.int (xJ j), .int (xJ n), .int (xJ i7_69)]) hx hb hml hown hT hE hW hl.1 (Or.inl (by decide)) (so_268 h0 g _) rfl cf_X11_servedIn wq1697 wq157 wq1695 (c_X11_servedInT l D g T h0 s_69 hW.2.1 j rj n rn i7_69 ri7_69 (by omega) q69_0 q69_1 q69_2) ⟨rfl, rfl, ⟨by decide, by decide⟩, ⟨by decide, by decide⟩⟩ rfl rfl (Nat.le_of_ble_eq_true rfl) dX11_home_81) hW (fun x34 s35 H locs rx34 hp36 hW => ?_)
              obtain ⟨fs35, hp36⟩ := hp36
              have hF37 := hF_69.call fs35 (fun k h => by omega)
              have ghp36 := hp36.2
              refine lv_istore (lv' := [(8, .int (xJ x34)), (0, .ref (h0 + 268)), (1, .int (xJ j)), (2, .int (xJ n)), (3, .int (xJ x)), (4, .int (xJ i4_42)), (5, .int (xJ i5_69)), (6, .int (xJ i6_69)), (7, .int (xJ i7_69))]) hx hb dX11_home_84 hl (by decide) rfl (fun ls hl => ?_)
              refine x_iload hx hb hl 0 rfl dX11_home_86 ?_
              refine x_iload hx hb hl 7 rfl dX11_home_88 ?_
              refine x_icmp_gt (tgt := 96) hx hb rx34 ri6_69 dX11_home_90 (by decide) (fun c38 => ?_) (fun c38 => ?_)
              · skip
                refine x_iload hx hb hl 0 rfl dX11_home_96 ?_
                refine lv_istore (lv' := [(6, .int (xJ x34)), (8, .int (xJ x34)), (0, .ref (h0 + 268)), (1, .int (xJ j)), (2, .int (xJ n)), (3, .int (xJ x)), (4, .int (xJ i4_42)), (5, .int (xJ i5_69)), (7, .int (xJ i7_69))]) hx hb dX11_home_98 hl (by decide) rfl (fun ls hl => ?_)
                refine x_iload hx hb hl 8 rfl dX11_home_100 ?_
                refine lv_istore (lv' := [(5, .int (xJ i7_69)), (6, .int (xJ x34)), (8, .int (xJ x34)), (0, .ref (h0 + 268)), (1, .int (xJ j)), (2, .int (xJ n)), (3, .int (xJ x)), (4, .int (xJ i4_42)), (7, .int (xJ i7_69))]) hx hb dX11_home_102 hl (by decide) rfl (fun ls hl => ?_)
                refine x_iinc (lv' := [(7, .int (xJ (i7_69 + 1))), (5, .int (xJ i7_69)), (6, .int (xJ x34)), (8, .int (xJ x34)), (0, .ref (h0 + 268)), (1, .int (xJ j)), (2, .int (xJ n)), (3, .int (xJ x)), (4, .int (xJ i4_42))]) hx hb hl 8 rfl dX11_home_104 (by decide) rfl (fun ls hl => ?_)
                refine lv_goto (tgt := 69) hx hb dX11_home_107 (by decide) ?_
                exact ih69 i7_69 x34 (i7_69 + 1) s35 H locs ls ri7_69 rx34 (by omega) hF37 hp36.1.1 hp36.1.2.1 hp36.1.2.2.1 (hp36.1.2.2.2.1.trans q69_3) (hp36.1.2.2.2.2.1.trans q69_4) (hp36.1.2.2.2.2.2.1.trans q69_5) (hp36.1.2.2.2.2.2.2.1.trans q69_6) (hp36.1.2.2.2.2.2.2.2.1.trans q69_7) (hp36.1.2.2.2.2.2.2.2.2.1.trans q69_8) (hp36.1.2.2.2.2.2.2.2.2.2.1.trans q69_9) (hp36.1.2.2.2.2.2.2.2.2.2.2.1.trans q69_10) (by omega) (by have hm := hm_69 (); omega) hW (lv_sub hl [4, 5, 6, 7, 8, 1, 2, 0] rfl)
              refine lv_goto (tgt := 104) hx hb dX11_home_93 (by decide) ?_
              refine x_iinc (lv' := [(7, .int (xJ (i7_69 + 1))), (8, .int (xJ x34)), (0, .ref (h0 + 268)), (1, .int (xJ j)), (2, .int (xJ n)), (3, .int (xJ x)), (4, .int (xJ i4_42)), (5, .int (xJ i5_69)), (6, .int (xJ i6_69))]) hx hb hl 8 rfl dX11_home_104 (by decide) rfl (fun ls hl => ?_)
              refine lv_goto (tgt := 69) hx hb dX11_home_107 (by decide) ?_
              exact ih69 i5_69 i6_69 (i7_69 + 1) s35 H locs ls ri5_69 ri6_69 (by omega) hF37 hp36.1.1 hp36.1.2.1 hp36.1.2.2.1 (hp36.1.2.2.2.1.trans q69_3) (hp36.1.2.2.2.2.1.trans q69_4) (hp36.1.2.2.2.2.2.1.trans q69_5) (hp36.1.2.2.2.2.2.2.1.trans q69_6) (hp36.1.2.2.2.2.2.2.2.1.trans q69_7) (hp36.1.2.2.2.2.2.2.2.2.1.trans q69_8) (hp36.1.2.2.2.2.2.2.2.2.2.1.trans q69_9) (hp36.1.2.2.2.2.2.2.2.2.2.2.1.trans q69_10) (by omega) (by have hm := hm_69 (); omega) hW (lv_sub hl [2, 3, 4, 5, 6, 7, 8, 0] rfl)
          exact L69 ((i4_42 + 1 - 0 : Int).toNat + 1) (-1) (-1) 0 s0 H locs ls (by decide) (by decide) (by decide) hF p0 p1 p2 k268_8 k268_58 k269_0 k269_1 k269_2 k269_3 k269_34 k269_37 (by omega) (Nat.lt_succ_self _) hW (lv_sub hl [3, 4, 5, 6, 7, 2, 1, 0] rfl)
        refine x_iload hx hb hl 4 rfl dX11_home_48 ?_
        refine x_iconst hx hb dX11_home_50 ?_
        refine x_imul hx hb dX11_home_51 ?_
        refine x_any (fun x39 rx39 => ?_)
        refine lv_istore (lv' := [(4, .int (xJ x39)), (0, .ref (h0 + 268)), (1, .int (xJ j)), (2, .int (xJ n)), (3, .int (xJ x)), (5, .int (xJ i5_42))]) hx hb dX11_home_52 hl (by decide) rfl (fun ls hl => ?_)
        refine x_iinc (lv' := [(5, .int (xJ (i5_42 + 1))), (4, .int (xJ x39)), (0, .ref (h0 + 268)), (1, .int (xJ j)), (2, .int (xJ n)), (3, .int (xJ x))]) hx hb hl 5 rfl dX11_home_54 (by decide) rfl (fun ls hl => ?_)
        refine lv_goto (tgt := 42) hx hb dX11_home_57 (by decide) ?_
        exact ih42 x39 (i5_42 + 1) ls rx39 (by omega) (by omega) (by have hm := hm_42 (); omega)  (lv_sub hl [2, 3, 4, 5, 1, 0] rfl)
    exact L42 ((n + 1 - 0 : Int).toNat + 1) 1 0 ls (by decide) (by decide) (by omega) (Nat.lt_succ_self _)  (lv_sub hl [2, 3, 4, 5, 1, 0] rfl)
  refine x_iconst hx hb dX11_home_34 ?_
  rw [eQ]
  exact x_iret hx hb hr hlk hW (by decide) ⟨hF, ⟨p0, p1, p2, k268_8, k268_58, k269_0, k269_1, k269_2, k269_3, k269_34, k269_37, trivial⟩, trivial⟩ dX11_home_35
set_option maxHeartbeats 4000000 in
set_option maxRecDepth 100000 in
theorem c_X11_servedFirstT (l : Launch) (D : va_G) (g : xG) (T : Nat × Nat × Nat) (h0 : Nat) (s0 : xS) (hσ : xRR s0) (f : Int) (rf : xR f) (n : Int) (rn : xR n) (p0 : IMn s0) (p1 : IMk s0) (p2 : IMo s0) : Met l yX11_servedFirst (xws yX11_servedFirst cX11_servedFirst 3 (some .int)) { frames := 9, cells := 0, slots := 0, locals := 209 } (xP [.ref (h0 + 268), .int (xJ f), .int (xJ n)] D g T h0 s0) (xQi D g h0 (fun r τ => xFr (fun k => k = 268 ∨ k = 269 ∨ k = 270 ∨ k = 293 ∨ k = 294 ∨ k = 295 ∨ k = 296 ∨ k = 297 ∨ k = 298 ∨ k = 299) s0 τ ∧ (((IMn τ) ∧ (IMk τ) ∧ (IMo τ) ∧ (τ 268 8 = s0 268 8) ∧ (τ 268 58 = s0 268 58) ∧ (τ 269 0 = s0 269 0) ∧ (τ 269 1 = s0 269 1) ∧ (τ 269 2 = s0 269 2) ∧ (τ 269 3 = s0 269 3) ∧ (τ 269 34 = s0 269 34) ∧ (τ 269 37 = s0 269 37) ∧ True) ∧ (True)))) 0 0 (xA h0) := by
  refine x_met hσ (by decide) (Nat.le_of_ble_eq_true rfl) ?_
  intro p e s m args below meth c hx hb hr hml hown hT hlk hnm hE hW ls hl
  have hl : lv_has ls 3 [(0, .ref (h0 + 268)), (1, .int (xJ f)), (2, .int (xJ n))] := hl
  obtain ⟨Q, eQ⟩ : ∃ Q, Q = MQ below (xQi D g h0 (fun r τ => xFr (fun k => k = 268 ∨ k = 269 ∨ k = 270 ∨ k = 293 ∨ k = 294 ∨ k = 295 ∨ k = 296 ∨ k = 297 ∨ k = 298 ∨ k = 299) s0 τ ∧ (((IMn τ) ∧ (IMk τ) ∧ (IMo τ) ∧ (τ 268 8 = s0 268 8) ∧ (τ 268 58 = s0 268 58) ∧ (τ 269 0 = s0 269 0) ∧ (τ 269 1 = s0 269 1) ∧ (τ 269 2 = s0 269 2) ∧ (τ 269 3 = s0 269 3) ∧ (τ 269 34 = s0 269 34) ∧ (τ 269 37 = s0 269 37) ∧ True) ∧ (True)))) args s 0 0 (xA h0) := ⟨_, rfl⟩
  rw [← eQ]
  generalize hHe : ([] : List Loc) = locs at hW ⊢
  obtain ⟨H, eH⟩ : ∃ H, H = s.heap := ⟨_, rfl⟩
  rw [← eH] at hW ⊢
  have hF : xFr (fun k => k = 268 ∨ k = 269 ∨ k = 270 ∨ k = 293 ∨ k = 294 ∨ k = 295 ∨ k = 296 ∨ k = 297 ∨ k = 298 ∨ k = 299) s0 s0 := xFr.rf
  have k268_8 : s0 268 8 = s0 268 8 := rfl
  have k268_58 : s0 268 58 = s0 268 58 := rfl
  have k269_0 : s0 269 0 = s0 269 0 := rfl
  have k269_1 : s0 269 1 = s0 269 1 := rfl
  have k269_2 : s0 269 2 = s0 269 2 := rfl
  have k269_3 : s0 269 3 = s0 269 3 := rfl
  have k269_34 : s0 269 34 = s0 269 34 := rfl
  have k269_37 : s0 269 37 = s0 269 37 := rfl
  refine x_aload_n hx hb hl 0 rfl dX11_servedFirst_0 rfl ?_
  refine x_get (j := 0) (v := .ref (h0 + 269)) hx hb hown hT hE hW cls_X11 (Or.inl (by decide)) (so_268 h0 g _) (by decide) rfl wq1185 dX11_servedFirst_1 ?_
  refine x_aload_n hx hb hl 0 rfl dX11_servedFirst_4 rfl ?_
  refine x_get (j := 1) (v := .ref (h0 + 270)) hx hb hown hT hE hW cls_X11 (Or.inl (by decide)) (so_268 h0 g _) (by decide) rfl wq1186 dX11_servedFirst_5 ?_
  refine x_gov (x_runS (As := [.ref (h0 + 269), .ref (h0 + 270)]) hx hb hml hown hT hE hW hl.1 cf_X11_copies wq1647 wq1646 (c_X11_copiesMA l D g T h0 s0 hW.2.1 p0 p1 p2) ⟨rfl, rfl, ⟨by decide, by decide⟩, ⟨by decide, by decide⟩⟩ rfl rfl (Nat.le_of_ble_eq_true rfl) dX11_servedFirst_8) hW (fun s2 H locs hp3 hW => ?_)
  obtain ⟨fs2, hp3⟩ := hp3
  have hF4 := hF.call fs2 (fun k h => by omega)
  have q5 : s2 268 8 = s0 268 8 := (congrFun (fs2 _ (by omega)) _).trans k268_8
  have q6 : s2 268 58 = s0 268 58 := (congrFun (fs2 _ (by omega)) _).trans k268_58
  have q7 : s2 269 0 = s0 269 0 := (congrFun (fs2 _ (by omega)) _).trans k269_0
  have q8 : s2 269 1 = s0 269 1 := (congrFun (fs2 _ (by omega)) _).trans k269_1
  have q9 : s2 269 2 = s0 269 2 := (congrFun (fs2 _ (by omega)) _).trans k269_2
  have q10 : s2 269 3 = s0 269 3 := (congrFun (fs2 _ (by omega)) _).trans k269_3
  have q11 : s2 269 34 = s0 269 34 := (congrFun (fs2 _ (by omega)) _).trans k269_34
  have q12 : s2 269 37 = s0 269 37 := (congrFun (fs2 _ (by omega)) _).trans k269_37
  have ghp3 := hp3.2
  have q13 : s2 270 0 = s0 269 0 := (ghp3 0 (by decide) (by decide)).trans ((congrFun (fs2 269 (by first | decide | omega)) 0).symm.trans q7)
  have q14 : s2 270 1 = s0 269 1 := (ghp3 1 (by decide) (by decide)).trans ((congrFun (fs2 269 (by first | decide | omega)) 1).symm.trans q8)
  have q15 : s2 270 2 = s0 269 2 := (ghp3 2 (by decide) (by decide)).trans ((congrFun (fs2 269 (by first | decide | omega)) 2).symm.trans q9)
  have q16 : s2 270 3 = s0 269 3 := (ghp3 3 (by decide) (by decide)).trans ((congrFun (fs2 269 (by first | decide | omega)) 3).symm.trans q10)
  have q17 : s2 270 34 = s0 269 34 := (ghp3 34 (by decide) (by decide)).trans ((congrFun (fs2 269 (by first | decide | omega)) 34).symm.trans q11)
  have q18 : s2 270 37 = s0 269 37 := (ghp3 37 (by decide) (by decide)).trans ((congrFun (fs2 269 (by first | decide | omega)) 37).symm.trans q12)
  refine x_aload_n hx hb hl 0 rfl dX11_servedFirst_11 rfl ?_
  refine x_iload_n hx hb hl 1 rfl dX11_servedFirst_12 rfl ?_
  refine x_put (j := 48) hx hb hown hT hE hW cls_X11 (by decide) (fun σ => so_268 h0 g σ) (by decide) (st_X11_48 h0 s2 268 f) (ln_X11_48 h0 _ _) wq1233 rfl rfl rfl rf dX11_servedFirst_13 (fun H locs s19 es19 hW => ?_)
  have q20 : s19 268 8 = s0 268 8 := (show s19 268 8 = s2 268 8 from by rw [es19, xU_j _ _ (by decide)]).trans q5
  have q21 : s19 268 58 = s0 268 58 := (show s19 268 58 = s2 268 58 from by rw [es19, xU_j _ _ (by decide)]).trans q6
  have q22 : s19 269 0 = s0 269 0 := (show s19 269 0 = s2 269 0 from by rw [es19, xU_k _ _ _ (by first | decide | omega)]).trans q7
  have q23 : s19 269 1 = s0 269 1 := (show s19 269 1 = s2 269 1 from by rw [es19, xU_k _ _ _ (by first | decide | omega)]).trans q8
  have q24 : s19 269 2 = s0 269 2 := (show s19 269 2 = s2 269 2 from by rw [es19, xU_k _ _ _ (by first | decide | omega)]).trans q9
  have q25 : s19 269 3 = s0 269 3 := (show s19 269 3 = s2 269 3 from by rw [es19, xU_k _ _ _ (by first | decide | omega)]).trans q10
  have q26 : s19 269 34 = s0 269 34 := (show s19 269 34 = s2 269 34 from by rw [es19, xU_k _ _ _ (by first | decide | omega)]).trans q11
  have q27 : s19 269 37 = s0 269 37 := (show s19 269 37 = s2 269 37 from by rw [es19, xU_k _ _ _ (by first | decide | omega)]).trans q12
  have q28 : IMn s19 := by rw [es19]; exact IMn_268 hp3.1.1 (by omega)
  have q29 : IMk s19 := by rw [es19]; exact IMk_268 hp3.1.2.1 (by omega)
  have q30 : IMo s19 := by rw [es19]; exact IMo_o (by unfold suIMo; first | decide | omega) hp3.1.2.2.1
  have q31 : s19 270 0 = s0 269 0 := (show s19 270 0 = s2 270 0 from by rw [es19, xU_k _ _ _ (by first | decide | omega)]).trans q13
  have q32 : s19 270 1 = s0 269 1 := (show s19 270 1 = s2 270 1 from by rw [es19, xU_k _ _ _ (by first | decide | omega)]).trans q14
  have q33 : s19 270 2 = s0 269 2 := (show s19 270 2 = s2 270 2 from by rw [es19, xU_k _ _ _ (by first | decide | omega)]).trans q15
  have q34 : s19 270 3 = s0 269 3 := (show s19 270 3 = s2 270 3 from by rw [es19, xU_k _ _ _ (by first | decide | omega)]).trans q16
  have q35 : s19 270 34 = s0 269 34 := (show s19 270 34 = s2 270 34 from by rw [es19, xU_k _ _ _ (by first | decide | omega)]).trans q17
  have q36 : s19 270 37 = s0 269 37 := (show s19 270 37 = s2 270 37 from by rw [es19, xU_k _ _ _ (by first | decide | omega)]).trans q18
  have hF37 := hF4.put es19 (by omega)
  refine x_aload_n hx hb hl 0 rfl dX11_servedFirst_16 rfl ?_
  refine x_iload_n hx hb hl 2 rfl dX11_servedFirst_17 rfl ?_
  refine x_gov (x_runV (As := [.int (xJ n)]) hx hb hml hown hT hE hW hl.1 (Or.inl (by decide)) (so_268 h0 g _) rfl cf_X11_minutesGo wq1539 wq130 wq1537 (c_X11_minutesGo l D g T h0 s19 hW.2.1 n rn q28 q29 q30) ⟨rfl, rfl, ⟨by decide, by decide⟩, ⟨by decide, by decide⟩⟩ rfl rfl (Nat.le_of_ble_eq_true rfl) dX11_servedFirst_18) hW (fun s39 H locs hp40 hW => ?_)
  obtain ⟨fs39, hp40⟩ := hp40
  have hF41 := hF37.call fs39 (fun k h => by omega)
  have q42 : s39 270 0 = s0 269 0 := (congrFun (fs39 _ (by omega)) _).trans q31
  have q43 : s39 270 1 = s0 269 1 := (congrFun (fs39 _ (by omega)) _).trans q32
  have q44 : s39 270 2 = s0 269 2 := (congrFun (fs39 _ (by omega)) _).trans q33
  have q45 : s39 270 3 = s0 269 3 := (congrFun (fs39 _ (by omega)) _).trans q34
  have q46 : s39 270 34 = s0 269 34 := (congrFun (fs39 _ (by omega)) _).trans q35
  have q47 : s39 270 37 = s0 269 37 := (congrFun (fs39 _ (by omega)) _).trans q36
  have ghp40 := hp40.2
  refine x_aload_n hx hb hl 0 rfl dX11_servedFirst_21 rfl ?_
  refine x_iconst hx hb dX11_servedFirst_22 ?_
  refine x_put (j := 48) hx hb hown hT hE hW cls_X11 (by decide) (fun σ => so_268 h0 g σ) (by decide) (st_X11_48 h0 s39 268 (-1)) (ln_X11_48 h0 _ _) wq1233 rfl rfl rfl (by decide) dX11_servedFirst_23 (fun H locs s48 es48 hW => ?_)
  have q49 : s48 270 0 = s0 269 0 := (show s48 270 0 = s39 270 0 from by rw [es48, xU_k _ _ _ (by first | decide | omega)]).trans q42
  have q50 : s48 270 1 = s0 269 1 := (show s48 270 1 = s39 270 1 from by rw [es48, xU_k _ _ _ (by first | decide | omega)]).trans q43
  have q51 : s48 270 2 = s0 269 2 := (show s48 270 2 = s39 270 2 from by rw [es48, xU_k _ _ _ (by first | decide | omega)]).trans q44
  have q52 : s48 270 3 = s0 269 3 := (show s48 270 3 = s39 270 3 from by rw [es48, xU_k _ _ _ (by first | decide | omega)]).trans q45
  have q53 : s48 270 34 = s0 269 34 := (show s48 270 34 = s39 270 34 from by rw [es48, xU_k _ _ _ (by first | decide | omega)]).trans q46
  have q54 : s48 270 37 = s0 269 37 := (show s48 270 37 = s39 270 37 from by rw [es48, xU_k _ _ _ (by first | decide | omega)]).trans q47
  have q55 : IMn s48 := by rw [es48]; exact IMn_268 hp40.1.1 (by omega)
  have q56 : IMk s48 := by rw [es48]; exact IMk_268 hp40.1.2.1 (by omega)
  have q57 : IMo s48 := by rw [es48]; exact IMo_o (by unfold suIMo; first | decide | omega) hp40.1.2.2.1
  have q58 : s48 268 8 = s0 268 8 := (show s48 268 8 = s39 268 8 from by rw [es48, xU_j _ _ (by decide)]).trans (hp40.1.2.2.2.1.trans q20)
  have q59 : s48 268 58 = s0 268 58 := (show s48 268 58 = s39 268 58 from by rw [es48, xU_j _ _ (by decide)]).trans (hp40.1.2.2.2.2.1.trans q21)
  have hF60 := hF41.put es48 (by omega)
  refine x_aload_n hx hb hl 0 rfl dX11_servedFirst_26 rfl ?_
  refine x_get (j := 1) (v := .ref (h0 + 270)) hx hb hown hT hE hW cls_X11 (Or.inl (by decide)) (so_268 h0 g _) (by decide) rfl wq1186 dX11_servedFirst_27 ?_
  refine x_aload_n hx hb hl 0 rfl dX11_servedFirst_30 rfl ?_
  refine x_get (j := 0) (v := .ref (h0 + 269)) hx hb hown hT hE hW cls_X11 (Or.inl (by decide)) (so_268 h0 g _) (by decide) rfl wq1185 dX11_servedFirst_31 ?_
  refine x_gov (x_runS (As := [.ref (h0 + 270), .ref (h0 + 269)]) hx hb hml hown hT hE hW hl.1 cf_X11_copies wq1647 wq1646 (c_X11_copiesMB l D g T h0 s48 hW.2.1 q55 q56 q57) ⟨rfl, rfl, ⟨by decide, by decide⟩, ⟨by decide, by decide⟩⟩ rfl rfl (Nat.le_of_ble_eq_true rfl) dX11_servedFirst_34) hW (fun s62 H locs hp63 hW => ?_)
  obtain ⟨fs62, hp63⟩ := hp63
  have hF64 := hF60.call fs62 (fun k h => by omega)
  have q65 : s62 270 0 = s0 269 0 := (congrFun (fs62 _ (by omega)) _).trans q49
  have q66 : s62 270 1 = s0 269 1 := (congrFun (fs62 _ (by omega)) _).trans q50
  have q67 : s62 270 2 = s0 269 2 := (congrFun (fs62 _ (by omega)) _).trans q51
  have q68 : s62 270 3 = s0 269 3 := (congrFun (fs62 _ (by omega)) _).trans q52
  have q69 : s62 270 34 = s0 269 34 := (congrFun (fs62 _ (by omega)) _).trans q53
  have q70 : s62 270 37 = s0 269 37 := (congrFun (fs62 _ (by omega)) _).trans q54
  have q71 : s62 268 8 = s0 268 8 := (congrFun (fs62 _ (by omega)) _).trans q58
  have q72 : s62 268 58 = s0 268 58 := (congrFun (fs62 _ (by omega)) _).trans q59
  have ghp63 := hp63.2
  have q73 : s62 269 0 = s0 269 0 := (ghp63 0 (by decide) (by decide)).trans ((congrFun (fs62 270 (by first | decide | omega)) 0).symm.trans q65)
  have q74 : s62 269 1 = s0 269 1 := (ghp63 1 (by decide) (by decide)).trans ((congrFun (fs62 270 (by first | decide | omega)) 1).symm.trans q66)
  have q75 : s62 269 2 = s0 269 2 := (ghp63 2 (by decide) (by decide)).trans ((congrFun (fs62 270 (by first | decide | omega)) 2).symm.trans q67)
  have q76 : s62 269 3 = s0 269 3 := (ghp63 3 (by decide) (by decide)).trans ((congrFun (fs62 270 (by first | decide | omega)) 3).symm.trans q68)
  have q77 : s62 269 34 = s0 269 34 := (ghp63 34 (by decide) (by decide)).trans ((congrFun (fs62 270 (by first | decide | omega)) 34).symm.trans q69)
  have q78 : s62 269 37 = s0 269 37 := (ghp63 37 (by decide) (by decide)).trans ((congrFun (fs62 270 (by first | decide | omega)) 37).symm.trans q70)
  refine x_aload_n hx hb hl 0 rfl dX11_servedFirst_37 rfl ?_
  refine x_get (j := 41) (v := .int (xJ (s62 268 41))) hx hb hown hT hE hW cls_X11 (Or.inl (by decide)) (so_268 h0 g _) (by decide) rfl wq1226 dX11_servedFirst_38 ?_
  refine x_rd hW (fun x79 ex79 rx79 => ?_)
  rw [eQ]
  exact x_iret hx hb hr hlk hW rx79 ⟨hF64, ⟨hp63.1.1, hp63.1.2.1, hp63.1.2.2.1, q71, q72, q73, q74, q75, q76, q77, q78, trivial⟩, trivial⟩ dX11_servedFirst_41
set_option maxHeartbeats 4000000 in
set_option maxRecDepth 100000 in
theorem c_X11_firstT (l : Launch) (D : va_G) (g : xG) (T : Nat × Nat × Nat) (h0 : Nat) (s0 : xS) (hσ : xRR s0) (n : Int) (rn : xR n) (x : Int) (rx : xR x) (p0 : IMn s0) (p1 : IMk s0) (p2 : IMo s0) : Met l yX11_first (xws yX11_first cX11_first 7 (some .int)) { frames := 10, cells := 0, slots := 0, locals := 231 } (xP [.ref (h0 + 268), .int (xJ n), .int (xJ x)] D g T h0 s0) (xQi D g h0 (fun r τ => xFr (fun k => k = 268 ∨ k = 269 ∨ k = 270 ∨ k = 293 ∨ k = 294 ∨ k = 295 ∨ k = 296 ∨ k = 297 ∨ k = 298 ∨ k = 299) s0 τ ∧ (((IMn τ) ∧ (IMk τ) ∧ (IMo τ) ∧ (τ 268 8 = s0 268 8) ∧ (τ 268 58 = s0 268 58) ∧ (τ 269 0 = s0 269 0) ∧ (τ 269 1 = s0 269 1) ∧ (τ 269 2 = s0 269 2) ∧ (τ 269 3 = s0 269 3) ∧ (τ 269 34 = s0 269 34) ∧ (τ 269 37 = s0 269 37) ∧ True) ∧ (True)))) 0 0 (xA h0) := by
  refine x_met hσ (by decide) (Nat.le_of_ble_eq_true rfl) ?_
  intro p e s m args below meth c hx hb hr hml hown hT hlk hnm hE hW ls hl
  have hl : lv_has ls 7 [(0, .ref (h0 + 268)), (1, .int (xJ n)), (2, .int (xJ x))] := hl
  obtain ⟨Q, eQ⟩ : ∃ Q, Q = MQ below (xQi D g h0 (fun r τ => xFr (fun k => k = 268 ∨ k = 269 ∨ k = 270 ∨ k = 293 ∨ k = 294 ∨ k = 295 ∨ k = 296 ∨ k = 297 ∨ k = 298 ∨ k = 299) s0 τ ∧ (((IMn τ) ∧ (IMk τ) ∧ (IMo τ) ∧ (τ 268 8 = s0 268 8) ∧ (τ 268 58 = s0 268 58) ∧ (τ 269 0 = s0 269 0) ∧ (τ 269 1 = s0 269 1) ∧ (τ 269 2 = s0 269 2) ∧ (τ 269 3 = s0 269 3) ∧ (τ 269 34 = s0 269 34) ∧ (τ 269 37 = s0 269 37) ∧ True) ∧ (True)))) args s 0 0 (xA h0) := ⟨_, rfl⟩
  rw [← eQ]
  generalize hHe : ([] : List Loc) = locs at hW ⊢
  obtain ⟨H, eH⟩ : ∃ H, H = s.heap := ⟨_, rfl⟩
  rw [← eH] at hW ⊢
  have hF : xFr (fun k => k = 268 ∨ k = 269 ∨ k = 270 ∨ k = 293 ∨ k = 294 ∨ k = 295 ∨ k = 296 ∨ k = 297 ∨ k = 298 ∨ k = 299) s0 s0 := xFr.rf
  have k268_8 : s0 268 8 = s0 268 8 := rfl
  have k268_58 : s0 268 58 = s0 268 58 := rfl
  have k269_0 : s0 269 0 = s0 269 0 := rfl
  have k269_1 : s0 269 1 = s0 269 1 := rfl
  have k269_2 : s0 269 2 = s0 269 2 := rfl
  have k269_3 : s0 269 3 = s0 269 3 := rfl
  have k269_34 : s0 269 34 = s0 269 34 := rfl
  have k269_37 : s0 269 37 = s0 269 37 := rfl
  refine x_iload_n hx hb hl 1 rfl dX11_first_0 rfl ?_
  refine x_iconst hx hb dX11_first_1 ?_
  refine x_bipush hx hb dX11_first_2 (by decide) ?_
  refine x_goi (x_runS (As := [.int (xJ n), .int (xJ 1), .int (xJ 60)]) hx hb hml hown hT hE hW hl.1 cf_X11_in wq1383 wq1382 (c_X11_in l D g T h0 s0 hW.2.1 n rn 1 (by decide) 60 (by decide)) ⟨rfl, rfl, ⟨by decide, by decide⟩, ⟨by decide, by decide⟩⟩ rfl rfl (Nat.le_of_ble_eq_true rfl) dX11_first_4) hW (fun x1 s2 H locs rx1 hp3 hW => ?_)
  obtain ⟨es2, hp3⟩ := hp3
  subst es2
  have ghp3 := hp3
  refine x_if_eq (tgt := 19) hx hb rx1 dX11_first_7 (by decide) (fun c4 => ?_) (fun c4 => ?_)
  · skip
    refine x_iconst hx hb dX11_first_19 ?_
    rw [eQ]
    exact x_iret hx hb hr hlk hW (by decide) ⟨hF, ⟨p0, p1, p2, k268_8, k268_58, k269_0, k269_1, k269_2, k269_3, k269_34, k269_37, trivial⟩, trivial⟩ dX11_first_20
  refine x_iload_n hx hb hl 2 rfl dX11_first_10 rfl ?_
  refine x_iconst hx hb dX11_first_11 ?_
  refine x_iconst hx hb dX11_first_12 ?_
  refine x_goi (x_runS (As := [.int (xJ x), .int (xJ 0), .int (xJ 1)]) hx hb hml hown hT hE hW hl.1 cf_X11_in wq1383 wq1382 (c_X11_in l D g T h0 s0 hW.2.1 x rx 0 (by decide) 1 (by decide)) ⟨rfl, rfl, ⟨by decide, by decide⟩, ⟨by decide, by decide⟩⟩ rfl rfl (Nat.le_of_ble_eq_true rfl) dX11_first_13) hW (fun x5 s6 H locs rx5 hp7 hW => ?_)
  obtain ⟨es6, hp7⟩ := hp7
  subst es6
  have ghp7 := hp7
  refine x_if_ne (tgt := 21) hx hb rx5 dX11_first_16 (by decide) (fun c8 => ?_) (fun c8 => ?_)
  · skip
    refine x_bipush hx hb dX11_first_21 (by decide) ?_
    refine lv_istore_n (lv' := [(3, .int (xJ (-2))), (0, .ref (h0 + 268)), (1, .int (xJ n)), (2, .int (xJ x))]) hx hb dX11_first_23 rfl hl (by decide) rfl (fun ls hl => ?_)
    refine x_aload_n hx hb hl 1 rfl dX11_first_24 rfl ?_
    refine x_iconst hx hb dX11_first_25 ?_
    refine x_iload_n hx hb hl 2 rfl dX11_first_26 rfl ?_
    refine x_goi (x_runV (As := [.int (xJ (-1)), .int (xJ n)]) hx hb hml hown hT hE hW hl.1 (Or.inl (by decide)) (so_268 h0 g _) rfl cf_X11_servedFirst wq1716 wq159 wq1714 (c_X11_servedFirstT l D g T h0 s0 hW.2.1 (-1) (by decide) n rn p0 p1 p2) ⟨rfl, rfl, ⟨by decide, by decide⟩, ⟨by decide, by decide⟩⟩ rfl rfl (Nat.le_of_ble_eq_true rfl) dX11_first_27) hW (fun x9 s10 H locs rx9 hp11 hW => ?_)
    obtain ⟨fs10, hp11⟩ := hp11
    have hF12 := hF.call fs10 (fun k h => by omega)
    have ghp11 := hp11.2
    refine lv_istore (lv' := [(4, .int (xJ x9)), (3, .int (xJ (-2))), (0, .ref (h0 + 268)), (1, .int (xJ n)), (2, .int (xJ x))]) hx hb dX11_first_30 hl (by decide) rfl (fun ls hl => ?_)
    refine x_iconst hx hb dX11_first_32 ?_
    refine lv_istore (lv' := [(5, .int (xJ 0)), (4, .int (xJ x9)), (3, .int (xJ (-2))), (0, .ref (h0 + 268)), (1, .int (xJ n)), (2, .int (xJ x))]) hx hb dX11_first_33 hl (by decide) rfl (fun ls hl => ?_)
    have L35 : ∀ (fu : Nat) (i3_35 : Int) (i4_35 : Int) (i5_35 : Int) (s_35 : xS) (H : Heap) (locs : List Loc) (ls : Array Slot), (xR i3_35) → (xR i4_35) → (xR i5_35) → (xFr (fun k => k = 268 ∨ k = 269 ∨ k = 270 ∨ k = 293 ∨ k = 294 ∨ k = 295 ∨ k = 296 ∨ k = 297 ∨ k = 298 ∨ k = 299) s0 s_35) → (IMn s_35) → (IMk s_35) → (IMo s_35) → (s_35 268 8 = s0 268 8) → (s_35 268 58 = s0 268 58) → (s_35 269 0 = s0 269 0) → (s_35 269 1 = s0 269 1) → (s_35 269 2 = s0 269 2) → (s_35 269 3 = s0 269 3) → (s_35 269 34 = s0 269 34) → (s_35 269 37 = s0 269 37) → (0 ≤ i5_35) → (i5_35 ≤ 10) → (10 + 1 - i5_35).toNat < fu → xW D g h0 s H locs s_35 → lv_has ls 7 [(0, .ref (h0 + 268)), (1, .int (xJ n)), (2, .int (xJ x)), (3, .int (xJ i3_35)), (4, .int (xJ i4_35)), (5, .int (xJ i5_35))] → W p l e { frames := 10, cells := 0, slots := 0, locals := 231 } s m args below meth c H locs 0 0 Q (F0 m 35 ls []) := by
      intro fu
      induction fu with
      | zero => intro i3_35 i4_35 i5_35 s_35 H locs ls ri3_35 ri4_35 ri5_35 hF_35 q35_0 q35_1 q35_2 q35_3 q35_4 q35_5 q35_6 q35_7 q35_8 q35_9 q35_10 v35_0 v35_1 hm; exact absurd hm (Nat.not_lt_zero _)
      | succ fu ih35 =>
        intro i3_35 i4_35 i5_35 s_35 H locs ls ri3_35 ri4_35 ri5_35 hF_35 q35_0 q35_1 q35_2 q35_3 q35_4 q35_5 q35_6 q35_7 q35_8 q35_9 q35_10 v35_0 v35_1 hm hW hl
        have hm_35 := fun (_ : Unit) => hm
        clear hm
        refine x_iload hx hb hl 5 rfl dX11_first_35 ?_
        refine x_bipush hx hb dX11_first_37 (by decide) ?_
        refine x_icmp_ge (tgt := 86) hx hb ri5_35 (by decide) dX11_first_39 (by decide) (fun c13 => ?_) (fun c13 => ?_)
        · skip
          refine x_iload_n hx hb hl 2 rfl dX11_first_86 rfl ?_
          refine x_if_ne (tgt := 94) hx hb rx dX11_first_87 (by decide) (fun c14 => ?_) (fun c14 => ?_)
          · skip
            refine x_iload hx hb hl 4 rfl dX11_first_94 ?_
            rw [eQ]
            exact x_iret hx hb hr hlk hW ri4_35 ⟨hF_35, ⟨q35_0, q35_1, q35_2, q35_3, q35_4, q35_5, q35_6, q35_7, q35_8, q35_9, q35_10, trivial⟩, trivial⟩ dX11_first_96
          refine x_iload_n hx hb hl 3 rfl dX11_first_90 rfl ?_
          refine lv_goto (tgt := 96) hx hb dX11_first_91 (by decide) ?_
          rw [eQ]
          exact x_iret hx hb hr hlk hW ri3_35 ⟨hF_35, ⟨q35_0, q35_1, q35_2, q35_3, q35_4, q35_5, q35_6, q35_7, q35_8, q35_9, q35_10, trivial⟩, trivial⟩ dX11_first_96
        refine x_aload_n hx hb hl 0 rfl dX11_first_42 rfl ?_
        refine x_iload hx hb hl 5 rfl dX11_first_43 ?_
        refine x_goi (x_runV (As := [.int (xJ i5_35)]) hx hb hml hown hT hE hW hl.1 (Or.inl (by decide)) (so_268 h0 g _) rfl cf_X11_owes wq1620 wq147 wq1618 (c_X11_owes l D g T h0 s_35 hW.2.1 i5_35 ri5_35 q35_0 q35_1 q35_2) ⟨rfl, rfl, ⟨by decide, by decide⟩, ⟨by decide, by decide⟩⟩ rfl rfl (Nat.le_of_ble_eq_true rfl) dX11_first_45) hW (fun x15 s16 H locs rx15 hp17 hW => ?_)
        obtain ⟨es16, hp17⟩ := hp17
        subst es16
        have ghp17 := hp17
        refine x_if_ne (tgt := 54) hx hb rx15 dX11_first_48 (by decide) (fun c18 => ?_) (fun c18 => ?_)
        · skip
          refine x_aload_n hx hb hl 0 rfl dX11_first_54 rfl ?_
          refine x_iload hx hb hl 5 rfl dX11_first_55 ?_
          refine x_iload_n hx hb hl 1 rfl dX11_first_57 rfl ?_
          refine x_goi (x_runV (As := [.int (xJ i5_35), .int (xJ n)]) hx hb hml hown hT hE hW hl.1 (Or.inl (by decide)) (so_268 h0 g _) rfl cf_X11_servedFirst wq1716 wq159 wq1714 (c_X11_servedFirstT l D g T h0 s_35 hW.2.1 i5_35 ri5_35 n rn q35_0 q35_1 q35_2) ⟨rfl, rfl, ⟨by decide, by decide⟩, ⟨by decide, by decide⟩⟩ rfl rfl (Nat.le_of_ble_eq_true rfl) dX11_first_58) hW (fun x19 s20 H locs rx19 hp21 hW => ?_)
          obtain ⟨fs20, hp21⟩ := hp21
          have hF22 := hF_35.call fs20 (fun k h => by omega)
          have ghp21 := hp21.2
          refine lv_istore (lv' := [(6, .int (xJ x19)), (0, .ref (h0 + 268)), (1, .int (xJ n)), (2, .int (xJ x)), (3, .int (xJ i3_35)), (4, .int (xJ i4_35)), (5, .int (xJ i5_35))]) hx hb dX11_first_61 hl (by decide) rfl (fun ls hl => ?_)
          refine x_iload hx hb hl 0 rfl dX11_first_63 ?_
          refine x_iload hx hb hl 5 rfl dX11_first_65 ?_
          refine x_icmp_gt (tgt := 73) hx hb rx19 ri4_35 dX11_first_67 (by decide) (fun c23 => ?_) (fun c23 => ?_)
          · skip
            refine x_iload hx hb hl 0 rfl dX11_first_73 ?_
            refine lv_istore (lv' := [(4, .int (xJ x19)), (6, .int (xJ x19)), (0, .ref (h0 + 268)), (1, .int (xJ n)), (2, .int (xJ x)), (3, .int (xJ i3_35)), (5, .int (xJ i5_35))]) hx hb dX11_first_75 hl (by decide) rfl (fun ls hl => ?_)
            refine x_iload hx hb hl 6 rfl dX11_first_77 ?_
            refine lv_istore_n (lv' := [(3, .int (xJ i5_35)), (4, .int (xJ x19)), (6, .int (xJ x19)), (0, .ref (h0 + 268)), (1, .int (xJ n)), (2, .int (xJ x)), (5, .int (xJ i5_35))]) hx hb dX11_first_79 rfl hl (by decide) rfl (fun ls hl => ?_)
            refine x_iinc (lv' := [(5, .int (xJ (i5_35 + 1))), (3, .int (xJ i5_35)), (4, .int (xJ x19)), (6, .int (xJ x19)), (0, .ref (h0 + 268)), (1, .int (xJ n)), (2, .int (xJ x))]) hx hb hl 6 rfl dX11_first_80 (by decide) rfl (fun ls hl => ?_)
            refine lv_goto (tgt := 35) hx hb dX11_first_83 (by decide) ?_
            exact ih35 i5_35 x19 (i5_35 + 1) s20 H locs ls ri5_35 rx19 (by omega) hF22 hp21.1.1 hp21.1.2.1 hp21.1.2.2.1 (hp21.1.2.2.2.1.trans q35_3) (hp21.1.2.2.2.2.1.trans q35_4) (hp21.1.2.2.2.2.2.1.trans q35_5) (hp21.1.2.2.2.2.2.2.1.trans q35_6) (hp21.1.2.2.2.2.2.2.2.1.trans q35_7) (hp21.1.2.2.2.2.2.2.2.2.1.trans q35_8) (hp21.1.2.2.2.2.2.2.2.2.2.1.trans q35_9) (hp21.1.2.2.2.2.2.2.2.2.2.2.1.trans q35_10) (by omega) (by omega) (by have hm := hm_35 (); omega) hW (lv_sub hl [4, 5, 6, 1, 2, 0] rfl)
          refine lv_goto (tgt := 80) hx hb dX11_first_70 (by decide) ?_
          refine x_iinc (lv' := [(5, .int (xJ (i5_35 + 1))), (6, .int (xJ x19)), (0, .ref (h0 + 268)), (1, .int (xJ n)), (2, .int (xJ x)), (3, .int (xJ i3_35)), (4, .int (xJ i4_35))]) hx hb hl 6 rfl dX11_first_80 (by decide) rfl (fun ls hl => ?_)
          refine lv_goto (tgt := 35) hx hb dX11_first_83 (by decide) ?_
          exact ih35 i3_35 i4_35 (i5_35 + 1) s20 H locs ls ri3_35 ri4_35 (by omega) hF22 hp21.1.1 hp21.1.2.1 hp21.1.2.2.1 (hp21.1.2.2.2.1.trans q35_3) (hp21.1.2.2.2.2.1.trans q35_4) (hp21.1.2.2.2.2.2.1.trans q35_5) (hp21.1.2.2.2.2.2.2.1.trans q35_6) (hp21.1.2.2.2.2.2.2.2.1.trans q35_7) (hp21.1.2.2.2.2.2.2.2.2.1.trans q35_8) (hp21.1.2.2.2.2.2.2.2.2.2.1.trans q35_9) (hp21.1.2.2.2.2.2.2.2.2.2.2.1.trans q35_10) (by omega) (by omega) (by have hm := hm_35 (); omega) hW (lv_sub hl [2, 3, 4, 5, 6, 0] rfl)
        refine lv_goto (tgt := 80) hx hb dX11_first_51 (by decide) ?_
        refine x_iinc (lv' := [(5, .int (xJ (i5_35 + 1))), (0, .ref (h0 + 268)), (1, .int (xJ n)), (2, .int (xJ x)), (3, .int (xJ i3_35)), (4, .int (xJ i4_35))]) hx hb hl 5 rfl dX11_first_80 (by decide) rfl (fun ls hl => ?_)
        refine lv_goto (tgt := 35) hx hb dX11_first_83 (by decide) ?_
        exact ih35 i3_35 i4_35 (i5_35 + 1) s_35 H locs ls ri3_35 ri4_35 (by omega) hF_35 q35_0 q35_1 q35_2 q35_3 q35_4 q35_5 q35_6 q35_7 q35_8 q35_9 q35_10 (by omega) (by omega) (by have hm := hm_35 (); omega) hW (lv_sub hl [1, 2, 3, 4, 5, 0] rfl)
    exact L35 ((10 + 1 - 0 : Int).toNat + 1) (-2) x9 0 s10 H locs ls (by decide) rx9 (by decide) hF12 hp11.1.1 hp11.1.2.1 hp11.1.2.2.1 (hp11.1.2.2.2.1.trans k268_8) (hp11.1.2.2.2.2.1.trans k268_58) (hp11.1.2.2.2.2.2.1.trans k269_0) (hp11.1.2.2.2.2.2.2.1.trans k269_1) (hp11.1.2.2.2.2.2.2.2.1.trans k269_2) (hp11.1.2.2.2.2.2.2.2.2.1.trans k269_3) (hp11.1.2.2.2.2.2.2.2.2.2.1.trans k269_34) (hp11.1.2.2.2.2.2.2.2.2.2.2.1.trans k269_37) (by omega) (by omega) (Nat.lt_succ_self _) hW (lv_sub hl [3, 4, 5, 2, 1, 0] rfl)
  refine x_iconst hx hb dX11_first_19 ?_
  rw [eQ]
  exact x_iret hx hb hr hlk hW (by decide) ⟨hF, ⟨p0, p1, p2, k268_8, k268_58, k269_0, k269_1, k269_2, k269_3, k269_34, k269_37, trivial⟩, trivial⟩ dX11_first_20
set_option maxHeartbeats 4000000 in
set_option maxRecDepth 100000 in
theorem c_X11_laysDarkT (l : Launch) (D : va_G) (g : xG) (T : Nat × Nat × Nat) (h0 : Nat) (s0 : xS) (hσ : xRR s0) (n : Int) (rn : xR n) (hn : 1 ≤ n ∧ n ≤ 60) (p0 : IMn s0) (p1 : IMk s0) (p2 : IMo s0) : Met l yX11_laysDark (xws yX11_laysDark cX11_laysDark 4 none) { frames := 5, cells := 0, slots := 0, locals := 114 } (xP [.ref (h0 + 268), .int (xJ n)] D g T h0 s0) (xQv D g h0 (fun τ => xFr (fun k => k = 269 ∨ k = 270 ∨ k = 293 ∨ k = 294 ∨ k = 295 ∨ k = 305) s0 τ ∧ (((IMn τ) ∧ (IMk τ) ∧ (IMo τ) ∧ (τ 269 0 = s0 269 0) ∧ (τ 269 1 = s0 269 1) ∧ (τ 269 2 = s0 269 2) ∧ (τ 269 3 = s0 269 3) ∧ (τ 269 34 = s0 269 34) ∧ (τ 269 37 = s0 269 37) ∧ True) ∧ (True)))) 0 0 (xA h0) := by
  refine x_met hσ (by decide) (Nat.le_of_ble_eq_true rfl) ?_
  intro p e s m args below meth c hx hb hr hml hown hT hlk hnm hE hW ls hl
  have hl : lv_has ls 4 [(0, .ref (h0 + 268)), (1, .int (xJ n))] := hl
  obtain ⟨Q, eQ⟩ : ∃ Q, Q = MQ below (xQv D g h0 (fun τ => xFr (fun k => k = 269 ∨ k = 270 ∨ k = 293 ∨ k = 294 ∨ k = 295 ∨ k = 305) s0 τ ∧ (((IMn τ) ∧ (IMk τ) ∧ (IMo τ) ∧ (τ 269 0 = s0 269 0) ∧ (τ 269 1 = s0 269 1) ∧ (τ 269 2 = s0 269 2) ∧ (τ 269 3 = s0 269 3) ∧ (τ 269 34 = s0 269 34) ∧ (τ 269 37 = s0 269 37) ∧ True) ∧ (True)))) args s 0 0 (xA h0) := ⟨_, rfl⟩
  rw [← eQ]
  generalize hHe : ([] : List Loc) = locs at hW ⊢
  obtain ⟨H, eH⟩ : ∃ H, H = s.heap := ⟨_, rfl⟩
  rw [← eH] at hW ⊢
  have hF : xFr (fun k => k = 269 ∨ k = 270 ∨ k = 293 ∨ k = 294 ∨ k = 295 ∨ k = 305) s0 s0 := xFr.rf
  have k268_8 : s0 268 8 = s0 268 8 := rfl
  have k268_58 : s0 268 58 = s0 268 58 := rfl
  have k269_0 : s0 269 0 = s0 269 0 := rfl
  have k269_1 : s0 269 1 = s0 269 1 := rfl
  have k269_2 : s0 269 2 = s0 269 2 := rfl
  have k269_3 : s0 269 3 = s0 269 3 := rfl
  have k269_34 : s0 269 34 = s0 269 34 := rfl
  have k269_37 : s0 269 37 = s0 269 37 := rfl
  refine x_iconst hx hb dX11_laysDark_0 ?_
  refine lv_istore_n (lv' := [(2, .int (xJ 0)), (0, .ref (h0 + 268)), (1, .int (xJ n))]) hx hb dX11_laysDark_1 rfl hl (by decide) rfl (fun ls hl => ?_)
  have L2 : ∀ (fu : Nat) (i2_2 : Int) (s_2 : xS) (H : Heap) (locs : List Loc) (ls : Array Slot), (xR i2_2) → (xFr (fun k => k = 269 ∨ k = 270 ∨ k = 293 ∨ k = 294 ∨ k = 295 ∨ k = 305) s0 s_2) → (IMn s_2) → (IMk s_2) → (IMo s_2) → (s_2 268 8 = s0 268 8) → (s_2 268 58 = s0 268 58) → (s_2 269 0 = s0 269 0) → (s_2 269 1 = s0 269 1) → (s_2 269 2 = s0 269 2) → (s_2 269 3 = s0 269 3) → (s_2 269 34 = s0 269 34) → (s_2 269 37 = s0 269 37) → (0 ≤ i2_2) → (i2_2 ≤ 100) → (100 + 1 - i2_2).toNat < fu → xW D g h0 s H locs s_2 → lv_has ls 4 [(0, .ref (h0 + 268)), (1, .int (xJ n)), (2, .int (xJ i2_2))] → W p l e { frames := 5, cells := 0, slots := 0, locals := 114 } s m args below meth c H locs 0 0 Q (F0 m 2 ls []) := by
    intro fu
    induction fu with
    | zero => intro i2_2 s_2 H locs ls ri2_2 hF_2 q2_0 q2_1 q2_2 q2_3 q2_4 q2_5 q2_6 q2_7 q2_8 q2_9 q2_10 v2_0 v2_1 hm; exact absurd hm (Nat.not_lt_zero _)
    | succ fu ih2 =>
      intro i2_2 s_2 H locs ls ri2_2 hF_2 q2_0 q2_1 q2_2 q2_3 q2_4 q2_5 q2_6 q2_7 q2_8 q2_9 q2_10 v2_0 v2_1 hm hW hl
      have hm_2 := fun (_ : Unit) => hm
      clear hm
      refine x_iload_n hx hb hl 2 rfl dX11_laysDark_2 rfl ?_
      refine x_bipush hx hb dX11_laysDark_3 (by decide) ?_
      refine x_icmp_ge (tgt := 21) hx hb ri2_2 (by decide) dX11_laysDark_5 (by decide) (fun c1 => ?_) (fun c1 => ?_)
      · skip
        refine x_aload_n hx hb hl 0 rfl dX11_laysDark_21 rfl ?_
        refine x_get (j := 0) (v := .ref (h0 + 269)) hx hb hown hT hE hW cls_X11 (Or.inl (by decide)) (so_268 h0 g _) (by decide) rfl wq1185 dX11_laysDark_22 ?_
        refine x_aload_n hx hb hl 0 rfl dX11_laysDark_25 rfl ?_
        refine x_get (j := 1) (v := .ref (h0 + 270)) hx hb hown hT hE hW cls_X11 (Or.inl (by decide)) (so_268 h0 g _) (by decide) rfl wq1186 dX11_laysDark_26 ?_
        refine x_gov (x_runS (As := [.ref (h0 + 269), .ref (h0 + 270)]) hx hb hml hown hT hE hW hl.1 cf_X11_copies wq1647 wq1646 (c_X11_copiesMA l D g T h0 s_2 hW.2.1 q2_0 q2_1 q2_2) ⟨rfl, rfl, ⟨by decide, by decide⟩, ⟨by decide, by decide⟩⟩ rfl rfl (Nat.le_of_ble_eq_true rfl) dX11_laysDark_29) hW (fun s3 H locs hp4 hW => ?_)
        obtain ⟨fs3, hp4⟩ := hp4
        have hF5 := hF_2.call fs3 (fun k h => by omega)
        have q6 : s3 268 8 = s0 268 8 := (congrFun (fs3 _ (by omega)) _).trans q2_3
        have q7 : s3 268 58 = s0 268 58 := (congrFun (fs3 _ (by omega)) _).trans q2_4
        have q8 : s3 269 0 = s0 269 0 := (congrFun (fs3 _ (by omega)) _).trans q2_5
        have q9 : s3 269 1 = s0 269 1 := (congrFun (fs3 _ (by omega)) _).trans q2_6
        have q10 : s3 269 2 = s0 269 2 := (congrFun (fs3 _ (by omega)) _).trans q2_7
        have q11 : s3 269 3 = s0 269 3 := (congrFun (fs3 _ (by omega)) _).trans q2_8
        have q12 : s3 269 34 = s0 269 34 := (congrFun (fs3 _ (by omega)) _).trans q2_9
        have q13 : s3 269 37 = s0 269 37 := (congrFun (fs3 _ (by omega)) _).trans q2_10
        have ghp4 := hp4.2
        have q14 : s3 270 0 = s0 269 0 := (ghp4 0 (by decide) (by decide)).trans ((congrFun (fs3 269 (by first | decide | omega)) 0).symm.trans q8)
        have q15 : s3 270 1 = s0 269 1 := (ghp4 1 (by decide) (by decide)).trans ((congrFun (fs3 269 (by first | decide | omega)) 1).symm.trans q9)
        have q16 : s3 270 2 = s0 269 2 := (ghp4 2 (by decide) (by decide)).trans ((congrFun (fs3 269 (by first | decide | omega)) 2).symm.trans q10)
        have q17 : s3 270 3 = s0 269 3 := (ghp4 3 (by decide) (by decide)).trans ((congrFun (fs3 269 (by first | decide | omega)) 3).symm.trans q11)
        have q18 : s3 270 34 = s0 269 34 := (ghp4 34 (by decide) (by decide)).trans ((congrFun (fs3 269 (by first | decide | omega)) 34).symm.trans q12)
        have q19 : s3 270 37 = s0 269 37 := (ghp4 37 (by decide) (by decide)).trans ((congrFun (fs3 269 (by first | decide | omega)) 37).symm.trans q13)
        refine x_iconst hx hb dX11_laysDark_32 ?_
        refine lv_istore_n (lv' := [(2, .int (xJ 0)), (0, .ref (h0 + 268)), (1, .int (xJ n))]) hx hb dX11_laysDark_33 rfl hl (by decide) rfl (fun ls hl => ?_)
        have L34 : ∀ (fu : Nat) (i2_34 : Int) (s_34 : xS) (H : Heap) (locs : List Loc) (ls : Array Slot), (xR i2_34) → (xFr (fun k => k = 269 ∨ k = 270 ∨ k = 293 ∨ k = 294 ∨ k = 295 ∨ k = 305) s0 s_34) → (s_34 268 8 = s0 268 8) → (s_34 268 58 = s0 268 58) → (s_34 269 37 = s0 269 37) → (IMn s_34) → (IMk s_34) → (IMo s_34) → (s_34 270 0 = s0 269 0) → (s_34 270 1 = s0 269 1) → (s_34 270 2 = s0 269 2) → (s_34 270 3 = s0 269 3) → (s_34 270 34 = s0 269 34) → (s_34 270 37 = s0 269 37) → (0 ≤ i2_34) → (n + 1 - i2_34).toNat < fu → xW D g h0 s H locs s_34 → lv_has ls 4 [(0, .ref (h0 + 268)), (1, .int (xJ n)), (2, .int (xJ i2_34))] → W p l e { frames := 5, cells := 0, slots := 0, locals := 114 } s m args below meth c H locs 0 0 Q (F0 m 34 ls []) := by
          intro fu
          induction fu with
          | zero => intro i2_34 s_34 H locs ls ri2_34 hF_34 q34_0 q34_1 q34_7 q34_8 q34_9 q34_10 q34_11 q34_12 q34_13 q34_14 q34_15 q34_16 v34_0 hm; exact absurd hm (Nat.not_lt_zero _)
          | succ fu ih34 =>
            intro i2_34 s_34 H locs ls ri2_34 hF_34 q34_0 q34_1 q34_7 q34_8 q34_9 q34_10 q34_11 q34_12 q34_13 q34_14 q34_15 q34_16 v34_0 hm hW hl
            have hm_34 := fun (_ : Unit) => hm
            clear hm
            refine x_iload_n hx hb hl 2 rfl dX11_laysDark_34 rfl ?_
            refine x_iload_n hx hb hl 1 rfl dX11_laysDark_35 rfl ?_
            refine x_icmp_ge (tgt := 135) hx hb ri2_34 rn dX11_laysDark_36 (by decide) (fun c20 => ?_) (fun c20 => ?_)
            · skip
              refine x_aload_n hx hb hl 0 rfl dX11_laysDark_135 rfl ?_
              refine x_get (j := 1) (v := .ref (h0 + 270)) hx hb hown hT hE hW cls_X11 (Or.inl (by decide)) (so_268 h0 g _) (by decide) rfl wq1186 dX11_laysDark_136 ?_
              refine x_aload_n hx hb hl 0 rfl dX11_laysDark_139 rfl ?_
              refine x_get (j := 0) (v := .ref (h0 + 269)) hx hb hown hT hE hW cls_X11 (Or.inl (by decide)) (so_268 h0 g _) (by decide) rfl wq1185 dX11_laysDark_140 ?_
              refine x_gov (x_runS (As := [.ref (h0 + 270), .ref (h0 + 269)]) hx hb hml hown hT hE hW hl.1 cf_X11_copies wq1647 wq1646 (c_X11_copiesMB l D g T h0 s_34 hW.2.1 q34_8 q34_9 q34_10) ⟨rfl, rfl, ⟨by decide, by decide⟩, ⟨by decide, by decide⟩⟩ rfl rfl (Nat.le_of_ble_eq_true rfl) dX11_laysDark_143) hW (fun s22 H locs hp23 hW => ?_)
              obtain ⟨fs22, hp23⟩ := hp23
              have hF24 := hF_34.call fs22 (fun k h => by omega)
              have q25 : s22 268 8 = s0 268 8 := (congrFun (fs22 _ (by omega)) _).trans q34_0
              have q26 : s22 268 58 = s0 268 58 := (congrFun (fs22 _ (by omega)) _).trans q34_1
              have q27 : s22 270 0 = s0 269 0 := (congrFun (fs22 _ (by omega)) _).trans q34_11
              have q28 : s22 270 1 = s0 269 1 := (congrFun (fs22 _ (by omega)) _).trans q34_12
              have q29 : s22 270 2 = s0 269 2 := (congrFun (fs22 _ (by omega)) _).trans q34_13
              have q30 : s22 270 3 = s0 269 3 := (congrFun (fs22 _ (by omega)) _).trans q34_14
              have q31 : s22 270 34 = s0 269 34 := (congrFun (fs22 _ (by omega)) _).trans q34_15
              have q32 : s22 270 37 = s0 269 37 := (congrFun (fs22 _ (by omega)) _).trans q34_16
              have ghp23 := hp23.2
              have q33 : s22 269 0 = s0 269 0 := (ghp23 0 (by decide) (by decide)).trans ((congrFun (fs22 270 (by first | decide | omega)) 0).symm.trans q27)
              have q34 : s22 269 1 = s0 269 1 := (ghp23 1 (by decide) (by decide)).trans ((congrFun (fs22 270 (by first | decide | omega)) 1).symm.trans q28)
              have q35 : s22 269 2 = s0 269 2 := (ghp23 2 (by decide) (by decide)).trans ((congrFun (fs22 270 (by first | decide | omega)) 2).symm.trans q29)
              have q36 : s22 269 3 = s0 269 3 := (ghp23 3 (by decide) (by decide)).trans ((congrFun (fs22 270 (by first | decide | omega)) 3).symm.trans q30)
              have q37 : s22 269 34 = s0 269 34 := (ghp23 34 (by decide) (by decide)).trans ((congrFun (fs22 270 (by first | decide | omega)) 34).symm.trans q31)
              have q38 : s22 269 37 = s0 269 37 := (ghp23 37 (by decide) (by decide)).trans ((congrFun (fs22 270 (by first | decide | omega)) 37).symm.trans q32)
              rw [eQ]
              exact x_vret hx hb hr hlk hW ⟨hF24, ⟨hp23.1.1, hp23.1.2.1, hp23.1.2.2.1, q33, q34, q35, q36, q37, q38, trivial⟩, trivial⟩ dX11_laysDark_146
            refine x_aload_n hx hb hl 0 rfl dX11_laysDark_39 rfl ?_
            refine x_iconst hx hb dX11_laysDark_40 ?_
            refine x_gov (x_runV (As := [.int (xJ 0)]) hx hb hml hown hT hE hW hl.1 (Or.inl (by decide)) (so_268 h0 g _) rfl cf_X11_walksOn wq1547 wq132 wq1545 (c_X11_walksOn l D g T h0 s_34 hW.2.1 0 (by decide) (by omega) q34_8 q34_9 q34_10) ⟨rfl, rfl, ⟨by decide, by decide⟩, ⟨by decide, by decide⟩⟩ rfl rfl (Nat.le_of_ble_eq_true rfl) dX11_laysDark_41) hW (fun s40 H locs hp41 hW => ?_)
            obtain ⟨fs40, hp41⟩ := hp41
            have hF42 := hF_34.call fs40 (fun k h => by omega)
            have q43 : s40 268 8 = s0 268 8 := (congrFun (fs40 _ (by omega)) _).trans q34_0
            have q44 : s40 268 58 = s0 268 58 := (congrFun (fs40 _ (by omega)) _).trans q34_1
            have q45 : s40 270 0 = s0 269 0 := (congrFun (fs40 _ (by omega)) _).trans q34_11
            have q46 : s40 270 1 = s0 269 1 := (congrFun (fs40 _ (by omega)) _).trans q34_12
            have q47 : s40 270 2 = s0 269 2 := (congrFun (fs40 _ (by omega)) _).trans q34_13
            have q48 : s40 270 3 = s0 269 3 := (congrFun (fs40 _ (by omega)) _).trans q34_14
            have q49 : s40 270 34 = s0 269 34 := (congrFun (fs40 _ (by omega)) _).trans q34_15
            have q50 : s40 270 37 = s0 269 37 := (congrFun (fs40 _ (by omega)) _).trans q34_16
            have ghp41 := hp41.2
            refine x_aload_n hx hb hl 0 rfl dX11_laysDark_44 rfl ?_
            refine x_iconst hx hb dX11_laysDark_45 ?_
            refine x_gov (x_runV (As := [.int (xJ 1)]) hx hb hml hown hT hE hW hl.1 (Or.inl (by decide)) (so_268 h0 g _) rfl cf_X11_walksOn wq1547 wq132 wq1545 (c_X11_walksOn l D g T h0 s40 hW.2.1 1 (by decide) (by omega) hp41.1.1 hp41.1.2.1 hp41.1.2.2.1) ⟨rfl, rfl, ⟨by decide, by decide⟩, ⟨by decide, by decide⟩⟩ rfl rfl (Nat.le_of_ble_eq_true rfl) dX11_laysDark_46) hW (fun s52 H locs hp53 hW => ?_)
            obtain ⟨fs52, hp53⟩ := hp53
            have hF54 := hF42.call fs52 (fun k h => by omega)
            have q55 : s52 268 8 = s0 268 8 := (congrFun (fs52 _ (by omega)) _).trans q43
            have q56 : s52 268 58 = s0 268 58 := (congrFun (fs52 _ (by omega)) _).trans q44
            have q57 : s52 270 0 = s0 269 0 := (congrFun (fs52 _ (by omega)) _).trans q45
            have q58 : s52 270 1 = s0 269 1 := (congrFun (fs52 _ (by omega)) _).trans q46
            have q59 : s52 270 2 = s0 269 2 := (congrFun (fs52 _ (by omega)) _).trans q47
            have q60 : s52 270 3 = s0 269 3 := (congrFun (fs52 _ (by omega)) _).trans q48
            have q61 : s52 270 34 = s0 269 34 := (congrFun (fs52 _ (by omega)) _).trans q49
            have q62 : s52 270 37 = s0 269 37 := (congrFun (fs52 _ (by omega)) _).trans q50
            have ghp53 := hp53.2
            refine x_aload_n hx hb hl 0 rfl dX11_laysDark_49 rfl ?_
            refine x_gov (x_runV (As := []) hx hb hml hown hT hE hW hl.1 (Or.inl (by decide)) (so_268 h0 g _) rfl cf_X11_bares wq1592 wq140 wq1590 (c_X11_bares l D g T h0 s52 hW.2.1 hp53.1.1 hp53.1.2.1 hp53.1.2.2.1) ⟨rfl, rfl, ⟨by decide, by decide⟩, ⟨by decide, by decide⟩⟩ rfl rfl (Nat.le_of_ble_eq_true rfl) dX11_laysDark_50) hW (fun s64 H locs hp65 hW => ?_)
            obtain ⟨fs64, hp65⟩ := hp65
            have hF66 := hF54.call fs64 (fun k h => by omega)
            have q67 : s64 268 8 = s0 268 8 := (congrFun (fs64 _ (by omega)) _).trans q55
            have q68 : s64 268 58 = s0 268 58 := (congrFun (fs64 _ (by omega)) _).trans q56
            have q69 : s64 270 0 = s0 269 0 := (congrFun (fs64 _ (by omega)) _).trans q57
            have q70 : s64 270 1 = s0 269 1 := (congrFun (fs64 _ (by omega)) _).trans q58
            have q71 : s64 270 2 = s0 269 2 := (congrFun (fs64 _ (by omega)) _).trans q59
            have q72 : s64 270 3 = s0 269 3 := (congrFun (fs64 _ (by omega)) _).trans q60
            have q73 : s64 270 34 = s0 269 34 := (congrFun (fs64 _ (by omega)) _).trans q61
            have q74 : s64 270 37 = s0 269 37 := (congrFun (fs64 _ (by omega)) _).trans q62
            have q75 : s64 269 37 = s0 269 37 := (congrFun (fs64 _ (by omega)) _).trans (hp53.1.2.2.2.1.trans (hp41.1.2.2.2.1.trans q34_7))
            have ghp65 := hp65.2
            refine x_iconst hx hb dX11_laysDark_53 ?_
            refine lv_istore_n (lv' := [(3, .int (xJ 0)), (0, .ref (h0 + 268)), (1, .int (xJ n)), (2, .int (xJ i2_34))]) hx hb dX11_laysDark_54 rfl hl (by decide) rfl (fun ls hl => ?_)
            have L55 : ∀ (fu : Nat) (i3_55 : Int) (s_55 : xS) (H : Heap) (locs : List Loc) (ls : Array Slot), (xR i3_55) → (xFr (fun k => k = 269 ∨ k = 270 ∨ k = 293 ∨ k = 294 ∨ k = 295 ∨ k = 305) s0 s_55) → (s_55 268 8 = s0 268 8) → (s_55 268 58 = s0 268 58) → (s_55 270 0 = s0 269 0) → (s_55 270 1 = s0 269 1) → (s_55 270 2 = s0 269 2) → (s_55 270 3 = s0 269 3) → (s_55 270 34 = s0 269 34) → (s_55 270 37 = s0 269 37) → (s_55 269 37 = s0 269 37) → (IMn s_55) → (IMk s_55) → (IMo s_55) → (0 ≤ i3_55) → (i3_55 ≤ 2) → (2 + 1 - i3_55).toNat < fu → xW D g h0 s H locs s_55 → lv_has ls 4 [(0, .ref (h0 + 268)), (1, .int (xJ n)), (2, .int (xJ i2_34)), (3, .int (xJ i3_55))] → W p l e { frames := 5, cells := 0, slots := 0, locals := 114 } s m args below meth c H locs 0 0 Q (F0 m 55 ls []) := by
              intro fu
              induction fu with
              | zero => intro i3_55 s_55 H locs ls ri3_55 hF_55 q55_0 q55_1 q55_2 q55_3 q55_4 q55_5 q55_6 q55_7 q55_8 q55_9 q55_10 q55_11 v55_0 v55_1 hm; exact absurd hm (Nat.not_lt_zero _)
              | succ fu ih55 =>
                intro i3_55 s_55 H locs ls ri3_55 hF_55 q55_0 q55_1 q55_2 q55_3 q55_4 q55_5 q55_6 q55_7 q55_8 q55_9 q55_10 q55_11 v55_0 v55_1 hm hW hl
                have hm_55 := fun (_ : Unit) => hm
                clear hm
                refine x_iload_n hx hb hl 3 rfl dX11_laysDark_55 rfl ?_
                refine x_iconst hx hb dX11_laysDark_56 ?_
                refine x_icmp_ge (tgt := 88) hx hb ri3_55 (by decide) dX11_laysDark_57 (by decide) (fun c76 => ?_) (fun c76 => ?_)
                · skip
                  refine x_iconst hx hb dX11_laysDark_88 ?_
                  refine lv_istore_n (lv' := [(3, .int (xJ 0)), (0, .ref (h0 + 268)), (1, .int (xJ n)), (2, .int (xJ i2_34))]) hx hb dX11_laysDark_89 rfl hl (by decide) rfl (fun ls hl => ?_)
                  have L90 : ∀ (fu : Nat) (i3_90 : Int) (s_90 : xS) (H : Heap) (locs : List Loc) (ls : Array Slot), (xR i3_90) → (xFr (fun k => k = 269 ∨ k = 270 ∨ k = 293 ∨ k = 294 ∨ k = 295 ∨ k = 305) s0 s_90) → (s_90 268 8 = s0 268 8) → (s_90 268 58 = s0 268 58) → (s_90 270 0 = s0 269 0) → (s_90 270 1 = s0 269 1) → (s_90 270 2 = s0 269 2) → (s_90 270 3 = s0 269 3) → (s_90 270 34 = s0 269 34) → (s_90 270 37 = s0 269 37) → (s_90 269 37 = s0 269 37) → (IMn s_90) → (IMk s_90) → (IMo s_90) → (0 ≤ i3_90) → (i3_90 ≤ 100) → (100 + 1 - i3_90).toNat < fu → xW D g h0 s H locs s_90 → lv_has ls 4 [(0, .ref (h0 + 268)), (1, .int (xJ n)), (2, .int (xJ i2_34)), (3, .int (xJ i3_90))] → W p l e { frames := 5, cells := 0, slots := 0, locals := 114 } s m args below meth c H locs 0 0 Q (F0 m 90 ls []) := by
                    intro fu
                    induction fu with
                    | zero => intro i3_90 s_90 H locs ls ri3_90 hF_90 q90_0 q90_1 q90_2 q90_3 q90_4 q90_5 q90_6 q90_7 q90_8 q90_9 q90_10 q90_11 v90_0 v90_1 hm; exact absurd hm (Nat.not_lt_zero _)
                    | succ fu ih90 =>
                      intro i3_90 s_90 H locs ls ri3_90 hF_90 q90_0 q90_1 q90_2 q90_3 q90_4 q90_5 q90_6 q90_7 q90_8 q90_9 q90_10 q90_11 v90_0 v90_1 hm hW hl
                      have hm_90 := fun (_ : Unit) => hm
                      clear hm
                      refine x_iload_n hx hb hl 3 rfl dX11_laysDark_90 rfl ?_
                      refine x_bipush hx hb dX11_laysDark_91 (by decide) ?_
                      refine x_icmp_ge (tgt := 129) hx hb ri3_90 (by decide) dX11_laysDark_93 (by decide) (fun c77 => ?_) (fun c77 => ?_)
                      · skip
                        refine x_iinc (lv' := [(2, .int (xJ (i2_34 + 1))), (0, .ref (h0 + 268)), (1, .int (xJ n)), (3, .int (xJ i3_90))]) hx hb hl 2 rfl dX11_laysDark_129 (by decide) rfl (fun ls hl => ?_)
                        refine lv_goto (tgt := 34) hx hb dX11_laysDark_132 (by decide) ?_
                        exact ih34 (i2_34 + 1) s_90 H locs ls (by omega) hF_90 q90_0 q90_1 q90_8 q90_9 q90_10 q90_11 q90_2 q90_3 q90_4 q90_5 q90_6 q90_7 (by omega) (by have hm := hm_34 (); omega) hW (lv_sub hl [1, 2, 0] rfl)
                      refine x_aload_n hx hb hl 0 rfl dX11_laysDark_96 rfl ?_
                      refine x_get (j := 55) (v := .ref (h0 + 305)) hx hb hown hT hE hW cls_X11 (Or.inl (by decide)) (so_268 h0 g _) (by decide) rfl wq1240 dX11_laysDark_97 ?_
                      refine x_iload_n hx hb hl 3 rfl dX11_laysDark_100 rfl ?_
                      refine x_aload_n hx hb hl 0 rfl dX11_laysDark_101 rfl ?_
                      refine x_get (j := 55) (v := .ref (h0 + 305)) hx hb hown hT hE hW cls_X11 (Or.inl (by decide)) (so_268 h0 g _) (by decide) rfl wq1240 dX11_laysDark_102 ?_
                      refine x_iload_n hx hb hl 3 rfl dX11_laysDark_105 rfl ?_
                      refine x_iald hx hb hE hW (Or.inl (by decide)) (sa_305 h0 g _) (by omega) (by decide) dX11_laysDark_106 ?_
                      refine x_rd hW (fun x78 ex78 rx78 => ?_)
                      refine x_aload_n hx hb hl 0 rfl dX11_laysDark_107 rfl ?_
                      refine x_get (j := 40) (v := .ref (h0 + 295)) hx hb hown hT hE hW cls_X11 (Or.inl (by decide)) (so_268 h0 g _) (by decide) rfl wq1225 dX11_laysDark_108 ?_
                      refine x_iload_n hx hb hl 3 rfl dX11_laysDark_111 rfl ?_
                      refine x_iald hx hb hE hW (Or.inl (by decide)) (sa_295 h0 g _) (by omega) (by decide) dX11_laysDark_112 ?_
                      refine x_rd hW (fun x79 ex79 rx79 => ?_)
                      refine x_if_le (tgt := 120) hx hb rx79 dX11_laysDark_113 (by decide) (fun c80 => ?_) (fun c80 => ?_)
                      · skip
                        refine x_iconst hx hb dX11_laysDark_120 ?_
                        refine x_iadd hx hb dX11_laysDark_121 ?_
                        refine x_any (fun x81 rx81 => ?_)
                        refine x_iast hx hb hE hW (by decide) (fun σ => sa_305 h0 g σ) (by omega) (by decide) rx81 dX11_laysDark_122 (fun H locs s82 es82 hW => ?_)
                        have q83 : s82 268 8 = s0 268 8 := (show s82 268 8 = s_90 268 8 from by rw [es82, xU_k _ _ _ (by first | decide | omega)]).trans q90_0
                        have q84 : s82 268 58 = s0 268 58 := (show s82 268 58 = s_90 268 58 from by rw [es82, xU_k _ _ _ (by first | decide | omega)]).trans q90_1
                        have q85 : s82 270 0 = s0 269 0 := (show s82 270 0 = s_90 270 0 from by rw [es82, xU_k _ _ _ (by first | decide | omega)]).trans q90_2
                        have q86 : s82 270 1 = s0 269 1 := (show s82 270 1 = s_90 270 1 from by rw [es82, xU_k _ _ _ (by first | decide | omega)]).trans q90_3
                        have q87 : s82 270 2 = s0 269 2 := (show s82 270 2 = s_90 270 2 from by rw [es82, xU_k _ _ _ (by first | decide | omega)]).trans q90_4
                        have q88 : s82 270 3 = s0 269 3 := (show s82 270 3 = s_90 270 3 from by rw [es82, xU_k _ _ _ (by first | decide | omega)]).trans q90_5
                        have q89 : s82 270 34 = s0 269 34 := (show s82 270 34 = s_90 270 34 from by rw [es82, xU_k _ _ _ (by first | decide | omega)]).trans q90_6
                        have q90 : s82 270 37 = s0 269 37 := (show s82 270 37 = s_90 270 37 from by rw [es82, xU_k _ _ _ (by first | decide | omega)]).trans q90_7
                        have q91 : s82 269 37 = s0 269 37 := (show s82 269 37 = s_90 269 37 from by rw [es82, xU_k _ _ _ (by first | decide | omega)]).trans q90_8
                        have q92 : IMn s82 := by rw [es82]; exact IMn_o (by unfold suIMn; first | decide | omega) q90_9
                        have q93 : IMk s82 := by rw [es82]; exact IMk_o (by unfold suIMk; first | decide | omega) q90_10
                        have q94 : IMo s82 := by rw [es82]; exact IMo_o (by unfold suIMo; first | decide | omega) q90_11
                        have hF95 := hF_90.put es82 (by omega)
                        refine x_iinc (lv' := [(3, .int (xJ (i3_90 + 1))), (0, .ref (h0 + 268)), (1, .int (xJ n)), (2, .int (xJ i2_34))]) hx hb hl 3 rfl dX11_laysDark_123 (by decide) rfl (fun ls hl => ?_)
                        refine lv_goto (tgt := 90) hx hb dX11_laysDark_126 (by decide) ?_
                        exact ih90 (i3_90 + 1) s82 H locs ls (by omega) hF95 q83 q84 q85 q86 q87 q88 q89 q90 q91 q92 q93 q94 (by omega) (by omega) (by have hm := hm_90 (); omega) hW (lv_sub hl [1, 2, 3, 0] rfl)
                      refine x_iconst hx hb dX11_laysDark_116 ?_
                      refine lv_goto (tgt := 121) hx hb dX11_laysDark_117 (by decide) ?_
                      refine x_iadd hx hb dX11_laysDark_121 ?_
                      refine x_any (fun x96 rx96 => ?_)
                      refine x_iast hx hb hE hW (by decide) (fun σ => sa_305 h0 g σ) (by omega) (by decide) rx96 dX11_laysDark_122 (fun H locs s97 es97 hW => ?_)
                      have q98 : s97 268 8 = s0 268 8 := (show s97 268 8 = s_90 268 8 from by rw [es97, xU_k _ _ _ (by first | decide | omega)]).trans q90_0
                      have q99 : s97 268 58 = s0 268 58 := (show s97 268 58 = s_90 268 58 from by rw [es97, xU_k _ _ _ (by first | decide | omega)]).trans q90_1
                      have q100 : s97 270 0 = s0 269 0 := (show s97 270 0 = s_90 270 0 from by rw [es97, xU_k _ _ _ (by first | decide | omega)]).trans q90_2
                      have q101 : s97 270 1 = s0 269 1 := (show s97 270 1 = s_90 270 1 from by rw [es97, xU_k _ _ _ (by first | decide | omega)]).trans q90_3
                      have q102 : s97 270 2 = s0 269 2 := (show s97 270 2 = s_90 270 2 from by rw [es97, xU_k _ _ _ (by first | decide | omega)]).trans q90_4
                      have q103 : s97 270 3 = s0 269 3 := (show s97 270 3 = s_90 270 3 from by rw [es97, xU_k _ _ _ (by first | decide | omega)]).trans q90_5
                      have q104 : s97 270 34 = s0 269 34 := (show s97 270 34 = s_90 270 34 from by rw [es97, xU_k _ _ _ (by first | decide | omega)]).trans q90_6
                      have q105 : s97 270 37 = s0 269 37 := (show s97 270 37 = s_90 270 37 from by rw [es97, xU_k _ _ _ (by first | decide | omega)]).trans q90_7
                      have q106 : s97 269 37 = s0 269 37 := (show s97 269 37 = s_90 269 37 from by rw [es97, xU_k _ _ _ (by first | decide | omega)]).trans q90_8
                      have q107 : IMn s97 := by rw [es97]; exact IMn_o (by unfold suIMn; first | decide | omega) q90_9
                      have q108 : IMk s97 := by rw [es97]; exact IMk_o (by unfold suIMk; first | decide | omega) q90_10
                      have q109 : IMo s97 := by rw [es97]; exact IMo_o (by unfold suIMo; first | decide | omega) q90_11
                      have hF110 := hF_90.put es97 (by omega)
                      refine x_iinc (lv' := [(3, .int (xJ (i3_90 + 1))), (0, .ref (h0 + 268)), (1, .int (xJ n)), (2, .int (xJ i2_34))]) hx hb hl 3 rfl dX11_laysDark_123 (by decide) rfl (fun ls hl => ?_)
                      refine lv_goto (tgt := 90) hx hb dX11_laysDark_126 (by decide) ?_
                      exact ih90 (i3_90 + 1) s97 H locs ls (by omega) hF110 q98 q99 q100 q101 q102 q103 q104 q105 q106 q107 q108 q109 (by omega) (by omega) (by have hm := hm_90 (); omega) hW (lv_sub hl [1, 2, 3, 0] rfl)
                  exact L90 ((100 + 1 - 0 : Int).toNat + 1) 0 s_55 H locs ls (by decide) hF_55 q55_0 q55_1 q55_2 q55_3 q55_4 q55_5 q55_6 q55_7 q55_8 q55_9 q55_10 q55_11 (by omega) (by omega) (Nat.lt_succ_self _) hW (lv_sub hl [1, 2, 3, 0] rfl)
                refine x_aload_n hx hb hl 0 rfl dX11_laysDark_60 rfl ?_
                refine x_iload_n hx hb hl 3 rfl dX11_laysDark_61 rfl ?_
                refine x_goi (x_runV (As := [.int (xJ i3_55)]) hx hb hml hown hT hE hW hl.1 (Or.inl (by decide)) (so_268 h0 g _) rfl cf_X11_isJudge wq1409 wq109 wq1407 (c_X11_isJudge l D g T h0 s_55 hW.2.1 i3_55 ri3_55 q55_9 q55_10 q55_11) ⟨rfl, rfl, ⟨by decide, by decide⟩, ⟨by decide, by decide⟩⟩ rfl rfl (Nat.le_of_ble_eq_true rfl) dX11_laysDark_62) hW (fun x111 s112 H locs rx111 hp113 hW => ?_)
                obtain ⟨es112, hp113⟩ := hp113
                subst es112
                have ghp113 := hp113
                refine x_if_eq (tgt := 82) hx hb rx111 dX11_laysDark_65 (by decide) (fun c114 => ?_) (fun c114 => ?_)
                · skip
                  refine x_iinc (lv' := [(3, .int (xJ (i3_55 + 1))), (0, .ref (h0 + 268)), (1, .int (xJ n)), (2, .int (xJ i2_34))]) hx hb hl 3 rfl dX11_laysDark_82 (by decide) rfl (fun ls hl => ?_)
                  refine lv_goto (tgt := 55) hx hb dX11_laysDark_85 (by decide) ?_
                  exact ih55 (i3_55 + 1) s_55 H locs ls (by omega) hF_55 q55_0 q55_1 q55_2 q55_3 q55_4 q55_5 q55_6 q55_7 q55_8 q55_9 q55_10 q55_11 (by omega) (by omega) (by have hm := hm_55 (); omega) hW (lv_sub hl [1, 2, 3, 0] rfl)
                refine x_aload_n hx hb hl 0 rfl dX11_laysDark_68 rfl ?_
                refine x_iload_n hx hb hl 3 rfl dX11_laysDark_69 rfl ?_
                refine x_aload_n hx hb hl 0 rfl dX11_laysDark_70 rfl ?_
                refine x_get (j := 1) (v := .ref (h0 + 270)) hx hb hown hT hE hW cls_X11 (Or.inl (by decide)) (so_268 h0 g _) (by decide) rfl wq1186 dX11_laysDark_71 ?_
                refine x_bipush hx hb dX11_laysDark_74 (by decide) ?_
                refine x_iald hx hb hE hW (Or.inl (by decide)) (sa_270 h0 g _) ⟨by decide, by decide⟩ (by decide) dX11_laysDark_76 ?_
                refine x_rd hW (fun x115 ex115 rx115 => ?_)
                have bx115 : 0 ≤ x115 ∧ x115 ≤ 9999 := by rw [ex115]; exact (IMn.n2 q55_9).2.2.2.1
                have fx115 : x115 = s0 269 37 := ex115.trans q55_7
                refine x_iload_n hx hb hl 2 rfl dX11_laysDark_77 rfl ?_
                refine x_iadd hx hb dX11_laysDark_78 ?_
                refine x_gov (x_runV (As := [.int (xJ i3_55), .int (xJ (x115 + i2_34))]) hx hb hml hown hT hE hW hl.1 (Or.inl (by decide)) (so_268 h0 g _) rfl cf_X11_fallsOf wq1596 wq141 wq1594 (c_X11_fallsOf l D g T h0 s_55 hW.2.1 i3_55 ri3_55 (x115 + i2_34) (by omega) (by omega) q55_9 q55_10 q55_11) ⟨rfl, rfl, ⟨by decide, by decide⟩, ⟨by decide, by decide⟩⟩ rfl rfl (Nat.le_of_ble_eq_true rfl) dX11_laysDark_79) hW (fun s117 H locs hp118 hW => ?_)
                obtain ⟨fs117, hp118⟩ := hp118
                have hF119 := hF_55.call fs117 (fun k h => by omega)
                have q120 : s117 268 8 = s0 268 8 := (congrFun (fs117 _ (by omega)) _).trans q55_0
                have q121 : s117 268 58 = s0 268 58 := (congrFun (fs117 _ (by omega)) _).trans q55_1
                have q122 : s117 270 0 = s0 269 0 := (congrFun (fs117 _ (by omega)) _).trans q55_2
                have q123 : s117 270 1 = s0 269 1 := (congrFun (fs117 _ (by omega)) _).trans q55_3
                have q124 : s117 270 2 = s0 269 2 := (congrFun (fs117 _ (by omega)) _).trans q55_4
                have q125 : s117 270 3 = s0 269 3 := (congrFun (fs117 _ (by omega)) _).trans q55_5
                have q126 : s117 270 34 = s0 269 34 := (congrFun (fs117 _ (by omega)) _).trans q55_6
                have q127 : s117 270 37 = s0 269 37 := (congrFun (fs117 _ (by omega)) _).trans q55_7
                have q128 : s117 269 37 = s0 269 37 := (congrFun (fs117 _ (by omega)) _).trans q55_8
                have ghp118 := hp118.2
                refine x_iinc (lv' := [(3, .int (xJ (i3_55 + 1))), (0, .ref (h0 + 268)), (1, .int (xJ n)), (2, .int (xJ i2_34))]) hx hb hl 3 rfl dX11_laysDark_82 (by decide) rfl (fun ls hl => ?_)
                refine lv_goto (tgt := 55) hx hb dX11_laysDark_85 (by decide) ?_
                exact ih55 (i3_55 + 1) s117 H locs ls (by omega) hF119 q120 q121 q122 q123 q124 q125 q126 q127 q128 hp118.1.1 hp118.1.2.1 hp118.1.2.2.1 (by omega) (by omega) (by have hm := hm_55 (); omega) hW (lv_sub hl [1, 2, 3, 0] rfl)
            exact L55 ((2 + 1 - 0 : Int).toNat + 1) 0 s64 H locs ls (by decide) hF66 q67 q68 q69 q70 q71 q72 q73 q74 q75 hp65.1.1 hp65.1.2.1 hp65.1.2.2.1 (by omega) (by omega) (Nat.lt_succ_self _) hW (lv_sub hl [1, 2, 3, 0] rfl)
        exact L34 ((n + 1 - 0 : Int).toNat + 1) 0 s3 H locs ls (by decide) hF5 q6 q7 q13 hp4.1.1 hp4.1.2.1 hp4.1.2.2.1 q14 q15 q16 q17 q18 q19 (by omega) (Nat.lt_succ_self _) hW (lv_sub hl [1, 2, 0] rfl)
      refine x_aload_n hx hb hl 0 rfl dX11_laysDark_8 rfl ?_
      refine x_get (j := 55) (v := .ref (h0 + 305)) hx hb hown hT hE hW cls_X11 (Or.inl (by decide)) (so_268 h0 g _) (by decide) rfl wq1240 dX11_laysDark_9 ?_
      refine x_iload_n hx hb hl 2 rfl dX11_laysDark_12 rfl ?_
      refine x_iconst hx hb dX11_laysDark_13 ?_
      refine x_iast hx hb hE hW (by decide) (fun σ => sa_305 h0 g σ) (by omega) (by decide) (by decide) dX11_laysDark_14 (fun H locs s129 es129 hW => ?_)
      have q130 : IMn s129 := by rw [es129]; exact IMn_o (by unfold suIMn; first | decide | omega) q2_0
      have q131 : IMk s129 := by rw [es129]; exact IMk_o (by unfold suIMk; first | decide | omega) q2_1
      have q132 : IMo s129 := by rw [es129]; exact IMo_o (by unfold suIMo; first | decide | omega) q2_2
      have q133 : s129 268 8 = s0 268 8 := (show s129 268 8 = s_2 268 8 from by rw [es129, xU_k _ _ _ (by first | decide | omega)]).trans q2_3
      have q134 : s129 268 58 = s0 268 58 := (show s129 268 58 = s_2 268 58 from by rw [es129, xU_k _ _ _ (by first | decide | omega)]).trans q2_4
      have q135 : s129 269 0 = s0 269 0 := (show s129 269 0 = s_2 269 0 from by rw [es129, xU_k _ _ _ (by first | decide | omega)]).trans q2_5
      have q136 : s129 269 1 = s0 269 1 := (show s129 269 1 = s_2 269 1 from by rw [es129, xU_k _ _ _ (by first | decide | omega)]).trans q2_6
      have q137 : s129 269 2 = s0 269 2 := (show s129 269 2 = s_2 269 2 from by rw [es129, xU_k _ _ _ (by first | decide | omega)]).trans q2_7
      have q138 : s129 269 3 = s0 269 3 := (show s129 269 3 = s_2 269 3 from by rw [es129, xU_k _ _ _ (by first | decide | omega)]).trans q2_8
      have q139 : s129 269 34 = s0 269 34 := (show s129 269 34 = s_2 269 34 from by rw [es129, xU_k _ _ _ (by first | decide | omega)]).trans q2_9
      have q140 : s129 269 37 = s0 269 37 := (show s129 269 37 = s_2 269 37 from by rw [es129, xU_k _ _ _ (by first | decide | omega)]).trans q2_10
      have hF141 := hF_2.put es129 (by omega)
      refine x_iinc (lv' := [(2, .int (xJ (i2_2 + 1))), (0, .ref (h0 + 268)), (1, .int (xJ n))]) hx hb hl 2 rfl dX11_laysDark_15 (by decide) rfl (fun ls hl => ?_)
      refine lv_goto (tgt := 2) hx hb dX11_laysDark_18 (by decide) ?_
      exact ih2 (i2_2 + 1) s129 H locs ls (by omega) hF141 q130 q131 q132 q133 q134 q135 q136 q137 q138 q139 q140 (by omega) (by omega) (by have hm := hm_2 (); omega) hW (lv_sub hl [1, 2, 0] rfl)
  exact L2 ((100 + 1 - 0 : Int).toNat + 1) 0 s0 H locs ls (by decide) hF p0 p1 p2 k268_8 k268_58 k269_0 k269_1 k269_2 k269_3 k269_34 k269_37 (by omega) (by omega) (Nat.lt_succ_self _) hW (lv_sub hl [1, 2, 0] rfl)
set_option maxHeartbeats 4000000 in
set_option maxRecDepth 100000 in
theorem c_X11_darkT (l : Launch) (D : va_G) (g : xG) (T : Nat × Nat × Nat) (h0 : Nat) (s0 : xS) (hσ : xRR s0) (n : Int) (rn : xR n) (x : Int) (rx : xR x) (p0 : IMn s0) (p1 : IMk s0) (p2 : IMo s0) : Met l yX11_dark (xws yX11_dark cX11_dark 6 (some .int)) { frames := 6, cells := 0, slots := 0, locals := 137 } (xP [.ref (h0 + 268), .int (xJ n), .int (xJ x)] D g T h0 s0) (xQi D g h0 (fun r τ => xFr (fun k => k = 269 ∨ k = 270 ∨ k = 293 ∨ k = 294 ∨ k = 295 ∨ k = 305) s0 τ ∧ (((IMn τ) ∧ (IMk τ) ∧ (IMo τ) ∧ (τ 269 0 = s0 269 0) ∧ (τ 269 1 = s0 269 1) ∧ (τ 269 2 = s0 269 2) ∧ (τ 269 3 = s0 269 3) ∧ (τ 269 34 = s0 269 34) ∧ (τ 269 37 = s0 269 37) ∧ True) ∧ (True)))) 0 0 (xA h0) := by
  refine x_met hσ (by decide) (Nat.le_of_ble_eq_true rfl) ?_
  intro p e s m args below meth c hx hb hr hml hown hT hlk hnm hE hW ls hl
  have hl : lv_has ls 6 [(0, .ref (h0 + 268)), (1, .int (xJ n)), (2, .int (xJ x))] := hl
  obtain ⟨Q, eQ⟩ : ∃ Q, Q = MQ below (xQi D g h0 (fun r τ => xFr (fun k => k = 269 ∨ k = 270 ∨ k = 293 ∨ k = 294 ∨ k = 295 ∨ k = 305) s0 τ ∧ (((IMn τ) ∧ (IMk τ) ∧ (IMo τ) ∧ (τ 269 0 = s0 269 0) ∧ (τ 269 1 = s0 269 1) ∧ (τ 269 2 = s0 269 2) ∧ (τ 269 3 = s0 269 3) ∧ (τ 269 34 = s0 269 34) ∧ (τ 269 37 = s0 269 37) ∧ True) ∧ (True)))) args s 0 0 (xA h0) := ⟨_, rfl⟩
  rw [← eQ]
  generalize hHe : ([] : List Loc) = locs at hW ⊢
  obtain ⟨H, eH⟩ : ∃ H, H = s.heap := ⟨_, rfl⟩
  rw [← eH] at hW ⊢
  have hF : xFr (fun k => k = 269 ∨ k = 270 ∨ k = 293 ∨ k = 294 ∨ k = 295 ∨ k = 305) s0 s0 := xFr.rf
  have k268_8 : s0 268 8 = s0 268 8 := rfl
  have k268_58 : s0 268 58 = s0 268 58 := rfl
  have k269_0 : s0 269 0 = s0 269 0 := rfl
  have k269_1 : s0 269 1 = s0 269 1 := rfl
  have k269_2 : s0 269 2 = s0 269 2 := rfl
  have k269_3 : s0 269 3 = s0 269 3 := rfl
  have k269_34 : s0 269 34 = s0 269 34 := rfl
  have k269_37 : s0 269 37 = s0 269 37 := rfl
  refine x_iload_n hx hb hl 1 rfl dX11_dark_0 rfl ?_
  refine x_iconst hx hb dX11_dark_1 ?_
  refine x_bipush hx hb dX11_dark_2 (by decide) ?_
  refine x_goi (x_runS (As := [.int (xJ n), .int (xJ 1), .int (xJ 60)]) hx hb hml hown hT hE hW hl.1 cf_X11_in wq1383 wq1382 (c_X11_in l D g T h0 s0 hW.2.1 n rn 1 (by decide) 60 (by decide)) ⟨rfl, rfl, ⟨by decide, by decide⟩, ⟨by decide, by decide⟩⟩ rfl rfl (Nat.le_of_ble_eq_true rfl) dX11_dark_4) hW (fun x1 s2 H locs rx1 hp3 hW => ?_)
  obtain ⟨es2, hp3⟩ := hp3
  subst es2
  have ghp3 := hp3
  refine x_if_eq (tgt := 19) hx hb rx1 dX11_dark_7 (by decide) (fun c4 => ?_) (fun c4 => ?_)
  · skip
    refine x_iconst hx hb dX11_dark_19 ?_
    rw [eQ]
    exact x_iret hx hb hr hlk hW (by decide) ⟨hF, ⟨p0, p1, p2, k269_0, k269_1, k269_2, k269_3, k269_34, k269_37, trivial⟩, trivial⟩ dX11_dark_20
  refine x_iload_n hx hb hl 2 rfl dX11_dark_10 rfl ?_
  refine x_iconst hx hb dX11_dark_11 ?_
  refine x_iconst hx hb dX11_dark_12 ?_
  refine x_goi (x_runS (As := [.int (xJ x), .int (xJ 0), .int (xJ 2)]) hx hb hml hown hT hE hW hl.1 cf_X11_in wq1383 wq1382 (c_X11_in l D g T h0 s0 hW.2.1 x rx 0 (by decide) 2 (by decide)) ⟨rfl, rfl, ⟨by decide, by decide⟩, ⟨by decide, by decide⟩⟩ rfl rfl (Nat.le_of_ble_eq_true rfl) dX11_dark_13) hW (fun x5 s6 H locs rx5 hp7 hW => ?_)
  obtain ⟨es6, hp7⟩ := hp7
  subst es6
  have ghp7 := hp7
  refine x_if_ne (tgt := 21) hx hb rx5 dX11_dark_16 (by decide) (fun c8 => ?_) (fun c8 => ?_)
  · skip
    refine x_aload_n hx hb hl 0 rfl dX11_dark_21 rfl ?_
    refine x_iload_n hx hb hl 1 rfl dX11_dark_22 rfl ?_
    refine x_gov (x_runV (As := [.int (xJ n)]) hx hb hml hown hT hE hW hl.1 (Or.inl (by decide)) (so_268 h0 g _) rfl cf_X11_laysDark wq1724 wq160 wq1722 (c_X11_laysDarkT l D g T h0 s0 hW.2.1 n rn (by omega) p0 p1 p2) ⟨rfl, rfl, ⟨by decide, by decide⟩, ⟨by decide, by decide⟩⟩ rfl rfl (Nat.le_of_ble_eq_true rfl) dX11_dark_23) hW (fun s10 H locs hp11 hW => ?_)
    obtain ⟨fs10, hp11⟩ := hp11
    have hF12 := hF.call fs10 (fun k h => by omega)
    have q13 : s10 268 8 = s0 268 8 := (congrFun (fs10 _ (by omega)) _).trans k268_8
    have q14 : s10 268 58 = s0 268 58 := (congrFun (fs10 _ (by omega)) _).trans k268_58
    have ghp11 := hp11.2
    refine x_iconst hx hb dX11_dark_26 ?_
    refine lv_istore_n (lv' := [(3, .int (xJ 0)), (0, .ref (h0 + 268)), (1, .int (xJ n)), (2, .int (xJ x))]) hx hb dX11_dark_27 rfl hl (by decide) rfl (fun ls hl => ?_)
    refine x_bipush hx hb dX11_dark_28 (by decide) ?_
    refine lv_istore (lv' := [(4, .int (xJ (-2))), (3, .int (xJ 0)), (0, .ref (h0 + 268)), (1, .int (xJ n)), (2, .int (xJ x))]) hx hb dX11_dark_30 hl (by decide) rfl (fun ls hl => ?_)
    refine x_iconst hx hb dX11_dark_32 ?_
    refine lv_istore (lv' := [(5, .int (xJ 0)), (4, .int (xJ (-2))), (3, .int (xJ 0)), (0, .ref (h0 + 268)), (1, .int (xJ n)), (2, .int (xJ x))]) hx hb dX11_dark_33 hl (by decide) rfl (fun ls hl => ?_)
    have L35 : ∀ (fu : Nat) (i3_35 : Int) (i4_35 : Int) (i5_35 : Int) (ls : Array Slot), (xR i3_35) → (xR i4_35) → (xR i5_35) → (0 ≤ i5_35) → (i5_35 ≤ 100) → (0 ≤ i3_35 ∧ i3_35 ≤ i5_35) → (i4_35 = -2 ∨ (0 ≤ i4_35 ∧ i4_35 < 100)) → (100 + 1 - i5_35).toNat < fu → lv_has ls 6 [(0, .ref (h0 + 268)), (2, .int (xJ x)), (3, .int (xJ i3_35)), (4, .int (xJ i4_35)), (5, .int (xJ i5_35))] → W p l e { frames := 6, cells := 0, slots := 0, locals := 137 } s m args below meth c H locs 0 0 Q (F0 m 35 ls []) := by
      intro fu
      induction fu with
      | zero => intro i3_35 i4_35 i5_35 ls ri3_35 ri4_35 ri5_35 v35_0 v35_1 v35_2 v35_3 hm; exact absurd hm (Nat.not_lt_zero _)
      | succ fu ih35 =>
        intro i3_35 i4_35 i5_35 ls ri3_35 ri4_35 ri5_35 v35_0 v35_1 v35_2 v35_3 hm  hl
        have hm_35 := fun (_ : Unit) => hm
        clear hm
        refine x_iload hx hb hl 4 rfl dX11_dark_35 ?_
        refine x_bipush hx hb dX11_dark_37 (by decide) ?_
        refine x_icmp_ge (tgt := 108) hx hb ri5_35 (by decide) dX11_dark_39 (by decide) (fun c15 => ?_) (fun c15 => ?_)
        · skip
          refine x_iload_n hx hb hl 1 rfl dX11_dark_108 rfl ?_
          refine x_if_ne (tgt := 116) hx hb rx dX11_dark_109 (by decide) (fun c16 => ?_) (fun c16 => ?_)
          · skip
            refine x_iload_n hx hb hl 1 rfl dX11_dark_116 rfl ?_
            refine x_iconst hx hb dX11_dark_117 ?_
            refine x_icmp_ne (tgt := 126) hx hb rx (by decide) dX11_dark_118 (by decide) (fun c17 => ?_) (fun c17 => ?_)
            · skip
              refine x_iload hx hb hl 3 rfl dX11_dark_126 ?_
              refine x_bipush hx hb dX11_dark_128 (by decide) ?_
              refine x_icmp_ne (tgt := 137) hx hb ri4_35 (by decide) dX11_dark_130 (by decide) (fun c18 => ?_) (fun c18 => ?_)
              · skip
                refine x_aload_n hx hb hl 0 rfl dX11_dark_137 rfl ?_
                refine x_get (j := 55) (v := .ref (h0 + 305)) hx hb hown hT hE hW cls_X11 (Or.inl (by decide)) (so_268 h0 g _) (by decide) rfl wq1240 dX11_dark_138 ?_
                refine x_iload hx hb hl 3 rfl dX11_dark_141 ?_
                refine x_iald hx hb hE hW (Or.inl (by decide)) (sa_305 h0 g _) (by omega) (by decide) dX11_dark_143 ?_
                refine x_rd hW (fun x19 ex19 rx19 => ?_)
                rw [eQ]
                exact x_iret hx hb hr hlk hW rx19 ⟨hF12, ⟨hp11.1.1, hp11.1.2.1, hp11.1.2.2.1, (hp11.1.2.2.2.1.trans k269_0), (hp11.1.2.2.2.2.1.trans k269_1), (hp11.1.2.2.2.2.2.1.trans k269_2), (hp11.1.2.2.2.2.2.2.1.trans k269_3), (hp11.1.2.2.2.2.2.2.2.1.trans k269_34), (hp11.1.2.2.2.2.2.2.2.2.1.trans k269_37), trivial⟩, trivial⟩ dX11_dark_144
              refine x_iconst hx hb dX11_dark_133 ?_
              refine lv_goto (tgt := 144) hx hb dX11_dark_134 (by decide) ?_
              rw [eQ]
              exact x_iret hx hb hr hlk hW (by decide) ⟨hF12, ⟨hp11.1.1, hp11.1.2.1, hp11.1.2.2.1, (hp11.1.2.2.2.1.trans k269_0), (hp11.1.2.2.2.2.1.trans k269_1), (hp11.1.2.2.2.2.2.1.trans k269_2), (hp11.1.2.2.2.2.2.2.1.trans k269_3), (hp11.1.2.2.2.2.2.2.2.1.trans k269_34), (hp11.1.2.2.2.2.2.2.2.2.1.trans k269_37), trivial⟩, trivial⟩ dX11_dark_144
            refine x_iload hx hb hl 3 rfl dX11_dark_121 ?_
            refine lv_goto (tgt := 144) hx hb dX11_dark_123 (by decide) ?_
            rw [eQ]
            exact x_iret hx hb hr hlk hW ri4_35 ⟨hF12, ⟨hp11.1.1, hp11.1.2.1, hp11.1.2.2.1, (hp11.1.2.2.2.1.trans k269_0), (hp11.1.2.2.2.2.1.trans k269_1), (hp11.1.2.2.2.2.2.1.trans k269_2), (hp11.1.2.2.2.2.2.2.1.trans k269_3), (hp11.1.2.2.2.2.2.2.2.1.trans k269_34), (hp11.1.2.2.2.2.2.2.2.2.1.trans k269_37), trivial⟩, trivial⟩ dX11_dark_144
          refine x_iload_n hx hb hl 2 rfl dX11_dark_112 rfl ?_
          refine lv_goto (tgt := 144) hx hb dX11_dark_113 (by decide) ?_
          rw [eQ]
          exact x_iret hx hb hr hlk hW ri3_35 ⟨hF12, ⟨hp11.1.1, hp11.1.2.1, hp11.1.2.2.1, (hp11.1.2.2.2.1.trans k269_0), (hp11.1.2.2.2.2.1.trans k269_1), (hp11.1.2.2.2.2.2.1.trans k269_2), (hp11.1.2.2.2.2.2.2.1.trans k269_3), (hp11.1.2.2.2.2.2.2.2.1.trans k269_34), (hp11.1.2.2.2.2.2.2.2.2.1.trans k269_37), trivial⟩, trivial⟩ dX11_dark_144
        refine x_aload_n hx hb hl 0 rfl dX11_dark_42 rfl ?_
        refine x_get (j := 3) (v := .ref (h0 + 272)) hx hb hown hT hE hW cls_X11 (Or.inl (by decide)) (so_268 h0 g _) (by decide) rfl wq1188 dX11_dark_43 ?_
        refine x_iload hx hb hl 4 rfl dX11_dark_46 ?_
        refine x_iald hx hb hE hW (Or.inl (by decide)) (sa_272 h0 g _) (by omega) (by decide) dX11_dark_48 ?_
        refine x_rd hW (fun x20 ex20 rx20 => ?_)
        refine x_iconst hx hb dX11_dark_49 ?_
        refine x_icmp_ne (tgt := 56) hx hb rx20 (by decide) dX11_dark_50 (by decide) (fun c21 => ?_) (fun c21 => ?_)
        · skip
          refine x_iload_n hx hb hl 2 rfl dX11_dark_56 rfl ?_
          refine x_aload_n hx hb hl 0 rfl dX11_dark_57 rfl ?_
          refine x_get (j := 55) (v := .ref (h0 + 305)) hx hb hown hT hE hW cls_X11 (Or.inl (by decide)) (so_268 h0 g _) (by decide) rfl wq1240 dX11_dark_58 ?_
          refine x_iload hx hb hl 4 rfl dX11_dark_61 ?_
          refine x_iald hx hb hE hW (Or.inl (by decide)) (sa_305 h0 g _) (by omega) (by decide) dX11_dark_63 ?_
          refine x_rd hW (fun x22 ex22 rx22 => ?_)
          have J72 : ∀ (t0_72 : Int) (ls : Array Slot), (xR t0_72) → (0 ≤ t0_72 ∧ t0_72 ≤ 1) → lv_has ls 6 [(0, .ref (h0 + 268)), (2, .int (xJ x)), (4, .int (xJ i4_35)), (5, .int (xJ i5_35))] → W p l e { frames := 6, cells := 0, slots := 0, locals := 137 } s m args below meth c H locs 0 0 Q (F0 m 72 ls [.int (xJ t0_72), .int (xJ i3_35)]) := by
            intro t0_72 ls rt0_72 v72_0  hl
            refine x_iadd hx hb dX11_dark_72 ?_
            refine x_nm (fun x23 ex23 => ?_)
            refine lv_istore_n (lv' := [(3, .int (xJ x23)), (0, .ref (h0 + 268)), (2, .int (xJ x)), (4, .int (xJ i4_35)), (5, .int (xJ i5_35))]) hx hb dX11_dark_73 rfl hl (by decide) rfl (fun ls hl => ?_)
            refine x_iload hx hb hl 3 rfl dX11_dark_74 ?_
            refine x_bipush hx hb dX11_dark_76 (by decide) ?_
            refine x_icmp_eq (tgt := 98) hx hb ri4_35 (by decide) dX11_dark_78 (by decide) (fun c24 => ?_) (fun c24 => ?_)
            · skip
              refine x_iload hx hb hl 4 rfl dX11_dark_98 ?_
              refine lv_istore (lv' := [(4, .int (xJ i5_35)), (3, .int (xJ x23)), (0, .ref (h0 + 268)), (2, .int (xJ x)), (5, .int (xJ i5_35))]) hx hb dX11_dark_100 hl (by decide) rfl (fun ls hl => ?_)
              refine x_iinc (lv' := [(5, .int (xJ (i5_35 + 1))), (4, .int (xJ i5_35)), (3, .int (xJ x23)), (0, .ref (h0 + 268)), (2, .int (xJ x))]) hx hb hl 4 rfl dX11_dark_102 (by decide) rfl (fun ls hl => ?_)
              refine lv_goto (tgt := 35) hx hb dX11_dark_105 (by decide) ?_
              exact ih35 x23 i5_35 (i5_35 + 1) ls (by omega) ri5_35 (by omega) (by omega) (by omega) (by omega) (by omega) (by have hm := hm_35 (); omega)  (lv_sub hl [3, 4, 2, 1, 0] rfl)
            refine x_aload_n hx hb hl 1 rfl dX11_dark_81 rfl ?_
            refine x_get (j := 55) (v := .ref (h0 + 305)) hx hb hown hT hE hW cls_X11 (Or.inl (by decide)) (so_268 h0 g _) (by decide) rfl wq1240 dX11_dark_82 ?_
            refine x_iload hx hb hl 4 rfl dX11_dark_85 ?_
            refine x_iald hx hb hE hW (Or.inl (by decide)) (sa_305 h0 g _) (by omega) (by decide) dX11_dark_87 ?_
            refine x_rd hW (fun x25 ex25 rx25 => ?_)
            refine x_aload_n hx hb hl 1 rfl dX11_dark_88 rfl ?_
            refine x_get (j := 55) (v := .ref (h0 + 305)) hx hb hown hT hE hW cls_X11 (Or.inl (by decide)) (so_268 h0 g _) (by decide) rfl wq1240 dX11_dark_89 ?_
            refine x_iload hx hb hl 3 rfl dX11_dark_92 ?_
            refine x_iald hx hb hE hW (Or.inl (by decide)) (sa_305 h0 g _) (by omega) (by decide) dX11_dark_94 ?_
            refine x_rd hW (fun x26 ex26 rx26 => ?_)
            refine x_icmp_le (tgt := 102) hx hb rx25 rx26 dX11_dark_95 (by decide) (fun c27 => ?_) (fun c27 => ?_)
            · skip
              refine x_iinc (lv' := [(5, .int (xJ (i5_35 + 1))), (3, .int (xJ x23)), (0, .ref (h0 + 268)), (2, .int (xJ x)), (4, .int (xJ i4_35))]) hx hb hl 4 rfl dX11_dark_102 (by decide) rfl (fun ls hl => ?_)
              refine lv_goto (tgt := 35) hx hb dX11_dark_105 (by decide) ?_
              exact ih35 x23 i4_35 (i5_35 + 1) ls (by omega) ri4_35 (by omega) (by omega) (by omega) (by omega) (by omega) (by have hm := hm_35 (); omega)  (lv_sub hl [2, 3, 1, 4, 0] rfl)
            refine x_iload hx hb hl 4 rfl dX11_dark_98 ?_
            refine lv_istore (lv' := [(4, .int (xJ i5_35)), (3, .int (xJ x23)), (0, .ref (h0 + 268)), (2, .int (xJ x)), (5, .int (xJ i5_35))]) hx hb dX11_dark_100 hl (by decide) rfl (fun ls hl => ?_)
            refine x_iinc (lv' := [(5, .int (xJ (i5_35 + 1))), (4, .int (xJ i5_35)), (3, .int (xJ x23)), (0, .ref (h0 + 268)), (2, .int (xJ x))]) hx hb hl 4 rfl dX11_dark_102 (by decide) rfl (fun ls hl => ?_)
            refine lv_goto (tgt := 35) hx hb dX11_dark_105 (by decide) ?_
            exact ih35 x23 i5_35 (i5_35 + 1) ls (by omega) ri5_35 (by omega) (by omega) (by omega) (by omega) (by omega) (by have hm := hm_35 (); omega)  (lv_sub hl [3, 4, 2, 1, 0] rfl)
          refine x_if_ne (tgt := 71) hx hb rx22 dX11_dark_64 (by decide) (fun c28 => ?_) (fun c28 => ?_)
          · skip
            refine x_iconst hx hb dX11_dark_71 ?_
            exact J72 0 ls (by decide) (by omega)  (lv_sub hl [0, 1, 3, 4] rfl)
          refine x_iconst hx hb dX11_dark_67 ?_
          refine lv_goto (tgt := 72) hx hb dX11_dark_68 (by decide) ?_
          exact J72 1 ls (by decide) (by omega)  (lv_sub hl [0, 1, 3, 4] rfl)
        refine lv_goto (tgt := 102) hx hb dX11_dark_53 (by decide) ?_
        refine x_iinc (lv' := [(5, .int (xJ (i5_35 + 1))), (0, .ref (h0 + 268)), (2, .int (xJ x)), (3, .int (xJ i3_35)), (4, .int (xJ i4_35))]) hx hb hl 4 rfl dX11_dark_102 (by decide) rfl (fun ls hl => ?_)
        refine lv_goto (tgt := 35) hx hb dX11_dark_105 (by decide) ?_
        exact ih35 i3_35 i4_35 (i5_35 + 1) ls ri3_35 ri4_35 (by omega) (by omega) (by omega) (by omega) (by omega) (by have hm := hm_35 (); omega)  (lv_sub hl [1, 2, 3, 4, 0] rfl)
    exact L35 ((100 + 1 - 0 : Int).toNat + 1) 0 (-2) 0 ls (by decide) (by decide) (by decide) (by omega) (by omega) (by omega) (by omega) (Nat.lt_succ_self _)  (lv_sub hl [3, 5, 2, 1, 0] rfl)
  refine x_iconst hx hb dX11_dark_19 ?_
  rw [eQ]
  exact x_iret hx hb hr hlk hW (by decide) ⟨hF, ⟨p0, p1, p2, k269_0, k269_1, k269_2, k269_3, k269_34, k269_37, trivial⟩, trivial⟩ dX11_dark_20
set_option maxHeartbeats 4000000 in
set_option maxRecDepth 100000 in
theorem c_X11_servedByT (l : Launch) (D : va_G) (g : xG) (T : Nat × Nat × Nat) (h0 : Nat) (s0 : xS) (hσ : xRR s0) (n : Int) (rn : xR n) (x : Int) (rx : xR x) (p0 : IMn s0) (p1 : IMk s0) (p2 : IMo s0) : Met l yX11_servedBy (xws yX11_servedBy cX11_servedBy 3 (some .int)) { frames := 9, cells := 0, slots := 0, locals := 209 } (xP [.ref (h0 + 268), .int (xJ n), .int (xJ x)] D g T h0 s0) (xQi D g h0 (fun r τ => xFr (fun k => k = 268 ∨ k = 269 ∨ k = 270 ∨ k = 293 ∨ k = 294 ∨ k = 295 ∨ k = 296 ∨ k = 297 ∨ k = 298 ∨ k = 299) s0 τ ∧ (((IMn τ) ∧ (IMk τ) ∧ (IMo τ) ∧ (τ 268 8 = s0 268 8) ∧ (τ 268 58 = s0 268 58) ∧ (τ 269 0 = s0 269 0) ∧ (τ 269 1 = s0 269 1) ∧ (τ 269 2 = s0 269 2) ∧ (τ 269 3 = s0 269 3) ∧ (τ 269 34 = s0 269 34) ∧ (τ 269 37 = s0 269 37) ∧ True) ∧ (True)))) 0 0 (xA h0) := by
  refine x_met hσ (by decide) (Nat.le_of_ble_eq_true rfl) ?_
  intro p e s m args below meth c hx hb hr hml hown hT hlk hnm hE hW ls hl
  have hl : lv_has ls 3 [(0, .ref (h0 + 268)), (1, .int (xJ n)), (2, .int (xJ x))] := hl
  obtain ⟨Q, eQ⟩ : ∃ Q, Q = MQ below (xQi D g h0 (fun r τ => xFr (fun k => k = 268 ∨ k = 269 ∨ k = 270 ∨ k = 293 ∨ k = 294 ∨ k = 295 ∨ k = 296 ∨ k = 297 ∨ k = 298 ∨ k = 299) s0 τ ∧ (((IMn τ) ∧ (IMk τ) ∧ (IMo τ) ∧ (τ 268 8 = s0 268 8) ∧ (τ 268 58 = s0 268 58) ∧ (τ 269 0 = s0 269 0) ∧ (τ 269 1 = s0 269 1) ∧ (τ 269 2 = s0 269 2) ∧ (τ 269 3 = s0 269 3) ∧ (τ 269 34 = s0 269 34) ∧ (τ 269 37 = s0 269 37) ∧ True) ∧ (True)))) args s 0 0 (xA h0) := ⟨_, rfl⟩
  rw [← eQ]
  generalize hHe : ([] : List Loc) = locs at hW ⊢
  obtain ⟨H, eH⟩ : ∃ H, H = s.heap := ⟨_, rfl⟩
  rw [← eH] at hW ⊢
  have hF : xFr (fun k => k = 268 ∨ k = 269 ∨ k = 270 ∨ k = 293 ∨ k = 294 ∨ k = 295 ∨ k = 296 ∨ k = 297 ∨ k = 298 ∨ k = 299) s0 s0 := xFr.rf
  have k268_8 : s0 268 8 = s0 268 8 := rfl
  have k268_58 : s0 268 58 = s0 268 58 := rfl
  have k269_0 : s0 269 0 = s0 269 0 := rfl
  have k269_1 : s0 269 1 = s0 269 1 := rfl
  have k269_2 : s0 269 2 = s0 269 2 := rfl
  have k269_3 : s0 269 3 = s0 269 3 := rfl
  have k269_34 : s0 269 34 = s0 269 34 := rfl
  have k269_37 : s0 269 37 = s0 269 37 := rfl
  refine x_iload_n hx hb hl 1 rfl dX11_servedBy_0 rfl ?_
  refine x_iconst hx hb dX11_servedBy_1 ?_
  refine x_bipush hx hb dX11_servedBy_2 (by decide) ?_
  refine x_goi (x_runS (As := [.int (xJ n), .int (xJ 1), .int (xJ 60)]) hx hb hml hown hT hE hW hl.1 cf_X11_in wq1383 wq1382 (c_X11_in l D g T h0 s0 hW.2.1 n rn 1 (by decide) 60 (by decide)) ⟨rfl, rfl, ⟨by decide, by decide⟩, ⟨by decide, by decide⟩⟩ rfl rfl (Nat.le_of_ble_eq_true rfl) dX11_servedBy_4) hW (fun x1 s2 H locs rx1 hp3 hW => ?_)
  obtain ⟨es2, hp3⟩ := hp3
  subst es2
  have ghp3 := hp3
  refine x_if_eq (tgt := 19) hx hb rx1 dX11_servedBy_7 (by decide) (fun c4 => ?_) (fun c4 => ?_)
  · skip
    refine x_iconst hx hb dX11_servedBy_19 ?_
    rw [eQ]
    exact x_iret hx hb hr hlk hW (by decide) ⟨hF, ⟨p0, p1, p2, k268_8, k268_58, k269_0, k269_1, k269_2, k269_3, k269_34, k269_37, trivial⟩, trivial⟩ dX11_servedBy_20
  refine x_iload_n hx hb hl 2 rfl dX11_servedBy_10 rfl ?_
  refine x_iconst hx hb dX11_servedBy_11 ?_
  refine x_iconst hx hb dX11_servedBy_12 ?_
  refine x_goi (x_runS (As := [.int (xJ x), .int (xJ 0), .int (xJ 2)]) hx hb hml hown hT hE hW hl.1 cf_X11_in wq1383 wq1382 (c_X11_in l D g T h0 s0 hW.2.1 x rx 0 (by decide) 2 (by decide)) ⟨rfl, rfl, ⟨by decide, by decide⟩, ⟨by decide, by decide⟩⟩ rfl rfl (Nat.le_of_ble_eq_true rfl) dX11_servedBy_13) hW (fun x5 s6 H locs rx5 hp7 hW => ?_)
  obtain ⟨es6, hp7⟩ := hp7
  subst es6
  have ghp7 := hp7
  refine x_if_ne (tgt := 21) hx hb rx5 dX11_servedBy_16 (by decide) (fun c8 => ?_) (fun c8 => ?_)
  · skip
    refine x_iload_n hx hb hl 2 rfl dX11_servedBy_21 rfl ?_
    refine x_iconst hx hb dX11_servedBy_22 ?_
    have J50 : ∀ (H : Heap) (locs : List Loc) (ls : Array Slot), xW D g h0 s H locs s0 → lv_has ls 3 [(0, .ref (h0 + 268)), (1, .int (xJ n)), (2, .int (xJ x))] → W p l e { frames := 9, cells := 0, slots := 0, locals := 209 } s m args below meth c H locs 0 0 Q (F0 m 50 ls []) := by
      intro H locs ls  hW hl
      refine x_aload_n hx hb hl 0 rfl dX11_servedBy_50 rfl ?_
      refine x_get (j := 0) (v := .ref (h0 + 269)) hx hb hown hT hE hW cls_X11 (Or.inl (by decide)) (so_268 h0 g _) (by decide) rfl wq1185 dX11_servedBy_51 ?_
      refine x_aload_n hx hb hl 0 rfl dX11_servedBy_54 rfl ?_
      refine x_get (j := 1) (v := .ref (h0 + 270)) hx hb hown hT hE hW cls_X11 (Or.inl (by decide)) (so_268 h0 g _) (by decide) rfl wq1186 dX11_servedBy_55 ?_
      refine x_gov (x_runS (As := [.ref (h0 + 269), .ref (h0 + 270)]) hx hb hml hown hT hE hW hl.1 cf_X11_copies wq1647 wq1646 (c_X11_copiesMA l D g T h0 s0 hW.2.1 p0 p1 p2) ⟨rfl, rfl, ⟨by decide, by decide⟩, ⟨by decide, by decide⟩⟩ rfl rfl (Nat.le_of_ble_eq_true rfl) dX11_servedBy_58) hW (fun s10 H locs hp11 hW => ?_)
      obtain ⟨fs10, hp11⟩ := hp11
      have hF12 := hF.call fs10 (fun k h => by omega)
      have q13 : s10 268 8 = s0 268 8 := (congrFun (fs10 _ (by omega)) _).trans k268_8
      have q14 : s10 268 58 = s0 268 58 := (congrFun (fs10 _ (by omega)) _).trans k268_58
      have q15 : s10 269 0 = s0 269 0 := (congrFun (fs10 _ (by omega)) _).trans k269_0
      have q16 : s10 269 1 = s0 269 1 := (congrFun (fs10 _ (by omega)) _).trans k269_1
      have q17 : s10 269 2 = s0 269 2 := (congrFun (fs10 _ (by omega)) _).trans k269_2
      have q18 : s10 269 3 = s0 269 3 := (congrFun (fs10 _ (by omega)) _).trans k269_3
      have q19 : s10 269 34 = s0 269 34 := (congrFun (fs10 _ (by omega)) _).trans k269_34
      have q20 : s10 269 37 = s0 269 37 := (congrFun (fs10 _ (by omega)) _).trans k269_37
      have ghp11 := hp11.2
      have q21 : s10 270 0 = s0 269 0 := (ghp11 0 (by decide) (by decide)).trans ((congrFun (fs10 269 (by first | decide | omega)) 0).symm.trans q15)
      have q22 : s10 270 1 = s0 269 1 := (ghp11 1 (by decide) (by decide)).trans ((congrFun (fs10 269 (by first | decide | omega)) 1).symm.trans q16)
      have q23 : s10 270 2 = s0 269 2 := (ghp11 2 (by decide) (by decide)).trans ((congrFun (fs10 269 (by first | decide | omega)) 2).symm.trans q17)
      have q24 : s10 270 3 = s0 269 3 := (ghp11 3 (by decide) (by decide)).trans ((congrFun (fs10 269 (by first | decide | omega)) 3).symm.trans q18)
      have q25 : s10 270 34 = s0 269 34 := (ghp11 34 (by decide) (by decide)).trans ((congrFun (fs10 269 (by first | decide | omega)) 34).symm.trans q19)
      have q26 : s10 270 37 = s0 269 37 := (ghp11 37 (by decide) (by decide)).trans ((congrFun (fs10 269 (by first | decide | omega)) 37).symm.trans q20)
      refine x_iload_n hx hb hl 2 rfl dX11_servedBy_61 rfl ?_
      refine x_iconst hx hb dX11_servedBy_62 ?_
      have J76 : ∀ (s_76 : xS) (H : Heap) (locs : List Loc) (ls : Array Slot), (xFr (fun k => k = 268 ∨ k = 269 ∨ k = 270 ∨ k = 293 ∨ k = 294 ∨ k = 295 ∨ k = 296 ∨ k = 297 ∨ k = 298 ∨ k = 299) s0 s_76) → (s_76 268 8 = s0 268 8) → (s_76 268 58 = s0 268 58) → (s_76 269 0 = s0 269 0) → (s_76 269 1 = s0 269 1) → (s_76 269 2 = s0 269 2) → (s_76 269 3 = s0 269 3) → (s_76 269 37 = s0 269 37) → (IMn s_76) → (IMk s_76) → (IMo s_76) → (s_76 270 0 = s0 269 0) → (s_76 270 1 = s0 269 1) → (s_76 270 2 = s0 269 2) → (s_76 270 3 = s0 269 3) → (s_76 270 34 = s0 269 34) → (s_76 270 37 = s0 269 37) → xW D g h0 s H locs s_76 → lv_has ls 3 [(0, .ref (h0 + 268)), (1, .int (xJ n))] → W p l e { frames := 9, cells := 0, slots := 0, locals := 209 } s m args below meth c H locs 0 0 Q (F0 m 76 ls []) := by
        intro s_76 H locs ls hF_76 q76_0 q76_1 q76_2 q76_3 q76_4 q76_5 q76_7 q76_8 q76_9 q76_10 q76_11 q76_12 q76_13 q76_14 q76_15 q76_16 hW hl
        refine x_aload_n hx hb hl 0 rfl dX11_servedBy_76 rfl ?_
        refine x_iload_n hx hb hl 1 rfl dX11_servedBy_77 rfl ?_
        refine x_gov (x_runV (As := [.int (xJ n)]) hx hb hml hown hT hE hW hl.1 (Or.inl (by decide)) (so_268 h0 g _) rfl cf_X11_minutesGo wq1539 wq130 wq1537 (c_X11_minutesGo l D g T h0 s_76 hW.2.1 n rn q76_8 q76_9 q76_10) ⟨rfl, rfl, ⟨by decide, by decide⟩, ⟨by decide, by decide⟩⟩ rfl rfl (Nat.le_of_ble_eq_true rfl) dX11_servedBy_78) hW (fun s28 H locs hp29 hW => ?_)
        obtain ⟨fs28, hp29⟩ := hp29
        have hF30 := hF_76.call fs28 (fun k h => by omega)
        have q31 : s28 270 0 = s0 269 0 := (congrFun (fs28 _ (by omega)) _).trans q76_11
        have q32 : s28 270 1 = s0 269 1 := (congrFun (fs28 _ (by omega)) _).trans q76_12
        have q33 : s28 270 2 = s0 269 2 := (congrFun (fs28 _ (by omega)) _).trans q76_13
        have q34 : s28 270 3 = s0 269 3 := (congrFun (fs28 _ (by omega)) _).trans q76_14
        have q35 : s28 270 34 = s0 269 34 := (congrFun (fs28 _ (by omega)) _).trans q76_15
        have q36 : s28 270 37 = s0 269 37 := (congrFun (fs28 _ (by omega)) _).trans q76_16
        have ghp29 := hp29.2
        refine x_aload_n hx hb hl 0 rfl dX11_servedBy_81 rfl ?_
        refine x_get (j := 1) (v := .ref (h0 + 270)) hx hb hown hT hE hW cls_X11 (Or.inl (by decide)) (so_268 h0 g _) (by decide) rfl wq1186 dX11_servedBy_82 ?_
        refine x_aload_n hx hb hl 0 rfl dX11_servedBy_85 rfl ?_
        refine x_get (j := 0) (v := .ref (h0 + 269)) hx hb hown hT hE hW cls_X11 (Or.inl (by decide)) (so_268 h0 g _) (by decide) rfl wq1185 dX11_servedBy_86 ?_
        refine x_gov (x_runS (As := [.ref (h0 + 270), .ref (h0 + 269)]) hx hb hml hown hT hE hW hl.1 cf_X11_copies wq1647 wq1646 (c_X11_copiesMB l D g T h0 s28 hW.2.1 hp29.1.1 hp29.1.2.1 hp29.1.2.2.1) ⟨rfl, rfl, ⟨by decide, by decide⟩, ⟨by decide, by decide⟩⟩ rfl rfl (Nat.le_of_ble_eq_true rfl) dX11_servedBy_89) hW (fun s38 H locs hp39 hW => ?_)
        obtain ⟨fs38, hp39⟩ := hp39
        have hF40 := hF30.call fs38 (fun k h => by omega)
        have q41 : s38 270 0 = s0 269 0 := (congrFun (fs38 _ (by omega)) _).trans q31
        have q42 : s38 270 1 = s0 269 1 := (congrFun (fs38 _ (by omega)) _).trans q32
        have q43 : s38 270 2 = s0 269 2 := (congrFun (fs38 _ (by omega)) _).trans q33
        have q44 : s38 270 3 = s0 269 3 := (congrFun (fs38 _ (by omega)) _).trans q34
        have q45 : s38 270 34 = s0 269 34 := (congrFun (fs38 _ (by omega)) _).trans q35
        have q46 : s38 270 37 = s0 269 37 := (congrFun (fs38 _ (by omega)) _).trans q36
        have q47 : s38 268 8 = s0 268 8 := (congrFun (fs38 _ (by omega)) _).trans (hp29.1.2.2.2.1.trans q76_0)
        have q48 : s38 268 58 = s0 268 58 := (congrFun (fs38 _ (by omega)) _).trans (hp29.1.2.2.2.2.1.trans q76_1)
        have ghp39 := hp39.2
        have q49 : s38 269 0 = s0 269 0 := (ghp39 0 (by decide) (by decide)).trans ((congrFun (fs38 270 (by first | decide | omega)) 0).symm.trans q41)
        have q50 : s38 269 1 = s0 269 1 := (ghp39 1 (by decide) (by decide)).trans ((congrFun (fs38 270 (by first | decide | omega)) 1).symm.trans q42)
        have q51 : s38 269 2 = s0 269 2 := (ghp39 2 (by decide) (by decide)).trans ((congrFun (fs38 270 (by first | decide | omega)) 2).symm.trans q43)
        have q52 : s38 269 3 = s0 269 3 := (ghp39 3 (by decide) (by decide)).trans ((congrFun (fs38 270 (by first | decide | omega)) 3).symm.trans q44)
        have q53 : s38 269 34 = s0 269 34 := (ghp39 34 (by decide) (by decide)).trans ((congrFun (fs38 270 (by first | decide | omega)) 34).symm.trans q45)
        have q54 : s38 269 37 = s0 269 37 := (ghp39 37 (by decide) (by decide)).trans ((congrFun (fs38 270 (by first | decide | omega)) 37).symm.trans q46)
        refine x_aload_n hx hb hl 0 rfl dX11_servedBy_92 rfl ?_
        refine x_get (j := 41) (v := .int (xJ (s38 268 41))) hx hb hown hT hE hW cls_X11 (Or.inl (by decide)) (so_268 h0 g _) (by decide) rfl wq1226 dX11_servedBy_93 ?_
        refine x_rd hW (fun x55 ex55 rx55 => ?_)
        rw [eQ]
        exact x_iret hx hb hr hlk hW rx55 ⟨hF40, ⟨hp39.1.1, hp39.1.2.1, hp39.1.2.2.1, q47, q48, q49, q50, q51, q52, q53, q54, trivial⟩, trivial⟩ dX11_servedBy_96
      refine x_icmp_ge (tgt := 76) hx hb rx (by decide) dX11_servedBy_63 (by decide) (fun c56 => ?_) (fun c56 => ?_)
      · skip
        exact J76 s10 H locs ls hF12 q13 q14 q15 q16 q17 q18 q20 hp11.1.1 hp11.1.2.1 hp11.1.2.2.1 q21 q22 q23 q24 q25 q26 hW (lv_sub hl [0, 1] rfl)
      refine x_aload_n hx hb hl 0 rfl dX11_servedBy_66 rfl ?_
      refine x_get (j := 0) (v := .ref (h0 + 269)) hx hb hown hT hE hW cls_X11 (Or.inl (by decide)) (so_268 h0 g _) (by decide) rfl wq1185 dX11_servedBy_67 ?_
      refine x_bipush hx hb dX11_servedBy_70 (by decide) ?_
      refine x_iconst hx hb dX11_servedBy_72 ?_
      refine x_iload_n hx hb hl 2 rfl dX11_servedBy_73 rfl ?_
      refine lv_ishl hx hb dX11_servedBy_74 ?_
      refine x_any (fun x57 rx57 => ?_)
      refine x_iast hx hb hE hW (by decide) (fun σ => sa_269 h0 g σ) ⟨by decide, by decide⟩ (by decide) rx57 dX11_servedBy_75 (fun H locs s58 es58 hW => ?_)
      have q59 : s58 268 8 = s0 268 8 := (show s58 268 8 = s10 268 8 from by rw [es58, xU_k _ _ _ (by first | decide | omega)]).trans q13
      have q60 : s58 268 58 = s0 268 58 := (show s58 268 58 = s10 268 58 from by rw [es58, xU_k _ _ _ (by first | decide | omega)]).trans q14
      have q61 : s58 269 0 = s0 269 0 := (show s58 269 0 = s10 269 0 from by rw [es58, xU_j _ _ (by decide)]).trans q15
      have q62 : s58 269 1 = s0 269 1 := (show s58 269 1 = s10 269 1 from by rw [es58, xU_j _ _ (by decide)]).trans q16
      have q63 : s58 269 2 = s0 269 2 := (show s58 269 2 = s10 269 2 from by rw [es58, xU_j _ _ (by decide)]).trans q17
      have q64 : s58 269 3 = s0 269 3 := (show s58 269 3 = s10 269 3 from by rw [es58, xU_j _ _ (by decide)]).trans q18
      have q65 : s58 269 34 = x57 := by rw [es58, xU_s]
      have q66 : s58 269 37 = s0 269 37 := (show s58 269 37 = s10 269 37 from by rw [es58, xU_j _ _ (by decide)]).trans q20
      have q67 : IMn s58 := by rw [es58]; exact IMn_N269 hp11.1.1 (by omega)
      have q68 : IMk s58 := by rw [es58]; exact IMk_o (by unfold suIMk; first | decide | omega) hp11.1.2.1
      have q69 : IMo s58 := by rw [es58]; exact IMo_o (by unfold suIMo; first | decide | omega) hp11.1.2.2.1
      have q70 : s58 270 0 = s0 269 0 := (show s58 270 0 = s10 270 0 from by rw [es58, xU_k _ _ _ (by first | decide | omega)]).trans q21
      have q71 : s58 270 1 = s0 269 1 := (show s58 270 1 = s10 270 1 from by rw [es58, xU_k _ _ _ (by first | decide | omega)]).trans q22
      have q72 : s58 270 2 = s0 269 2 := (show s58 270 2 = s10 270 2 from by rw [es58, xU_k _ _ _ (by first | decide | omega)]).trans q23
      have q73 : s58 270 3 = s0 269 3 := (show s58 270 3 = s10 270 3 from by rw [es58, xU_k _ _ _ (by first | decide | omega)]).trans q24
      have q74 : s58 270 34 = s0 269 34 := (show s58 270 34 = s10 270 34 from by rw [es58, xU_k _ _ _ (by first | decide | omega)]).trans q25
      have q75 : s58 270 37 = s0 269 37 := (show s58 270 37 = s10 270 37 from by rw [es58, xU_k _ _ _ (by first | decide | omega)]).trans q26
      have hF76 := hF12.put es58 (by omega)
      exact J76 s58 H locs ls hF76 q59 q60 q61 q62 q63 q64 q66 q67 q68 q69 q70 q71 q72 q73 q74 q75 hW (lv_sub hl [0, 1] rfl)
    refine x_icmp_ne (tgt := 40) hx hb rx (by decide) dX11_servedBy_23 (by decide) (fun c77 => ?_) (fun c77 => ?_)
    · skip
      refine x_aload_n hx hb hl 0 rfl dX11_servedBy_40 rfl ?_
      refine x_iload_n hx hb hl 2 rfl dX11_servedBy_41 rfl ?_
      refine x_goi (x_runV (As := [.int (xJ x)]) hx hb hml hown hT hE hW hl.1 (Or.inl (by decide)) (so_268 h0 g _) rfl cf_X11_isJudge wq1409 wq109 wq1407 (c_X11_isJudge l D g T h0 s0 hW.2.1 x rx p0 p1 p2) ⟨rfl, rfl, ⟨by decide, by decide⟩, ⟨by decide, by decide⟩⟩ rfl rfl (Nat.le_of_ble_eq_true rfl) dX11_servedBy_42) hW (fun x78 s79 H locs rx78 hp80 hW => ?_)
      obtain ⟨es79, hp80⟩ := hp80
      subst es79
      have ghp80 := hp80
      refine x_if_ne (tgt := 50) hx hb rx78 dX11_servedBy_45 (by decide) (fun c81 => ?_) (fun c81 => ?_)
      · skip
        exact J50 H locs ls  hW (lv_sub hl [0, 1, 2] rfl)
      refine x_iconst hx hb dX11_servedBy_48 ?_
      rw [eQ]
      exact x_iret hx hb hr hlk hW (by decide) ⟨hF, ⟨p0, p1, p2, k268_8, k268_58, k269_0, k269_1, k269_2, k269_3, k269_34, k269_37, trivial⟩, trivial⟩ dX11_servedBy_49
    refine x_aload_n hx hb hl 0 rfl dX11_servedBy_26 rfl ?_
    refine x_get (j := 0) (v := .ref (h0 + 269)) hx hb hown hT hE hW cls_X11 (Or.inl (by decide)) (so_268 h0 g _) (by decide) rfl wq1185 dX11_servedBy_27 ?_
    refine x_bipush hx hb dX11_servedBy_30 (by decide) ?_
    refine x_iald hx hb hE hW (Or.inl (by decide)) (sa_269 h0 g _) ⟨by decide, by decide⟩ (by decide) dX11_servedBy_32 ?_
    refine x_rd hW (fun x82 ex82 rx82 => ?_)
    have fx82 : x82 = s0 269 34 := ex82.trans k269_34
    refine x_iconst hx hb dX11_servedBy_33 ?_
    refine x_icmp_eq (tgt := 50) hx hb rx82 (by decide) dX11_servedBy_34 (by decide) (fun c83 => ?_) (fun c83 => ?_)
    · skip
      exact J50 H locs ls  hW (lv_sub hl [0, 1, 2] rfl)
    refine lv_goto (tgt := 48) hx hb dX11_servedBy_37 (by decide) ?_
    refine x_iconst hx hb dX11_servedBy_48 ?_
    rw [eQ]
    exact x_iret hx hb hr hlk hW (by decide) ⟨hF, ⟨p0, p1, p2, k268_8, k268_58, k269_0, k269_1, k269_2, k269_3, k269_34, k269_37, trivial⟩, trivial⟩ dX11_servedBy_49
  refine x_iconst hx hb dX11_servedBy_19 ?_
  rw [eQ]
  exact x_iret hx hb hr hlk hW (by decide) ⟨hF, ⟨p0, p1, p2, k268_8, k268_58, k269_0, k269_1, k269_2, k269_3, k269_34, k269_37, trivial⟩, trivial⟩ dX11_servedBy_20
set_option maxHeartbeats 4000000 in
set_option maxRecDepth 100000 in
theorem c_X11_seedJ (l : Launch) (D : va_G) (g : xG) (T : Nat × Nat × Nat) (h0 : Nat) (s0 : xS) (hσ : xRR s0) (x : Int) (rx : xR x) (p0 : IMn s0) (p1 : IMk s0) (p2 : IMo s0) : Met l yX11_seed (xws yX11_seed cX11_seed 2 (some .boolean)) { frames := 1, cells := 0, slots := 0, locals := 22 } (xP [.ref (h0 + 268), .int (xJ x)] D g T h0 s0) (xQi D g h0 (fun r τ => xFr (fun k => k = 269) s0 τ ∧ (((IMn τ) ∧ (IMk τ) ∧ (IMo τ) ∧ (τ 269 0 = s0 269 0) ∧ (τ 269 1 = s0 269 1) ∧ (τ 269 2 = s0 269 2) ∧ (τ 269 3 = s0 269 3) ∧ (τ 269 34 = s0 269 34) ∧ (τ 269 37 = s0 269 37) ∧ True) ∧ ((r = 1 ∧ 0 ≤ x ∧ x ≤ 65535) ∨ (r = 0 ∧ (x < 0 ∨ 65535 < x)))))) 0 0 (xA h0) := by
  refine x_met hσ (by decide) (Nat.le_of_ble_eq_true rfl) ?_
  intro p e s m args below meth c hx hb hr hml hown hT hlk hnm hE hW ls hl
  have hl : lv_has ls 2 [(0, .ref (h0 + 268)), (1, .int (xJ x))] := hl
  obtain ⟨Q, eQ⟩ : ∃ Q, Q = MQ below (xQi D g h0 (fun r τ => xFr (fun k => k = 269) s0 τ ∧ (((IMn τ) ∧ (IMk τ) ∧ (IMo τ) ∧ (τ 269 0 = s0 269 0) ∧ (τ 269 1 = s0 269 1) ∧ (τ 269 2 = s0 269 2) ∧ (τ 269 3 = s0 269 3) ∧ (τ 269 34 = s0 269 34) ∧ (τ 269 37 = s0 269 37) ∧ True) ∧ ((r = 1 ∧ 0 ≤ x ∧ x ≤ 65535) ∨ (r = 0 ∧ (x < 0 ∨ 65535 < x)))))) args s 0 0 (xA h0) := ⟨_, rfl⟩
  rw [← eQ]
  generalize hHe : ([] : List Loc) = locs at hW ⊢
  obtain ⟨H, eH⟩ : ∃ H, H = s.heap := ⟨_, rfl⟩
  rw [← eH] at hW ⊢
  have hF : xFr (fun k => k = 269) s0 s0 := xFr.rf
  have k268_8 : s0 268 8 = s0 268 8 := rfl
  have k268_58 : s0 268 58 = s0 268 58 := rfl
  have k269_0 : s0 269 0 = s0 269 0 := rfl
  have k269_1 : s0 269 1 = s0 269 1 := rfl
  have k269_2 : s0 269 2 = s0 269 2 := rfl
  have k269_3 : s0 269 3 = s0 269 3 := rfl
  have k269_34 : s0 269 34 = s0 269 34 := rfl
  have k269_37 : s0 269 37 = s0 269 37 := rfl
  refine x_iload_n hx hb hl 1 rfl dX11_seed_0 rfl ?_
  refine x_iconst hx hb dX11_seed_1 ?_
  refine lv_ldcw (v := xJ 65535) hx hb hown (hT _ wq1758) dX11_seed_2 ?_
  refine x_goi (x_runS (As := [.int (xJ x), .int (xJ 0), .int (xJ 65535)]) hx hb hml hown hT hE hW hl.1 cf_X11_in wq1383 wq1382 (c_X11_in l D g T h0 s0 hW.2.1 x rx 0 (by decide) 65535 (by decide)) ⟨rfl, rfl, ⟨by decide, by decide⟩, ⟨by decide, by decide⟩⟩ rfl rfl (Nat.le_of_ble_eq_true rfl) dX11_seed_5) hW (fun x1 s2 H locs rx1 hp3 hW => ?_)
  obtain ⟨es2, hp3⟩ := hp3
  subst es2
  have ghp3 := hp3
  refine x_if_ne (tgt := 13) hx hb rx1 dX11_seed_8 (by decide) (fun c4 => ?_) (fun c4 => ?_)
  · skip
    refine x_aload_n hx hb hl 0 rfl dX11_seed_13 rfl ?_
    refine x_get (j := 0) (v := .ref (h0 + 269)) hx hb hown hT hE hW cls_X11 (Or.inl (by decide)) (so_268 h0 g _) (by decide) rfl wq1185 dX11_seed_14 ?_
    refine x_bipush hx hb dX11_seed_17 (by decide) ?_
    refine x_iload_n hx hb hl 1 rfl dX11_seed_19 rfl ?_
    refine x_iast hx hb hE hW (by decide) (fun σ => sa_269 h0 g σ) ⟨by decide, by decide⟩ (by decide) rx dX11_seed_20 (fun H locs s5 es5 hW => ?_)
    have q6 : IMn s5 := by rw [es5]; exact IMn_N269 p0 (by omega)
    have q7 : IMk s5 := by rw [es5]; exact IMk_o (by unfold suIMk; first | decide | omega) p1
    have q8 : IMo s5 := by rw [es5]; exact IMo_o (by unfold suIMo; first | decide | omega) p2
    have q9 : s5 268 8 = s0 268 8 := (show s5 268 8 = s0 268 8 from by rw [es5, xU_k _ _ _ (by first | decide | omega)]).trans k268_8
    have q10 : s5 268 58 = s0 268 58 := (show s5 268 58 = s0 268 58 from by rw [es5, xU_k _ _ _ (by first | decide | omega)]).trans k268_58
    have q11 : s5 269 0 = s0 269 0 := (show s5 269 0 = s0 269 0 from by rw [es5, xU_j _ _ (by decide)]).trans k269_0
    have q12 : s5 269 1 = s0 269 1 := (show s5 269 1 = s0 269 1 from by rw [es5, xU_j _ _ (by decide)]).trans k269_1
    have q13 : s5 269 2 = s0 269 2 := (show s5 269 2 = s0 269 2 from by rw [es5, xU_j _ _ (by decide)]).trans k269_2
    have q14 : s5 269 3 = s0 269 3 := (show s5 269 3 = s0 269 3 from by rw [es5, xU_j _ _ (by decide)]).trans k269_3
    have q15 : s5 269 34 = s0 269 34 := (show s5 269 34 = s0 269 34 from by rw [es5, xU_j _ _ (by decide)]).trans k269_34
    have q16 : s5 269 37 = s0 269 37 := (show s5 269 37 = s0 269 37 from by rw [es5, xU_j _ _ (by decide)]).trans k269_37
    have hF17 := hF.put es5 (by omega)
    refine x_iconst hx hb dX11_seed_21 ?_
    rw [eQ]
    exact x_zret hx hb hr hlk hW (by omega) ⟨hF17, ⟨q6, q7, q8, q11, q12, q13, q14, q15, q16, trivial⟩, by omega⟩ dX11_seed_22
  refine x_iconst hx hb dX11_seed_11 ?_
  rw [eQ]
  exact x_zret hx hb hr hlk hW (by omega) ⟨hF, ⟨p0, p1, p2, k269_0, k269_1, k269_2, k269_3, k269_34, k269_37, trivial⟩, by omega⟩ dX11_seed_12
