set_option maxHeartbeats 4000000 in
set_option maxRecDepth 100000 in
theorem c_X10_keepJ (l : Launch) (D : va_G) (g : xG) (T : Nat × Nat × Nat) (h0 : Nat) (s0 : xS) (hσ : xRR s0) (p0 : IC s0) : Met l yX10_keep (xws yX10_keep cX10_keep 1 (some .int)) { frames := 1, cells := 0, slots := 0, locals := 22 } (xP [.ref (h0 + 0)] D g T h0 s0) (xQi D g h0 (fun r τ => xFr (fun k => k = 0 ∨ k = 146 ∨ k = 147 ∨ k = 148 ∨ k = 151 ∨ k = 152 ∨ k = 153 ∨ k = 154 ∨ k = 155) s0 τ ∧ (((IC τ) ∧ True) ∧ (τ 0 11 = 1 ∧ τ 146 7 = s0 136 7 ∧ r = s0 136 7 ∧ ∀ j : Int, 0 ≤ j → j < 2 → τ 147 j = s0 137 j ∧ τ 148 j = s0 138 j ∧ τ 151 j = s0 141 j)))) 0 0 (xA h0) := by
  refine x_met hσ (by decide) (Nat.le_of_ble_eq_true rfl) ?_
  intro p e s m args below meth c hx hb hr hml hown hT hlk hnm hE hW ls hl
  have hl : lv_has ls 1 [(0, .ref (h0 + 0))] := hl
  obtain ⟨Q, eQ⟩ : ∃ Q, Q = MQ below (xQi D g h0 (fun r τ => xFr (fun k => k = 0 ∨ k = 146 ∨ k = 147 ∨ k = 148 ∨ k = 151 ∨ k = 152 ∨ k = 153 ∨ k = 154 ∨ k = 155) s0 τ ∧ (((IC τ) ∧ True) ∧ (τ 0 11 = 1 ∧ τ 146 7 = s0 136 7 ∧ r = s0 136 7 ∧ ∀ j : Int, 0 ≤ j → j < 2 → τ 147 j = s0 137 j ∧ τ 148 j = s0 138 j ∧ τ 151 j = s0 141 j)))) args s 0 0 (xA h0) := ⟨_, rfl⟩
  rw [← eQ]
  generalize hHe : ([] : List Loc) = locs at hW ⊢
  obtain ⟨H, eH⟩ : ∃ H, H = s.heap := ⟨_, rfl⟩
  rw [← eH] at hW ⊢
  have hF : xFr (fun k => k = 0 ∨ k = 146 ∨ k = 147 ∨ k = 148 ∨ k = 151 ∨ k = 152 ∨ k = 153 ∨ k = 154 ∨ k = 155) s0 s0 := xFr.rf
  have k1_1 : s0 1 1 = s0 1 1 := rfl
  have k0_11 : s0 0 11 = s0 0 11 := rfl
  have k136_7 : s0 136 7 = s0 136 7 := rfl
  refine x_aload_n hx hb hl 0 rfl dX10_keep_0 rfl ?_
  refine x_get (j := 9) (v := .ref (h0 + 146)) hx hb hown hT hE hW cls_X10 (Or.inl (by decide)) (so_0 h0 g _) (by decide) rfl wq521 dX10_keep_1 ?_
  refine x_aload_n hx hb hl 0 rfl dX10_keep_4 rfl ?_
  refine x_get (j := 8) (v := .ref (h0 + 136)) hx hb hown hT hE hW cls_X10 (Or.inl (by decide)) (so_0 h0 g _) (by decide) rfl wq520 dX10_keep_5 ?_
  refine x_gov (x_runVN (As := [.ref (h0 + 136)]) hx hb hml hown hT hE hW hl.1 (Or.inl (by decide)) (so_146 h0 g _) rfl cf_X2_copyFrom wq918 wq64 wn1158 (c_X2_copyFromJ l D g T h0 s0 hW.2.1 146 xd_146 136 xd_136 (by omega) p0) ⟨rfl, rfl, ⟨by decide, by decide⟩, ⟨by decide, by decide⟩⟩ rfl rfl (Nat.le_of_ble_eq_true rfl) dX10_keep_8) hW (fun s2 H locs hp3 hW => ?_)
  obtain ⟨fs2, hp3⟩ := hp3
  have hF4 := hF.call fs2 (fun k h => by omega)
  have q5 : s2 1 1 = s0 1 1 := (congrFun (fs2 _ (by omega)) _).trans k1_1
  have q6 : s2 0 11 = s0 0 11 := (congrFun (fs2 _ (by omega)) _).trans k0_11
  have q7 : s2 136 7 = s0 136 7 := (congrFun (fs2 _ (by omega)) _).trans k136_7
  have ghp3 := hp3.2
  have q8 : s2 146 7 = s0 136 7 := ghp3.1
  have H8 := ghp3.2
  refine x_aload_n hx hb hl 0 rfl dX10_keep_11 rfl ?_
  refine x_iconst hx hb dX10_keep_12 ?_
  refine x_put (j := 11) hx hb hown hT hE hW cls_X10 (by decide) (fun σ => so_0 h0 g σ) (by decide) (st_X10_11 h0 s2 0 1) (ln_X10_11 h0 _ _) wq523 rfl rfl rfl (by decide) dX10_keep_13 (fun H locs s9 es9 hW => ?_)
  have q10 : s9 1 1 = s0 1 1 := (show s9 1 1 = s2 1 1 from by rw [es9, xU_k _ _ _ (by first | decide | omega)]).trans q5
  have q11 : s9 0 11 = 1 := by rw [es9, xU_s]
  have q12 : s9 136 7 = s0 136 7 := (show s9 136 7 = s2 136 7 from by rw [es9, xU_k _ _ _ (by first | decide | omega)]).trans q7
  have q13 : IC s9 := by rw [es9]; exact IC_o (by decide) hp3.1.1
  have q14 : s9 146 7 = s0 136 7 := (show s9 146 7 = s2 146 7 from by rw [es9, xU_k _ _ _ (by first | decide | omega)]).trans q8
  have hF15 := hF4.put es9 (by omega)
  have E13 := es9
  refine x_aload_n hx hb hl 0 rfl dX10_keep_16 rfl ?_
  refine x_get (j := 8) (v := .ref (h0 + 136)) hx hb hown hT hE hW cls_X10 (Or.inl (by decide)) (so_0 h0 g _) (by decide) rfl wq520 dX10_keep_17 ?_
  refine x_getN (j := 7) (v := .int (xJ (s9 136 7))) hx hb hown hT hE hW cls_X2 (Or.inl (by decide)) (so_136 h0 g _) (by decide) rfl wn403 dX10_keep_20 ?_
  refine x_rd hW (fun x16 ex16 rx16 => ?_)
  have bx16 : 0 ≤ x16 ∧ x16 ≤ 9999 := by rw [ex16]; exact IC.m q13 xd_136
  have fx16 : x16 = s0 136 7 := ex16.trans q12
  rw [eQ]
  exact x_iret hx hb hr hlk hW rx16 ⟨hF15, ⟨q13, trivial⟩, ⟨by omega, by omega, by omega, fun j j1 j2 => by rw [E13, xU_k _ _ _ (by first | decide | omega), xU_k _ _ _ (by first | decide | omega), xU_k _ _ _ (by first | decide | omega)]; exact H8 j j1 j2⟩⟩ dX10_keep_23
set_option maxHeartbeats 4000000 in
set_option maxRecDepth 100000 in
theorem c_X10_undoJ (l : Launch) (D : va_G) (g : xG) (T : Nat × Nat × Nat) (h0 : Nat) (s0 : xS) (hσ : xRR s0) (hk : s0 0 11 = 0 ∨ s0 0 11 = 1) (p0 : IC s0) : Met l yX10_undo (xws yX10_undo cX10_undo 1 (some .boolean)) { frames := 1, cells := 0, slots := 0, locals := 22 } (xP [.ref (h0 + 0)] D g T h0 s0) (xQi D g h0 (fun r τ => xFr (fun k => k = 136 ∨ k = 137 ∨ k = 138 ∨ k = 141 ∨ k = 142 ∨ k = 143 ∨ k = 144 ∨ k = 145) s0 τ ∧ (((IC τ) ∧ True) ∧ (r = s0 0 11 ∧ ((s0 0 11 = 0 ∧ τ 136 7 = s0 136 7 ∧ τ 137 = s0 137 ∧ τ 138 = s0 138 ∧ τ 141 = s0 141) ∨ (s0 0 11 ≠ 0 ∧ τ 136 7 = s0 146 7 ∧ ∀ j : Int, 0 ≤ j → j < 2 → τ 137 j = s0 147 j ∧ τ 138 j = s0 148 j ∧ τ 141 j = s0 151 j)))))) 0 0 (xA h0) := by
  refine x_met hσ (by decide) (Nat.le_of_ble_eq_true rfl) ?_
  intro p e s m args below meth c hx hb hr hml hown hT hlk hnm hE hW ls hl
  have hl : lv_has ls 1 [(0, .ref (h0 + 0))] := hl
  obtain ⟨Q, eQ⟩ : ∃ Q, Q = MQ below (xQi D g h0 (fun r τ => xFr (fun k => k = 136 ∨ k = 137 ∨ k = 138 ∨ k = 141 ∨ k = 142 ∨ k = 143 ∨ k = 144 ∨ k = 145) s0 τ ∧ (((IC τ) ∧ True) ∧ (r = s0 0 11 ∧ ((s0 0 11 = 0 ∧ τ 136 7 = s0 136 7 ∧ τ 137 = s0 137 ∧ τ 138 = s0 138 ∧ τ 141 = s0 141) ∨ (s0 0 11 ≠ 0 ∧ τ 136 7 = s0 146 7 ∧ ∀ j : Int, 0 ≤ j → j < 2 → τ 137 j = s0 147 j ∧ τ 138 j = s0 148 j ∧ τ 141 j = s0 151 j)))))) args s 0 0 (xA h0) := ⟨_, rfl⟩
  rw [← eQ]
  generalize hHe : ([] : List Loc) = locs at hW ⊢
  obtain ⟨H, eH⟩ : ∃ H, H = s.heap := ⟨_, rfl⟩
  rw [← eH] at hW ⊢
  have hF : xFr (fun k => k = 136 ∨ k = 137 ∨ k = 138 ∨ k = 141 ∨ k = 142 ∨ k = 143 ∨ k = 144 ∨ k = 145) s0 s0 := xFr.rf
  have k1_1 : s0 1 1 = s0 1 1 := rfl
  have k0_11 : s0 0 11 = s0 0 11 := rfl
  have k136_7 : s0 136 7 = s0 136 7 := rfl
  refine x_aload_n hx hb hl 0 rfl dX10_undo_0 rfl ?_
  refine x_get (j := 11) (v := .int (xJ (s0 0 11))) hx hb hown hT hE hW cls_X10 (Or.inl (by decide)) (so_0 h0 g _) (by decide) rfl wq523 dX10_undo_1 ?_
  refine x_rd hW (fun x1 ex1 rx1 => ?_)
  have fx1 : x1 = s0 0 11 := ex1.trans k0_11
  refine x_if_eq (tgt := 18) hx hb rx1 dX10_undo_4 (by decide) (fun c2 => ?_) (fun c2 => ?_)
  · skip
    refine x_aload_n hx hb hl 0 rfl dX10_undo_18 rfl ?_
    refine x_get (j := 11) (v := .int (xJ (s0 0 11))) hx hb hown hT hE hW cls_X10 (Or.inl (by decide)) (so_0 h0 g _) (by decide) rfl wq523 dX10_undo_19 ?_
    refine x_rd hW (fun x3 ex3 rx3 => ?_)
    have fx3 : x3 = s0 0 11 := ex3.trans k0_11
    rw [eQ]
    exact x_zret hx hb hr hlk hW (by omega) ⟨hF, ⟨p0, trivial⟩, by first | exact ⟨by omega, Or.inr ⟨by omega, by omega, H15⟩⟩ | exact ⟨by omega, Or.inl ⟨by omega, by omega, rfl, rfl, rfl⟩⟩⟩ dX10_undo_22
  refine x_aload_n hx hb hl 0 rfl dX10_undo_7 rfl ?_
  refine x_get (j := 8) (v := .ref (h0 + 136)) hx hb hown hT hE hW cls_X10 (Or.inl (by decide)) (so_0 h0 g _) (by decide) rfl wq520 dX10_undo_8 ?_
  refine x_aload_n hx hb hl 0 rfl dX10_undo_11 rfl ?_
  refine x_get (j := 9) (v := .ref (h0 + 146)) hx hb hown hT hE hW cls_X10 (Or.inl (by decide)) (so_0 h0 g _) (by decide) rfl wq521 dX10_undo_12 ?_
  refine x_gov (x_runVN (As := [.ref (h0 + 146)]) hx hb hml hown hT hE hW hl.1 (Or.inl (by decide)) (so_136 h0 g _) rfl cf_X2_copyFrom wq918 wq64 wn1158 (c_X2_copyFromJ l D g T h0 s0 hW.2.1 136 xd_136 146 xd_146 (by omega) p0) ⟨rfl, rfl, ⟨by decide, by decide⟩, ⟨by decide, by decide⟩⟩ rfl rfl (Nat.le_of_ble_eq_true rfl) dX10_undo_15) hW (fun s5 H locs hp6 hW => ?_)
  obtain ⟨fs5, hp6⟩ := hp6
  have hF7 := hF.call fs5 (fun k h => by omega)
  have q8 : s5 1 1 = s0 1 1 := (congrFun (fs5 _ (by omega)) _).trans k1_1
  have q9 : s5 0 11 = s0 0 11 := (congrFun (fs5 _ (by omega)) _).trans k0_11
  have ghp6 := hp6.2
  have q10 : s5 136 7 = s0 146 7 := ghp6.1
  have H15 := ghp6.2
  refine x_aload_n hx hb hl 0 rfl dX10_undo_18 rfl ?_
  refine x_get (j := 11) (v := .int (xJ (s5 0 11))) hx hb hown hT hE hW cls_X10 (Or.inl (by decide)) (so_0 h0 g _) (by decide) rfl wq523 dX10_undo_19 ?_
  refine x_rd hW (fun x11 ex11 rx11 => ?_)
  have fx11 : x11 = s0 0 11 := ex11.trans q9
  rw [eQ]
  exact x_zret hx hb hr hlk hW (by omega) ⟨hF7, ⟨hp6.1.1, trivial⟩, by first | exact ⟨by omega, Or.inr ⟨by omega, by omega, H15⟩⟩ | exact ⟨by omega, Or.inl ⟨by omega, by omega, rfl, rfl, rfl⟩⟩⟩ dX10_undo_22
