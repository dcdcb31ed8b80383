set_option maxHeartbeats 4000000 in
set_option maxRecDepth 100000 in
theorem c_X1_most (l : Launch) (D : va_G) (g : xG) (T : Nat × Nat × Nat) (h0 : Nat) (s0 : xS) (hσ : xRR s0) (d : Nat) (hd : xDay d) (p0 : s0 (d + 6) = fun _ => (-1)) : Met l yX1_most (xws yX1_most cX1_most 4 (some .int)) { frames := 2, cells := 0, slots := 0, locals := 42 } (xP [.ref (h0 + 261), .ref (h0 + d)] D g T h0 s0) (xQi D g h0 (fun r τ => xFr (fun k => k = 262 ∨ k = 263 ∨ k = 264) s0 τ ∧ (r = 0))) 0 0 (xA h0) := by
  refine x_met hσ (by decide) (Nat.le_of_ble_eq_true rfl) ?_
  intro p e s m args below meth c hx hb hr hml hown hT hlk hnm hE hW ls hl
  have hl : lv_has ls 4 [(0, .ref (h0 + 261)), (1, .ref (h0 + d))] := hl
  obtain ⟨Q, eQ⟩ : ∃ Q, Q = MQ below (xQi D g h0 (fun r τ => xFr (fun k => k = 262 ∨ k = 263 ∨ k = 264) s0 τ ∧ (r = 0))) args s 0 0 (xA h0) := ⟨_, rfl⟩
  rw [← eQ]
  generalize hHe : ([] : List Loc) = locs at hW ⊢
  obtain ⟨H, eH⟩ : ∃ H, H = s.heap := ⟨_, rfl⟩
  rw [← eH] at hW ⊢
  have hF : xFr (fun k => k = 262 ∨ k = 263 ∨ k = 264) s0 s0 := xFr.rf
  have hbd : (136 ≤ d ∧ d < 209) ∧ (d ≤ 146 ∨ 158 ≤ d) := by unfold xDay at hd; omega
  refine x_iconst hx hb dX1_most_0 ?_
  refine lv_istore_n (lv' := [(2, .int (xJ 0)), (0, .ref (h0 + 261)), (1, .ref (h0 + d))]) hx hb dX1_most_1 rfl hl (by decide) rfl (fun ls hl => ?_)
  have L2 : ∀ (fu : Nat) (i2_2 : Int) (s_2 : xS) (H : Heap) (locs : List Loc) (ls : Array Slot), (xR i2_2) → (xFr (fun k => k = 262 ∨ k = 263 ∨ k = 264) s0 s_2) → (s_2 (d + 6) = fun _ => (-1)) → (0 ≤ i2_2) → (100 - i2_2).toNat < fu → xW D g h0 s H locs s_2 → lv_has ls 4 [(0, .ref (h0 + 261)), (1, .ref (h0 + d)), (2, .int (xJ i2_2))] → W p l e { frames := 2, cells := 0, slots := 0, locals := 42 } s m args below meth c H locs 0 0 Q (F0 m 2 ls []) := by
    intro fu
    induction fu with
    | zero => intro i2_2 s_2 H locs ls ri2_2 hF_2 q2_0 v2_0 hm; exact absurd hm (Nat.not_lt_zero _)
    | succ fu ih2 =>
      intro i2_2 s_2 H locs ls ri2_2 hF_2 q2_0 v2_0 hm hW hl
      refine x_iload_n hx hb hl 2 rfl dX1_most_2 rfl ?_
      refine x_bipush hx hb dX1_most_3 (by decide) ?_
      refine x_icmp_ge (tgt := 21) hx hb ri2_2 (by decide) dX1_most_5 (by decide) (fun c1 => ?_) (fun c1 => ?_)
      · skip
        refine x_iconst hx hb dX1_most_21 ?_
        refine lv_istore_n (lv' := [(2, .int (xJ 0)), (0, .ref (h0 + 261)), (1, .ref (h0 + d))]) hx hb dX1_most_22 rfl hl (by decide) rfl (fun ls hl => ?_)
        have L23 : ∀ (fu : Nat) (i2_23 : Int) (s_23 : xS) (H : Heap) (locs : List Loc) (ls : Array Slot), (xR i2_23) → (xFr (fun k => k = 262 ∨ k = 263 ∨ k = 264) s0 s_23) → (s_23 (d + 6) = fun _ => (-1)) → (0 ≤ i2_23) → (10 - i2_23).toNat < fu → xW D g h0 s H locs s_23 → lv_has ls 4 [(0, .ref (h0 + 261)), (1, .ref (h0 + d)), (2, .int (xJ i2_23))] → W p l e { frames := 2, cells := 0, slots := 0, locals := 42 } s m args below meth c H locs 0 0 Q (F0 m 23 ls []) := by
          intro fu
          induction fu with
          | zero => intro i2_23 s_23 H locs ls ri2_23 hF_23 q23_0 v23_0 hm; exact absurd hm (Nat.not_lt_zero _)
          | succ fu ih23 =>
            intro i2_23 s_23 H locs ls ri2_23 hF_23 q23_0 v23_0 hm hW hl
            refine x_iload_n hx hb hl 2 rfl dX1_most_23 rfl ?_
            refine x_bipush hx hb dX1_most_24 (by decide) ?_
            refine x_icmp_ge (tgt := 69) hx hb ri2_23 (by decide) dX1_most_26 (by decide) (fun c2 => ?_) (fun c2 => ?_)
            · skip
              refine x_iconst hx hb dX1_most_69 ?_
              refine lv_istore_n (lv' := [(2, .int (xJ 0)), (0, .ref (h0 + 261)), (1, .ref (h0 + d))]) hx hb dX1_most_70 rfl hl (by decide) rfl (fun ls hl => ?_)
              refine x_iconst hx hb dX1_most_71 ?_
              refine lv_istore_n (lv' := [(3, .int (xJ 0)), (2, .int (xJ 0)), (0, .ref (h0 + 261)), (1, .ref (h0 + d))]) hx hb dX1_most_72 rfl hl (by decide) rfl (fun ls hl => ?_)
              have L73 : ∀ (fu : Nat) (i3_73 : Int) (H : Heap) (locs : List Loc) (ls : Array Slot), (xR i3_73) → (0 ≤ i3_73) → (0 = 0) → (10 - i3_73).toNat < fu → xW D g h0 s H locs s_23 → lv_has ls 4 [(1, .ref (h0 + d)), (2, .int (xJ 0)), (3, .int (xJ i3_73))] → W p l e { frames := 2, cells := 0, slots := 0, locals := 42 } s m args below meth c H locs 0 0 Q (F0 m 73 ls []) := by
                intro fu
                induction fu with
                | zero => intro i3_73 H locs ls ri3_73 v73_0 v73_1 hm; exact absurd hm (Nat.not_lt_zero _)
                | succ fu ih73 =>
                  intro i3_73 H locs ls ri3_73 v73_0 v73_1 hm hW hl
                  refine x_iload_n hx hb hl 2 rfl dX1_most_73 rfl ?_
                  refine x_bipush hx hb dX1_most_74 (by decide) ?_
                  refine x_icmp_ge (tgt := 105) hx hb ri3_73 (by decide) dX1_most_76 (by decide) (fun c3 => ?_) (fun c3 => ?_)
                  · skip
                    refine x_iload_n hx hb hl 1 rfl dX1_most_105 rfl ?_
                    rw [eQ]
                    exact x_iret hx hb hr hlk hW (by decide) ⟨hF_23, by omega⟩ dX1_most_106
                  refine x_aload_n hx hb hl 0 rfl dX1_most_79 rfl ?_
                  refine x_iload_n hx hb hl 2 rfl dX1_most_80 rfl ?_
                  refine x_goi (x_runVN (As := [.int (xJ i3_73)]) hx hb hml hown hT hE hW hl.1 (Or.inl (by omega)) (so_day0 h0 g hd _) rfl cf_X2_mustServe wq858 wq52 wn959 (c_X2_mustServe l D g T h0 s_23 hW.2.1 d hd i3_73 ri3_73 q23_0) ⟨rfl, rfl, ⟨by decide, by decide⟩, ⟨by decide, by decide⟩⟩ rfl rfl (Nat.le_of_ble_eq_true rfl) dX1_most_81) hW (fun x4 s5 H locs rx4 hp6 hW => ?_)
                  obtain ⟨es5, hp6⟩ := hp6
                  subst es5
                  have ghp6 := hp6
                  refine x_if_eq (tgt := 99) hx hb rx4 dX1_most_84 (by decide) (fun c7 => ?_) (fun c7 => False.elim (by omega))
                  refine x_iinc (lv' := [(3, .int (xJ (i3_73 + 1))), (1, .ref (h0 + d)), (2, .int (xJ 0))]) hx hb hl 2 rfl dX1_most_99 (by decide) rfl (fun ls hl => ?_)
                  refine lv_goto (tgt := 73) hx hb dX1_most_102 (by decide) ?_
                  exact ih73 (i3_73 + 1) H locs ls (by omega) (by omega) (by omega) (by omega) hW (lv_sub hl [1, 2, 0] rfl)
              exact L73 ((10 - 0 : Int).toNat + 1) 0 H locs ls (by decide) (by omega) (by omega) (Nat.lt_succ_self _) hW (lv_sub hl [3, 1, 0] rfl)
            refine x_aload_n hx hb hl 0 rfl dX1_most_29 rfl ?_
            refine x_get (j := 2) (v := .ref (h0 + 263)) hx hb hown hT hE hW cls_X1 (Or.inl (by decide)) (so_261 h0 g _) (by decide) rfl wq495 dX1_most_30 ?_
            refine x_iload_n hx hb hl 2 rfl dX1_most_33 rfl ?_
            refine x_iconst hx hb dX1_most_34 ?_
            refine x_iast hx hb hE hW (by decide) (fun σ => sa_263 h0 g σ) (by omega) (by decide) (by decide) dX1_most_35 (fun H locs s8 es8 hW => ?_)
            have q9 : s8 (d + 6) = fun _ => (-1) := by rw [es8, xU_k _ _ _ (by omega)]; exact q23_0
            have hF10 := hF_23.put es8 (by omega)
            refine x_aload_n hx hb hl 0 rfl dX1_most_36 rfl ?_
            refine x_get (j := 1) (v := .ref (h0 + 262)) hx hb hown hT hE hW cls_X1 (Or.inl (by decide)) (so_261 h0 g _) (by decide) rfl wq494 dX1_most_37 ?_
            refine x_iload_n hx hb hl 2 rfl dX1_most_40 rfl ?_
            refine x_aload_n hx hb hl 1 rfl dX1_most_41 rfl ?_
            refine x_iload_n hx hb hl 2 rfl dX1_most_42 rfl ?_
            refine x_goi (x_runVN (As := [.int (xJ i2_23)]) hx hb hml hown hT hE hW hl.1 (Or.inl (by omega)) (so_day0 h0 g hd _) rfl cf_X2_mustServe wq858 wq52 wn959 (c_X2_mustServe l D g T h0 s8 hW.2.1 d hd i2_23 ri2_23 q9) ⟨rfl, rfl, ⟨by decide, by decide⟩, ⟨by decide, by decide⟩⟩ rfl rfl (Nat.le_of_ble_eq_true rfl) dX1_most_43) hW (fun x11 s12 H locs rx11 hp13 hW => ?_)
            obtain ⟨es12, hp13⟩ := hp13
            subst es12
            have ghp13 := hp13
            refine x_if_eq (tgt := 61) hx hb rx11 dX1_most_46 (by decide) (fun c14 => ?_) (fun c14 => False.elim (by omega))
            refine x_iconst hx hb dX1_most_61 ?_
            refine x_iast hx hb hE hW (by decide) (fun σ => sa_262 h0 g σ) (by omega) (by decide) (by decide) dX1_most_62 (fun H locs s15 es15 hW => ?_)
            have q16 : s15 (d + 6) = fun _ => (-1) := by rw [es15, xU_k _ _ _ (by omega)]; exact q9
            have hF17 := hF10.put es15 (by omega)
            refine x_iinc (lv' := [(2, .int (xJ (i2_23 + 1))), (0, .ref (h0 + 261)), (1, .ref (h0 + d))]) hx hb hl 2 rfl dX1_most_63 (by decide) rfl (fun ls hl => ?_)
            refine lv_goto (tgt := 23) hx hb dX1_most_66 (by decide) ?_
            exact ih23 (i2_23 + 1) s15 H locs ls (by omega) hF17 q16 (by omega) (by omega) hW (lv_sub hl [1, 2, 0] rfl)
        exact L23 ((10 - 0 : Int).toNat + 1) 0 s_2 H locs ls (by decide) hF_2 q2_0 (by omega) (Nat.lt_succ_self _) hW (lv_sub hl [1, 2, 0] rfl)
      refine x_aload_n hx hb hl 0 rfl dX1_most_8 rfl ?_
      refine x_get (j := 3) (v := .ref (h0 + 264)) hx hb hown hT hE hW cls_X1 (Or.inl (by decide)) (so_261 h0 g _) (by decide) rfl wq496 dX1_most_9 ?_
      refine x_iload_n hx hb hl 2 rfl dX1_most_12 rfl ?_
      refine x_iconst hx hb dX1_most_13 ?_
      refine x_iast hx hb hE hW (by decide) (fun σ => sa_264 h0 g σ) (by omega) (by decide) (by decide) dX1_most_14 (fun H locs s18 es18 hW => ?_)
      have q19 : s18 (d + 6) = fun _ => (-1) := by rw [es18, xU_k _ _ _ (by omega)]; exact q2_0
      have hF20 := hF_2.put es18 (by omega)
      refine x_iinc (lv' := [(2, .int (xJ (i2_2 + 1))), (0, .ref (h0 + 261)), (1, .ref (h0 + d))]) hx hb hl 2 rfl dX1_most_15 (by decide) rfl (fun ls hl => ?_)
      refine lv_goto (tgt := 2) hx hb dX1_most_18 (by decide) ?_
      exact ih2 (i2_2 + 1) s18 H locs ls (by omega) hF20 q19 (by omega) (by omega) hW (lv_sub hl [1, 2, 0] rfl)
  exact L2 ((100 - 0 : Int).toNat + 1) 0 s0 H locs ls (by decide) hF p0 (by omega) (Nat.lt_succ_self _) hW (lv_sub hl [1, 2, 0] rfl)
set_option maxHeartbeats 4000000 in
set_option maxRecDepth 100000 in
theorem c_X3_copyOfNow (l : Launch) (D : va_G) (g : xG) (T : Nat × Nat × Nat) (h0 : Nat) (s0 : xS) (hσ : xRR s0) (p0 : s0 137 = fun _ => (-1)) (p1 : s0 142 = fun _ => (-1)) (p2 : s0 143 = fun _ => 0) (p3 : 0 ≤ s0 136 7 ∧ s0 136 7 ≤ 9999) (p4 : 0 ≤ s0 136 8 ∧ s0 136 8 ≤ 65535) (p5 : s0 145 = fun _ => 0) (p6 : ∀ j : Int, 0 ≤ j → j < 2 → xAr s0 (s0 138 j).toNat) (p7 : s0 159 = fun _ => (-1)) (p8 : s0 164 = fun _ => (-1)) (p9 : s0 165 = fun _ => 0) (p10 : 0 ≤ s0 158 7 ∧ s0 158 7 ≤ 9999) (p11 : 0 ≤ s0 158 8 ∧ s0 158 8 ≤ 65535) (p12 : s0 167 = fun _ => 0) : Met l yX3_copyOfNow (xws yX3_copyOfNow cX3_copyOfNow 2 (some (.object "ShadowCourt$Day"))) { frames := 1, cells := 0, slots := 0, locals := 22 } (xP [.ref (h0 + 156)] D g T h0 s0) (xQr D g h0 (fun r τ => 158 = r ∧ xFr (fun k => k = 158 ∨ k = 159 ∨ k = 160 ∨ k = 163 ∨ k = 164 ∨ k = 165 ∨ k = 166 ∨ k = 167) s0 τ ∧ (((τ 159 = fun _ => (-1)) ∧ (τ 164 = fun _ => (-1)) ∧ (τ 165 = fun _ => 0) ∧ (0 ≤ τ 158 7 ∧ τ 158 7 ≤ 9999) ∧ (0 ≤ τ 158 8 ∧ τ 158 8 ≤ 65535) ∧ (τ 167 = fun _ => 0) ∧ (τ 158 9 = 0) ∧ (τ 158 10 = 0) ∧ (τ 158 11 = 0) ∧ True) ∧ (True)))) 0 0 (xA h0) := by
  refine x_met hσ (by decide) (Nat.le_of_ble_eq_true rfl) ?_
  intro p e s m args below meth c hx hb hr hml hown hT hlk hnm hE hW ls hl
  have hl : lv_has ls 2 [(0, .ref (h0 + 156))] := hl
  obtain ⟨Q, eQ⟩ : ∃ Q, Q = MQ below (xQr D g h0 (fun r τ => 158 = r ∧ xFr (fun k => k = 158 ∨ k = 159 ∨ k = 160 ∨ k = 163 ∨ k = 164 ∨ k = 165 ∨ k = 166 ∨ k = 167) s0 τ ∧ (((τ 159 = fun _ => (-1)) ∧ (τ 164 = fun _ => (-1)) ∧ (τ 165 = fun _ => 0) ∧ (0 ≤ τ 158 7 ∧ τ 158 7 ≤ 9999) ∧ (0 ≤ τ 158 8 ∧ τ 158 8 ≤ 65535) ∧ (τ 167 = fun _ => 0) ∧ (τ 158 9 = 0) ∧ (τ 158 10 = 0) ∧ (τ 158 11 = 0) ∧ True) ∧ (True)))) args s 0 0 (xA h0) := ⟨_, rfl⟩
  rw [← eQ]
  generalize hHe : ([] : List Loc) = locs at hW ⊢
  obtain ⟨H, eH⟩ : ∃ H, H = s.heap := ⟨_, rfl⟩
  rw [← eH] at hW ⊢
  have hF : xFr (fun k => k = 158 ∨ k = 159 ∨ k = 160 ∨ k = 163 ∨ k = 164 ∨ k = 165 ∨ k = 166 ∨ k = 167) s0 s0 := xFr.rf
  refine x_aload_n hx hb hl 0 rfl dX3_copyOfNow_0 rfl ?_
  refine x_get (j := 2) (v := .ref (h0 + 157)) hx hb hown hT hE hW cls_X3 (Or.inl (by decide)) (so_156 h0 g _) (by decide) rfl wq452 dX3_copyOfNow_1 ?_
  refine x_iconst hx hb dX3_copyOfNow_4 ?_
  refine x_aaldR (t0 := 4) (n := 6) (r := 158) hx hb hE hW (by decide) rfl rfl (sg_157 h0 g _) ⟨by decide, by decide⟩ (by decide) rfl dX3_copyOfNow_5 ?_
  refine lv_astore_n (lv' := [(1, .ref (h0 + 158)), (0, .ref (h0 + 156))]) hx hb dX3_copyOfNow_6 rfl hl (by decide) rfl (fun ls hl => ?_)
  refine x_aload_n hx hb hl 0 rfl dX3_copyOfNow_7 rfl ?_
  refine x_aload_n hx hb hl 1 rfl dX3_copyOfNow_8 rfl ?_
  refine x_get (j := 1) (v := .ref (h0 + 136)) hx hb hown hT hE hW cls_X3 (Or.inl (by decide)) (so_156 h0 g _) (by decide) rfl wq451 dX3_copyOfNow_9 ?_
  refine x_gov (x_runVN (As := [.ref (h0 + 136)]) hx hb hml hown hT hE hW hl.1 (Or.inl (by decide)) (so_158 h0 g _) rfl cf_X2_copyFrom wq918 wq64 wn916 (c_X2_copyFrom l D g T h0 s0 hW.2.1 158 xd_158 136 xd_136 (by omega) p7 p8 p9 p10 p11 p12 p0 p1 p2 p3 p4 p5 p6) ⟨rfl, rfl, ⟨by decide, by decide⟩, ⟨by decide, by decide⟩⟩ rfl rfl (Nat.le_of_ble_eq_true rfl) dX3_copyOfNow_12) hW (fun s2 H locs hp3 hW => ?_)
  obtain ⟨fs2, hp3⟩ := hp3
  have hF4 := hF.call fs2 (fun k h => by omega)
  have q5 : s2 137 = fun _ => (-1) := (fs2 _ (by omega)).trans p0
  have q6 : s2 142 = fun _ => (-1) := (fs2 _ (by omega)).trans p1
  have q7 : s2 143 = fun _ => 0 := (fs2 _ (by omega)).trans p2
  have q8 : 0 ≤ s2 136 7 ∧ s2 136 7 ≤ 9999 := by rw [fs2 136 (by omega)]; exact p3
  have q9 : 0 ≤ s2 136 8 ∧ s2 136 8 ≤ 65535 := by rw [fs2 136 (by omega)]; exact p4
  have q10 : s2 145 = fun _ => 0 := (fs2 _ (by omega)).trans p5
  have q11 : ∀ j : Int, 0 ≤ j → j < 2 → xAr s2 (s2 138 j).toNat := by intro j h1 h2; rw [fs2 138 (by omega)]; exact (p6 j h1 h2).f (fs2 999997 (by omega))
  have ghp3 := hp3.2
  refine x_aload_n hx hb hl 0 rfl dX3_copyOfNow_15 rfl ?_
  refine x_gov (x_runVN (As := []) hx hb hml hown hT hE hW hl.1 (Or.inl (by decide)) (so_158 h0 g _) rfl cf_X2_clearCounts wq922 wq65 wn920 (c_X2_clearCounts l D g T h0 s2 hW.2.1 158 xd_158 hp3.1.2.2.2.1 hp3.1.2.2.2.2.1) ⟨rfl, rfl, ⟨by decide, by decide⟩, ⟨by decide, by decide⟩⟩ rfl rfl (Nat.le_of_ble_eq_true rfl) dX3_copyOfNow_16) hW (fun s13 H locs hp14 hW => ?_)
  obtain ⟨fs13, hp14⟩ := hp14
  have hF15 := hF4.call fs13 (fun k h => by omega)
  have q16 : s13 137 = fun _ => (-1) := (fs13 _ (by omega)).trans q5
  have q17 : s13 142 = fun _ => (-1) := (fs13 _ (by omega)).trans q6
  have q18 : s13 143 = fun _ => 0 := (fs13 _ (by omega)).trans q7
  have q19 : 0 ≤ s13 136 7 ∧ s13 136 7 ≤ 9999 := by rw [fs13 136 (by omega)]; exact q8
  have q20 : 0 ≤ s13 136 8 ∧ s13 136 8 ≤ 65535 := by rw [fs13 136 (by omega)]; exact q9
  have q21 : s13 145 = fun _ => 0 := (fs13 _ (by omega)).trans q10
  have q22 : ∀ j : Int, 0 ≤ j → j < 2 → xAr s13 (s13 138 j).toNat := by intro j h1 h2; rw [fs13 138 (by omega)]; exact (q11 j h1 h2).f (fs13 999997 (by omega))
  have q23 : s13 159 = fun _ => (-1) := (fs13 _ (by omega)).trans hp3.1.1
  have q24 : s13 164 = fun _ => (-1) := (fs13 _ (by omega)).trans hp3.1.2.1
  have q25 : s13 165 = fun _ => 0 := (fs13 _ (by omega)).trans hp3.1.2.2.1
  have q26 : s13 167 = fun _ => 0 := (fs13 _ (by omega)).trans hp3.1.2.2.2.2.2.1
  have ghp14 := hp14.2
  refine x_aload_n hx hb hl 0 rfl dX3_copyOfNow_19 rfl ?_
  rw [eQ]
  exact x_aret hx hb hr (Or.inl ⟨_, rfl⟩) hlk hW ⟨rfl, ⟨hF15, ⟨q23, q24, q25, hp14.1.1, hp14.1.2.1, q26, hp14.1.2.2.1, hp14.1.2.2.2.1, hp14.1.2.2.2.2.1, trivial⟩, trivial⟩⟩ dX3_copyOfNow_20
set_option maxHeartbeats 4000000 in
set_option maxRecDepth 100000 in
theorem c_X3_bestAhead (l : Launch) (D : va_G) (g : xG) (T : Nat × Nat × Nat) (h0 : Nat) (s0 : xS) (hσ : xRR s0) (n : Int) (rn : xR n) (p0 : s0 137 = fun _ => (-1)) (p1 : s0 142 = fun _ => (-1)) (p2 : s0 143 = fun _ => 0) (p3 : 0 ≤ s0 136 7 ∧ s0 136 7 ≤ 9999) (p4 : 0 ≤ s0 136 8 ∧ s0 136 8 ≤ 65535) (p5 : s0 145 = fun _ => 0) (p6 : ∀ j : Int, 0 ≤ j → j < 2 → xAr s0 (s0 138 j).toNat) (p7 : s0 159 = fun _ => (-1)) (p8 : s0 164 = fun _ => (-1)) (p9 : s0 165 = fun _ => 0) (p10 : 0 ≤ s0 158 7 ∧ s0 158 7 ≤ 9999) (p11 : 0 ≤ s0 158 8 ∧ s0 158 8 ≤ 65535) (p12 : s0 167 = fun _ => 0) (p13 : s0 4 = fun _ => 0) (p14 : s0 129 = fun _ => (-1)) (p15 : s0 130 3 = 0) (p16 : s0 109 6 = 0) : Met l yX3_bestAhead (xws yX3_bestAhead cX3_bestAhead 5 (some .int)) { frames := 4, cells := 0, slots := 0, locals := 100 } (xP [.ref (h0 + 156), .int (xJ n)] D g T h0 s0) (xQi D g h0 (fun r τ => xFr (fun k => k = 115 ∨ k = 130 ∨ k = 156 ∨ k = 158 ∨ k = 159 ∨ k = 160 ∨ k = 163 ∨ k = 164 ∨ k = 165 ∨ k = 166 ∨ k = 167) s0 τ ∧ (((τ 156 6 = (-2)) ∧ True) ∧ (r = 0)))) 0 0 (xA h0) := by
  refine x_met hσ (by decide) (Nat.le_of_ble_eq_true rfl) ?_
  intro p e s m args below meth c hx hb hr hml hown hT hlk hnm hE hW ls hl
  have hl : lv_has ls 5 [(0, .ref (h0 + 156)), (1, .int (xJ n))] := hl
  obtain ⟨Q, eQ⟩ : ∃ Q, Q = MQ below (xQi D g h0 (fun r τ => xFr (fun k => k = 115 ∨ k = 130 ∨ k = 156 ∨ k = 158 ∨ k = 159 ∨ k = 160 ∨ k = 163 ∨ k = 164 ∨ k = 165 ∨ k = 166 ∨ k = 167) s0 τ ∧ (((τ 156 6 = (-2)) ∧ True) ∧ (r = 0)))) args s 0 0 (xA h0) := ⟨_, rfl⟩
  rw [← eQ]
  generalize hHe : ([] : List Loc) = locs at hW ⊢
  obtain ⟨H, eH⟩ : ∃ H, H = s.heap := ⟨_, rfl⟩
  rw [← eH] at hW ⊢
  have hF : xFr (fun k => k = 115 ∨ k = 130 ∨ k = 156 ∨ k = 158 ∨ k = 159 ∨ k = 160 ∨ k = 163 ∨ k = 164 ∨ k = 165 ∨ k = 166 ∨ k = 167) s0 s0 := xFr.rf
  refine x_aload_n hx hb hl 0 rfl dX3_bestAhead_0 rfl ?_
  refine x_get (j := 0) (v := .ref (h0 + 128)) hx hb hown hT hE hW cls_X3 (Or.inl (by decide)) (so_156 h0 g _) (by decide) rfl wq450 dX3_bestAhead_1 ?_
  refine x_aload_n hx hb hl 0 rfl dX3_bestAhead_4 rfl ?_
  refine x_gor (x_runV (As := []) hx hb hml hown hT hE hW hl.1 (Or.inl (by decide)) (so_156 h0 g _) rfl cf_X3_copyOfNow wq914 wq63 wq992 (c_X3_copyOfNow l D g T h0 s0 hW.2.1 p0 p1 p2 p3 p4 p5 p6 p7 p8 p9 p10 p11 p12) ⟨rfl, rfl, ⟨by decide, by decide⟩, ⟨by decide, by decide⟩⟩ rfl rfl (Nat.le_of_ble_eq_true rfl) dX3_bestAhead_5) hW (fun x1 s2 H locs hp3 hW => ?_)
  obtain ⟨ex1, hp3⟩ := hp3
  subst ex1
  obtain ⟨fs2, hp3⟩ := hp3
  have hF4 := hF.call fs2 (fun k h => by omega)
  have q5 : s2 137 = fun _ => (-1) := (fs2 _ (by omega)).trans p0
  have q6 : s2 142 = fun _ => (-1) := (fs2 _ (by omega)).trans p1
  have q7 : s2 143 = fun _ => 0 := (fs2 _ (by omega)).trans p2
  have q8 : 0 ≤ s2 136 7 ∧ s2 136 7 ≤ 9999 := by rw [fs2 136 (by omega)]; exact p3
  have q9 : 0 ≤ s2 136 8 ∧ s2 136 8 ≤ 65535 := by rw [fs2 136 (by omega)]; exact p4
  have q10 : s2 145 = fun _ => 0 := (fs2 _ (by omega)).trans p5
  have q11 : ∀ j : Int, 0 ≤ j → j < 2 → xAr s2 (s2 138 j).toNat := by intro j h1 h2; rw [fs2 138 (by omega)]; exact (p6 j h1 h2).f (fs2 999997 (by omega))
  have q12 : s2 4 = fun _ => 0 := (fs2 _ (by omega)).trans p13
  have q13 : s2 129 = fun _ => (-1) := (fs2 _ (by omega)).trans p14
  have q14 : s2 130 3 = 0 := (congrFun (fs2 _ (by omega)) _).trans p15
  have q15 : s2 109 6 = 0 := (congrFun (fs2 _ (by omega)) _).trans p16
  have ghp3 := hp3.2
  refine x_iload_n hx hb hl 1 rfl dX3_bestAhead_8 rfl ?_
  refine x_iconst hx hb dX3_bestAhead_9 ?_
  refine x_goi (x_runVN (As := [.ref (h0 + 158), .int (xJ n), .int (xJ (-1))]) hx hb hml hown hT hE hW hl.1 (Or.inl (by decide)) (so_128 h0 g _) rfl cf_X0_goOn wq761 wq34 wn1028 (c_X0_goOn l D g T h0 s2 hW.2.1 158 xd_158 n rn (-1) (by decide) 0 0 0 hp3.1.1 hp3.1.2.1 hp3.1.2.2.1 hp3.1.2.2.2.1 hp3.1.2.2.2.2.1 q12 q13 q14 q15 hp3.1.2.2.2.2.2.2.1 hp3.1.2.2.2.2.2.2.2.1 hp3.1.2.2.2.2.2.2.2.2.1) ⟨rfl, rfl, ⟨by decide, by decide⟩, ⟨by decide, by decide⟩⟩ rfl rfl (Nat.le_of_ble_eq_true rfl) dX3_bestAhead_10) hW (fun x16 s17 H locs rx16 hp18 hW => ?_)
  obtain ⟨fs17, hp18⟩ := hp18
  have hF19 := hF4.call fs17 (fun k h => by omega)
  have q20 : s17 137 = fun _ => (-1) := (fs17 _ (by omega)).trans q5
  have q21 : s17 142 = fun _ => (-1) := (fs17 _ (by omega)).trans q6
  have q22 : s17 143 = fun _ => 0 := (fs17 _ (by omega)).trans q7
  have q23 : 0 ≤ s17 136 7 ∧ s17 136 7 ≤ 9999 := by rw [fs17 136 (by omega)]; exact q8
  have q24 : 0 ≤ s17 136 8 ∧ s17 136 8 ≤ 65535 := by rw [fs17 136 (by omega)]; exact q9
  have q25 : s17 145 = fun _ => 0 := (fs17 _ (by omega)).trans q10
  have q26 : ∀ j : Int, 0 ≤ j → j < 2 → xAr s17 (s17 138 j).toNat := by intro j h1 h2; rw [fs17 138 (by omega)]; exact (q11 j h1 h2).f (fs17 999997 (by omega))
  have q27 : s17 4 = fun _ => 0 := (fs17 _ (by omega)).trans q12
  have q28 : s17 129 = fun _ => (-1) := (fs17 _ (by omega)).trans q13
  have q29 : s17 109 6 = 0 := (congrFun (fs17 _ (by omega)) _).trans q15
  have q30 : s17 159 = fun _ => (-1) := (fs17 _ (by omega)).trans hp3.1.1
  have q31 : s17 164 = fun _ => (-1) := (fs17 _ (by omega)).trans hp3.1.2.1
  have q32 : s17 165 = fun _ => 0 := (fs17 _ (by omega)).trans hp3.1.2.2.1
  have q33 : s17 167 = fun _ => 0 := (fs17 _ (by omega)).trans hp3.1.2.2.2.2.2.1
  have ghp18 := hp18.2
  refine lv_istore_n (lv' := [(2, .int (xJ x16)), (0, .ref (h0 + 156)), (1, .int (xJ n))]) hx hb dX3_bestAhead_13 rfl hl (by decide) rfl (fun ls hl => ?_)
  refine x_aload_n hx hb hl 1 rfl dX3_bestAhead_14 rfl ?_
  refine x_bipush hx hb dX3_bestAhead_15 (by decide) ?_
  refine x_put (j := 6) hx hb hown hT hE hW cls_X3 (by decide) (fun σ => so_156 h0 g σ) (by decide) (st_X3_6 h0 s17 156 (-2)) (ln_X3_6 h0 _ _) wq457 rfl rfl rfl (by decide) dX3_bestAhead_17 (fun H locs s34 es34 hW => ?_)
  have q35 : s34 137 = fun _ => (-1) := by rw [es34, xU_k _ _ _ (by omega)]; exact q20
  have q36 : s34 142 = fun _ => (-1) := by rw [es34, xU_k _ _ _ (by omega)]; exact q21
  have q37 : s34 143 = fun _ => 0 := by rw [es34, xU_k _ _ _ (by omega)]; exact q22
  have q38 : 0 ≤ s34 136 7 ∧ s34 136 7 ≤ 9999 := by rw [es34, xU_k _ _ _ (by omega)]; exact q23
  have q39 : 0 ≤ s34 136 8 ∧ s34 136 8 ≤ 65535 := by rw [es34, xU_k _ _ _ (by omega)]; exact q24
  have q40 : s34 145 = fun _ => 0 := by rw [es34, xU_k _ _ _ (by omega)]; exact q25
  have q41 : ∀ j : Int, 0 ≤ j → j < 2 → xAr s34 (s34 138 j).toNat := by intro j h1 h2; rw [show s34 138 = s17 138 from by rw [es34, xU_k _ _ _ (by omega)]]; exact (q26 j h1 h2).f (by rw [es34, xU_k _ _ _ (by omega)])
  have q42 : s34 4 = fun _ => 0 := by rw [es34, xU_k _ _ _ (by omega)]; exact q27
  have q43 : s34 129 = fun _ => (-1) := by rw [es34, xU_k _ _ _ (by omega)]; exact q28
  have q44 : s34 109 6 = 0 := by rw [es34, xU_k _ _ _ (by omega)]; exact q29
  have q45 : s34 159 = fun _ => (-1) := by rw [es34, xU_k _ _ _ (by omega)]; exact q30
  have q46 : s34 164 = fun _ => (-1) := by rw [es34, xU_k _ _ _ (by omega)]; exact q31
  have q47 : s34 165 = fun _ => 0 := by rw [es34, xU_k _ _ _ (by omega)]; exact q32
  have q48 : s34 167 = fun _ => 0 := by rw [es34, xU_k _ _ _ (by omega)]; exact q33
  have q49 : 0 ≤ s34 158 7 ∧ s34 158 7 ≤ 9999 := by rw [es34, xU_k _ _ _ (by omega)]; exact hp18.1.1
  have q50 : 0 ≤ s34 158 8 ∧ s34 158 8 ≤ 65535 := by rw [es34, xU_k _ _ _ (by omega)]; exact hp18.1.2.1
  have q51 : s34 130 3 = 0 := by rw [es34, xU_k _ _ _ (by omega)]; exact hp18.1.2.2.1
  have q52 : s34 158 9 = 0 := by rw [es34, xU_k _ _ _ (by omega)]; exact hp18.1.2.2.2.1
  have q53 : s34 158 10 = 0 := by rw [es34, xU_k _ _ _ (by omega)]; exact hp18.1.2.2.2.2.1
  have q54 : s34 158 11 = 0 := by rw [es34, xU_k _ _ _ (by omega)]; exact hp18.1.2.2.2.2.2.1
  have q55 : s34 156 6 = (-2) := by rw [es34, xU_s]
  have hF56 := hF19.put es34 (by omega)
  refine x_iconst hx hb dX3_bestAhead_20 ?_
  refine lv_istore_n (lv' := [(3, .int (xJ 0)), (2, .int (xJ x16)), (0, .ref (h0 + 156)), (1, .int (xJ n))]) hx hb dX3_bestAhead_21 rfl hl (by decide) rfl (fun ls hl => ?_)
  have L22 : ∀ (fu : Nat) (i3_22 : Int) (H : Heap) (locs : List Loc) (ls : Array Slot), (xR i3_22) → (0 ≤ i3_22) → (10 - i3_22).toNat < fu → xW D g h0 s H locs s34 → lv_has ls 5 [(0, .ref (h0 + 156)), (2, .int (xJ x16)), (3, .int (xJ i3_22))] → W p l e { frames := 4, cells := 0, slots := 0, locals := 100 } s m args below meth c H locs 0 0 Q (F0 m 22 ls []) := by
    intro fu
    induction fu with
    | zero => intro i3_22 H locs ls ri3_22 v22_0 hm; exact absurd hm (Nat.not_lt_zero _)
    | succ fu ih22 =>
      intro i3_22 H locs ls ri3_22 v22_0 hm hW hl
      refine x_iload_n hx hb hl 2 rfl dX3_bestAhead_22 rfl ?_
      refine x_bipush hx hb dX3_bestAhead_23 (by decide) ?_
      refine x_icmp_ge (tgt := 77) hx hb ri3_22 (by decide) dX3_bestAhead_25 (by decide) (fun c57 => ?_) (fun c57 => ?_)
      · skip
        refine x_iload_n hx hb hl 1 rfl dX3_bestAhead_77 rfl ?_
        rw [eQ]
        exact x_iret hx hb hr hlk hW rx16 ⟨hF56, ⟨q55, trivial⟩, by omega⟩ dX3_bestAhead_78
      refine x_aload_n hx hb hl 0 rfl dX3_bestAhead_28 rfl ?_
      refine x_get (j := 1) (v := .ref (h0 + 136)) hx hb hown hT hE hW cls_X3 (Or.inl (by decide)) (so_156 h0 g _) (by decide) rfl wq451 dX3_bestAhead_29 ?_
      refine x_iload_n hx hb hl 2 rfl dX3_bestAhead_32 rfl ?_
      refine x_goi (x_runVN (As := [.int (xJ i3_22)]) hx hb hml hown hT hE hW hl.1 (Or.inl (by decide)) (so_136 h0 g _) rfl cf_X2_mustServe wq858 wq52 wn1041 (c_X2_mustServe l D g T h0 s34 hW.2.1 136 xd_136 i3_22 ri3_22 q36) ⟨rfl, rfl, ⟨by decide, by decide⟩, ⟨by decide, by decide⟩⟩ rfl rfl (Nat.le_of_ble_eq_true rfl) dX3_bestAhead_33) hW (fun x58 s59 H locs rx58 hp60 hW => ?_)
      obtain ⟨es59, hp60⟩ := hp60
      subst es59
      have ghp60 := hp60
      refine x_if_ne (tgt := 42) hx hb rx58 dX3_bestAhead_36 (by decide) (fun c61 => False.elim (by omega)) (fun c61 => ?_)
      refine lv_goto (tgt := 71) hx hb dX3_bestAhead_39 (by decide) ?_
      refine x_iinc (lv' := [(3, .int (xJ (i3_22 + 1))), (0, .ref (h0 + 156)), (2, .int (xJ x16))]) hx hb hl 2 rfl dX3_bestAhead_71 (by decide) rfl (fun ls hl => ?_)
      refine lv_goto (tgt := 22) hx hb dX3_bestAhead_74 (by decide) ?_
      exact ih22 (i3_22 + 1) H locs ls (by omega) (by omega) (by omega) hW (lv_sub hl [1, 2, 0] rfl)
  exact L22 ((10 - 0 : Int).toNat + 1) 0 H locs ls (by decide) (by omega) (Nat.lt_succ_self _) hW (lv_sub hl [2, 1, 0] rfl)
set_option maxHeartbeats 4000000 in
set_option maxRecDepth 100000 in
theorem c_X3_countShadedMinutes (l : Launch) (D : va_G) (g : xG) (T : Nat × Nat × Nat) (h0 : Nat) (s0 : xS) (hσ : xRR s0) (n : Int) (rn : xR n) (p0 : s0 137 = fun _ => (-1)) (p1 : s0 142 = fun _ => (-1)) (p2 : s0 143 = fun _ => 0) (p3 : 0 ≤ s0 136 7 ∧ s0 136 7 ≤ 9999) (p4 : 0 ≤ s0 136 8 ∧ s0 136 8 ≤ 65535) (p5 : s0 145 = fun _ => 0) (p6 : ∀ j : Int, 0 ≤ j → j < 2 → xAr s0 (s0 138 j).toNat) (p7 : s0 159 = fun _ => (-1)) (p8 : s0 164 = fun _ => (-1)) (p9 : s0 165 = fun _ => 0) (p10 : 0 ≤ s0 158 7 ∧ s0 158 7 ≤ 9999) (p11 : 0 ≤ s0 158 8 ∧ s0 158 8 ≤ 65535) (p12 : s0 167 = fun _ => 0) (p13 : s0 4 = fun _ => 0) (p14 : s0 129 = fun _ => (-1)) (p15 : s0 130 3 = 0) (p16 : s0 109 6 = 0) (p17 : s0 226 = fun _ => 0) : Met l yX3_countShadedMinutes (xws yX3_countShadedMinutes cX3_countShadedMinutes 6 none) { frames := 4, cells := 0, slots := 0, locals := 94 } (xP [.ref (h0 + 156), .int (xJ n)] D g T h0 s0) (xQv D g h0 (fun τ => xFr (fun k => k = 130 ∨ k = 158 ∨ k = 159 ∨ k = 160 ∨ k = 163 ∨ k = 164 ∨ k = 165 ∨ k = 166 ∨ k = 167 ∨ k = 226) s0 τ ∧ (((τ 226 = fun _ => 0) ∧ True) ∧ (True)))) 0 0 (xA h0) := by
  refine x_met hσ (by decide) (Nat.le_of_ble_eq_true rfl) ?_
  intro p e s m args below meth c hx hb hr hml hown hT hlk hnm hE hW ls hl
  have hl : lv_has ls 6 [(0, .ref (h0 + 156)), (1, .int (xJ n))] := hl
  obtain ⟨Q, eQ⟩ : ∃ Q, Q = MQ below (xQv D g h0 (fun τ => xFr (fun k => k = 130 ∨ k = 158 ∨ k = 159 ∨ k = 160 ∨ k = 163 ∨ k = 164 ∨ k = 165 ∨ k = 166 ∨ k = 167 ∨ k = 226) s0 τ ∧ (((τ 226 = fun _ => 0) ∧ True) ∧ (True)))) args s 0 0 (xA h0) := ⟨_, rfl⟩
  rw [← eQ]
  generalize hHe : ([] : List Loc) = locs at hW ⊢
  obtain ⟨H, eH⟩ : ∃ H, H = s.heap := ⟨_, rfl⟩
  rw [← eH] at hW ⊢
  have hF : xFr (fun k => k = 130 ∨ k = 158 ∨ k = 159 ∨ k = 160 ∨ k = 163 ∨ k = 164 ∨ k = 165 ∨ k = 166 ∨ k = 167 ∨ k = 226) s0 s0 := xFr.rf
  refine x_iconst hx hb dX3_countShadedMinutes_0 ?_
  refine lv_istore_n (lv' := [(2, .int (xJ 0)), (0, .ref (h0 + 156)), (1, .int (xJ n))]) hx hb dX3_countShadedMinutes_1 rfl hl (by decide) rfl (fun ls hl => ?_)
  have L2 : ∀ (fu : Nat) (i2_2 : Int) (s_2 : xS) (H : Heap) (locs : List Loc) (ls : Array Slot), (xR i2_2) → (xFr (fun k => k = 130 ∨ k = 158 ∨ k = 159 ∨ k = 160 ∨ k = 163 ∨ k = 164 ∨ k = 165 ∨ k = 166 ∨ k = 167 ∨ k = 226) s0 s_2) → (s_2 137 = fun _ => (-1)) → (s_2 142 = fun _ => (-1)) → (s_2 143 = fun _ => 0) → (0 ≤ s_2 136 7 ∧ s_2 136 7 ≤ 9999) → (0 ≤ s_2 136 8 ∧ s_2 136 8 ≤ 65535) → (s_2 145 = fun _ => 0) → (∀ j : Int, 0 ≤ j → j < 2 → xAr s_2 (s_2 138 j).toNat) → (s_2 159 = fun _ => (-1)) → (s_2 164 = fun _ => (-1)) → (s_2 165 = fun _ => 0) → (0 ≤ s_2 158 7 ∧ s_2 158 7 ≤ 9999) → (0 ≤ s_2 158 8 ∧ s_2 158 8 ≤ 65535) → (s_2 167 = fun _ => 0) → (s_2 4 = fun _ => 0) → (s_2 129 = fun _ => (-1)) → (s_2 130 3 = 0) → (s_2 109 6 = 0) → (s_2 226 = fun _ => 0) → (0 ≤ i2_2) → (100 - i2_2).toNat < fu → xW D g h0 s H locs s_2 → lv_has ls 6 [(0, .ref (h0 + 156)), (1, .int (xJ n)), (2, .int (xJ i2_2))] → W p l e { frames := 4, cells := 0, slots := 0, locals := 94 } s m args below meth c H locs 0 0 Q (F0 m 2 ls []) := by
    intro fu
    induction fu with
    | zero => intro i2_2 s_2 H locs ls ri2_2 hF_2 q2_0 q2_1 q2_2 q2_3 q2_4 q2_5 q2_6 q2_7 q2_8 q2_9 q2_10 q2_11 q2_12 q2_13 q2_14 q2_15 q2_16 q2_17 v2_0 hm; exact absurd hm (Nat.not_lt_zero _)
    | succ fu ih2 =>
      intro i2_2 s_2 H locs ls ri2_2 hF_2 q2_0 q2_1 q2_2 q2_3 q2_4 q2_5 q2_6 q2_7 q2_8 q2_9 q2_10 q2_11 q2_12 q2_13 q2_14 q2_15 q2_16 q2_17 v2_0 hm hW hl
      refine x_iload_n hx hb hl 2 rfl dX3_countShadedMinutes_2 rfl ?_
      refine x_bipush hx hb dX3_countShadedMinutes_3 (by decide) ?_
      refine x_icmp_ge (tgt := 21) hx hb ri2_2 (by decide) dX3_countShadedMinutes_5 (by decide) (fun c1 => ?_) (fun c1 => ?_)
      · skip
        refine x_aload_n hx hb hl 0 rfl dX3_countShadedMinutes_21 rfl ?_
        refine x_gor (x_runV (As := []) hx hb hml hown hT hE hW hl.1 (Or.inl (by decide)) (so_156 h0 g _) rfl cf_X3_copyOfNow wq914 wq63 wq992 (c_X3_copyOfNow l D g T h0 s_2 hW.2.1 q2_0 q2_1 q2_2 q2_3 q2_4 q2_5 q2_6 q2_7 q2_8 q2_9 q2_10 q2_11 q2_12) ⟨rfl, rfl, ⟨by decide, by decide⟩, ⟨by decide, by decide⟩⟩ rfl rfl (Nat.le_of_ble_eq_true rfl) dX3_countShadedMinutes_22) hW (fun x2 s3 H locs hp4 hW => ?_)
        obtain ⟨ex2, hp4⟩ := hp4
        subst ex2
        obtain ⟨fs3, hp4⟩ := hp4
        have hF5 := hF_2.call fs3 (fun k h => by omega)
        have q6 : s3 137 = fun _ => (-1) := (fs3 _ (by omega)).trans q2_0
        have q7 : s3 142 = fun _ => (-1) := (fs3 _ (by omega)).trans q2_1
        have q8 : s3 143 = fun _ => 0 := (fs3 _ (by omega)).trans q2_2
        have q9 : 0 ≤ s3 136 7 ∧ s3 136 7 ≤ 9999 := by rw [fs3 136 (by omega)]; exact q2_3
        have q10 : 0 ≤ s3 136 8 ∧ s3 136 8 ≤ 65535 := by rw [fs3 136 (by omega)]; exact q2_4
        have q11 : s3 145 = fun _ => 0 := (fs3 _ (by omega)).trans q2_5
        have q12 : ∀ j : Int, 0 ≤ j → j < 2 → xAr s3 (s3 138 j).toNat := by intro j h1 h2; rw [fs3 138 (by omega)]; exact (q2_6 j h1 h2).f (fs3 999997 (by omega))
        have q13 : s3 4 = fun _ => 0 := (fs3 _ (by omega)).trans q2_13
        have q14 : s3 129 = fun _ => (-1) := (fs3 _ (by omega)).trans q2_14
        have q15 : s3 130 3 = 0 := (congrFun (fs3 _ (by omega)) _).trans q2_15
        have q16 : s3 109 6 = 0 := (congrFun (fs3 _ (by omega)) _).trans q2_16
        have q17 : s3 226 = fun _ => 0 := (fs3 _ (by omega)).trans q2_17
        have ghp4 := hp4.2
        refine lv_astore_n (lv' := [(2, .ref (h0 + 158)), (0, .ref (h0 + 156)), (1, .int (xJ n))]) hx hb dX3_countShadedMinutes_25 rfl hl (by decide) rfl (fun ls hl => ?_)
        refine x_iconst hx hb dX3_countShadedMinutes_26 ?_
        refine lv_istore_n (lv' := [(3, .int (xJ 0)), (2, .ref (h0 + 158)), (0, .ref (h0 + 156)), (1, .int (xJ n))]) hx hb dX3_countShadedMinutes_27 rfl hl (by decide) rfl (fun ls hl => ?_)
        have L28 : ∀ (fu : Nat) (i3_28 : Int) (s_28 : xS) (H : Heap) (locs : List Loc) (ls : Array Slot), (xR i3_28) → (xFr (fun k => k = 130 ∨ k = 158 ∨ k = 159 ∨ k = 160 ∨ k = 163 ∨ k = 164 ∨ k = 165 ∨ k = 166 ∨ k = 167 ∨ k = 226) s0 s_28) → (s_28 137 = fun _ => (-1)) → (s_28 142 = fun _ => (-1)) → (s_28 143 = fun _ => 0) → (0 ≤ s_28 136 7 ∧ s_28 136 7 ≤ 9999) → (0 ≤ s_28 136 8 ∧ s_28 136 8 ≤ 65535) → (s_28 145 = fun _ => 0) → (∀ j : Int, 0 ≤ j → j < 2 → xAr s_28 (s_28 138 j).toNat) → (s_28 4 = fun _ => 0) → (s_28 129 = fun _ => (-1)) → (s_28 130 3 = 0) → (s_28 109 6 = 0) → (s_28 226 = fun _ => 0) → (s_28 159 = fun _ => (-1)) → (s_28 164 = fun _ => (-1)) → (s_28 165 = fun _ => 0) → (0 ≤ s_28 158 7 ∧ s_28 158 7 ≤ 9999) → (s_28 167 = fun _ => 0) → (0 ≤ i3_28) → (n - i3_28).toNat < fu → xW D g h0 s H locs s_28 → lv_has ls 6 [(0, .ref (h0 + 156)), (1, .int (xJ n)), (2, .ref (h0 + 158)), (3, .int (xJ i3_28))] → W p l e { frames := 4, cells := 0, slots := 0, locals := 94 } s m args below meth c H locs 0 0 Q (F0 m 28 ls []) := by
          intro fu
          induction fu with
          | zero => intro i3_28 s_28 H locs ls ri3_28 hF_28 q28_0 q28_1 q28_2 q28_3 q28_4 q28_5 q28_6 q28_7 q28_8 q28_9 q28_10 q28_11 q28_12 q28_13 q28_14 q28_15 q28_17 v28_0 hm; exact absurd hm (Nat.not_lt_zero _)
          | succ fu ih28 =>
            intro i3_28 s_28 H locs ls ri3_28 hF_28 q28_0 q28_1 q28_2 q28_3 q28_4 q28_5 q28_6 q28_7 q28_8 q28_9 q28_10 q28_11 q28_12 q28_13 q28_14 q28_15 q28_17 v28_0 hm hW hl
            refine x_iload_n hx hb hl 3 rfl dX3_countShadedMinutes_28 rfl ?_
            refine x_iload_n hx hb hl 1 rfl dX3_countShadedMinutes_29 rfl ?_
            refine x_icmp_ge (tgt := 115) hx hb ri3_28 rn dX3_countShadedMinutes_30 (by decide) (fun c18 => ?_) (fun c18 => ?_)
            · skip
              rw [eQ]
              exact x_vret hx hb hr hlk hW ⟨hF_28, ⟨q28_11, trivial⟩, trivial⟩ dX3_countShadedMinutes_115
            refine x_aload_n hx hb hl 0 rfl dX3_countShadedMinutes_33 rfl ?_
            refine x_get (j := 0) (v := .ref (h0 + 128)) hx hb hown hT hE hW cls_X3 (Or.inl (by decide)) (so_156 h0 g _) (by decide) rfl wq450 dX3_countShadedMinutes_34 ?_
            refine x_aload_n hx hb hl 2 rfl dX3_countShadedMinutes_37 rfl ?_
            refine x_goi (x_runVN (As := [.ref (h0 + 158)]) hx hb hml hown hT hE hW hl.1 (Or.inl (by decide)) (so_128 h0 g _) rfl cf_X0_walkOn wq995 wq76 wn993 (c_X0_walkOn l D g T h0 s_28 hW.2.1 158 xd_158 q28_12 q28_7 q28_8 q28_9 q28_15) ⟨rfl, rfl, ⟨by decide, by decide⟩, ⟨by decide, by decide⟩⟩ rfl rfl (Nat.le_of_ble_eq_true rfl) dX3_countShadedMinutes_38) hW (fun x19 s20 H locs rx19 hp21 hW => ?_)
            obtain ⟨fs20, hp21⟩ := hp21
            have hF22 := hF_28.call fs20 (fun k h => by omega)
            have q23 : s20 137 = fun _ => (-1) := (fs20 _ (by omega)).trans q28_0
            have q24 : s20 142 = fun _ => (-1) := (fs20 _ (by omega)).trans q28_1
            have q25 : s20 143 = fun _ => 0 := (fs20 _ (by omega)).trans q28_2
            have q26 : 0 ≤ s20 136 7 ∧ s20 136 7 ≤ 9999 := by rw [fs20 136 (by omega)]; exact q28_3
            have q27 : 0 ≤ s20 136 8 ∧ s20 136 8 ≤ 65535 := by rw [fs20 136 (by omega)]; exact q28_4
            have q28 : s20 145 = fun _ => 0 := (fs20 _ (by omega)).trans q28_5
            have q29 : ∀ j : Int, 0 ≤ j → j < 2 → xAr s20 (s20 138 j).toNat := by intro j h1 h2; rw [fs20 138 (by omega)]; exact (q28_6 j h1 h2).f (fs20 999997 (by omega))
            have q30 : s20 4 = fun _ => 0 := (fs20 _ (by omega)).trans q28_7
            have q31 : s20 129 = fun _ => (-1) := (fs20 _ (by omega)).trans q28_8
            have q32 : s20 109 6 = 0 := (congrFun (fs20 _ (by omega)) _).trans q28_10
            have q33 : s20 226 = fun _ => 0 := (fs20 _ (by omega)).trans q28_11
            have q34 : s20 159 = fun _ => (-1) := (fs20 _ (by omega)).trans q28_12
            have q35 : s20 164 = fun _ => (-1) := (fs20 _ (by omega)).trans q28_13
            have q36 : s20 165 = fun _ => 0 := (fs20 _ (by omega)).trans q28_14
            have q37 : s20 167 = fun _ => 0 := (fs20 _ (by omega)).trans q28_17
            have ghp21 := hp21.2
            refine x_if_eq (tgt := 115) hx hb rx19 dX3_countShadedMinutes_41 (by decide) (fun c38 => ?_) (fun c38 => ?_)
            · skip
              rw [eQ]
              exact x_vret hx hb hr hlk hW ⟨hF22, ⟨q33, trivial⟩, trivial⟩ dX3_countShadedMinutes_115
            refine x_iconst hx hb dX3_countShadedMinutes_44 ?_
            refine lv_istore (lv' := [(4, .int (xJ 0)), (0, .ref (h0 + 156)), (1, .int (xJ n)), (2, .ref (h0 + 158)), (3, .int (xJ i3_28))]) hx hb dX3_countShadedMinutes_45 hl (by decide) rfl (fun ls hl => ?_)
            refine x_iload hx hb hl 0 rfl dX3_countShadedMinutes_47 ?_
            refine x_aload_n hx hb hl 1 rfl dX3_countShadedMinutes_49 rfl ?_
            refine x_get (j := 0) (v := .ref (h0 + 128)) hx hb hown hT hE hW cls_X3 (Or.inl (by decide)) (so_156 h0 g _) (by decide) rfl wq450 dX3_countShadedMinutes_50 ?_
            refine x_getN (j := 3) (v := .ref (h0 + 130)) hx hb hown hT hE hW cls_X0 (Or.inl (by decide)) (so_128 h0 g _) (by decide) rfl wn359 dX3_countShadedMinutes_53 ?_
            refine x_getN (j := 3) (v := .int (xJ (s20 130 3))) hx hb hown hT hE hW cls_X7 (Or.inl (by decide)) (so_130 h0 g _) (by decide) rfl wn339 dX3_countShadedMinutes_56 ?_
            refine x_rd hW (fun x39 ex39 rx39 => ?_)
            have fx39 : x39 = 0 := by rw [ex39, hp21.1.1]
            refine x_icmp_ge (tgt := 109) hx hb (by decide) rx39 dX3_countShadedMinutes_59 (by decide) (fun c40 => ?_) (fun c40 => False.elim (by omega))
            refine x_iinc (lv' := [(3, .int (xJ (i3_28 + 1))), (4, .int (xJ 0)), (0, .ref (h0 + 156)), (1, .int (xJ n)), (2, .ref (h0 + 158))]) hx hb hl 4 rfl dX3_countShadedMinutes_109 (by decide) rfl (fun ls hl => ?_)
            refine lv_goto (tgt := 28) hx hb dX3_countShadedMinutes_112 (by decide) ?_
            exact ih28 (i3_28 + 1) s20 H locs ls (by omega) hF22 q23 q24 q25 q26 q27 q28 q29 q30 q31 hp21.1.1 q32 q33 q34 q35 q36 hp21.1.2.1 q37 (by omega) (by omega) hW (lv_sub hl [2, 3, 4, 0] rfl)
        exact L28 ((n - 0 : Int).toNat + 1) 0 s3 H locs ls (by decide) hF5 q6 q7 q8 q9 q10 q11 q12 q13 q14 q15 q16 q17 hp4.1.1 hp4.1.2.1 hp4.1.2.2.1 hp4.1.2.2.2.1 hp4.1.2.2.2.2.2.1 (by omega) (Nat.lt_succ_self _) hW (lv_sub hl [2, 3, 1, 0] rfl)
      refine x_aload_n hx hb hl 0 rfl dX3_countShadedMinutes_8 rfl ?_
      refine x_get (j := 7) (v := .ref (h0 + 226)) hx hb hown hT hE hW cls_X3 (Or.inl (by decide)) (so_156 h0 g _) (by decide) rfl wq459 dX3_countShadedMinutes_9 ?_
      refine x_iload_n hx hb hl 2 rfl dX3_countShadedMinutes_12 rfl ?_
      refine x_iconst hx hb dX3_countShadedMinutes_13 ?_
      refine x_iast hx hb hE hW (by decide) (fun σ => sa_226 h0 g σ) (by omega) (by decide) (by decide) dX3_countShadedMinutes_14 (fun H locs s41 es41 hW => ?_)
      have q42 : s41 137 = fun _ => (-1) := by rw [es41, xU_k _ _ _ (by omega)]; exact q2_0
      have q43 : s41 142 = fun _ => (-1) := by rw [es41, xU_k _ _ _ (by omega)]; exact q2_1
      have q44 : s41 143 = fun _ => 0 := by rw [es41, xU_k _ _ _ (by omega)]; exact q2_2
      have q45 : 0 ≤ s41 136 7 ∧ s41 136 7 ≤ 9999 := by rw [es41, xU_k _ _ _ (by omega)]; exact q2_3
      have q46 : 0 ≤ s41 136 8 ∧ s41 136 8 ≤ 65535 := by rw [es41, xU_k _ _ _ (by omega)]; exact q2_4
      have q47 : s41 145 = fun _ => 0 := by rw [es41, xU_k _ _ _ (by omega)]; exact q2_5
      have q48 : ∀ j : Int, 0 ≤ j → j < 2 → xAr s41 (s41 138 j).toNat := by intro j h1 h2; rw [show s41 138 = s_2 138 from by rw [es41, xU_k _ _ _ (by omega)]]; exact (q2_6 j h1 h2).f (by rw [es41, xU_k _ _ _ (by omega)])
      have q49 : s41 159 = fun _ => (-1) := by rw [es41, xU_k _ _ _ (by omega)]; exact q2_7
      have q50 : s41 164 = fun _ => (-1) := by rw [es41, xU_k _ _ _ (by omega)]; exact q2_8
      have q51 : s41 165 = fun _ => 0 := by rw [es41, xU_k _ _ _ (by omega)]; exact q2_9
      have q52 : 0 ≤ s41 158 7 ∧ s41 158 7 ≤ 9999 := by rw [es41, xU_k _ _ _ (by omega)]; exact q2_10
      have q53 : 0 ≤ s41 158 8 ∧ s41 158 8 ≤ 65535 := by rw [es41, xU_k _ _ _ (by omega)]; exact q2_11
      have q54 : s41 167 = fun _ => 0 := by rw [es41, xU_k _ _ _ (by omega)]; exact q2_12
      have q55 : s41 4 = fun _ => 0 := by rw [es41, xU_k _ _ _ (by omega)]; exact q2_13
      have q56 : s41 129 = fun _ => (-1) := by rw [es41, xU_k _ _ _ (by omega)]; exact q2_14
      have q57 : s41 130 3 = 0 := by rw [es41, xU_k _ _ _ (by omega)]; exact q2_15
      have q58 : s41 109 6 = 0 := by rw [es41, xU_k _ _ _ (by omega)]; exact q2_16
      have q59 : s41 226 = fun _ => 0 := by rw [es41]; exact xU_c q2_17
      have hF60 := hF_2.put es41 (by omega)
      refine x_iinc (lv' := [(2, .int (xJ (i2_2 + 1))), (0, .ref (h0 + 156)), (1, .int (xJ n))]) hx hb hl 2 rfl dX3_countShadedMinutes_15 (by decide) rfl (fun ls hl => ?_)
      refine lv_goto (tgt := 2) hx hb dX3_countShadedMinutes_18 (by decide) ?_
      exact ih2 (i2_2 + 1) s41 H locs ls (by omega) hF60 q42 q43 q44 q45 q46 q47 q48 q49 q50 q51 q52 q53 q54 q55 q56 q57 q58 q59 (by omega) (by omega) hW (lv_sub hl [1, 2, 0] rfl)
  exact L2 ((100 - 0 : Int).toNat + 1) 0 s0 H locs ls (by decide) hF p0 p1 p2 p3 p4 p5 p6 p7 p8 p9 p10 p11 p12 p13 p14 p15 p16 p17 (by omega) (Nat.lt_succ_self _) hW (lv_sub hl [1, 2, 0] rfl)
set_option maxHeartbeats 4000000 in
set_option maxRecDepth 100000 in
theorem c_X3_howManyNeverShaded (l : Launch) (D : va_G) (g : xG) (T : Nat × Nat × Nat) (h0 : Nat) (s0 : xS) (hσ : xRR s0) (p0 : s0 226 = fun _ => 0) (p1 : s0 4 = fun _ => 0) : Met l yX3_howManyNeverShaded (xws yX3_howManyNeverShaded cX3_howManyNeverShaded 3 (some .int)) { frames := 1, cells := 0, slots := 0, locals := 21 } (xP [.ref (h0 + 156)] D g T h0 s0) (xQi D g h0 (fun r τ => s0 = τ ∧ (r = 100))) 0 0 (xA h0) := by
  refine x_met hσ (by decide) (Nat.le_of_ble_eq_true rfl) ?_
  intro p e s m args below meth c hx hb hr hml hown hT hlk hnm hE hW ls hl
  have hl : lv_has ls 3 [(0, .ref (h0 + 156))] := hl
  obtain ⟨Q, eQ⟩ : ∃ Q, Q = MQ below (xQi D g h0 (fun r τ => s0 = τ ∧ (r = 100))) args s 0 0 (xA h0) := ⟨_, rfl⟩
  rw [← eQ]
  generalize hHe : ([] : List Loc) = locs at hW ⊢
  obtain ⟨H, eH⟩ : ∃ H, H = s.heap := ⟨_, rfl⟩
  rw [← eH] at hW ⊢
  refine x_iconst hx hb dX3_howManyNeverShaded_0 ?_
  refine lv_istore_n (lv' := [(1, .int (xJ 0)), (0, .ref (h0 + 156))]) hx hb dX3_howManyNeverShaded_1 rfl hl (by decide) rfl (fun ls hl => ?_)
  refine x_iconst hx hb dX3_howManyNeverShaded_2 ?_
  refine lv_istore_n (lv' := [(2, .int (xJ 0)), (1, .int (xJ 0)), (0, .ref (h0 + 156))]) hx hb dX3_howManyNeverShaded_3 rfl hl (by decide) rfl (fun ls hl => ?_)
  have L4 : ∀ (fu : Nat) (i1_4 : Int) (i2_4 : Int) (H : Heap) (locs : List Loc) (ls : Array Slot), (xR i1_4) → (xR i2_4) → (0 ≤ i2_4) → (i1_4 = i2_4) → (i2_4 ≤ 100) → (100 - i2_4).toNat < fu → xW D g h0 s H locs s0 → lv_has ls 3 [(0, .ref (h0 + 156)), (1, .int (xJ i1_4)), (2, .int (xJ i2_4))] → W p l e { frames := 1, cells := 0, slots := 0, locals := 21 } s m args below meth c H locs 0 0 Q (F0 m 4 ls []) := by
    intro fu
    induction fu with
    | zero => intro i1_4 i2_4 H locs ls ri1_4 ri2_4 v4_0 v4_1 v4_2 hm; exact absurd hm (Nat.not_lt_zero _)
    | succ fu ih4 =>
      intro i1_4 i2_4 H locs ls ri1_4 ri2_4 v4_0 v4_1 v4_2 hm hW hl
      refine x_iload_n hx hb hl 2 rfl dX3_howManyNeverShaded_4 rfl ?_
      refine x_bipush hx hb dX3_howManyNeverShaded_5 (by decide) ?_
      refine x_icmp_ge (tgt := 48) hx hb ri2_4 (by decide) dX3_howManyNeverShaded_7 (by decide) (fun c1 => ?_) (fun c1 => ?_)
      · skip
        refine x_iload_n hx hb hl 1 rfl dX3_howManyNeverShaded_48 rfl ?_
        rw [eQ]
        exact x_iret hx hb hr hlk hW ri1_4 ⟨rfl, by omega⟩ dX3_howManyNeverShaded_49
      refine x_iload_n hx hb hl 1 rfl dX3_howManyNeverShaded_10 rfl ?_
      refine x_aload_n hx hb hl 0 rfl dX3_howManyNeverShaded_11 rfl ?_
      refine x_get (j := 0) (v := .ref (h0 + 128)) hx hb hown hT hE hW cls_X3 (Or.inl (by decide)) (so_156 h0 g _) (by decide) rfl wq450 dX3_howManyNeverShaded_12 ?_
      refine x_getN (j := 0) (v := .ref (h0 + 3)) hx hb hown hT hE hW cls_X0 (Or.inl (by decide)) (so_128 h0 g _) (by decide) rfl wn353 dX3_howManyNeverShaded_15 ?_
      refine x_iload_n hx hb hl 2 rfl dX3_howManyNeverShaded_18 rfl ?_
      refine x_goi (x_runVN (As := [.int (xJ i2_4)]) hx hb hml hown hT hE hW hl.1 (Or.inl (by decide)) (so_3 h0 g _) rfl cf_X6_kindAt wq619 wq10 wn1054 (c_X6_kindAt l D g T h0 s0 hW.2.1 i2_4 ri2_4 p1) ⟨rfl, rfl, ⟨by decide, by decide⟩, ⟨by decide, by decide⟩⟩ rfl rfl (Nat.le_of_ble_eq_true rfl) dX3_howManyNeverShaded_19) hW (fun x2 s3 H locs rx2 hp4 hW => ?_)
      obtain ⟨es3, hp4⟩ := hp4
      subst es3
      have ghp4 := hp4
      refine x_iconst hx hb dX3_howManyNeverShaded_22 ?_
      refine x_icmp_eq (tgt := 39) hx hb rx2 (by decide) dX3_howManyNeverShaded_23 (by decide) (fun c5 => False.elim (by omega)) (fun c5 => ?_)
      refine x_aload_n hx hb hl 0 rfl dX3_howManyNeverShaded_26 rfl ?_
      refine x_get (j := 7) (v := .ref (h0 + 226)) hx hb hown hT hE hW cls_X3 (Or.inl (by decide)) (so_156 h0 g _) (by decide) rfl wq459 dX3_howManyNeverShaded_27 ?_
      refine x_iload_n hx hb hl 2 rfl dX3_howManyNeverShaded_30 rfl ?_
      refine x_iald hx hb hE hW (Or.inl (by decide)) (sa_226 h0 g _) (by omega) (by decide) dX3_howManyNeverShaded_31 ?_
      refine x_rd hW (fun x6 ex6 rx6 => ?_)
      have fx6 : x6 = 0 := by rw [ex6, p0]
      refine x_if_ne (tgt := 39) hx hb rx6 dX3_howManyNeverShaded_32 (by decide) (fun c7 => False.elim (by omega)) (fun c7 => ?_)
      refine x_iconst hx hb dX3_howManyNeverShaded_35 ?_
      refine lv_goto (tgt := 40) hx hb dX3_howManyNeverShaded_36 (by decide) ?_
      refine x_iadd hx hb dX3_howManyNeverShaded_40 ?_
      refine x_nm (fun x8 ex8 => ?_)
      refine lv_istore_n (lv' := [(1, .int (xJ x8)), (0, .ref (h0 + 156)), (2, .int (xJ i2_4))]) hx hb dX3_howManyNeverShaded_41 rfl hl (by decide) rfl (fun ls hl => ?_)
      refine x_iinc (lv' := [(2, .int (xJ (i2_4 + 1))), (1, .int (xJ x8)), (0, .ref (h0 + 156))]) hx hb hl 2 rfl dX3_howManyNeverShaded_42 (by decide) rfl (fun ls hl => ?_)
      refine lv_goto (tgt := 4) hx hb dX3_howManyNeverShaded_45 (by decide) ?_
      exact ih4 x8 (i2_4 + 1) H locs ls (by omega) (by omega) (by omega) (by omega) (by omega) (by omega) hW (lv_sub hl [2, 1, 0] rfl)
  exact L4 ((100 - 0 : Int).toNat + 1) 0 0 H locs ls (by decide) (by decide) (by omega) (by omega) (by omega) (Nat.lt_succ_self _) hW (lv_sub hl [2, 1, 0] rfl)
set_option maxHeartbeats 4000000 in
set_option maxRecDepth 100000 in
theorem c_X3_mostShaded (l : Launch) (D : va_G) (g : xG) (T : Nat × Nat × Nat) (h0 : Nat) (s0 : xS) (hσ : xRR s0) (p0 : s0 226 = fun _ => 0) (p1 : s0 4 = fun _ => 0) : Met l yX3_mostShaded (xws yX3_mostShaded cX3_mostShaded 3 (some .int)) { frames := 1, cells := 0, slots := 0, locals := 21 } (xP [.ref (h0 + 156)] D g T h0 s0) (xQi D g h0 (fun r τ => s0 = τ ∧ (r = 0))) 0 0 (xA h0) := by
  refine x_met hσ (by decide) (Nat.le_of_ble_eq_true rfl) ?_
  intro p e s m args below meth c hx hb hr hml hown hT hlk hnm hE hW ls hl
  have hl : lv_has ls 3 [(0, .ref (h0 + 156))] := hl
  obtain ⟨Q, eQ⟩ : ∃ Q, Q = MQ below (xQi D g h0 (fun r τ => s0 = τ ∧ (r = 0))) args s 0 0 (xA h0) := ⟨_, rfl⟩
  rw [← eQ]
  generalize hHe : ([] : List Loc) = locs at hW ⊢
  obtain ⟨H, eH⟩ : ∃ H, H = s.heap := ⟨_, rfl⟩
  rw [← eH] at hW ⊢
  refine x_iconst hx hb dX3_mostShaded_0 ?_
  refine lv_istore_n (lv' := [(1, .int (xJ (-1))), (0, .ref (h0 + 156))]) hx hb dX3_mostShaded_1 rfl hl (by decide) rfl (fun ls hl => ?_)
  refine x_iconst hx hb dX3_mostShaded_2 ?_
  refine lv_istore_n (lv' := [(2, .int (xJ 0)), (1, .int (xJ (-1))), (0, .ref (h0 + 156))]) hx hb dX3_mostShaded_3 rfl hl (by decide) rfl (fun ls hl => ?_)
  have L4 : ∀ (fu : Nat) (i1_4 : Int) (i2_4 : Int) (H : Heap) (locs : List Loc) (ls : Array Slot), (xR i1_4) → (xR i2_4) → (0 ≤ i2_4) → ((i2_4 = 0 ∧ i1_4 = -1) ∨ (0 < i2_4 ∧ i1_4 = 0)) → (i2_4 ≤ 100) → (100 - i2_4).toNat < fu → xW D g h0 s H locs s0 → lv_has ls 3 [(0, .ref (h0 + 156)), (1, .int (xJ i1_4)), (2, .int (xJ i2_4))] → W p l e { frames := 1, cells := 0, slots := 0, locals := 21 } s m args below meth c H locs 0 0 Q (F0 m 4 ls []) := by
    intro fu
    induction fu with
    | zero => intro i1_4 i2_4 H locs ls ri1_4 ri2_4 v4_0 v4_1 v4_2 hm; exact absurd hm (Nat.not_lt_zero _)
    | succ fu ih4 =>
      intro i1_4 i2_4 H locs ls ri1_4 ri2_4 v4_0 v4_1 v4_2 hm hW hl
      refine x_iload_n hx hb hl 2 rfl dX3_mostShaded_4 rfl ?_
      refine x_bipush hx hb dX3_mostShaded_5 (by decide) ?_
      refine x_icmp_ge (tgt := 56) hx hb ri2_4 (by decide) dX3_mostShaded_7 (by decide) (fun c1 => ?_) (fun c1 => ?_)
      · skip
        refine x_iload_n hx hb hl 1 rfl dX3_mostShaded_56 rfl ?_
        rw [eQ]
        exact x_iret hx hb hr hlk hW ri1_4 ⟨rfl, by omega⟩ dX3_mostShaded_57
      refine x_aload_n hx hb hl 0 rfl dX3_mostShaded_10 rfl ?_
      refine x_get (j := 0) (v := .ref (h0 + 128)) hx hb hown hT hE hW cls_X3 (Or.inl (by decide)) (so_156 h0 g _) (by decide) rfl wq450 dX3_mostShaded_11 ?_
      refine x_getN (j := 0) (v := .ref (h0 + 3)) hx hb hown hT hE hW cls_X0 (Or.inl (by decide)) (so_128 h0 g _) (by decide) rfl wn353 dX3_mostShaded_14 ?_
      refine x_iload_n hx hb hl 2 rfl dX3_mostShaded_17 rfl ?_
      refine x_goi (x_runVN (As := [.int (xJ i2_4)]) hx hb hml hown hT hE hW hl.1 (Or.inl (by decide)) (so_3 h0 g _) rfl cf_X6_kindAt wq619 wq10 wn1054 (c_X6_kindAt l D g T h0 s0 hW.2.1 i2_4 ri2_4 p1) ⟨rfl, rfl, ⟨by decide, by decide⟩, ⟨by decide, by decide⟩⟩ rfl rfl (Nat.le_of_ble_eq_true rfl) dX3_mostShaded_18) hW (fun x2 s3 H locs rx2 hp4 hW => ?_)
      obtain ⟨es3, hp4⟩ := hp4
      subst es3
      have ghp4 := hp4
      refine x_iconst hx hb dX3_mostShaded_21 ?_
      refine x_icmp_ne (tgt := 28) hx hb rx2 (by decide) dX3_mostShaded_22 (by decide) (fun c5 => ?_) (fun c5 => False.elim (by omega))
      refine x_iload_n hx hb hl 1 rfl dX3_mostShaded_28 rfl ?_
      refine x_iconst hx hb dX3_mostShaded_29 ?_
      refine x_icmp_eq (tgt := 48) hx hb ri1_4 (by decide) dX3_mostShaded_30 (by decide) (fun c6 => ?_) (fun c6 => ?_)
      · skip
        refine x_iload_n hx hb hl 2 rfl dX3_mostShaded_48 rfl ?_
        refine lv_istore_n (lv' := [(1, .int (xJ i2_4)), (0, .ref (h0 + 156)), (2, .int (xJ i2_4))]) hx hb dX3_mostShaded_49 rfl hl (by decide) rfl (fun ls hl => ?_)
        refine x_iinc (lv' := [(2, .int (xJ (i2_4 + 1))), (1, .int (xJ i2_4)), (0, .ref (h0 + 156))]) hx hb hl 2 rfl dX3_mostShaded_50 (by decide) rfl (fun ls hl => ?_)
        refine lv_goto (tgt := 4) hx hb dX3_mostShaded_53 (by decide) ?_
        exact ih4 i2_4 (i2_4 + 1) H locs ls ri2_4 (by omega) (by omega) (by omega) (by omega) (by omega) hW (lv_sub hl [2, 1, 0] rfl)
      refine x_aload_n hx hb hl 0 rfl dX3_mostShaded_33 rfl ?_
      refine x_get (j := 7) (v := .ref (h0 + 226)) hx hb hown hT hE hW cls_X3 (Or.inl (by decide)) (so_156 h0 g _) (by decide) rfl wq459 dX3_mostShaded_34 ?_
      refine x_iload_n hx hb hl 2 rfl dX3_mostShaded_37 rfl ?_
      refine x_iald hx hb hE hW (Or.inl (by decide)) (sa_226 h0 g _) (by omega) (by decide) dX3_mostShaded_38 ?_
      refine x_rd hW (fun x7 ex7 rx7 => ?_)
      have fx7 : x7 = 0 := by rw [ex7, p0]
      refine x_aload_n hx hb hl 0 rfl dX3_mostShaded_39 rfl ?_
      refine x_get (j := 7) (v := .ref (h0 + 226)) hx hb hown hT hE hW cls_X3 (Or.inl (by decide)) (so_156 h0 g _) (by decide) rfl wq459 dX3_mostShaded_40 ?_
      refine x_iload_n hx hb hl 1 rfl dX3_mostShaded_43 rfl ?_
      refine x_iald hx hb hE hW (Or.inl (by decide)) (sa_226 h0 g _) (by omega) (by decide) dX3_mostShaded_44 ?_
      refine x_rd hW (fun x8 ex8 rx8 => ?_)
      have fx8 : x8 = 0 := by rw [ex8, p0]
      refine x_icmp_le (tgt := 50) hx hb rx7 rx8 dX3_mostShaded_45 (by decide) (fun c9 => ?_) (fun c9 => False.elim (by omega))
      refine x_iinc (lv' := [(2, .int (xJ (i2_4 + 1))), (0, .ref (h0 + 156)), (1, .int (xJ i1_4))]) hx hb hl 2 rfl dX3_mostShaded_50 (by decide) rfl (fun ls hl => ?_)
      refine lv_goto (tgt := 4) hx hb dX3_mostShaded_53 (by decide) ?_
      exact ih4 i1_4 (i2_4 + 1) H locs ls ri1_4 (by omega) (by omega) (by omega) (by omega) (by omega) hW (lv_sub hl [1, 2, 0] rfl)
  exact L4 ((100 - 0 : Int).toNat + 1) (-1) 0 H locs ls (by decide) (by decide) (by omega) (by omega) (by omega) (Nat.lt_succ_self _) hW (lv_sub hl [2, 1, 0] rfl)
set_option maxHeartbeats 4000000 in
set_option maxRecDepth 100000 in
theorem c_X2_setFelon (l : Launch) (D : va_G) (g : xG) (T : Nat × Nat × Nat) (h0 : Nat) (s0 : xS) (hσ : xRR s0) (d : Nat) (hd : xDay d) (f : Int) (rf : xR f) (x : Int) (rx : xR x) (w : Int) (rw : xR w) : Met l yX2_setFelon (xws yX2_setFelon cX2_setFelon 4 none) { frames := 0, cells := 0, slots := 0, locals := 0 } (xP [.ref (h0 + d), .int (xJ f), .int (xJ x), .int (xJ w)] D g T h0 s0) (xQv D g h0 (fun τ => xFr (fun k => k = d + 6 ∨ k = d + 7 ∨ k = d + 8 ∨ k = d + 9) s0 τ ∧ (True))) 0 0 (xA h0) := by
  refine x_met hσ (by decide) (Nat.le_of_ble_eq_true rfl) ?_
  intro p e s m args below meth c hx hb hr hml hown hT hlk hnm hE hW ls hl
  have hl : lv_has ls 4 [(0, .ref (h0 + d)), (1, .int (xJ f)), (2, .int (xJ x)), (3, .int (xJ w))] := hl
  obtain ⟨Q, eQ⟩ : ∃ Q, Q = MQ below (xQv D g h0 (fun τ => xFr (fun k => k = d + 6 ∨ k = d + 7 ∨ k = d + 8 ∨ k = d + 9) s0 τ ∧ (True))) args s 0 0 (xA h0) := ⟨_, rfl⟩
  rw [← eQ]
  generalize hHe : ([] : List Loc) = locs at hW ⊢
  obtain ⟨H, eH⟩ : ∃ H, H = s.heap := ⟨_, rfl⟩
  rw [← eH] at hW ⊢
  have hF : xFr (fun k => k = d + 6 ∨ k = d + 7 ∨ k = d + 8 ∨ k = d + 9) s0 s0 := xFr.rf
  have hbd : (136 ≤ d ∧ d < 209) ∧ (d ≤ 146 ∨ 158 ≤ d) := by unfold xDay at hd; omega
  refine x_iload_n hx hb hl 1 rfl dX2_setFelon_0 rfl ?_
  refine x_if_lt (tgt := 38) hx hb rf dX2_setFelon_1 (by decide) (fun c1 => ?_) (fun c1 => ?_)
  · skip
    rw [eQ]
    exact x_vret hx hb hr hlk hW ⟨hF, trivial⟩ dX2_setFelon_38
  refine x_iload_n hx hb hl 1 rfl dX2_setFelon_4 rfl ?_
  refine x_bipush hx hb dX2_setFelon_5 (by decide) ?_
  refine x_icmp_ge (tgt := 38) hx hb rf (by decide) dX2_setFelon_7 (by decide) (fun c2 => ?_) (fun c2 => ?_)
  · skip
    rw [eQ]
    exact x_vret hx hb hr hlk hW ⟨hF, trivial⟩ dX2_setFelon_38
  refine x_aload_n hx hb hl 0 rfl dX2_setFelon_10 rfl ?_
  refine x_get (j := 3) (v := .ref (h0 + (d + 6))) hx hb hown hT hE hW cls_X2 (Or.inl (by omega)) (so_day0 h0 g hd _) (by decide) rfl wq388 dX2_setFelon_11 ?_
  refine x_iload_n hx hb hl 1 rfl dX2_setFelon_14 rfl ?_
  refine x_iload_n hx hb hl 2 rfl dX2_setFelon_15 rfl ?_
  refine x_iast hx hb hE hW (by omega) (fun σ => sa_day6 h0 g hd σ) (by omega) (by decide) rx dX2_setFelon_16 (fun H locs s3 es3 hW => ?_)
  have hF4 := hF.put es3 (by omega)
  refine x_aload_n hx hb hl 0 rfl dX2_setFelon_17 rfl ?_
  refine x_get (j := 4) (v := .ref (h0 + (d + 7))) hx hb hown hT hE hW cls_X2 (Or.inl (by omega)) (so_day0 h0 g hd _) (by decide) rfl wq392 dX2_setFelon_18 ?_
  refine x_iload_n hx hb hl 1 rfl dX2_setFelon_21 rfl ?_
  refine x_iload_n hx hb hl 3 rfl dX2_setFelon_22 rfl ?_
  refine x_iast hx hb hE hW (by omega) (fun σ => sa_day7 h0 g hd σ) (by omega) (by decide) rw dX2_setFelon_23 (fun H locs s5 es5 hW => ?_)
  have hF6 := hF4.put es5 (by omega)
  refine x_aload_n hx hb hl 0 rfl dX2_setFelon_24 rfl ?_
  refine x_get (j := 5) (v := .ref (h0 + (d + 8))) hx hb hown hT hE hW cls_X2 (Or.inl (by omega)) (so_day0 h0 g hd _) (by decide) rfl wq395 dX2_setFelon_25 ?_
  refine x_iload_n hx hb hl 1 rfl dX2_setFelon_28 rfl ?_
  refine x_iconst hx hb dX2_setFelon_29 ?_
  refine x_iast hx hb hE hW (by omega) (fun σ => sa_day8 h0 g hd σ) (by omega) (by decide) (by decide) dX2_setFelon_30 (fun H locs s7 es7 hW => ?_)
  have hF8 := hF6.put es7 (by omega)
  refine x_aload_n hx hb hl 0 rfl dX2_setFelon_31 rfl ?_
  refine x_get (j := 6) (v := .ref (h0 + (d + 9))) hx hb hown hT hE hW cls_X2 (Or.inl (by omega)) (so_day0 h0 g hd _) (by decide) rfl wq398 dX2_setFelon_32 ?_
  refine x_iload_n hx hb hl 1 rfl dX2_setFelon_35 rfl ?_
  refine x_iconst hx hb dX2_setFelon_36 ?_
  refine x_zast hx hb hE hW (by omega) (fun σ => sa_day9 h0 g hd σ) (by omega) (by decide) (by omega) dX2_setFelon_37 (fun H locs s9 es9 hW => ?_)
  have hF10 := hF8.put es9 (by omega)
  rw [eQ]
  exact x_vret hx hb hr hlk hW ⟨hF10, trivial⟩ dX2_setFelon_38
set_option maxHeartbeats 4000000 in
set_option maxRecDepth 100000 in
theorem c_X2_stepsLeft (l : Launch) (D : va_G) (g : xG) (T : Nat × Nat × Nat) (h0 : Nat) (s0 : xS) (hσ : xRR s0) (j : Int) (rj : xR j) (p0 : ∀ j : Int, 0 ≤ j → j < 2 → s0 138 j = 139 ∨ s0 138 j = 140) (p1 : s0 141 = fun _ => 0) : Met l yX2_stepsLeft (xws yX2_stepsLeft cX2_stepsLeft 2 (some .int)) { frames := 0, cells := 0, slots := 0, locals := 0 } (xP [.ref (h0 + 136), .int (xJ j)] D g T h0 s0) (xQi D g h0 (fun r τ => s0 = τ ∧ (r = 0))) 0 0 (xA h0) := by
  refine x_met hσ (by decide) (Nat.le_of_ble_eq_true rfl) ?_
  intro p e s m args below meth c hx hb hr hml hown hT hlk hnm hE hW ls hl
  have hl : lv_has ls 2 [(0, .ref (h0 + 136)), (1, .int (xJ j))] := hl
  obtain ⟨Q, eQ⟩ : ∃ Q, Q = MQ below (xQi D g h0 (fun r τ => s0 = τ ∧ (r = 0))) args s 0 0 (xA h0) := ⟨_, rfl⟩
  rw [← eQ]
  generalize hHe : ([] : List Loc) = locs at hW ⊢
  obtain ⟨H, eH⟩ : ∃ H, H = s.heap := ⟨_, rfl⟩
  rw [← eH] at hW ⊢
  refine x_iload_n hx hb hl 1 rfl dX2_stepsLeft_0 rfl ?_
  refine x_if_lt (tgt := 26) hx hb rj dX2_stepsLeft_1 (by decide) (fun c1 => ?_) (fun c1 => ?_)
  · skip
    refine x_iconst hx hb dX2_stepsLeft_26 ?_
    rw [eQ]
    exact x_iret hx hb hr hlk hW (by decide) ⟨rfl, by omega⟩ dX2_stepsLeft_27
  refine x_iload_n hx hb hl 1 rfl dX2_stepsLeft_4 rfl ?_
  refine x_iconst hx hb dX2_stepsLeft_5 ?_
  refine x_icmp_ge (tgt := 26) hx hb rj (by decide) dX2_stepsLeft_6 (by decide) (fun c2 => ?_) (fun c2 => ?_)
  · skip
    refine x_iconst hx hb dX2_stepsLeft_26 ?_
    rw [eQ]
    exact x_iret hx hb hr hlk hW (by decide) ⟨rfl, by omega⟩ dX2_stepsLeft_27
  refine x_aload_n hx hb hl 0 rfl dX2_stepsLeft_9 rfl ?_
  refine x_get (j := 1) (v := .ref (h0 + 138)) hx hb hown hT hE hW cls_X2 (Or.inl (by decide)) (so_136 h0 g _) (by decide) rfl wq386 dX2_stepsLeft_10 ?_
  refine x_iload_n hx hb hl 1 rfl dX2_stepsLeft_13 rfl ?_
  refine x_aaldR (t0 := 3) (n := 2) (r := (s0 138 j).toNat) hx hb hE hW (by decide) rfl rfl (sg_138 h0 g _) (by omega) (by decide) (by rw [xrow_day xd_136, Int.toNat_of_nonneg (by omega)]) dX2_stepsLeft_14 ?_
  obtain ⟨v3, ev3, rv3⟩ : ∃ v : Int, v = s0 138 j ∧ xR v := ⟨_, rfl, hW.2.1 _ _⟩
  rw [← ev3]
  refine x_alen0 hx hb hE hW (by rw [ev3]; exact p0 _ (by omega) (by omega)) dX2_stepsLeft_15 ?_
  refine x_aload_n hx hb hl 0 rfl dX2_stepsLeft_16 rfl ?_
  refine x_get (j := 2) (v := .ref (h0 + 141)) hx hb hown hT hE hW cls_X2 (Or.inl (by decide)) (so_136 h0 g _) (by decide) rfl wq387 dX2_stepsLeft_17 ?_
  refine x_iload_n hx hb hl 1 rfl dX2_stepsLeft_20 rfl ?_
  refine x_iald hx hb hE hW (Or.inl (by decide)) (sa_141 h0 g _) (by omega) (by decide) dX2_stepsLeft_21 ?_
  refine x_rd hW (fun x4 ex4 rx4 => ?_)
  have fx4 : x4 = 0 := by rw [ex4, p1]
  refine x_isub hx hb dX2_stepsLeft_22 ?_
  refine lv_goto (tgt := 27) hx hb dX2_stepsLeft_23 (by decide) ?_
  rw [eQ]
  exact x_iret hx hb hr hlk hW (by omega) ⟨rfl, by omega⟩ dX2_stepsLeft_27
set_option maxHeartbeats 4000000 in
set_option maxRecDepth 100000 in
theorem c_X8_putNumber (l : Launch) (D : va_G) (g : xG) (T : Nat × Nat × Nat) (h0 : Nat) (s0 : xS) (hσ : xRR s0) (v : Int) (rv : xR v) (zl : Int) (hz : 0 ≤ zl ∧ zl ≤ 256) (p0 : s0 1 1 = zl) : Met l yX8_putNumber (xws yX8_putNumber cX8_putNumber 3 none) { frames := 0, cells := 0, slots := 0, locals := 0 } (xP [.ref (h0 + 1), .int (xJ v)] D g T h0 s0) (xQv D g h0 (fun τ => xFr (fun k => k = 1 ∨ k = 2) s0 τ ∧ (((τ 1 1 = zl + 4) ∧ True) ∧ (True)))) 0 0 (xA h0) := by
  refine x_met hσ (by decide) (Nat.le_of_ble_eq_true rfl) ?_
  intro p e s m args below meth c hx hb hr hml hown hT hlk hnm hE hW ls hl
  have hl : lv_has ls 3 [(0, .ref (h0 + 1)), (1, .int (xJ v))] := hl
  obtain ⟨Q, eQ⟩ : ∃ Q, Q = MQ below (xQv D g h0 (fun τ => xFr (fun k => k = 1 ∨ k = 2) s0 τ ∧ (((τ 1 1 = zl + 4) ∧ True) ∧ (True)))) args s 0 0 (xA h0) := ⟨_, rfl⟩
  rw [← eQ]
  generalize hHe : ([] : List Loc) = locs at hW ⊢
  obtain ⟨H, eH⟩ : ∃ H, H = s.heap := ⟨_, rfl⟩
  rw [← eH] at hW ⊢
  have hF : xFr (fun k => k = 1 ∨ k = 2) s0 s0 := xFr.rf
  refine x_bipush hx hb dX8_putNumber_0 (by decide) ?_
  refine lv_istore_n (lv' := [(2, .int (xJ 24)), (0, .ref (h0 + 1)), (1, .int (xJ v))]) hx hb dX8_putNumber_2 rfl hl (by decide) rfl (fun ls hl => ?_)
  have L3 : ∀ (fu : Nat) (i2_3 : Int) (s_3 : xS) (H : Heap) (locs : List Loc) (ls : Array Slot), (xR i2_3) → (xFr (fun k => k = 1 ∨ k = 2) s0 s_3) → (i2_3 % 8 = 0) → (-8 ≤ i2_3 ∧ i2_3 ≤ 24) → (s_3 1 1 = zl + 3 - i2_3 / 8) → (i2_3 + 8).toNat < fu → xW D g h0 s H locs s_3 → lv_has ls 3 [(0, .ref (h0 + 1)), (1, .int (xJ v)), (2, .int (xJ i2_3))] → W p l e { frames := 0, cells := 0, slots := 0, locals := 0 } s m args below meth c H locs 0 0 Q (F0 m 3 ls []) := by
    intro fu
    induction fu with
    | zero => intro i2_3 s_3 H locs ls ri2_3 hF_3 v3_0 v3_1 v3_2 hm; exact absurd hm (Nat.not_lt_zero _)
    | succ fu ih3 =>
      intro i2_3 s_3 H locs ls ri2_3 hF_3 v3_0 v3_1 v3_2 hm hW hl
      refine x_iload_n hx hb hl 2 rfl dX8_putNumber_3 rfl ?_
      refine x_if_lt (tgt := 56) hx hb ri2_3 dX8_putNumber_4 (by decide) (fun c1 => ?_) (fun c1 => ?_)
      · skip
        rw [eQ]
        exact x_vret hx hb hr hlk hW ⟨hF_3, ⟨(by omega), trivial⟩, trivial⟩ dX8_putNumber_56
      refine x_aload_n hx hb hl 0 rfl dX8_putNumber_7 rfl ?_
      refine x_get (j := 1) (v := .int (xJ (s_3 1 1))) hx hb hown hT hE hW cls_X8 (Or.inl (by decide)) (so_1 h0 g _) (by decide) rfl wq197 dX8_putNumber_8 ?_
      refine x_rd hW (fun x2 ex2 rx2 => ?_)
      have q3 : s_3 1 1 = x2 := ex2.symm
      refine x_if_lt (tgt := 50) hx hb rx2 dX8_putNumber_11 (by decide) (fun c4 => False.elim (by omega)) (fun c4 => ?_)
      refine x_aload_n hx hb hl 0 rfl dX8_putNumber_14 rfl ?_
      refine x_get (j := 1) (v := .int (xJ (s_3 1 1))) hx hb hown hT hE hW cls_X8 (Or.inl (by decide)) (so_1 h0 g _) (by decide) rfl wq197 dX8_putNumber_15 ?_
      refine x_rd hW (fun x5 ex5 rx5 => ?_)
      have fx5 : x5 = x2 := by rw [ex5, q3]
      refine x_sipush hx hb dX8_putNumber_18 (by decide) ?_
      refine x_icmp_ge (tgt := 50) hx hb rx5 (by decide) dX8_putNumber_21 (by decide) (fun c6 => False.elim (by omega)) (fun c6 => ?_)
      refine x_aload_n hx hb hl 0 rfl dX8_putNumber_24 rfl ?_
      refine x_get (j := 0) (v := .ref (h0 + 2)) hx hb hown hT hE hW cls_X8 (Or.inl (by decide)) (so_1 h0 g _) (by decide) rfl wq196 dX8_putNumber_25 ?_
      refine x_aload_n hx hb hl 0 rfl dX8_putNumber_28 rfl ?_
      refine x_get (j := 1) (v := .int (xJ (s_3 1 1))) hx hb hown hT hE hW cls_X8 (Or.inl (by decide)) (so_1 h0 g _) (by decide) rfl wq197 dX8_putNumber_29 ?_
      refine x_rd hW (fun x7 ex7 rx7 => ?_)
      have fx7 : x7 = x2 := by rw [ex7, q3]
      refine x_iload_n hx hb hl 1 rfl dX8_putNumber_32 rfl ?_
      refine x_iload_n hx hb hl 2 rfl dX8_putNumber_33 rfl ?_
      refine lv_ishr hx hb dX8_putNumber_34 ?_
      refine x_any (fun x8 rx8 => ?_)
      refine x_sipush hx hb dX8_putNumber_35 (by decide) ?_
      refine lv_iand hx hb dX8_putNumber_38 ?_
      refine x_any (fun x9 rx9 => ?_)
      refine x_iast hx hb hE hW (by decide) (fun σ => sa_2 h0 g σ) (by omega) (by decide) rx9 dX8_putNumber_39 (fun H locs s10 es10 hW => ?_)
      have q11 : s10 1 1 = x2 := by rw [es10, xU_k _ _ _ (by omega)]; exact q3
      have hF12 := hF_3.put es10 (by omega)
      refine x_aload_n hx hb hl 0 rfl dX8_putNumber_40 rfl ?_
      refine lv_dup hx hb dX8_putNumber_41 rfl ?_
      refine x_get (j := 1) (v := .int (xJ (s10 1 1))) hx hb hown hT hE hW cls_X8 (Or.inl (by decide)) (so_1 h0 g _) (by decide) rfl wq197 dX8_putNumber_42 ?_
      refine x_rd hW (fun x13 ex13 rx13 => ?_)
      have fx13 : x13 = x2 := by rw [ex13, q11]
      refine x_iconst hx hb dX8_putNumber_45 ?_
      refine x_iadd hx hb dX8_putNumber_46 ?_
      refine x_put (j := 1) hx hb hown hT hE hW cls_X8 (by decide) (fun σ => so_1 h0 g σ) (by decide) (st_X8_1 h0 s10 1 (x13 + 1)) (ln_X8_1 h0 _ _) wq197 rfl rfl rfl (by omega) dX8_putNumber_47 (fun H locs s14 es14 hW => ?_)
      have q15 : s14 1 1 = (x13 + 1) := by rw [es14, xU_s]
      have hF16 := hF12.put es14 (by omega)
      refine x_iinc (lv' := [(2, .int (xJ (i2_3 + (-8)))), (0, .ref (h0 + 1)), (1, .int (xJ v))]) hx hb hl 2 rfl dX8_putNumber_50 (by decide) rfl (fun ls hl => ?_)
      refine lv_goto (tgt := 3) hx hb dX8_putNumber_53 (by decide) ?_
      exact ih3 (i2_3 + (-8)) s14 H locs ls (by omega) hF16 (by omega) (by omega) (by rw [q15]; omega) (by omega) hW (lv_sub hl [1, 2, 0] rfl)
  exact L3 ((24 + 8 : Int).toNat + 1) 24 s0 H locs ls (by decide) hF (by omega) (by omega) (by rw [p0]; omega) (Nat.lt_succ_self _) hW (lv_sub hl [1, 2, 0] rfl)
set_option maxHeartbeats 4000000 in
set_option maxRecDepth 100000 in
theorem c_X8_drop (l : Launch) (D : va_G) (g : xG) (T : Nat × Nat × Nat) (h0 : Nat) (s0 : xS) (hσ : xRR s0) : Met l yX8_drop (xws yX8_drop cX8_drop 1 none) { frames := 0, cells := 0, slots := 0, locals := 0 } (xP [.ref (h0 + 1)] D g T h0 s0) (xQv D g h0 (fun τ => xFr (fun k => k = 1) s0 τ ∧ (True))) 0 0 (xA h0) := by
  refine x_met hσ (by decide) (Nat.le_of_ble_eq_true rfl) ?_
  intro p e s m args below meth c hx hb hr hml hown hT hlk hnm hE hW ls hl
  have hl : lv_has ls 1 [(0, .ref (h0 + 1))] := hl
  obtain ⟨Q, eQ⟩ : ∃ Q, Q = MQ below (xQv D g h0 (fun τ => xFr (fun k => k = 1) s0 τ ∧ (True))) args s 0 0 (xA h0) := ⟨_, rfl⟩
  rw [← eQ]
  generalize hHe : ([] : List Loc) = locs at hW ⊢
  obtain ⟨H, eH⟩ : ∃ H, H = s.heap := ⟨_, rfl⟩
  rw [← eH] at hW ⊢
  have hF : xFr (fun k => k = 1) s0 s0 := xFr.rf
  refine x_aload_n hx hb hl 0 rfl dX8_drop_0 rfl ?_
  refine x_iconst hx hb dX8_drop_1 ?_
  refine x_put (j := 1) hx hb hown hT hE hW cls_X8 (by decide) (fun σ => so_1 h0 g σ) (by decide) (st_X8_1 h0 s0 1 0) (ln_X8_1 h0 _ _) wq197 rfl rfl rfl (by decide) dX8_drop_2 (fun H locs s1 es1 hW => ?_)
  have hF2 := hF.put es1 (by omega)
  rw [eQ]
  exact x_vret hx hb hr hlk hW ⟨hF2, trivial⟩ dX8_drop_5
