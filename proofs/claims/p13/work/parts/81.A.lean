set_option maxHeartbeats 4000000 in
set_option maxRecDepth 100000 in
theorem c_X6_reckonRowF (l : Launch) (D : va_G) (g : xG) (T : Nat × Nat × Nat) (h0 : Nat) (s0 : xS) (hσ : xRR s0) (ka : Nat) (hka : ka < 310) (hns : nsC ka) (hca : ∀ σ : xS, xcel h0 g σ ka = .inl (g.1, 100, .inl (fun j => xJ (σ ka j)))) (a : Int) (ra : xR a) (b : Int) (rb : xR b) (hka4 : ka ≠ 4) (ha : 0 ≤ a ∧ a < 100) (hb0 : b = 0) (p0 : IC s0) : Met l yX6_reckonRow (xws yX6_reckonRow cX6_reckonRow 9 none) { frames := 1, cells := 0, slots := 0, locals := 23 } (xP [.ref (h0 + 3), .ref (h0 + ka), .int (xJ a), .int (xJ b)] D g T h0 s0) (xQv D g h0 (fun τ => xFr (fun k => k = ka) s0 τ ∧ (((IC τ) ∧ True) ∧ (∀ t : Int, 0 ≤ t → t < 100 → τ ka t = zds (s0 4) a 3 t)))) 0 0 (xA h0) := by
  refine x_met hσ (by decide) (Nat.le_of_ble_eq_true rfl) ?_
  intro p e s m args below meth c hx hb hr hml hown hT hlk hnm hE hW ls hl
  have hl : lv_has ls 9 [(0, .ref (h0 + 3)), (1, .ref (h0 + ka)), (2, .int (xJ a)), (3, .int (xJ b))] := hl
  obtain ⟨Q, eQ⟩ : ∃ Q, Q = MQ below (xQv D g h0 (fun τ => xFr (fun k => k = ka) s0 τ ∧ (((IC τ) ∧ True) ∧ (∀ t : Int, 0 ≤ t → t < 100 → τ ka t = zds (s0 4) a 3 t)))) args s 0 0 (xA h0) := ⟨_, rfl⟩
  rw [← eQ]
  generalize hHe : ([] : List Loc) = locs at hW ⊢
  obtain ⟨H, eH⟩ : ∃ H, H = s.heap := ⟨_, rfl⟩
  rw [← eH] at hW ⊢
  have hF : xFr (fun k => k = ka) s0 s0 := xFr.rf
  have k1_1 : s0 1 1 = s0 1 1 := rfl
  refine x_iconst hx hb dX6_reckonRow_0 ?_
  refine lv_istore (lv' := [(4, .int (xJ 0)), (0, .ref (h0 + 3)), (1, .ref (h0 + ka)), (2, .int (xJ a)), (3, .int (xJ b))]) hx hb dX6_reckonRow_1 hl (by decide) rfl (fun ls hl => ?_)
  have L3 : ∀ (fu : Nat) (i4_3 : Int) (s_3 : xS) (H : Heap) (locs : List Loc) (ls : Array Slot), (xR i4_3) → (xFr (fun k => k = ka) s0 s_3) → (IC s_3) → (s_3 1 1 = s0 1 1) → (0 ≤ i4_3 ∧ i4_3 ≤ 100) → (∀ t : Int, 0 ≤ t → t < i4_3 → (t = a ∧ s_3 ka t = 0) ∨ (t ≠ a ∧ s_3 ka t = 9)) → (100 - i4_3).toNat < fu → xW D g h0 s H locs s_3 → lv_has ls 9 [(0, .ref (h0 + 3)), (1, .ref (h0 + ka)), (2, .int (xJ a)), (3, .int (xJ b)), (4, .int (xJ i4_3))] → W p l e { frames := 1, cells := 0, slots := 0, locals := 23 } s m args below meth c H locs 0 0 Q (F0 m 3 ls []) := by
    intro fu
    induction fu with
    | zero => intro i4_3 s_3 H locs ls ri4_3 hF_3 q3_0 q3_1 v3_0 v3_1 hm; exact absurd hm (Nat.not_lt_zero _)
    | succ fu ih3 =>
      intro i4_3 s_3 H locs ls ri4_3 hF_3 q3_0 q3_1 v3_0 v3_1 hm hW hl
      have hm_3 := fun (_ : Unit) => hm
      clear hm
      refine x_iload hx hb hl 4 rfl dX6_reckonRow_3 ?_
      refine x_aload_n hx hb hl 1 rfl dX6_reckonRow_5 rfl ?_
      refine x_alen (n := 100) (t0 := 0) hx hb hE hW (Or.inl hka) (hca _) rfl rfl dX6_reckonRow_6 ?_
      refine x_icmp_ge (tgt := 32) hx hb ri4_3 (by decide) dX6_reckonRow_7 (by decide) (fun c1 => ?_) (fun c1 => ?_)
      · skip
        refine x_iconst hx hb dX6_reckonRow_32 ?_
        refine lv_istore (lv' := [(4, .int (xJ 0)), (0, .ref (h0 + 3)), (1, .ref (h0 + ka)), (2, .int (xJ a)), (3, .int (xJ b))]) hx hb dX6_reckonRow_33 hl (by decide) rfl (fun ls hl => ?_)
        have L35 : ∀ (fu : Nat) (i4_35 : Int) (s_35 : xS) (H : Heap) (locs : List Loc) (ls : Array Slot), (xR i4_35) → (xFr (fun k => k = ka) s0 s_35) → (IC s_35) → (s_35 1 1 = s0 1 1) → (0 ≤ i4_35) → (i4_35 ≤ 3) → (∀ t : Int, 0 ≤ t → t < 100 → s_35 ka t = zdf 9 (zds (s0 4) a (i4_35).toNat t)) → (3 + 1 - i4_35).toNat < fu → xW D g h0 s H locs s_35 → lv_has ls 9 [(0, .ref (h0 + 3)), (1, .ref (h0 + ka)), (3, .int (xJ b)), (4, .int (xJ i4_35))] → W p l e { frames := 1, cells := 0, slots := 0, locals := 23 } s m args below meth c H locs 0 0 Q (F0 m 35 ls []) := by
          intro fu
          induction fu with
          | zero => intro i4_35 s_35 H locs ls ri4_35 hF_35 q35_0 q35_1 v35_0 v35_1 v35_2 hm; exact absurd hm (Nat.not_lt_zero _)
          | succ fu ih35 =>
            intro i4_35 s_35 H locs ls ri4_35 hF_35 q35_0 q35_1 v35_0 v35_1 v35_2 hm hW hl
            have hm_35 := fun (_ : Unit) => hm
            clear hm
            refine x_iload hx hb hl 3 rfl dX6_reckonRow_35 ?_
            refine x_iconst hx hb dX6_reckonRow_37 ?_
            refine x_icmp_ge (tgt := 153) hx hb ri4_35 (by decide) dX6_reckonRow_38 (by decide) (fun c2 => ?_) (fun c2 => ?_)
            · skip
              rw [eQ]
              exact x_vret hx hb hr hlk hW ⟨hF_35, ⟨q35_0, trivial⟩, fun t t1 t2 => by rw [v35_2 t t1 t2, zdf_9, show (i4_35).toNat = 3 from by omega]⟩ dX6_reckonRow_153
            refine x_iconst hx hb dX6_reckonRow_41 ?_
            refine lv_istore (lv' := [(5, .int (xJ 0)), (0, .ref (h0 + 3)), (1, .ref (h0 + ka)), (3, .int (xJ b)), (4, .int (xJ i4_35))]) hx hb dX6_reckonRow_42 hl (by decide) rfl (fun ls hl => ?_)
            have L44 : ∀ (fu : Nat) (i5_44 : Int) (s_44 : xS) (H : Heap) (locs : List Loc) (ls : Array Slot), (xR i5_44) → (xFr (fun k => k = ka) s0 s_44) → (IC s_44) → (s_44 1 1 = s0 1 1) → (0 ≤ i5_44 ∧ i5_44 ≤ 400) → (zdQ 9 (s_44 ka) (s0 4) a (i4_35).toNat i5_44) → (400 - i5_44).toNat < fu → xW D g h0 s H locs s_44 → lv_has ls 9 [(0, .ref (h0 + 3)), (1, .ref (h0 + ka)), (3, .int (xJ b)), (4, .int (xJ i4_35)), (5, .int (xJ i5_44))] → W p l e { frames := 1, cells := 0, slots := 0, locals := 23 } s m args below meth c H locs 0 0 Q (F0 m 44 ls []) := by
              intro fu
              induction fu with
              | zero => intro i5_44 s_44 H locs ls ri5_44 hF_44 q44_0 q44_1 v44_0 v44_1 hm; exact absurd hm (Nat.not_lt_zero _)
              | succ fu ih44 =>
                intro i5_44 s_44 H locs ls ri5_44 hF_44 q44_0 q44_1 v44_0 v44_1 hm hW hl
                have hm_44 := fun (_ : Unit) => hm
                clear hm
                refine x_iload hx hb hl 4 rfl dX6_reckonRow_44 ?_
                refine x_iconst hx hb dX6_reckonRow_46 ?_
                refine x_aload_n hx hb hl 1 rfl dX6_reckonRow_47 rfl ?_
                refine x_alen (n := 100) (t0 := 0) hx hb hE hW (Or.inl hka) (hca _) rfl rfl dX6_reckonRow_48 ?_
                refine x_imul hx hb dX6_reckonRow_49 ?_
                refine x_icmp_ge (tgt := 147) hx hb ri5_44 (by omega) dX6_reckonRow_50 (by decide) (fun c3 => ?_) (fun c3 => ?_)
                · skip
                  refine x_iinc (lv' := [(4, .int (xJ (i4_35 + 1))), (0, .ref (h0 + 3)), (1, .ref (h0 + ka)), (3, .int (xJ b)), (5, .int (xJ i5_44))]) hx hb hl 3 rfl dX6_reckonRow_147 (by decide) rfl (fun ls hl => ?_)
                  refine lv_goto (tgt := 35) hx hb dX6_reckonRow_150 (by decide) ?_
                  exact ih35 (i4_35 + 1) s_44 H locs ls (by omega) hF_44 q44_0 q44_1 (by omega) (by omega) (by have z := v44_1.fin (by omega) (by decide) (by omega); rw [show (i4_35 + 1).toNat = i4_35.toNat + 1 from by omega]; exact z) (by have hm := hm_35 (); omega) hW (lv_sub hl [1, 2, 3, 0] rfl)
                refine x_iload hx hb hl 4 rfl dX6_reckonRow_53 ?_
                refine x_iconst hx hb dX6_reckonRow_55 ?_
                refine x_idiv hx hb ri5_44 (by decide) (by omega) (by decide) dX6_reckonRow_56 ?_
                refine x_nm (fun x4 ex4 => ?_)
                refine lv_istore (lv' := [(6, .int (xJ x4)), (0, .ref (h0 + 3)), (1, .ref (h0 + ka)), (3, .int (xJ b)), (4, .int (xJ i4_35)), (5, .int (xJ i5_44))]) hx hb dX6_reckonRow_57 hl (by decide) rfl (fun ls hl => ?_)
                refine x_aload_n hx hb hl 2 rfl dX6_reckonRow_59 rfl ?_
                refine x_iload hx hb hl 0 rfl dX6_reckonRow_60 ?_
                refine x_iald hx hb hE hW (Or.inl hka) (hca _) (by omega) (by decide) dX6_reckonRow_62 ?_
                refine x_rd hW (fun x5 ex5 rx5 => ?_)
                have V62 : x5 = s_44 ka (i5_44 / 4) := ex5.trans (congrArg (s_44 ka) (by omega))
                refine x_iload hx hb hl 4 rfl dX6_reckonRow_63 ?_
                have J83 : ∀ (t0_83 : Int) (H : Heap) (locs : List Loc) (ls : Array Slot), (xR t0_83) → ((t0_83 = -1 ∧ s_44 ka (i5_44 / 4) ≠ i4_35) ∨ (s_44 ka (i5_44 / 4) = i4_35 ∧ t0_83 = zbe (i5_44 / 4) (2 * (i5_44 % 4)))) → xW D g h0 s H locs s_44 → lv_has ls 9 [(0, .ref (h0 + 3)), (1, .ref (h0 + ka)), (3, .int (xJ b)), (4, .int (xJ i4_35)), (5, .int (xJ i5_44))] → W p l e { frames := 1, cells := 0, slots := 0, locals := 23 } s m args below meth c H locs 0 0 Q (F0 m 83 ls [.int (xJ t0_83)]) := by
                  intro t0_83 H locs ls rt0_83 v83_0 hW hl
                  refine lv_istore (lv' := [(7, .int (xJ t0_83)), (0, .ref (h0 + 3)), (1, .ref (h0 + ka)), (3, .int (xJ b)), (4, .int (xJ i4_35)), (5, .int (xJ i5_44))]) hx hb dX6_reckonRow_83 hl (by decide) rfl (fun ls hl => ?_)
                  have B83 := v83_0
                  refine x_iload hx hb hl 0 rfl dX6_reckonRow_85 ?_
                  have T83 : t0_83 ≠ -1 → t0_83 = zbe (i5_44 / 4) (2 * (i5_44 % 4)) := fun h => (B83.resolve_left (fun q => h (by omega))).2
                  refine x_if_lt (tgt := 141) hx hb rt0_83 dX6_reckonRow_87 (by decide) (fun c6 => ?_) (fun c6 => ?_)
                  · skip
                    refine x_iinc (lv' := [(5, .int (xJ (i5_44 + 1))), (7, .int (xJ t0_83)), (0, .ref (h0 + 3)), (1, .ref (h0 + ka)), (3, .int (xJ b)), (4, .int (xJ i4_35))]) hx hb hl 5 rfl dX6_reckonRow_141 (by decide) rfl (fun ls hl => ?_)
                    refine lv_goto (tgt := 44) hx hb dX6_reckonRow_144 (by decide) ?_
                    exact ih44 (i5_44 + 1) s_44 H locs ls (by omega) hF_44 q44_0 q44_1 (by omega) (by
                        first
                          | exact v44_1.set (by decide) (by omega) (by omega) rfl (T83 (by omega)) (by omega) (by omega) ((v44_1.at_ (by decide) (by omega) (by omega)).mp (by omega)) (by omega) (by rw [E140, xU_xud]; congr 1; omega)
                          | exact v44_1.skip rfl (fun c1 c2 c3 => by
                              have q := (v44_1.at_ (by decide) (by omega) (by omega)).mpr c1
                              rcases B83 with ⟨b1, b2⟩ | ⟨b1, b2⟩
                              · exact absurd q (by omega)
                              · have r := zbe_r (i5_44 / 4) (2 * (i5_44 % 4))
                                rw [← b2] at c2 c3 r ⊢
                                omega)) (by have hm := hm_44 (); omega) hW (lv_sub hl [2, 3, 4, 5, 0] rfl)
                  refine x_iload hx hb hl 0 rfl dX6_reckonRow_90 ?_
                  refine x_aload_n hx hb hl 2 rfl dX6_reckonRow_92 rfl ?_
                  refine x_alen (n := 100) (t0 := 0) hx hb hE hW (Or.inl hka) (hca _) rfl rfl dX6_reckonRow_93 ?_
                  refine x_icmp_ge (tgt := 141) hx hb rt0_83 (by decide) dX6_reckonRow_94 (by decide) (fun c7 => ?_) (fun c7 => ?_)
                  · skip
                    refine x_iinc (lv' := [(5, .int (xJ (i5_44 + 1))), (7, .int (xJ t0_83)), (0, .ref (h0 + 3)), (1, .ref (h0 + ka)), (3, .int (xJ b)), (4, .int (xJ i4_35))]) hx hb hl 5 rfl dX6_reckonRow_141 (by decide) rfl (fun ls hl => ?_)
                    refine lv_goto (tgt := 44) hx hb dX6_reckonRow_144 (by decide) ?_
                    exact ih44 (i5_44 + 1) s_44 H locs ls (by omega) hF_44 q44_0 q44_1 (by omega) (by
                        first
                          | exact v44_1.set (by decide) (by omega) (by omega) rfl (T83 (by omega)) (by omega) (by omega) ((v44_1.at_ (by decide) (by omega) (by omega)).mp (by omega)) (by omega) (by rw [E140, xU_xud]; congr 1; omega)
                          | exact v44_1.skip rfl (fun c1 c2 c3 => by
                              have q := (v44_1.at_ (by decide) (by omega) (by omega)).mpr c1
                              rcases B83 with ⟨b1, b2⟩ | ⟨b1, b2⟩
                              · exact absurd q (by omega)
                              · have r := zbe_r (i5_44 / 4) (2 * (i5_44 % 4))
                                rw [← b2] at c2 c3 r ⊢
                                omega)) (by have hm := hm_44 (); omega) hW (lv_sub hl [2, 3, 4, 5, 0] rfl)
                  refine x_aload_n hx hb hl 2 rfl dX6_reckonRow_97 rfl ?_
                  refine x_iload hx hb hl 0 rfl dX6_reckonRow_98 ?_
                  refine x_iald hx hb hE hW (Or.inl hka) (hca _) (by omega) (by decide) dX6_reckonRow_100 ?_
                  refine x_rd hW (fun x8 ex8 rx8 => ?_)
                  have V100 : x8 = s_44 ka t0_83 := ex8
                  refine x_bipush hx hb dX6_reckonRow_101 (by decide) ?_
                  refine x_icmp_eq (tgt := 109) hx hb rx8 (by decide) dX6_reckonRow_103 (by decide) (fun c9 => ?_) (fun c9 => ?_)
                  · skip
                    refine x_aload_n hx hb hl 1 rfl dX6_reckonRow_109 rfl ?_
                    refine x_iload hx hb hl 0 rfl dX6_reckonRow_110 ?_
                    refine x_goi (x_runV (As := [.int (xJ t0_83)]) hx hb hml hown hT hE hW hl.1 (Or.inl (by decide)) (so_3 h0 g _) rfl cf_X6_kindAt wq619 wq10 wq617 (c_X6_kindAt l D g T h0 s_44 hW.2.1 t0_83 rt0_83 q44_0) ⟨rfl, rfl, ⟨by decide, by decide⟩, ⟨by decide, by decide⟩⟩ rfl rfl (Nat.le_of_ble_eq_true rfl) dX6_reckonRow_112) hW (fun x10 s11 H locs rx10 hp12 hW => ?_)
                    obtain ⟨es11, hp12⟩ := hp12
                    subst es11
                    have ghp12 := hp12
                    have K112 : x10 = s0 4 t0_83 := by
                      have e := (ghp12.resolve_right (fun q => by omega)).2.2
                      rw [hF_44 4 (by first | decide | omega)] at e
                      exact e
                    refine lv_istore (lv' := [(8, .int (xJ x10)), (7, .int (xJ t0_83)), (0, .ref (h0 + 3)), (1, .ref (h0 + ka)), (3, .int (xJ b)), (4, .int (xJ i4_35)), (5, .int (xJ i5_44))]) hx hb dX6_reckonRow_115 hl (by decide) rfl (fun ls hl => ?_)
                    refine x_iload hx hb hl 0 rfl dX6_reckonRow_117 ?_
                    refine x_iconst hx hb dX6_reckonRow_119 ?_
                    refine x_icmp_eq (tgt := 141) hx hb rx10 (by decide) dX6_reckonRow_120 (by decide) (fun c13 => ?_) (fun c13 => ?_)
                    · skip
                      refine x_iinc (lv' := [(5, .int (xJ (i5_44 + 1))), (8, .int (xJ x10)), (7, .int (xJ t0_83)), (0, .ref (h0 + 3)), (1, .ref (h0 + ka)), (3, .int (xJ b)), (4, .int (xJ i4_35))]) hx hb hl 6 rfl dX6_reckonRow_141 (by decide) rfl (fun ls hl => ?_)
                      refine lv_goto (tgt := 44) hx hb dX6_reckonRow_144 (by decide) ?_
                      exact ih44 (i5_44 + 1) s_44 H locs ls (by omega) hF_44 q44_0 q44_1 (by omega) (by
                          first
                            | exact v44_1.set (by decide) (by omega) (by omega) rfl (T83 (by omega)) (by omega) (by omega) ((v44_1.at_ (by decide) (by omega) (by omega)).mp (by omega)) (by omega) (by rw [E140, xU_xud]; congr 1; omega)
                            | exact v44_1.skip rfl (fun c1 c2 c3 => by
                                have q := (v44_1.at_ (by decide) (by omega) (by omega)).mpr c1
                                rcases B83 with ⟨b1, b2⟩ | ⟨b1, b2⟩
                                · exact absurd q (by omega)
                                · have r := zbe_r (i5_44 / 4) (2 * (i5_44 % 4))
                                  rw [← b2] at c2 c3 r ⊢
                                  omega)) (by have hm := hm_44 (); omega) hW (lv_sub hl [3, 4, 5, 6, 0] rfl)
                    refine x_iload_n hx hb hl 4 rfl dX6_reckonRow_123 rfl ?_
                    refine x_if_eq (tgt := 133) hx hb rb dX6_reckonRow_124 (by decide) (fun c14 => ?_) (fun c14 => ?_)
                    · skip
                      refine x_aload_n hx hb hl 3 rfl dX6_reckonRow_133 rfl ?_
                      refine x_iload hx hb hl 1 rfl dX6_reckonRow_134 ?_
                      refine x_iload hx hb hl 5 rfl dX6_reckonRow_136 ?_
                      refine x_iconst hx hb dX6_reckonRow_138 ?_
                      refine x_iadd hx hb dX6_reckonRow_139 ?_
                      refine x_iast hx hb hE hW hka (fun σ => hca σ) (by omega) (by decide) (by omega) dX6_reckonRow_140 (fun H locs s15 es15 hW => ?_)
                      have q16 : IC s15 := by rw [es15]; exact IC_o hns q44_0
                      have q17 : s15 1 1 = s0 1 1 := (show s15 1 1 = s_44 1 1 from by rw [es15, xU_k _ _ _ (by first | decide | omega)]).trans q44_1
                      have hF18 := hF_44.put es15 (by omega)
                      have E140 := es15
                      refine x_iinc (lv' := [(5, .int (xJ (i5_44 + 1))), (8, .int (xJ x10)), (7, .int (xJ t0_83)), (0, .ref (h0 + 3)), (1, .ref (h0 + ka)), (3, .int (xJ b)), (4, .int (xJ i4_35))]) hx hb hl 6 rfl dX6_reckonRow_141 (by decide) rfl (fun ls hl => ?_)
                      refine lv_goto (tgt := 44) hx hb dX6_reckonRow_144 (by decide) ?_
                      exact ih44 (i5_44 + 1) s15 H locs ls (by omega) hF18 q16 q17 (by omega) (by
                          first
                            | exact v44_1.set (by decide) (by omega) (by omega) rfl (T83 (by omega)) (by omega) (by omega) ((v44_1.at_ (by decide) (by omega) (by omega)).mp (by omega)) (by omega) (by rw [E140, xU_xud]; congr 1; omega)
                            | exact v44_1.skip rfl (fun c1 c2 c3 => by
                                have q := (v44_1.at_ (by decide) (by omega) (by omega)).mpr c1
                                rcases B83 with ⟨b1, b2⟩ | ⟨b1, b2⟩
                                · exact absurd q (by omega)
                                · have r := zbe_r (i5_44 / 4) (2 * (i5_44 % 4))
                                  rw [← b2] at c2 c3 r ⊢
                                  omega)) (by have hm := hm_44 (); omega) hW (lv_sub hl [3, 4, 5, 6, 0] rfl)
                    refine x_iload hx hb hl 0 rfl dX6_reckonRow_127 ?_
                    refine x_iconst hx hb dX6_reckonRow_129 ?_
                    refine x_icmp_eq (tgt := 141) hx hb rx10 (by decide) dX6_reckonRow_130 (by decide) (fun c19 => ?_) (fun c19 => ?_)
                    · skip
                      refine x_iinc (lv' := [(5, .int (xJ (i5_44 + 1))), (8, .int (xJ x10)), (7, .int (xJ t0_83)), (0, .ref (h0 + 3)), (1, .ref (h0 + ka)), (3, .int (xJ b)), (4, .int (xJ i4_35))]) hx hb hl 6 rfl dX6_reckonRow_141 (by decide) rfl (fun ls hl => ?_)
                      refine lv_goto (tgt := 44) hx hb dX6_reckonRow_144 (by decide) ?_
                      exact ih44 (i5_44 + 1) s_44 H locs ls (by omega) hF_44 q44_0 q44_1 (by omega) (by
                          first
                            | exact v44_1.set (by decide) (by omega) (by omega) rfl (T83 (by omega)) (by omega) (by omega) ((v44_1.at_ (by decide) (by omega) (by omega)).mp (by omega)) (by omega) (by rw [E140, xU_xud]; congr 1; omega)
                            | exact v44_1.skip rfl (fun c1 c2 c3 => by
                                have q := (v44_1.at_ (by decide) (by omega) (by omega)).mpr c1
                                rcases B83 with ⟨b1, b2⟩ | ⟨b1, b2⟩
                                · exact absurd q (by omega)
                                · have r := zbe_r (i5_44 / 4) (2 * (i5_44 % 4))
                                  rw [← b2] at c2 c3 r ⊢
                                  omega)) (by have hm := hm_44 (); omega) hW (lv_sub hl [3, 4, 5, 6, 0] rfl)
                    refine x_aload_n hx hb hl 3 rfl dX6_reckonRow_133 rfl ?_
                    refine x_iload hx hb hl 1 rfl dX6_reckonRow_134 ?_
                    refine x_iload hx hb hl 5 rfl dX6_reckonRow_136 ?_
                    refine x_iconst hx hb dX6_reckonRow_138 ?_
                    refine x_iadd hx hb dX6_reckonRow_139 ?_
                    refine x_iast hx hb hE hW hka (fun σ => hca σ) (by omega) (by decide) (by omega) dX6_reckonRow_140 (fun H locs s20 es20 hW => ?_)
                    have q21 : IC s20 := by rw [es20]; exact IC_o hns q44_0
                    have q22 : s20 1 1 = s0 1 1 := (show s20 1 1 = s_44 1 1 from by rw [es20, xU_k _ _ _ (by first | decide | omega)]).trans q44_1
                    have hF23 := hF_44.put es20 (by omega)
                    have E140 := es20
                    refine x_iinc (lv' := [(5, .int (xJ (i5_44 + 1))), (8, .int (xJ x10)), (7, .int (xJ t0_83)), (0, .ref (h0 + 3)), (1, .ref (h0 + ka)), (3, .int (xJ b)), (4, .int (xJ i4_35))]) hx hb hl 6 rfl dX6_reckonRow_141 (by decide) rfl (fun ls hl => ?_)
                    refine lv_goto (tgt := 44) hx hb dX6_reckonRow_144 (by decide) ?_
                    exact ih44 (i5_44 + 1) s20 H locs ls (by omega) hF23 q21 q22 (by omega) (by
                        first
                          | exact v44_1.set (by decide) (by omega) (by omega) rfl (T83 (by omega)) (by omega) (by omega) ((v44_1.at_ (by decide) (by omega) (by omega)).mp (by omega)) (by omega) (by rw [E140, xU_xud]; congr 1; omega)
                          | exact v44_1.skip rfl (fun c1 c2 c3 => by
                              have q := (v44_1.at_ (by decide) (by omega) (by omega)).mpr c1
                              rcases B83 with ⟨b1, b2⟩ | ⟨b1, b2⟩
                              · exact absurd q (by omega)
                              · have r := zbe_r (i5_44 / 4) (2 * (i5_44 % 4))
                                rw [← b2] at c2 c3 r ⊢
                                omega)) (by have hm := hm_44 (); omega) hW (lv_sub hl [3, 4, 5, 6, 0] rfl)
                  refine lv_goto (tgt := 141) hx hb dX6_reckonRow_106 (by decide) ?_
                  refine x_iinc (lv' := [(5, .int (xJ (i5_44 + 1))), (7, .int (xJ t0_83)), (0, .ref (h0 + 3)), (1, .ref (h0 + ka)), (3, .int (xJ b)), (4, .int (xJ i4_35))]) hx hb hl 5 rfl dX6_reckonRow_141 (by decide) rfl (fun ls hl => ?_)
                  refine lv_goto (tgt := 44) hx hb dX6_reckonRow_144 (by decide) ?_
                  exact ih44 (i5_44 + 1) s_44 H locs ls (by omega) hF_44 q44_0 q44_1 (by omega) (by
                      first
                        | exact v44_1.set (by decide) (by omega) (by omega) rfl (T83 (by omega)) (by omega) (by omega) ((v44_1.at_ (by decide) (by omega) (by omega)).mp (by omega)) (by omega) (by rw [E140, xU_xud]; congr 1; omega)
                        | exact v44_1.skip rfl (fun c1 c2 c3 => by
                            have q := (v44_1.at_ (by decide) (by omega) (by omega)).mpr c1
                            rcases B83 with ⟨b1, b2⟩ | ⟨b1, b2⟩
                            · exact absurd q (by omega)
                            · have r := zbe_r (i5_44 / 4) (2 * (i5_44 % 4))
                              rw [← b2] at c2 c3 r ⊢
                              omega)) (by have hm := hm_44 (); omega) hW (lv_sub hl [2, 3, 4, 5, 0] rfl)
                refine x_icmp_ne (tgt := 82) hx hb rx5 ri4_35 dX6_reckonRow_65 (by decide) (fun c24 => ?_) (fun c24 => ?_)
                · skip
                  refine x_iconst hx hb dX6_reckonRow_82 ?_
                  exact J83 (-1) H locs ls (by decide) (by first | exact Or.inl ⟨rfl, by omega⟩ | exact Or.inr ⟨by omega, H76⟩) hW (lv_sub hl [1, 2, 3, 4, 5] rfl)
                refine x_iload hx hb hl 0 rfl dX6_reckonRow_68 ?_
                refine x_iconst hx hb dX6_reckonRow_70 ?_
                refine x_iload hx hb hl 5 rfl dX6_reckonRow_71 ?_
                refine x_iconst hx hb dX6_reckonRow_73 ?_
                refine x_irem hx hb ri5_44 (by decide) (by omega) (by decide) dX6_reckonRow_74 ?_
                refine x_imul hx hb dX6_reckonRow_75 ?_
                refine x_goi (x_runS (As := [.int (xJ x4), .int (xJ (2 * (i5_44 % 4)))]) hx hb hml hown hT hE hW hl.1 cf_X6_beside wq784 wq895 (c_X6_besideJ l D g T h0 s_44 hW.2.1 x4 (by omega) (2 * (i5_44 % 4)) (by omega)) ⟨rfl, rfl, ⟨by decide, by decide⟩, ⟨by decide, by decide⟩⟩ rfl rfl (Nat.le_of_ble_eq_true rfl) dX6_reckonRow_76) hW (fun x25 s26 H locs rx25 hp27 hW => ?_)
                obtain ⟨es26, hp27⟩ := hp27
                subst es26
                have ghp27 := hp27
                have H76 : x25 = zbe (i5_44 / 4) (2 * (i5_44 % 4)) := by
                  have e := (ghp27.resolve_right (fun q => q.1 (by omega))).2
                  rw [show x4 = i5_44 / 4 from by omega] at e
                  exact e
                refine lv_goto (tgt := 83) hx hb dX6_reckonRow_79 (by decide) ?_
                exact J83 x25 H locs ls rx25 (by first | exact Or.inl ⟨rfl, by omega⟩ | exact Or.inr ⟨by omega, H76⟩) hW (lv_sub hl [1, 2, 3, 4, 5] rfl)
            exact L44 ((400 - 0 : Int).toNat + 1) 0 s_35 H locs ls (by decide) hF_35 q35_0 q35_1 (by omega) (zdQ.new v35_2 (by omega)) (Nat.lt_succ_self _) hW (lv_sub hl [1, 2, 3, 4, 0] rfl)
        exact L35 ((3 + 1 - 0 : Int).toNat + 1) 0 s_3 H locs ls (by decide) hF_3 q3_0 q3_1 (by omega) (by omega) (zdQ_0 (fun t t1 t2 => v3_1 t t1 (by omega))) (Nat.lt_succ_self _) hW (lv_sub hl [1, 2, 4, 0] rfl)
      refine x_aload_n hx hb hl 1 rfl dX6_reckonRow_10 rfl ?_
      refine x_iload hx hb hl 4 rfl dX6_reckonRow_11 ?_
      refine x_iload hx hb hl 4 rfl dX6_reckonRow_13 ?_
      refine x_iload_n hx hb hl 2 rfl dX6_reckonRow_15 rfl ?_
      refine x_icmp_ne (tgt := 23) hx hb ri4_3 ra dX6_reckonRow_16 (by decide) (fun c28 => ?_) (fun c28 => ?_)
      · skip
        refine x_bipush hx hb dX6_reckonRow_23 (by decide) ?_
        refine x_iast hx hb hE hW hka (fun σ => hca σ) (by omega) (by decide) (by decide) dX6_reckonRow_25 (fun H locs s29 es29 hW => ?_)
        have q30 : IC s29 := by rw [es29]; exact IC_o hns q3_0
        have q31 : s29 1 1 = s0 1 1 := (show s29 1 1 = s_3 1 1 from by rw [es29, xU_k _ _ _ (by first | decide | omega)]).trans q3_1
        have hF32 := hF_3.put es29 (by omega)
        have E25 := es29
        refine x_iinc (lv' := [(4, .int (xJ (i4_3 + 1))), (0, .ref (h0 + 3)), (1, .ref (h0 + ka)), (2, .int (xJ a)), (3, .int (xJ b))]) hx hb hl 4 rfl dX6_reckonRow_26 (by decide) rfl (fun ls hl => ?_)
        refine lv_goto (tgt := 3) hx hb dX6_reckonRow_29 (by decide) ?_
        exact ih3 (i4_3 + 1) s29 H locs ls (by omega) hF32 q30 q31 (by omega) (fun t t1 t2 => by
            rw [E25, xU_xud]
            by_cases h : t = i4_3
            · subst h; rw [xud_s]; omega
            · rw [xud_o _ _ h]; exact v3_1 t t1 (by omega)) (by have hm := hm_3 (); omega) hW (lv_sub hl [1, 2, 3, 4, 0] rfl)
      refine x_iconst hx hb dX6_reckonRow_19 ?_
      refine lv_goto (tgt := 25) hx hb dX6_reckonRow_20 (by decide) ?_
      refine x_iast hx hb hE hW hka (fun σ => hca σ) (by omega) (by decide) (by decide) dX6_reckonRow_25 (fun H locs s33 es33 hW => ?_)
      have q34 : IC s33 := by rw [es33]; exact IC_o hns q3_0
      have q35 : s33 1 1 = s0 1 1 := (show s33 1 1 = s_3 1 1 from by rw [es33, xU_k _ _ _ (by first | decide | omega)]).trans q3_1
      have hF36 := hF_3.put es33 (by omega)
      have E25 := es33
      refine x_iinc (lv' := [(4, .int (xJ (i4_3 + 1))), (0, .ref (h0 + 3)), (1, .ref (h0 + ka)), (2, .int (xJ a)), (3, .int (xJ b))]) hx hb hl 4 rfl dX6_reckonRow_26 (by decide) rfl (fun ls hl => ?_)
      refine lv_goto (tgt := 3) hx hb dX6_reckonRow_29 (by decide) ?_
      exact ih3 (i4_3 + 1) s33 H locs ls (by omega) hF36 q34 q35 (by omega) (fun t t1 t2 => by
            rw [E25, xU_xud]
            by_cases h : t = i4_3
            · subst h; rw [xud_s]; omega
            · rw [xud_o _ _ h]; exact v3_1 t t1 (by omega)) (by have hm := hm_3 (); omega) hW (lv_sub hl [1, 2, 3, 4, 0] rfl)
  exact L3 ((100 - 0 : Int).toNat + 1) 0 s0 H locs ls (by decide) hF p0 k1_1 (by omega) (fun t t1 t2 => absurd t2 (by omega)) (Nat.lt_succ_self _) hW (lv_sub hl [1, 2, 3, 4, 0] rfl)
set_option maxHeartbeats 4000000 in
set_option maxRecDepth 100000 in
theorem c_X6_stepsBetweenF (l : Launch) (D : va_G) (g : xG) (T : Nat × Nat × Nat) (h0 : Nat) (s0 : xS) (hσ : xRR s0) (a : Int) (ra : xR a) (b : Int) (rb : xR b) (p0 : IC s0) (p1 : IQ s0) : Met l yX6_stepsBetween (xws yX6_stepsBetween cX6_stepsBetween 3 (some .int)) { frames := 2, cells := 0, slots := 0, locals := 51 } (xP [.ref (h0 + 3), .int (xJ a), .int (xJ b)] D g T h0 s0) (xQi D g h0 (fun r τ => xFr (fun k => (7 ≤ k ∧ k < 107) ∨ k = 107) s0 τ ∧ (((IC τ) ∧ (IQ τ) ∧ True) ∧ (r = zsb (s0 4) a b)))) 0 0 (xA h0) := by
  refine x_met hσ (by decide) (Nat.le_of_ble_eq_true rfl) ?_
  intro p e s m args below meth c hx hb hr hml hown hT hlk hnm hE hW ls hl
  have hl : lv_has ls 3 [(0, .ref (h0 + 3)), (1, .int (xJ a)), (2, .int (xJ b))] := hl
  obtain ⟨Q, eQ⟩ : ∃ Q, Q = MQ below (xQi D g h0 (fun r τ => xFr (fun k => (7 ≤ k ∧ k < 107) ∨ k = 107) s0 τ ∧ (((IC τ) ∧ (IQ τ) ∧ True) ∧ (r = zsb (s0 4) a b)))) args s 0 0 (xA h0) := ⟨_, rfl⟩
  rw [← eQ]
  generalize hHe : ([] : List Loc) = locs at hW ⊢
  obtain ⟨H, eH⟩ : ∃ H, H = s.heap := ⟨_, rfl⟩
  rw [← eH] at hW ⊢
  have hF : xFr (fun k => (7 ≤ k ∧ k < 107) ∨ k = 107) s0 s0 := xFr.rf
  have k1_1 : s0 1 1 = s0 1 1 := rfl
  refine x_iload_n hx hb hl 1 rfl dX6_stepsBetween_0 rfl ?_
  refine x_goi (x_runS (As := [.int (xJ a)]) hx hb hml hown hT hE hW hl.1 cf_X6_isSpot wq831 wq890 (c_X6_isSpot l D g T h0 s0 hW.2.1 a ra) ⟨rfl, rfl, ⟨by decide, by decide⟩, ⟨by decide, by decide⟩⟩ rfl rfl (Nat.le_of_ble_eq_true rfl) dX6_stepsBetween_1) hW (fun x1 s2 H locs rx1 hp3 hW => ?_)
  obtain ⟨es2, hp3⟩ := hp3
  subst es2
  have ghp3 := hp3
  refine x_if_eq (tgt := 14) hx hb rx1 dX6_stepsBetween_4 (by decide) (fun c4 => ?_) (fun c4 => ?_)
  · skip
    refine x_bipush hx hb dX6_stepsBetween_14 (by decide) ?_
    rw [eQ]
    exact x_iret hx hb hr hlk hW (by decide) ⟨hF, ⟨p0, p1, trivial⟩, by unfold zsb; rw [if_neg (by omega)]⟩ dX6_stepsBetween_16
  refine x_iload_n hx hb hl 2 rfl dX6_stepsBetween_7 rfl ?_
  refine x_goi (x_runS (As := [.int (xJ b)]) hx hb hml hown hT hE hW hl.1 cf_X6_isSpot wq831 wq890 (c_X6_isSpot l D g T h0 s0 hW.2.1 b rb) ⟨rfl, rfl, ⟨by decide, by decide⟩, ⟨by decide, by decide⟩⟩ rfl rfl (Nat.le_of_ble_eq_true rfl) dX6_stepsBetween_8) hW (fun x5 s6 H locs rx5 hp7 hW => ?_)
  obtain ⟨es6, hp7⟩ := hp7
  subst es6
  have ghp7 := hp7
  refine x_if_ne (tgt := 17) hx hb rx5 dX6_stepsBetween_11 (by decide) (fun c8 => ?_) (fun c8 => ?_)
  · skip
    refine x_aload_n hx hb hl 0 rfl dX6_stepsBetween_17 rfl ?_
    refine x_get (j := 3) (v := .ref (h0 + 107)) hx hb hown hT hE hW cls_X6 (Or.inl (by decide)) (so_3 h0 g _) (by decide) rfl wq229 dX6_stepsBetween_18 ?_
    refine x_iload_n hx hb hl 1 rfl dX6_stepsBetween_21 rfl ?_
    refine x_zald hx hb hE hW (Or.inl (by decide)) (sa_107 h0 g _) (by omega) (by decide) dX6_stepsBetween_22 ?_
    refine x_rd hW (fun x9 ex9 rx9 => ?_)
    have V22 : x9 = s0 107 a := ex9
    refine x_if_ne (tgt := 45) hx hb rx9 dX6_stepsBetween_23 (by decide) (fun c10 => ?_) (fun c10 => ?_)
    · skip
      refine x_aload_n hx hb hl 0 rfl dX6_stepsBetween_45 rfl ?_
      refine x_get (j := 2) (v := .ref (h0 + 6)) hx hb hown hT hE hW cls_X6 (Or.inl (by decide)) (so_3 h0 g _) (by decide) rfl wq228 dX6_stepsBetween_46 ?_
      refine x_iload_n hx hb hl 1 rfl dX6_stepsBetween_49 rfl ?_
      refine x_aaldR (t0 := 3) (n := 100) (r := 7 + (a).toNat) hx hb hE hW (by decide) rfl rfl (sg_6 h0 g _) (by omega) (by decide) rfl dX6_stepsBetween_50 ?_
      refine x_iload_n hx hb hl 2 rfl dX6_stepsBetween_51 rfl ?_
      refine x_iald hx hb hE hW (Or.inl (by omega)) (sa_steps0 h0 g (by omega) _) (by omega) (by decide) dX6_stepsBetween_52 ?_
      refine x_rd hW (fun x11 ex11 rx11 => ?_)
      have V52 := ex11
      rw [eQ]
      exact x_iret hx hb hr hlk hW rx11 ⟨hF, ⟨p0, p1, trivial⟩, by
          unfold zsb
          rw [if_pos (by omega), V52]
          first
            | exact p1 a (by omega) (by omega) (by omega) b (by omega) (by omega)
            | (rw [E44, xU_k _ _ _ (by first | decide | omega)]; exact R35 b (by omega) (by omega))⟩ dX6_stepsBetween_53
    refine x_aload_n hx hb hl 0 rfl dX6_stepsBetween_26 rfl ?_
    refine x_aload_n hx hb hl 0 rfl dX6_stepsBetween_27 rfl ?_
    refine x_get (j := 2) (v := .ref (h0 + 6)) hx hb hown hT hE hW cls_X6 (Or.inl (by decide)) (so_3 h0 g _) (by decide) rfl wq228 dX6_stepsBetween_28 ?_
    refine x_iload_n hx hb hl 1 rfl dX6_stepsBetween_31 rfl ?_
    refine x_aaldR (t0 := 3) (n := 100) (r := 7 + (a).toNat) hx hb hE hW (by decide) rfl rfl (sg_6 h0 g _) (by omega) (by decide) rfl dX6_stepsBetween_32 ?_
    refine x_iload_n hx hb hl 1 rfl dX6_stepsBetween_33 rfl ?_
    refine x_iconst hx hb dX6_stepsBetween_34 ?_
    refine x_gov (x_runV (As := [.ref (h0 + (7 + (a).toNat)), .int (xJ a), .int (xJ 0)]) hx hb hml hown hT hE hW hl.1 (Or.inl (by decide)) (so_3 h0 g _) rfl cf_X6_reckonRow wq893 wq60 wq891 (c_X6_reckonRowF l D g T h0 s0 hW.2.1 (7 + (a).toNat) (by omega) (by unfold nsC; omega) (fun σ => sa_steps0 h0 g (by omega) σ) a ra 0 (by decide) (by omega) (by omega) (by omega) p0) ⟨rfl, rfl, ⟨by decide, by decide⟩, ⟨by decide, by decide⟩⟩ rfl rfl (Nat.le_of_ble_eq_true rfl) dX6_stepsBetween_35) hW (fun s13 H locs hp14 hW => ?_)
    obtain ⟨fs13, hp14⟩ := hp14
    have hF15 := hF.call fs13 (fun k h => by omega)
    have q16 : s13 1 1 = s0 1 1 := (congrFun (fs13 _ (by omega)) _).trans k1_1
    have ghp14 := hp14.2
    have R35 := ghp14
    have F35 : s13 107 = s0 107 ∧ s13 4 = s0 4 := ⟨fs13 107 (by first | decide | omega), fs13 4 (by first | decide | omega)⟩
    have G35 : ∀ k : Nat, k ≠ 7 + a.toNat → s13 k = s0 k := fun k hk => fs13 k (by omega)
    refine x_aload_n hx hb hl 0 rfl dX6_stepsBetween_38 rfl ?_
    refine x_get (j := 3) (v := .ref (h0 + 107)) hx hb hown hT hE hW cls_X6 (Or.inl (by decide)) (so_3 h0 g _) (by decide) rfl wq229 dX6_stepsBetween_39 ?_
    refine x_iload_n hx hb hl 1 rfl dX6_stepsBetween_42 rfl ?_
    refine x_iconst hx hb dX6_stepsBetween_43 ?_
    refine x_zast hx hb hE hW (by decide) (fun σ => sa_107 h0 g σ) (by omega) (by decide) (by omega) dX6_stepsBetween_44 (fun H locs s17 es17 hW => ?_)
    have q18 : s17 1 1 = s0 1 1 := (show s17 1 1 = s13 1 1 from by rw [es17, xU_k _ _ _ (by first | decide | omega)]).trans q16
    have q19 : IC s17 := by rw [es17]; exact IC_o (by decide) hp14.1.1
    have hF20 := hF15.put es17 (by omega)
    have E44 := es17
    refine x_aload_n hx hb hl 0 rfl dX6_stepsBetween_45 rfl ?_
    refine x_get (j := 2) (v := .ref (h0 + 6)) hx hb hown hT hE hW cls_X6 (Or.inl (by decide)) (so_3 h0 g _) (by decide) rfl wq228 dX6_stepsBetween_46 ?_
    refine x_iload_n hx hb hl 1 rfl dX6_stepsBetween_49 rfl ?_
    refine x_aaldR (t0 := 3) (n := 100) (r := 7 + (a).toNat) hx hb hE hW (by decide) rfl rfl (sg_6 h0 g _) (by omega) (by decide) rfl dX6_stepsBetween_50 ?_
    refine x_iload_n hx hb hl 2 rfl dX6_stepsBetween_51 rfl ?_
    refine x_iald hx hb hE hW (Or.inl (by omega)) (sa_steps0 h0 g (by omega) _) (by omega) (by decide) dX6_stepsBetween_52 ?_
    refine x_rd hW (fun x21 ex21 rx21 => ?_)
    have V52 := ex21
    rw [eQ]
    exact x_iret hx hb hr hlk hW rx21 ⟨hF20, ⟨q19, (fun a2 a21 a22 a23 t t1 t2 => by
          have e4 : s17 4 = s0 4 := by rw [E44, xU_k _ _ _ (by first | decide | omega)]; exact F35.2
          rw [e4]
          rw [E44, xU_xud] at a23
          by_cases e : a2 = a
          · subst e
            rw [E44, xU_k _ _ _ (by first | decide | omega)]
            exact R35 t t1 t2
          · rw [xud_o _ _ e, F35.1] at a23
            rw [E44, xU_k _ _ _ (by first | decide | omega), G35 _ (by omega)]
            exact p1 a2 a21 a22 a23 t t1 t2), trivial⟩, by
        unfold zsb
        rw [if_pos (by omega), V52]
        first
          | exact p1 a (by omega) (by omega) (by omega) b (by omega) (by omega)
          | (rw [E44, xU_k _ _ _ (by first | decide | omega)]; exact R35 b (by omega) (by omega))⟩ dX6_stepsBetween_53
  refine x_bipush hx hb dX6_stepsBetween_14 (by decide) ?_
  rw [eQ]
  exact x_iret hx hb hr hlk hW (by decide) ⟨hF, ⟨p0, p1, trivial⟩, by unfold zsb; rw [if_neg (by omega)]⟩ dX6_stepsBetween_16

set_option maxHeartbeats 4000000 in
set_option maxRecDepth 100000 in
theorem c_X4_tellMinuteF (l : Launch) (D : va_G) (g : xG) (T : Nat × Nat × Nat) (h0 : Nat) (s0 : xS) (hσ : xRR s0) (t : Int) (rt : xR t) (ht : 0 ≤ t ∧ t ≤ 9999) (p0 : IC s0) : Met l yX4_tellMinute (xws yX4_tellMinute cX4_tellMinute 3 none) { frames := 0, cells := 0, slots := 0, locals := 0 } (xP [.ref (h0 + 109), .int (xJ t)] D g T h0 s0) (xQv D g h0 (fun τ => xFr (fun k => k = 115) s0 τ ∧ (((IC τ) ∧ True) ∧ (∀ k : Int, 0 ≤ k → k < 7 → τ 115 k = zf0 t k)))) 0 0 (xA h0) := by
  refine x_met hσ (by decide) (Nat.le_of_ble_eq_true rfl) ?_
  intro p e s m args below meth c hx hb hr hml hown hT hlk hnm hE hW ls hl
  have hl : lv_has ls 3 [(0, .ref (h0 + 109)), (1, .int (xJ t))] := hl
  obtain ⟨Q, eQ⟩ : ∃ Q, Q = MQ below (xQv D g h0 (fun τ => xFr (fun k => k = 115) s0 τ ∧ (((IC τ) ∧ True) ∧ (∀ k : Int, 0 ≤ k → k < 7 → τ 115 k = zf0 t k)))) args s 0 0 (xA h0) := ⟨_, rfl⟩
  rw [← eQ]
  generalize hHe : ([] : List Loc) = locs at hW ⊢
  obtain ⟨H, eH⟩ : ∃ H, H = s.heap := ⟨_, rfl⟩
  rw [← eH] at hW ⊢
  have hF : xFr (fun k => k = 115) s0 s0 := xFr.rf
  have k1_1 : s0 1 1 = s0 1 1 := rfl
  refine x_iconst hx hb dX4_tellMinute_0 ?_
  refine lv_istore_n (lv' := [(2, .int (xJ 2)), (0, .ref (h0 + 109)), (1, .int (xJ t))]) hx hb dX4_tellMinute_1 rfl hl (by decide) rfl (fun ls hl => ?_)
  have L2 : ∀ (fu : Nat) (i2_2 : Int) (s_2 : xS) (H : Heap) (locs : List Loc) (ls : Array Slot), (xR i2_2) → (xFr (fun k => k = 115) s0 s_2) → (IC s_2) → (s_2 1 1 = s0 1 1) → (2 ≤ i2_2 ∧ i2_2 ≤ 7) → (∀ k : Int, 2 ≤ k → k < i2_2 → s_2 115 k = 0) → (7 - i2_2).toNat < fu → xW D g h0 s H locs s_2 → lv_has ls 3 [(0, .ref (h0 + 109)), (1, .int (xJ t)), (2, .int (xJ i2_2))] → W p l e { frames := 0, cells := 0, slots := 0, locals := 0 } s m args below meth c H locs 0 0 Q (F0 m 2 ls []) := by
    intro fu
    induction fu with
    | zero => intro i2_2 s_2 H locs ls ri2_2 hF_2 q2_0 q2_1 v2_0 v2_1 hm; exact absurd hm (Nat.not_lt_zero _)
    | succ fu ih2 =>
      intro i2_2 s_2 H locs ls ri2_2 hF_2 q2_0 q2_1 v2_0 v2_1 hm hW hl
      have hm_2 := fun (_ : Unit) => hm
      clear hm
      refine x_iload_n hx hb hl 2 rfl dX4_tellMinute_2 rfl ?_
      refine x_aload_n hx hb hl 0 rfl dX4_tellMinute_3 rfl ?_
      refine x_get (j := 7) (v := .ref (h0 + 115)) hx hb hown hT hE hW cls_X4 (Or.inl (by decide)) (so_109 h0 g _) (by decide) rfl wq264 dX4_tellMinute_4 ?_
      refine x_alen (n := 7) (t0 := 0) hx hb hE hW (Or.inl (by decide)) (sa_115 h0 g _) rfl rfl dX4_tellMinute_7 ?_
      refine x_icmp_ge (tgt := 24) hx hb ri2_2 (by decide) dX4_tellMinute_8 (by decide) (fun c1 => ?_) (fun c1 => ?_)
      · skip
        refine x_aload_n hx hb hl 0 rfl dX4_tellMinute_24 rfl ?_
        refine x_get (j := 7) (v := .ref (h0 + 115)) hx hb hown hT hE hW cls_X4 (Or.inl (by decide)) (so_109 h0 g _) (by decide) rfl wq264 dX4_tellMinute_25 ?_
        refine x_iconst hx hb dX4_tellMinute_28 ?_
        refine x_iload_n hx hb hl 1 rfl dX4_tellMinute_29 rfl ?_
        refine x_iast hx hb hE hW (by decide) (fun σ => sa_115 h0 g σ) ⟨by decide, by decide⟩ (by decide) rt dX4_tellMinute_30 (fun H locs s2 es2 hW => ?_)
        have q3 : IC s2 := by rw [es2]; exact IC_o (by decide) q2_0
        have q4 : s2 1 1 = s0 1 1 := (show s2 1 1 = s_2 1 1 from by rw [es2, xU_k _ _ _ (by first | decide | omega)]).trans q2_1
        have hF5 := hF_2.put es2 (by omega)
        have E30 := es2
        refine x_aload_n hx hb hl 0 rfl dX4_tellMinute_31 rfl ?_
        refine x_get (j := 7) (v := .ref (h0 + 115)) hx hb hown hT hE hW cls_X4 (Or.inl (by decide)) (so_109 h0 g _) (by decide) rfl wq264 dX4_tellMinute_32 ?_
        refine x_iconst hx hb dX4_tellMinute_35 ?_
        refine x_iload_n hx hb hl 1 rfl dX4_tellMinute_36 rfl ?_
        refine x_bipush hx hb dX4_tellMinute_37 (by decide) ?_
        refine x_idiv hx hb rt (by decide) (by omega) (by decide) dX4_tellMinute_39 ?_
        refine x_bipush hx hb dX4_tellMinute_40 (by decide) ?_
        refine x_irem hx hb (by omega) (by decide) (by omega) (by decide) dX4_tellMinute_42 ?_
        refine x_iast hx hb hE hW (by decide) (fun σ => sa_115 h0 g σ) ⟨by decide, by decide⟩ (by decide) (by omega) dX4_tellMinute_43 (fun H locs s6 es6 hW => ?_)
        have q7 : IC s6 := by rw [es6]; exact IC_o (by decide) q3
        have q8 : s6 1 1 = s0 1 1 := (show s6 1 1 = s2 1 1 from by rw [es6, xU_k _ _ _ (by first | decide | omega)]).trans q4
        have hF9 := hF5.put es6 (by omega)
        have E43 := es6
        rw [eQ]
        exact x_vret hx hb hr hlk hW ⟨hF9, ⟨q7, trivial⟩, fun k k1 k2 => by
            rw [E43, xU_xud, E30, xU_xud]
            refine zf0_i (fun h => ?_) (fun h => ?_) (fun h h2 => ?_)
            · subst h; rw [xud_o _ _ (by decide), xud_s]
            · subst h; rw [xud_s]
            · rw [xud_o _ _ h2, xud_o _ _ h]; exact v2_1 k (by omega) (by omega)⟩ dX4_tellMinute_44
      refine x_aload_n hx hb hl 0 rfl dX4_tellMinute_11 rfl ?_
      refine x_get (j := 7) (v := .ref (h0 + 115)) hx hb hown hT hE hW cls_X4 (Or.inl (by decide)) (so_109 h0 g _) (by decide) rfl wq264 dX4_tellMinute_12 ?_
      refine x_iload_n hx hb hl 2 rfl dX4_tellMinute_15 rfl ?_
      refine x_iconst hx hb dX4_tellMinute_16 ?_
      refine x_iast hx hb hE hW (by decide) (fun σ => sa_115 h0 g σ) (by omega) (by decide) (by decide) dX4_tellMinute_17 (fun H locs s10 es10 hW => ?_)
      have q11 : IC s10 := by rw [es10]; exact IC_o (by decide) q2_0
      have q12 : s10 1 1 = s0 1 1 := (show s10 1 1 = s_2 1 1 from by rw [es10, xU_k _ _ _ (by first | decide | omega)]).trans q2_1
      have hF13 := hF_2.put es10 (by omega)
      have E17 := es10
      refine x_iinc (lv' := [(2, .int (xJ (i2_2 + 1))), (0, .ref (h0 + 109)), (1, .int (xJ t))]) hx hb hl 2 rfl dX4_tellMinute_18 (by decide) rfl (fun ls hl => ?_)
      refine lv_goto (tgt := 2) hx hb dX4_tellMinute_21 (by decide) ?_
      exact ih2 (i2_2 + 1) s10 H locs ls (by omega) hF13 q11 q12 (by omega) (fun k k1 k2 => by
            rw [E17, xU_xud]
            by_cases h : k = i2_2
            · subst h; rw [xud_s]
            · rw [xud_o _ _ h]; exact v2_1 k k1 (by omega)) (by have hm := hm_2 (); omega) hW (lv_sub hl [1, 2, 0] rfl)
  exact L2 ((7 - 2 : Int).toNat + 1) 2 s0 H locs ls (by decide) hF p0 k1_1 (by omega) (fun k k1 k2 => absurd k2 (by omega)) (Nat.lt_succ_self _) hW (lv_sub hl [1, 2, 0] rfl)
set_option maxHeartbeats 4000000 in
set_option maxRecDepth 100000 in
theorem c_X4_tellJudgeF (l : Launch) (D : va_G) (g : xG) (T : Nat × Nat × Nat) (h0 : Nat) (s0 : xS) (hσ : xRR s0) (t : Int) (rt : xR t) (j : Int) (rj : xR j) (ht : 0 ≤ t ∧ t ≤ 9999) (p0 : IC s0) : Met l yX4_tellJudge (xws yX4_tellJudge cX4_tellJudge 3 none) { frames := 1, cells := 0, slots := 0, locals := 22 } (xP [.ref (h0 + 109), .int (xJ t), .int (xJ j)] D g T h0 s0) (xQv D g h0 (fun τ => xFr (fun k => k = 115) s0 τ ∧ (((IC τ) ∧ True) ∧ (∀ k : Int, 0 ≤ k → k < 7 → τ 115 k = zfJ t j k)))) 0 0 (xA h0) := by
  refine x_met hσ (by decide) (Nat.le_of_ble_eq_true rfl) ?_
  intro p e s m args below meth c hx hb hr hml hown hT hlk hnm hE hW ls hl
  have hl : lv_has ls 3 [(0, .ref (h0 + 109)), (1, .int (xJ t)), (2, .int (xJ j))] := hl
  obtain ⟨Q, eQ⟩ : ∃ Q, Q = MQ below (xQv D g h0 (fun τ => xFr (fun k => k = 115) s0 τ ∧ (((IC τ) ∧ True) ∧ (∀ k : Int, 0 ≤ k → k < 7 → τ 115 k = zfJ t j k)))) args s 0 0 (xA h0) := ⟨_, rfl⟩
  rw [← eQ]
  generalize hHe : ([] : List Loc) = locs at hW ⊢
  obtain ⟨H, eH⟩ : ∃ H, H = s.heap := ⟨_, rfl⟩
  rw [← eH] at hW ⊢
  have hF : xFr (fun k => k = 115) s0 s0 := xFr.rf
  have k1_1 : s0 1 1 = s0 1 1 := rfl
  refine x_aload_n hx hb hl 0 rfl dX4_tellJudge_0 rfl ?_
  refine x_iload_n hx hb hl 1 rfl dX4_tellJudge_1 rfl ?_
  refine x_gov (x_runV (As := [.int (xJ t)]) hx hb hml hown hT hE hW hl.1 (Or.inl (by decide)) (so_109 h0 g _) rfl cf_X4_tellMinute wq793 wq40 wq821 (c_X4_tellMinuteF l D g T h0 s0 hW.2.1 t rt (by omega) p0) ⟨rfl, rfl, ⟨by decide, by decide⟩, ⟨by decide, by decide⟩⟩ rfl rfl (Nat.le_of_ble_eq_true rfl) dX4_tellJudge_2) hW (fun s2 H locs hp3 hW => ?_)
  obtain ⟨fs2, hp3⟩ := hp3
  have hF4 := hF.call fs2 (fun k h => by omega)
  have q5 : s2 1 1 = s0 1 1 := (congrFun (fs2 _ (by omega)) _).trans k1_1
  have ghp3 := hp3.2
  have H2 := ghp3
  refine x_aload_n hx hb hl 0 rfl dX4_tellJudge_5 rfl ?_
  refine x_get (j := 7) (v := .ref (h0 + 115)) hx hb hown hT hE hW cls_X4 (Or.inl (by decide)) (so_109 h0 g _) (by decide) rfl wq264 dX4_tellJudge_6 ?_
  refine x_iconst hx hb dX4_tellJudge_9 ?_
  refine x_iload_n hx hb hl 2 rfl dX4_tellJudge_10 rfl ?_
  refine x_iast hx hb hE hW (by decide) (fun σ => sa_115 h0 g σ) ⟨by decide, by decide⟩ (by decide) rj dX4_tellJudge_11 (fun H locs s6 es6 hW => ?_)
  have q7 : s6 1 1 = s0 1 1 := (show s6 1 1 = s2 1 1 from by rw [es6, xU_k _ _ _ (by first | decide | omega)]).trans q5
  have q8 : IC s6 := by rw [es6]; exact IC_o (by decide) hp3.1.1
  have hF9 := hF4.put es6 (by omega)
  have E11 := es6
  rw [eQ]
  exact x_vret hx hb hr hlk hW ⟨hF9, ⟨q8, trivial⟩, fun k k1 k2 => by rw [E11, xU_xud]; exact zud_c (fun _ => H2 k k1 k2)⟩ dX4_tellJudge_12
set_option maxHeartbeats 4000000 in
set_option maxRecDepth 100000 in
theorem c_X4_tellFelonF (l : Launch) (D : va_G) (g : xG) (T : Nat × Nat × Nat) (h0 : Nat) (s0 : xS) (hσ : xRR s0) (t : Int) (rt : xR t) (f : Int) (rf : xR f) (w : Int) (rw : xR w) (b : Int) (rb : xR b) (q : Int) (rq : xR q) (ht : 0 ≤ t ∧ t ≤ 9999) (p0 : IC s0) : Met l yX4_tellFelon (xws yX4_tellFelon cX4_tellFelon 6 none) { frames := 1, cells := 0, slots := 0, locals := 22 } (xP [.ref (h0 + 109), .int (xJ t), .int (xJ f), .int (xJ w), .int (xJ b), .int (xJ q)] D g T h0 s0) (xQv D g h0 (fun τ => xFr (fun k => k = 115) s0 τ ∧ (((IC τ) ∧ True) ∧ (∀ k : Int, 0 ≤ k → k < 7 → τ 115 k = zfF t f w b q k)))) 0 0 (xA h0) := by
  refine x_met hσ (by decide) (Nat.le_of_ble_eq_true rfl) ?_
  intro p e s m args below meth c hx hb hr hml hown hT hlk hnm hE hW ls hl
  have hl : lv_has ls 6 [(0, .ref (h0 + 109)), (1, .int (xJ t)), (2, .int (xJ f)), (3, .int (xJ w)), (4, .int (xJ b)), (5, .int (xJ q))] := hl
  obtain ⟨Q, eQ⟩ : ∃ Q, Q = MQ below (xQv D g h0 (fun τ => xFr (fun k => k = 115) s0 τ ∧ (((IC τ) ∧ True) ∧ (∀ k : Int, 0 ≤ k → k < 7 → τ 115 k = zfF t f w b q k)))) args s 0 0 (xA h0) := ⟨_, rfl⟩
  rw [← eQ]
  generalize hHe : ([] : List Loc) = locs at hW ⊢
  obtain ⟨H, eH⟩ : ∃ H, H = s.heap := ⟨_, rfl⟩
  rw [← eH] at hW ⊢
  have hF : xFr (fun k => k = 115) s0 s0 := xFr.rf
  have k1_1 : s0 1 1 = s0 1 1 := rfl
  refine x_aload_n hx hb hl 0 rfl dX4_tellFelon_0 rfl ?_
  refine x_iload_n hx hb hl 1 rfl dX4_tellFelon_1 rfl ?_
  refine x_gov (x_runV (As := [.int (xJ t)]) hx hb hml hown hT hE hW hl.1 (Or.inl (by decide)) (so_109 h0 g _) rfl cf_X4_tellMinute wq793 wq40 wq821 (c_X4_tellMinuteF l D g T h0 s0 hW.2.1 t rt (by omega) p0) ⟨rfl, rfl, ⟨by decide, by decide⟩, ⟨by decide, by decide⟩⟩ rfl rfl (Nat.le_of_ble_eq_true rfl) dX4_tellFelon_2) hW (fun s2 H locs hp3 hW => ?_)
  obtain ⟨fs2, hp3⟩ := hp3
  have hF4 := hF.call fs2 (fun k h => by omega)
  have q5 : s2 1 1 = s0 1 1 := (congrFun (fs2 _ (by omega)) _).trans k1_1
  have ghp3 := hp3.2
  have H2 := ghp3
  refine x_aload_n hx hb hl 0 rfl dX4_tellFelon_5 rfl ?_
  refine x_get (j := 7) (v := .ref (h0 + 115)) hx hb hown hT hE hW cls_X4 (Or.inl (by decide)) (so_109 h0 g _) (by decide) rfl wq264 dX4_tellFelon_6 ?_
  refine x_iconst hx hb dX4_tellFelon_9 ?_
  refine x_iload_n hx hb hl 2 rfl dX4_tellFelon_10 rfl ?_
  refine x_iast hx hb hE hW (by decide) (fun σ => sa_115 h0 g σ) ⟨by decide, by decide⟩ (by decide) rf dX4_tellFelon_11 (fun H locs s6 es6 hW => ?_)
  have q7 : s6 1 1 = s0 1 1 := (show s6 1 1 = s2 1 1 from by rw [es6, xU_k _ _ _ (by first | decide | omega)]).trans q5
  have q8 : IC s6 := by rw [es6]; exact IC_o (by decide) hp3.1.1
  have hF9 := hF4.put es6 (by omega)
  have E11 := es6
  refine x_aload_n hx hb hl 0 rfl dX4_tellFelon_12 rfl ?_
  refine x_get (j := 7) (v := .ref (h0 + 115)) hx hb hown hT hE hW cls_X4 (Or.inl (by decide)) (so_109 h0 g _) (by decide) rfl wq264 dX4_tellFelon_13 ?_
  refine x_iconst hx hb dX4_tellFelon_16 ?_
  refine x_iload_n hx hb hl 3 rfl dX4_tellFelon_17 rfl ?_
  refine x_iast hx hb hE hW (by decide) (fun σ => sa_115 h0 g σ) ⟨by decide, by decide⟩ (by decide) rw dX4_tellFelon_18 (fun H locs s10 es10 hW => ?_)
  have q11 : s10 1 1 = s0 1 1 := (show s10 1 1 = s6 1 1 from by rw [es10, xU_k _ _ _ (by first | decide | omega)]).trans q7
  have q12 : IC s10 := by rw [es10]; exact IC_o (by decide) q8
  have hF13 := hF9.put es10 (by omega)
  have E18 := es10
  refine x_aload_n hx hb hl 0 rfl dX4_tellFelon_19 rfl ?_
  refine x_get (j := 7) (v := .ref (h0 + 115)) hx hb hown hT hE hW cls_X4 (Or.inl (by decide)) (so_109 h0 g _) (by decide) rfl wq264 dX4_tellFelon_20 ?_
  refine x_iconst hx hb dX4_tellFelon_23 ?_
  refine x_iload hx hb hl 4 rfl dX4_tellFelon_24 ?_
  refine x_iast hx hb hE hW (by decide) (fun σ => sa_115 h0 g σ) ⟨by decide, by decide⟩ (by decide) rb dX4_tellFelon_26 (fun H locs s14 es14 hW => ?_)
  have q15 : s14 1 1 = s0 1 1 := (show s14 1 1 = s10 1 1 from by rw [es14, xU_k _ _ _ (by first | decide | omega)]).trans q11
  have q16 : IC s14 := by rw [es14]; exact IC_o (by decide) q12
  have hF17 := hF13.put es14 (by omega)
  have E26 := es14
  refine x_aload_n hx hb hl 0 rfl dX4_tellFelon_27 rfl ?_
  refine x_get (j := 7) (v := .ref (h0 + 115)) hx hb hown hT hE hW cls_X4 (Or.inl (by decide)) (so_109 h0 g _) (by decide) rfl wq264 dX4_tellFelon_28 ?_
  refine x_bipush hx hb dX4_tellFelon_31 (by decide) ?_
  refine x_iload hx hb hl 5 rfl dX4_tellFelon_33 ?_
  refine x_iast hx hb hE hW (by decide) (fun σ => sa_115 h0 g σ) ⟨by decide, by decide⟩ (by decide) rq dX4_tellFelon_35 (fun H locs s18 es18 hW => ?_)
  have q19 : s18 1 1 = s0 1 1 := (show s18 1 1 = s14 1 1 from by rw [es18, xU_k _ _ _ (by first | decide | omega)]).trans q15
  have q20 : IC s18 := by rw [es18]; exact IC_o (by decide) q16
  have hF21 := hF17.put es18 (by omega)
  have E35 := es18
  rw [eQ]
  exact x_vret hx hb hr hlk hW ⟨hF21, ⟨q20, trivial⟩, fun k k1 k2 => by rw [E35, xU_xud, E26, xU_xud, E18, xU_xud, E11, xU_xud]; exact zud_c (fun _ => zud_c (fun _ => zud_c (fun _ => zud_c (fun _ => H2 k k1 k2))))⟩ dX4_tellFelon_36
set_option maxHeartbeats 4000000 in
set_option maxRecDepth 100000 in
theorem c_X4_worthOfF (l : Launch) (D : va_G) (g : xG) (T : Nat × Nat × Nat) (h0 : Nat) (s0 : xS) (hσ : xRR s0) (q : Int) (rq : xR q) (w : Int) (rw : xR w) (q9 : zLaw) (F9 : Int → Int) (hok : zLok q9) (hlc : zLD s0 q9) (hF9 : ∀ k : Int, 0 ≤ k → k < 7 → s0 115 k = F9 k) (hkd : q ≠ 110) (hw0 : 0 ≤ w) (p0 : IC s0) : Met l yX4_worthOf (xws yX4_worthOf cX4_worthOf 4 (some .int)) { frames := 2, cells := 0, slots := 0, locals := 50 } (xP [.ref (h0 + 109), .int (xJ q), .int (xJ w)] D g T h0 s0) (xQi D g h0 (fun r τ => xFr (fun k => k = 116) s0 τ ∧ (((IC τ) ∧ True) ∧ (r = zwo q9 q w F9)))) 0 0 (xA h0) := by
  refine x_met hσ (by decide) (Nat.le_of_ble_eq_true rfl) ?_
  intro p e s m args below meth c hx hb hr hml hown hT hlk hnm hE hW ls hl
  have hl : lv_has ls 4 [(0, .ref (h0 + 109)), (1, .int (xJ q)), (2, .int (xJ w))] := hl
  obtain ⟨Q, eQ⟩ : ∃ Q, Q = MQ below (xQi D g h0 (fun r τ => xFr (fun k => k = 116) s0 τ ∧ (((IC τ) ∧ True) ∧ (r = zwo q9 q w F9)))) args s 0 0 (xA h0) := ⟨_, rfl⟩
  rw [← eQ]
  generalize hHe : ([] : List Loc) = locs at hW ⊢
  obtain ⟨H, eH⟩ : ∃ H, H = s.heap := ⟨_, rfl⟩
  rw [← eH] at hW ⊢
  have hF : xFr (fun k => k = 116) s0 s0 := xFr.rf
  have k1_1 : s0 1 1 = s0 1 1 := rfl
  have hM := hok.1
  have hm6 := hlc.1
  obtain ⟨V0, eV0⟩ : ∃ v : Int, v = zwo q9 q w F9 := ⟨_, rfl⟩
  refine x_iconst hx hb dX4_worthOf_0 ?_
  refine lv_istore_n (lv' := [(3, .int (xJ 0)), (0, .ref (h0 + 109)), (1, .int (xJ q)), (2, .int (xJ w))]) hx hb dX4_worthOf_1 rfl hl (by decide) rfl (fun ls hl => ?_)
  have L2 : ∀ (fu : Nat) (i3_2 : Int) (s_2 : xS) (H : Heap) (locs : List Loc) (ls : Array Slot), (xR i3_2) → (xFr (fun k => k = 116) s0 s_2) → (IC s_2) → (s_2 1 1 = s0 1 1) → (0 ≤ i3_2 ∧ i3_2 ≤ s0 109 6) → (V0 = zwoN q9 q w F9 (s0 109 6 - i3_2).toNat i3_2) → (17 - i3_2).toNat < fu → xW D g h0 s H locs s_2 → lv_has ls 4 [(0, .ref (h0 + 109)), (1, .int (xJ q)), (2, .int (xJ w)), (3, .int (xJ i3_2))] → W p l e { frames := 2, cells := 0, slots := 0, locals := 50 } s m args below meth c H locs 0 0 Q (F0 m 2 ls []) := by
    intro fu
    induction fu with
    | zero => intro i3_2 s_2 H locs ls ri3_2 hF_2 q2_0 q2_1 v2_0 v2_1 hm; exact absurd hm (Nat.not_lt_zero _)
    | succ fu ih2 =>
      intro i3_2 s_2 H locs ls ri3_2 hF_2 q2_0 q2_1 v2_0 v2_1 hm hW hl
      have hm_2 := fun (_ : Unit) => hm
      clear hm
      have u2 : s_2 109 6 = s0 109 6 := congrFun (hF_2 109 (by first | decide | omega)) 6
      refine x_iload_n hx hb hl 3 rfl dX4_worthOf_2 rfl ?_
      refine x_aload_n hx hb hl 0 rfl dX4_worthOf_3 rfl ?_
      refine x_get (j := 6) (v := .int (xJ (s_2 109 6))) hx hb hown hT hE hW cls_X4 (Or.inl (by decide)) (so_109 h0 g _) (by decide) rfl wq261 dX4_worthOf_4 ?_
      refine x_rd hW (fun x1 ex1 rx1 => ?_)
      have bx1 : 0 ≤ x1 ∧ x1 ≤ 16 := by rw [ex1]; exact (IC.l1 q2_0).2
      refine x_icmp_ge (tgt := 58) hx hb ri3_2 rx1 dX4_worthOf_7 (by decide) (fun c2 => ?_) (fun c2 => ?_)
      · skip
        refine x_iconst hx hb dX4_worthOf_58 ?_
        rw [eQ]
        exact x_iret hx hb hr hlk hW (by decide) ⟨hF_2, ⟨q2_0, trivial⟩, by
            rw [← eV0, v2_1, show (s0 109 6 - i3_2).toNat = 0 from by omega]
            rfl⟩ dX4_worthOf_59
      refine x_aload_n hx hb hl 0 rfl dX4_worthOf_10 rfl ?_
      refine x_get (j := 3) (v := .ref (h0 + 112)) hx hb hown hT hE hW cls_X4 (Or.inl (by decide)) (so_109 h0 g _) (by decide) rfl wq255 dX4_worthOf_11 ?_
      refine x_iload_n hx hb hl 3 rfl dX4_worthOf_14 rfl ?_
      refine x_iald hx hb hE hW (Or.inl (by decide)) (sa_112 h0 g _) (by omega) (by decide) dX4_worthOf_15 ?_
      refine x_rd hW (fun x3 ex3 rx3 => ?_)
      have l15 := hlc.f (fun k hk => hF_2 k (by omega))
      have V15 : x3 = q9.2.1 i3_2 := ex3.trans (l15.k hok (i := i3_2) (by omega) (by omega))
      refine x_iload_n hx hb hl 1 rfl dX4_worthOf_16 rfl ?_
      refine x_icmp_ne (tgt := 52) hx hb rx3 rq dX4_worthOf_17 (by decide) (fun c4 => ?_) (fun c4 => ?_)
      · skip
        refine x_iinc (lv' := [(3, .int (xJ (i3_2 + 1))), (0, .ref (h0 + 109)), (1, .int (xJ q)), (2, .int (xJ w))]) hx hb hl 3 rfl dX4_worthOf_52 (by decide) rfl (fun ls hl => ?_)
        refine lv_goto (tgt := 2) hx hb dX4_worthOf_55 (by decide) ?_
        exact ih2 (i3_2 + 1) s_2 H locs ls (by omega) hF_2 q2_0 q2_1 (by omega) (by
            rw [show (s0 109 6 - i3_2).toNat = (s0 109 6 - (i3_2 + 1)).toNat + 1 from by omega] at v2_1
            exact v2_1.trans (if_neg (by first | exact (fun c => absurd (V15.trans c.1) (by omega)) | exact (fun c => absurd R27 (by have y := c.2; omega))))) (by have hm := hm_2 (); omega) hW (lv_sub hl [1, 2, 3, 0] rfl)
      refine x_aload_n hx hb hl 0 rfl dX4_worthOf_20 rfl ?_
      refine x_aload_n hx hb hl 0 rfl dX4_worthOf_21 rfl ?_
      refine x_get (j := 5) (v := .ref (h0 + 114)) hx hb hown hT hE hW cls_X4 (Or.inl (by decide)) (so_109 h0 g _) (by decide) rfl wq259 dX4_worthOf_22 ?_
      refine x_iload_n hx hb hl 3 rfl dX4_worthOf_25 rfl ?_
      refine x_iald hx hb hE hW (Or.inl (by decide)) (sa_114 h0 g _) (by omega) (by decide) dX4_worthOf_26 ?_
      refine x_rd hW (fun x5 ex5 rx5 => ?_)
      have l26 := hlc.f (fun k hk => hF_2 k (by omega))
      have W26 := l26.c hok (i := i3_2) (by omega) (by omega)
      obtain ⟨d9, hd9⟩ := (hok.2 i3_2 (by omega) (by omega)).2
      have A26 : x5 = q9.2.2.2.1 i3_2 + (2 * i3_2 + 1) := ex5.trans W26.2
      have F26 : s_2 115 = s0 115 := hF_2 115 (by first | decide | omega)
      refine x_goi (x_runV (As := [.int (xJ x5)]) hx hb hml hown hT hE hW hl.1 (Or.inl (by decide)) (so_109 h0 g _) rfl cf_X4_reckon wq806 wq43 wq804 (c_X4_reckonV l D g T h0 s_2 hW.2.1 x5 rx5 q9.1 d9 (q9.2.2.2.1 i3_2) (q9.2.2.2.2.1 i3_2) true (2 * i3_2 + 1) (hd9) (W26.1) (by omega) q2_0) ⟨rfl, rfl, ⟨by decide, by decide⟩, ⟨by decide, by decide⟩⟩ rfl rfl (Nat.le_of_ble_eq_true rfl) dX4_worthOf_27) hW (fun x6 s7 H locs rx6 hp8 hW => ?_)
      obtain ⟨fs7, hp8⟩ := hp8
      have hF10 := hF_2.call fs7 (fun k h => by omega)
      have q11 : s7 1 1 = s0 1 1 := (congrFun (fs7 _ (by omega)) _).trans q2_1
      have ghp8 := hp8.2
      have R27 : x6 = zEV q9.1 F9 (q9.2.2.2.1 i3_2) (q9.2.2.2.2.1 i3_2) := ghp8.trans (zEV_F hd9 (fun k k1 k2 => by rw [F26]; exact hF9 k k1 k2))
      refine x_if_eq (tgt := 52) hx hb rx6 dX4_worthOf_30 (by decide) (fun c12 => ?_) (fun c12 => ?_)
      · skip
        refine x_iinc (lv' := [(3, .int (xJ (i3_2 + 1))), (0, .ref (h0 + 109)), (1, .int (xJ q)), (2, .int (xJ w))]) hx hb hl 3 rfl dX4_worthOf_52 (by decide) rfl (fun ls hl => ?_)
        refine lv_goto (tgt := 2) hx hb dX4_worthOf_55 (by decide) ?_
        exact ih2 (i3_2 + 1) s7 H locs ls (by omega) hF10 hp8.1.1 q11 (by omega) (by
            rw [show (s0 109 6 - i3_2).toNat = (s0 109 6 - (i3_2 + 1)).toNat + 1 from by omega] at v2_1
            exact v2_1.trans (if_neg (by first | exact (fun c => absurd (V15.trans c.1) (by omega)) | exact (fun c => absurd R27 (by have y := c.2; omega))))) (by have hm := hm_2 (); omega) hW (lv_sub hl [1, 2, 3, 0] rfl)
      refine x_iconst hx hb dX4_worthOf_33 ?_
      refine x_iload_n hx hb hl 2 rfl dX4_worthOf_34 rfl ?_
      refine x_aload_n hx hb hl 0 rfl dX4_worthOf_35 rfl ?_
      refine x_aload_n hx hb hl 0 rfl dX4_worthOf_36 rfl ?_
      refine x_get (j := 4) (v := .ref (h0 + 113)) hx hb hown hT hE hW cls_X4 (Or.inl (by decide)) (so_109 h0 g _) (by decide) rfl wq257 dX4_worthOf_37 ?_
      refine x_iload_n hx hb hl 3 rfl dX4_worthOf_40 rfl ?_
      refine x_iald hx hb hE hW (Or.inl (by decide)) (sa_113 h0 g _) (by omega) (by decide) dX4_worthOf_41 ?_
      refine x_rd hW (fun x13 ex13 rx13 => ?_)
      have l41 := hlc.f (fun k hk => hF10 k (by omega))
      have u41 : s7 109 6 = s0 109 6 := congrFun (hF10 109 (by first | decide | omega)) 6
      have W41 := l41.e hok (i := i3_2) (by omega) (by omega)
      obtain ⟨e9, he9⟩ := (hok.2 i3_2 (by omega) (by omega)).1 (fun c => hkd (by omega))
      have A41 : x13 = q9.2.2.1 i3_2 + 2 * i3_2 := ex13.trans W41.2
      have F41 : s7 115 = s0 115 := hF10 115 (by first | decide | omega)
      refine x_goi (x_runV (As := [.int (xJ x13)]) hx hb hml hown hT hE hW hl.1 (Or.inl (by decide)) (so_109 h0 g _) rfl cf_X4_reckon wq806 wq43 wq804 (c_X4_reckonV l D g T h0 s7 hW.2.1 x13 rx13 q9.1 e9 (q9.2.2.1 i3_2) (q9.2.2.2.1 i3_2) false (2 * i3_2) (he9) (W41.1) (by omega) hp8.1.1) ⟨rfl, rfl, ⟨by decide, by decide⟩, ⟨by decide, by decide⟩⟩ rfl rfl (Nat.le_of_ble_eq_true rfl) dX4_worthOf_42) hW (fun x14 s15 H locs rx14 hp16 hW => ?_)
      obtain ⟨fs15, hp16⟩ := hp16
      have hF17 := hF10.call fs15 (fun k h => by omega)
      have q18 : s15 1 1 = s0 1 1 := (congrFun (fs15 _ (by omega)) _).trans q11
      have ghp16 := hp16.2
      have R42 : x14 = zEV q9.1 F9 (q9.2.2.1 i3_2) (q9.2.2.2.1 i3_2) := ghp16.trans (zEV_F he9 (fun k k1 k2 => by rw [F41]; exact hF9 k k1 k2))
      refine x_mmin hx hb hml hl.1 hown hT wq815 wq569 wq180 wq570 ⟨by decide, Nat.le_of_ble_eq_true rfl, by decide, by decide⟩ rw rx14 dX4_worthOf_45 ?_
      refine x_nm (fun x19 ex19 => ?_)
      have fx19 : (x19 = w ∧ w ≤ x14) ∨ (x19 = x14 ∧ x14 ≤ w) := by rw [ex19]; split <;> omega
      refine x_mmax hx hb hml hl.1 hown hT wq816 wq594 wq180 wq595 ⟨by decide, Nat.le_of_ble_eq_true rfl, by decide, by decide⟩ (by decide) (by omega) dX4_worthOf_48 ?_
      refine x_nm (fun x20 ex20 => ?_)
      have fx20 : (x20 = 0 ∧ x19 ≤ 0) ∨ (x20 = x19 ∧ 0 ≤ x19) := by rw [ex20]; split <;> omega
      rw [eQ]
      exact x_iret hx hb hr hlk hW (by omega) ⟨hF17, ⟨hp16.1.1, trivial⟩, by
          rw [← eV0]
          rw [show (s0 109 6 - i3_2).toNat = (s0 109 6 - (i3_2 + 1)).toNat + 1 from by omega] at v2_1
          have z := v2_1.trans (if_pos ⟨by omega, by omega⟩)
          rw [z, ← R42]
          unfold zclp
          (repeat' split) <;> omega⟩ dX4_worthOf_51
  exact L2 ((17 - 0 : Int).toNat + 1) 0 s0 H locs ls (by decide) hF p0 k1_1 (by omega) (by rw [eV0, hlc.1, Int.sub_zero]; rfl) (Nat.lt_succ_self _) hW (lv_sub hl [1, 2, 3, 0] rfl)
set_option maxHeartbeats 4000000 in
set_option maxRecDepth 100000 in
theorem c_X4_isNightF (l : Launch) (D : va_G) (g : xG) (T : Nat × Nat × Nat) (h0 : Nat) (s0 : xS) (hσ : xRR s0) (t : Int) (rt : xR t) (q9 : zLaw) (hok : zLok q9) (hlc : zLD s0 q9) (ht : 0 ≤ t ∧ t ≤ 9999) (p0 : IC s0) : Met l yX4_isNight (xws yX4_isNight cX4_isNight 3 (some .boolean)) { frames := 2, cells := 0, slots := 0, locals := 50 } (xP [.ref (h0 + 109), .int (xJ t)] D g T h0 s0) (xQi D g h0 (fun r τ => xFr (fun k => k = 115 ∨ k = 116) s0 τ ∧ (((IC τ) ∧ True) ∧ (r = zni q9 t)))) 0 0 (xA h0) := by
  refine x_met hσ (by decide) (Nat.le_of_ble_eq_true rfl) ?_
  intro p e s m args below meth c hx hb hr hml hown hT hlk hnm hE hW ls hl
  have hl : lv_has ls 3 [(0, .ref (h0 + 109)), (1, .int (xJ t))] := hl
  obtain ⟨Q, eQ⟩ : ∃ Q, Q = MQ below (xQi D g h0 (fun r τ => xFr (fun k => k = 115 ∨ k = 116) s0 τ ∧ (((IC τ) ∧ True) ∧ (r = zni q9 t)))) args s 0 0 (xA h0) := ⟨_, rfl⟩
  rw [← eQ]
  generalize hHe : ([] : List Loc) = locs at hW ⊢
  obtain ⟨H, eH⟩ : ∃ H, H = s.heap := ⟨_, rfl⟩
  rw [← eH] at hW ⊢
  have hF : xFr (fun k => k = 115 ∨ k = 116) s0 s0 := xFr.rf
  have k1_1 : s0 1 1 = s0 1 1 := rfl
  have hM := hok.1
  have hm6 := hlc.1
  obtain ⟨V0, eV0⟩ : ∃ v : Int, v = zni q9 t := ⟨_, rfl⟩
  refine x_aload_n hx hb hl 0 rfl dX4_isNight_0 rfl ?_
  refine x_iload_n hx hb hl 1 rfl dX4_isNight_1 rfl ?_
  refine x_gov (x_runV (As := [.int (xJ t)]) hx hb hml hown hT hE hW hl.1 (Or.inl (by decide)) (so_109 h0 g _) rfl cf_X4_tellMinute wq793 wq40 wq821 (c_X4_tellMinuteF l D g T h0 s0 hW.2.1 t rt (by omega) p0) ⟨rfl, rfl, ⟨by decide, by decide⟩, ⟨by decide, by decide⟩⟩ rfl rfl (Nat.le_of_ble_eq_true rfl) dX4_isNight_2) hW (fun s2 H locs hp3 hW => ?_)
  obtain ⟨fs2, hp3⟩ := hp3
  have hF4 := hF.call fs2 (fun k h => by omega)
  have q5 : s2 1 1 = s0 1 1 := (congrFun (fs2 _ (by omega)) _).trans k1_1
  have ghp3 := hp3.2
  have H2 := ghp3
  refine x_iconst hx hb dX4_isNight_5 ?_
  refine lv_istore_n (lv' := [(2, .int (xJ 0)), (0, .ref (h0 + 109)), (1, .int (xJ t))]) hx hb dX4_isNight_6 rfl hl (by decide) rfl (fun ls hl => ?_)
  have L7 : ∀ (fu : Nat) (i2_7 : Int) (s_7 : xS) (H : Heap) (locs : List Loc) (ls : Array Slot), (xR i2_7) → (xFr (fun k => k = 115 ∨ k = 116) s0 s_7) → (s_7 1 1 = s0 1 1) → (IC s_7) → (0 ≤ i2_7 ∧ i2_7 ≤ s0 109 6) → (V0 = zniN q9 (zf0 t) (s0 109 6 - i2_7).toNat i2_7) → (∀ k : Int, 0 ≤ k → k < 7 → s_7 115 k = zf0 t k) → (17 - i2_7).toNat < fu → xW D g h0 s H locs s_7 → lv_has ls 3 [(0, .ref (h0 + 109)), (2, .int (xJ i2_7))] → W p l e { frames := 2, cells := 0, slots := 0, locals := 50 } s m args below meth c H locs 0 0 Q (F0 m 7 ls []) := by
    intro fu
    induction fu with
    | zero => intro i2_7 s_7 H locs ls ri2_7 hF_7 q7_0 q7_1 v7_0 v7_1 v7_2 hm; exact absurd hm (Nat.not_lt_zero _)
    | succ fu ih7 =>
      intro i2_7 s_7 H locs ls ri2_7 hF_7 q7_0 q7_1 v7_0 v7_1 v7_2 hm hW hl
      have hm_7 := fun (_ : Unit) => hm
      clear hm
      have u7 : s_7 109 6 = s0 109 6 := congrFun (hF_7 109 (by first | decide | omega)) 6
      refine x_iload_n hx hb hl 1 rfl dX4_isNight_7 rfl ?_
      refine x_aload_n hx hb hl 0 rfl dX4_isNight_8 rfl ?_
      refine x_get (j := 6) (v := .int (xJ (s_7 109 6))) hx hb hown hT hE hW cls_X4 (Or.inl (by decide)) (so_109 h0 g _) (by decide) rfl wq261 dX4_isNight_9 ?_
      refine x_rd hW (fun x6 ex6 rx6 => ?_)
      have bx6 : 0 ≤ x6 ∧ x6 ≤ 16 := by rw [ex6]; exact (IC.l1 q7_1).2
      refine x_icmp_ge (tgt := 47) hx hb ri2_7 rx6 dX4_isNight_12 (by decide) (fun c7 => ?_) (fun c7 => ?_)
      · skip
        refine x_iconst hx hb dX4_isNight_47 ?_
        rw [eQ]
        exact x_zret hx hb hr hlk hW (by omega) ⟨hF_7, ⟨q7_1, trivial⟩, by
            rw [← eV0, v7_1, show (s0 109 6 - i2_7).toNat = 0 from by omega]
            rfl⟩ dX4_isNight_48
      refine x_aload_n hx hb hl 0 rfl dX4_isNight_15 rfl ?_
      refine x_get (j := 3) (v := .ref (h0 + 112)) hx hb hown hT hE hW cls_X4 (Or.inl (by decide)) (so_109 h0 g _) (by decide) rfl wq255 dX4_isNight_16 ?_
      refine x_iload_n hx hb hl 1 rfl dX4_isNight_19 rfl ?_
      refine x_iald hx hb hE hW (Or.inl (by decide)) (sa_112 h0 g _) (by omega) (by decide) dX4_isNight_20 ?_
      refine x_rd hW (fun x8 ex8 rx8 => ?_)
      have l20 := hlc.f (fun k hk => hF_7 k (by omega))
      have V19 : x8 = q9.2.1 i2_7 := ex8.trans (l20.k hok (i := i2_7) (by omega) (by omega))
      refine x_bipush hx hb dX4_isNight_21 (by decide) ?_
      refine x_icmp_ne (tgt := 41) hx hb rx8 (by decide) dX4_isNight_23 (by decide) (fun c9 => ?_) (fun c9 => ?_)
      · skip
        refine x_iinc (lv' := [(2, .int (xJ (i2_7 + 1))), (0, .ref (h0 + 109))]) hx hb hl 1 rfl dX4_isNight_41 (by decide) rfl (fun ls hl => ?_)
        refine lv_goto (tgt := 7) hx hb dX4_isNight_44 (by decide) ?_
        exact ih7 (i2_7 + 1) s_7 H locs ls (by omega) hF_7 q7_0 q7_1 (by omega) (by
            rw [show (s0 109 6 - i2_7).toNat = (s0 109 6 - (i2_7 + 1)).toNat + 1 from by omega] at v7_1
            exact v7_1.trans (if_neg (by first | exact (fun c => absurd (V19.trans c.1) (by omega)) | exact (fun c => absurd R33 (by have y := c.2; omega))))) (by first | exact v7_2 | (rw [fs_7 115 (by omega)]; exact v7_2)) (by have hm := hm_7 (); omega) hW (lv_sub hl [1, 0] rfl)
      refine x_aload_n hx hb hl 0 rfl dX4_isNight_26 rfl ?_
      refine x_aload_n hx hb hl 0 rfl dX4_isNight_27 rfl ?_
      refine x_get (j := 5) (v := .ref (h0 + 114)) hx hb hown hT hE hW cls_X4 (Or.inl (by decide)) (so_109 h0 g _) (by decide) rfl wq259 dX4_isNight_28 ?_
      refine x_iload_n hx hb hl 1 rfl dX4_isNight_31 rfl ?_
      refine x_iald hx hb hE hW (Or.inl (by decide)) (sa_114 h0 g _) (by omega) (by decide) dX4_isNight_32 ?_
      refine x_rd hW (fun x10 ex10 rx10 => ?_)
      have l32 := hlc.f (fun k hk => hF_7 k (by omega))
      have W32 := l32.c hok (i := i2_7) (by omega) (by omega)
      obtain ⟨d9, hd9⟩ := (hok.2 i2_7 (by omega) (by omega)).2
      have A32 : x10 = q9.2.2.2.1 i2_7 + (2 * i2_7 + 1) := ex10.trans W32.2
      refine x_goi (x_runV (As := [.int (xJ x10)]) hx hb hml hown hT hE hW hl.1 (Or.inl (by decide)) (so_109 h0 g _) rfl cf_X4_reckon wq806 wq43 wq804 (c_X4_reckonV l D g T h0 s_7 hW.2.1 x10 rx10 q9.1 d9 (q9.2.2.2.1 i2_7) (q9.2.2.2.2.1 i2_7) true (2 * i2_7 + 1) (hd9) (W32.1) (by omega) q7_1) ⟨rfl, rfl, ⟨by decide, by decide⟩, ⟨by decide, by decide⟩⟩ rfl rfl (Nat.le_of_ble_eq_true rfl) dX4_isNight_33) hW (fun x11 s12 H locs rx11 hp13 hW => ?_)
      obtain ⟨fs12, hp13⟩ := hp13
      have hF14 := hF_7.call fs12 (fun k h => by omega)
      have q15 : s12 1 1 = s0 1 1 := (congrFun (fs12 _ (by omega)) _).trans q7_0
      have ghp13 := hp13.2
      have R33 : x11 = zEV q9.1 (zf0 t) (q9.2.2.2.1 i2_7) (q9.2.2.2.2.1 i2_7) := ghp13.trans (zEV_F hd9 v7_2)
      refine x_if_eq (tgt := 41) hx hb rx11 dX4_isNight_36 (by decide) (fun c16 => ?_) (fun c16 => ?_)
      · skip
        refine x_iinc (lv' := [(2, .int (xJ (i2_7 + 1))), (0, .ref (h0 + 109))]) hx hb hl 1 rfl dX4_isNight_41 (by decide) rfl (fun ls hl => ?_)
        refine lv_goto (tgt := 7) hx hb dX4_isNight_44 (by decide) ?_
        exact ih7 (i2_7 + 1) s12 H locs ls (by omega) hF14 q15 hp13.1.1 (by omega) (by
            rw [show (s0 109 6 - i2_7).toNat = (s0 109 6 - (i2_7 + 1)).toNat + 1 from by omega] at v7_1
            exact v7_1.trans (if_neg (by first | exact (fun c => absurd (V19.trans c.1) (by omega)) | exact (fun c => absurd R33 (by have y := c.2; omega))))) (by first | exact v7_2 | (rw [fs12 115 (by first | decide | omega)]; exact v7_2)) (by have hm := hm_7 (); omega) hW (lv_sub hl [1, 0] rfl)
      refine x_iconst hx hb dX4_isNight_39 ?_
      rw [eQ]
      exact x_zret hx hb hr hlk hW (by omega) ⟨hF14, ⟨hp13.1.1, trivial⟩, by
          rw [← eV0]
          rw [show (s0 109 6 - i2_7).toNat = (s0 109 6 - (i2_7 + 1)).toNat + 1 from by omega] at v7_1
          exact (v7_1.trans (if_pos ⟨by omega, by omega⟩)).symm⟩ dX4_isNight_40
  exact L7 ((17 - 0 : Int).toNat + 1) 0 s2 H locs ls (by decide) hF4 q5 hp3.1.1 (by omega) (by rw [eV0, hlc.1, Int.sub_zero]; rfl) (H2) (Nat.lt_succ_self _) hW (lv_sub hl [1, 0] rfl)

set_option maxHeartbeats 4000000 in
set_option maxRecDepth 100000 in
theorem c_X7_layersAtF (l : Launch) (D : va_G) (g : xG) (T : Nat × Nat × Nat) (h0 : Nat) (s0 : xS) (hσ : xRR s0) (x : Int) (rx : xR x) (p0 : IC s0) : Met l yX7_layersAt (xws yX7_layersAt cX7_layersAt 2 (some .int)) { frames := 1, cells := 0, slots := 0, locals := 20 } (xP [.ref (h0 + 130), .int (xJ x)] D g T h0 s0) (xQi D g h0 (fun r τ => s0 = τ ∧ ((0 ≤ x ∧ x < 100 ∧ r = s0 131 x) ∨ ((x < 0 ∨ 100 ≤ x) ∧ r = 0)))) 0 0 (xA h0) := by
  refine x_met hσ (by decide) (Nat.le_of_ble_eq_true rfl) ?_
  intro p e s m args below meth c hx hb hr hml hown hT hlk hnm hE hW ls hl
  have hl : lv_has ls 2 [(0, .ref (h0 + 130)), (1, .int (xJ x))] := hl
  obtain ⟨Q, eQ⟩ : ∃ Q, Q = MQ below (xQi D g h0 (fun r τ => s0 = τ ∧ ((0 ≤ x ∧ x < 100 ∧ r = s0 131 x) ∨ ((x < 0 ∨ 100 ≤ x) ∧ r = 0)))) args s 0 0 (xA h0) := ⟨_, rfl⟩
  rw [← eQ]
  generalize hHe : ([] : List Loc) = locs at hW ⊢
  obtain ⟨H, eH⟩ : ∃ H, H = s.heap := ⟨_, rfl⟩
  rw [← eH] at hW ⊢
  have k1_1 : s0 1 1 = s0 1 1 := rfl
  refine x_iload_n hx hb hl 1 rfl dX7_layersAt_0 rfl ?_
  refine x_goi (x_runSN (As := [.int (xJ x)]) hx hb hml hown hT hE hW hl.1 cf_X6_isSpot wq831 wn830 (c_X6_isSpot l D g T h0 s0 hW.2.1 x rx) ⟨rfl, rfl, ⟨by decide, by decide⟩, ⟨by decide, by decide⟩⟩ rfl rfl (Nat.le_of_ble_eq_true rfl) dX7_layersAt_1) hW (fun x1 s2 H locs rx1 hp3 hW => ?_)
  obtain ⟨es2, hp3⟩ := hp3
  subst es2
  have ghp3 := hp3
  refine x_if_eq (tgt := 16) hx hb rx1 dX7_layersAt_4 (by decide) (fun c4 => ?_) (fun c4 => ?_)
  · skip
    refine x_iconst hx hb dX7_layersAt_16 ?_
    rw [eQ]
    exact x_iret hx hb hr hlk hW (by decide) ⟨rfl, by omega⟩ dX7_layersAt_17
  refine x_aload_n hx hb hl 0 rfl dX7_layersAt_7 rfl ?_
  refine x_get (j := 0) (v := .ref (h0 + 131)) hx hb hown hT hE hW cls_X7 (Or.inl (by decide)) (so_130 h0 g _) (by decide) rfl wq330 dX7_layersAt_8 ?_
  refine x_iload_n hx hb hl 1 rfl dX7_layersAt_11 rfl ?_
  refine x_iald hx hb hE hW (Or.inl (by decide)) (sa_131 h0 g _) (by omega) (by decide) dX7_layersAt_12 ?_
  refine x_rd hW (fun x5 ex5 rx5 => ?_)
  have V12 := ex5
  refine lv_goto (tgt := 17) hx hb dX7_layersAt_13 (by decide) ?_
  rw [eQ]
  exact x_iret hx hb hr hlk hW rx5 ⟨rfl, by omega⟩ dX7_layersAt_17
set_option maxHeartbeats 4000000 in
set_option maxRecDepth 100000 in
theorem c_X7_clearF (l : Launch) (D : va_G) (g : xG) (T : Nat × Nat × Nat) (h0 : Nat) (s0 : xS) (hσ : xRR s0) (p0 : IC s0) (p1 : IS s0) : Met l yX7_clear (xws yX7_clear cX7_clear 3 none) { frames := 1, cells := 0, slots := 0, locals := 20 } (xP [.ref (h0 + 130)] D g T h0 s0) (xQv D g h0 (fun τ => xFr (fun k => k = 130 ∨ k = 131 ∨ k = 133) s0 τ ∧ (((IC τ) ∧ (IS τ) ∧ True) ∧ (τ 130 3 = 0 ∧ (∀ t : Int, 0 ≤ t → t < 100 → τ 131 t = 0) ∧ ∀ t : Int, 0 ≤ t → t < 100 → τ 133 t = 0)))) 0 0 (xA h0) := by
  refine x_met hσ (by decide) (Nat.le_of_ble_eq_true rfl) ?_
  intro p e s m args below meth c hx hb hr hml hown hT hlk hnm hE hW ls hl
  have hl : lv_has ls 3 [(0, .ref (h0 + 130))] := hl
  obtain ⟨Q, eQ⟩ : ∃ Q, Q = MQ below (xQv D g h0 (fun τ => xFr (fun k => k = 130 ∨ k = 131 ∨ k = 133) s0 τ ∧ (((IC τ) ∧ (IS τ) ∧ True) ∧ (τ 130 3 = 0 ∧ (∀ t : Int, 0 ≤ t → t < 100 → τ 131 t = 0) ∧ ∀ t : Int, 0 ≤ t → t < 100 → τ 133 t = 0)))) args s 0 0 (xA h0) := ⟨_, rfl⟩
  rw [← eQ]
  generalize hHe : ([] : List Loc) = locs at hW ⊢
  obtain ⟨H, eH⟩ : ∃ H, H = s.heap := ⟨_, rfl⟩
  rw [← eH] at hW ⊢
  have hF : xFr (fun k => k = 130 ∨ k = 131 ∨ k = 133) s0 s0 := xFr.rf
  have k1_1 : s0 1 1 = s0 1 1 := rfl
  have k130_3 : s0 130 3 = s0 130 3 := rfl
  refine x_iconst hx hb dX7_clear_0 ?_
  refine lv_istore_n (lv' := [(1, .int (xJ 0)), (0, .ref (h0 + 130))]) hx hb dX7_clear_1 rfl hl (by decide) rfl (fun ls hl => ?_)
  have L2 : ∀ (fu : Nat) (i1_2 : Int) (s_2 : xS) (H : Heap) (locs : List Loc) (ls : Array Slot), (xR i1_2) → (xFr (fun k => k = 130 ∨ k = 131 ∨ k = 133) s0 s_2) → (IC s_2) → (s_2 1 1 = s0 1 1) → (s_2 130 3 = s0 130 3) → (0 ≤ i1_2 ∧ i1_2 ≤ s0 130 3) → (s_2 130 3 = s0 130 3 ∧ s_2 132 = s0 132) → (∀ t : Int, (s_2 131 t = 0 ∨ s_2 131 t = s0 131 t) ∧ (s_2 133 t = 0 ∨ s_2 133 t = s0 133 t)) → (∀ i : Int, 0 ≤ i → i < i1_2 → s_2 131 (s0 132 i) = 0 ∧ s_2 133 (s0 132 i) = 0) → (101 - i1_2).toNat < fu → xW D g h0 s H locs s_2 → lv_has ls 3 [(0, .ref (h0 + 130)), (1, .int (xJ i1_2))] → W p l e { frames := 1, cells := 0, slots := 0, locals := 20 } s m args below meth c H locs 0 0 Q (F0 m 2 ls []) := by
    intro fu
    induction fu with
    | zero => intro i1_2 s_2 H locs ls ri1_2 hF_2 q2_0 q2_2 q2_3 v2_0 v2_1 v2_2 v2_3 hm; exact absurd hm (Nat.not_lt_zero _)
    | succ fu ih2 =>
      intro i1_2 s_2 H locs ls ri1_2 hF_2 q2_0 q2_2 q2_3 v2_0 v2_1 v2_2 v2_3 hm hW hl
      have hm_2 := fun (_ : Unit) => hm
      clear hm
      refine x_iload_n hx hb hl 1 rfl dX7_clear_2 rfl ?_
      refine x_aload_n hx hb hl 0 rfl dX7_clear_3 rfl ?_
      refine x_get (j := 3) (v := .int (xJ (s_2 130 3))) hx hb hown hT hE hW cls_X7 (Or.inl (by decide)) (so_130 h0 g _) (by decide) rfl wq337 dX7_clear_4 ?_
      refine x_rd hW (fun x1 ex1 rx1 => ?_)
      have bx1 : 0 ≤ x1 ∧ x1 ≤ 100 := by rw [ex1]; exact IC.z q2_0
      have fx1 : x1 = s0 130 3 := ex1.trans q2_3
      refine x_icmp_ge (tgt := 50) hx hb ri1_2 rx1 dX7_clear_7 (by decide) (fun c2 => ?_) (fun c2 => ?_)
      · skip
        refine x_aload_n hx hb hl 0 rfl dX7_clear_50 rfl ?_
        refine x_iconst hx hb dX7_clear_51 ?_
        refine x_put (j := 3) hx hb hown hT hE hW cls_X7 (by decide) (fun σ => so_130 h0 g σ) (by decide) (st_X7_3 h0 s_2 130 0) (ln_X7_3 h0 _ _) wq337 rfl rfl rfl (by decide) dX7_clear_52 (fun H locs s3 es3 hW => ?_)
        have q4 : IC s3 := by rw [es3]; exact IC_130 q2_0 (by omega)
        have q5 : s3 1 1 = s0 1 1 := (show s3 1 1 = s_2 1 1 from by rw [es3, xU_k _ _ _ (by first | decide | omega)]).trans q2_2
        have q6 : s3 130 3 = 0 := by rw [es3, xU_s]
        have hF7 := hF_2.put es3 (by omega)
        have E52 := es3
        have l52 : s0 130 3 ≤ i1_2 := by omega
        have Q52 : s3 130 3 = 0 ∧ (∀ t : Int, 0 ≤ t → t < 100 → s3 131 t = 0) ∧ ∀ t : Int, 0 ≤ t → t < 100 → s3 133 t = 0 := by
          refine ⟨by rw [E52, xU_s], fun t t1 t2 => ?_, fun t t1 t2 => ?_⟩
          · rw [E52, xU_k _ _ _ (by first | decide | omega)]
            refine (v2_2 t).1.elim (fun q => q) (fun q => ?_)
            by_cases h : s0 131 t = 0
            · exact q.trans h
            · obtain ⟨i, i1, i2, i3⟩ := p1.1.2.2.1 t t1 t2 h
              rw [← i3]
              exact (v2_3 i i1 (by omega)).1
          · rw [E52, xU_k _ _ _ (by first | decide | omega)]
            refine (v2_2 t).2.elim (fun q => q) (fun q => ?_)
            by_cases h : s0 133 t = 0
            · exact q.trans h
            · obtain ⟨i, i1, i2, i3⟩ := p1.2 t t1 t2 h
              rw [← i3]
              exact (v2_3 i i1 (by omega)).2
        rw [eQ]
        exact x_vret hx hb hr hlk hW ⟨hF7, ⟨q4, (IS_0 Q52.1 Q52.2.1 Q52.2.2), trivial⟩, Q52⟩ dX7_clear_55
      refine x_iload_n hx hb hl 1 rfl dX7_clear_10 rfl ?_
      refine x_bipush hx hb dX7_clear_11 (by decide) ?_
      refine x_icmp_ge (tgt := 50) hx hb ri1_2 (by decide) dX7_clear_13 (by decide) (fun c8 => False.elim (by have := p1.1.1; omega)) (fun c8 => ?_)
      refine x_aload_n hx hb hl 0 rfl dX7_clear_16 rfl ?_
      refine x_get (j := 1) (v := .ref (h0 + 132)) hx hb hown hT hE hW cls_X7 (Or.inl (by decide)) (so_130 h0 g _) (by decide) rfl wq331 dX7_clear_17 ?_
      refine x_iload_n hx hb hl 1 rfl dX7_clear_20 rfl ?_
      refine x_iald hx hb hE hW (Or.inl (by decide)) (sa_132 h0 g _) (by omega) (by decide) dX7_clear_21 ?_
      refine x_rd hW (fun x9 ex9 rx9 => ?_)
      have V21 : x9 = s0 132 i1_2 := by rw [ex9, v2_1.2]
      have B21 := p1.1.2.1 i1_2 (by omega) (by omega)
      rw [← V21] at B21
      refine lv_istore_n (lv' := [(2, .int (xJ x9)), (0, .ref (h0 + 130)), (1, .int (xJ i1_2))]) hx hb dX7_clear_22 rfl hl (by decide) rfl (fun ls hl => ?_)
      refine x_iload_n hx hb hl 0 rfl dX7_clear_23 rfl ?_
      refine x_goi (x_runSN (As := [.int (xJ x9)]) hx hb hml hown hT hE hW hl.1 cf_X6_isSpot wq831 wn830 (c_X6_isSpot l D g T h0 s_2 hW.2.1 x9 rx9) ⟨rfl, rfl, ⟨by decide, by decide⟩, ⟨by decide, by decide⟩⟩ rfl rfl (Nat.le_of_ble_eq_true rfl) dX7_clear_24) hW (fun x10 s11 H locs rx10 hp12 hW => ?_)
      obtain ⟨es11, hp12⟩ := hp12
      subst es11
      have ghp12 := hp12
      refine x_if_eq (tgt := 44) hx hb rx10 dX7_clear_27 (by decide) (fun c13 => False.elim (by omega)) (fun c13 => ?_)
      refine x_aload_n hx hb hl 1 rfl dX7_clear_30 rfl ?_
      refine x_get (j := 0) (v := .ref (h0 + 131)) hx hb hown hT hE hW cls_X7 (Or.inl (by decide)) (so_130 h0 g _) (by decide) rfl wq330 dX7_clear_31 ?_
      refine x_iload_n hx hb hl 0 rfl dX7_clear_34 rfl ?_
      refine x_iconst hx hb dX7_clear_35 ?_
      refine x_iast hx hb hE hW (by decide) (fun σ => sa_131 h0 g σ) (by omega) (by decide) (by decide) dX7_clear_36 (fun H locs s14 es14 hW => ?_)
      have q15 : IC s14 := by rw [es14]; exact IC_o (by decide) q2_0
      have q16 : s14 1 1 = s0 1 1 := (show s14 1 1 = s_2 1 1 from by rw [es14, xU_k _ _ _ (by first | decide | omega)]).trans q2_2
      have q17 : s14 130 3 = s0 130 3 := (show s14 130 3 = s_2 130 3 from by rw [es14, xU_k _ _ _ (by first | decide | omega)]).trans q2_3
      have hF18 := hF_2.put es14 (by omega)
      have E36 := es14
      refine x_aload_n hx hb hl 1 rfl dX7_clear_37 rfl ?_
      refine x_get (j := 2) (v := .ref (h0 + 133)) hx hb hown hT hE hW cls_X7 (Or.inl (by decide)) (so_130 h0 g _) (by decide) rfl wq335 dX7_clear_38 ?_
      refine x_iload_n hx hb hl 0 rfl dX7_clear_41 rfl ?_
      refine x_iconst hx hb dX7_clear_42 ?_
      refine x_zast hx hb hE hW (by decide) (fun σ => sa_133 h0 g σ) (by omega) (by decide) (by omega) dX7_clear_43 (fun H locs s19 es19 hW => ?_)
      have q20 : IC s19 := by rw [es19]; exact IC_o (by decide) q15
      have q21 : s19 1 1 = s0 1 1 := (show s19 1 1 = s14 1 1 from by rw [es19, xU_k _ _ _ (by first | decide | omega)]).trans q16
      have q22 : s19 130 3 = s0 130 3 := (show s19 130 3 = s14 130 3 from by rw [es19, xU_k _ _ _ (by first | decide | omega)]).trans q17
      have hF23 := hF18.put es19 (by omega)
      have E43 := es19
      have M43 : s19 131 = xud (s_2 131) x9 0 ∧ s19 133 = xud (s_2 133) x9 0 := ⟨by rw [E43, xU_k _ _ _ (by first | decide | omega), E36, xU_xud], by rw [E43, xU_xud, E36, xU_k _ _ _ (by first | decide | omega)]⟩
      refine x_iinc (lv' := [(1, .int (xJ (i1_2 + 1))), (2, .int (xJ x9)), (0, .ref (h0 + 130))]) hx hb hl 2 rfl dX7_clear_44 (by decide) rfl (fun ls hl => ?_)
      refine lv_goto (tgt := 2) hx hb dX7_clear_47 (by decide) ?_
      exact ih2 (i1_2 + 1) s19 H locs ls (by omega) hF23 q20 q21 q22 (by omega) (⟨by rw [E43, xU_k _ _ _ (by first | decide | omega), E36, xU_k _ _ _ (by first | decide | omega)]; exact v2_1.1, by rw [E43, xU_k _ _ _ (by first | decide | omega), E36, xU_k _ _ _ (by first | decide | omega)]; exact v2_1.2⟩) (fun t => by
            rw [M43.1, M43.2]
            exact ⟨zud_0 (v2_2 t).1, zud_0 (v2_2 t).2⟩) (fun i i1 i2 => by
            rw [M43.1, M43.2]
            by_cases h : s0 132 i = x9
            · rw [h, xud_s, xud_s]; exact ⟨rfl, rfl⟩
            · rw [xud_o _ _ h, xud_o _ _ h]
              exact v2_3 i i1 ((Int.lt_or_eq_of_le (show i ≤ i1_2 from by omega)).resolve_right (fun q => h (by rw [q]; exact V21.symm)))) (by have hm := hm_2 (); omega) hW (lv_sub hl [2, 0] rfl)
  exact L2 ((101 - 0 : Int).toNat + 1) 0 s0 H locs ls (by decide) hF p0 k1_1 k130_3 (by have := p1.1.1; omega) (⟨rfl, rfl⟩) (fun t => ⟨Or.inr rfl, Or.inr rfl⟩) (fun i i1 i2 => absurd i2 (by omega)) (Nat.lt_succ_self _) hW (lv_sub hl [1, 0] rfl)
set_option maxHeartbeats 4000000 in
set_option maxRecDepth 100000 in
theorem c_X7_fallF (l : Launch) (D : va_G) (g : xG) (T : Nat × Nat × Nat) (h0 : Nat) (s0 : xS) (hσ : xRR s0) (a : Int) (ra : xR a) (b : Int) (rb : xR b) (q : Int) (rq : xR q) (K9 : Int → Int) (hK : ∀ t : Int, 0 ≤ t → t < 100 → s0 4 t = K9 t) (ha : 0 ≤ a ∧ a < 100) (hb8 : 0 ≤ b ∧ b < 8) (hq : 0 ≤ q ∧ q ≤ 9) (hS : zSL (s0 131) (s0 132) (s0 130 3)) (hL : ∀ t : Int, 0 ≤ t → t < 100 → 0 ≤ s0 131 t ∧ s0 131 t ≤ 1000) (p0 : IC s0) : Met l yX7_fall (xws yX7_fall cX7_fall 7 none) { frames := 1, cells := 0, slots := 0, locals := 23 } (xP [.ref (h0 + 130), .ref (h0 + 3), .int (xJ a), .int (xJ b), .int (xJ q)] D g T h0 s0) (xQv D g h0 (fun τ => xFr (fun k => k = 130 ∨ k = 131 ∨ k = 132) s0 τ ∧ (((IC τ) ∧ True) ∧ (zSL (τ 131) (τ 132) (τ 130 3) ∧ ∀ t : Int, 0 ≤ t → t < 100 → τ 131 t = s0 131 t + zpc K9 q.toNat a b t)))) 0 0 (xA h0) := by
  refine x_met hσ (by decide) (Nat.le_of_ble_eq_true rfl) ?_
  intro p e s m args below meth c hx hb hr hml hown hT hlk hnm hE hW ls hl
  have hl : lv_has ls 7 [(0, .ref (h0 + 130)), (1, .ref (h0 + 3)), (2, .int (xJ a)), (3, .int (xJ b)), (4, .int (xJ q))] := hl
  obtain ⟨Q, eQ⟩ : ∃ Q, Q = MQ below (xQv D g h0 (fun τ => xFr (fun k => k = 130 ∨ k = 131 ∨ k = 132) s0 τ ∧ (((IC τ) ∧ True) ∧ (zSL (τ 131) (τ 132) (τ 130 3) ∧ ∀ t : Int, 0 ≤ t → t < 100 → τ 131 t = s0 131 t + zpc K9 q.toNat a b t)))) args s 0 0 (xA h0) := ⟨_, rfl⟩
  rw [← eQ]
  generalize hHe : ([] : List Loc) = locs at hW ⊢
  obtain ⟨H, eH⟩ : ∃ H, H = s.heap := ⟨_, rfl⟩
  rw [← eH] at hW ⊢
  have hF : xFr (fun k => k = 130 ∨ k = 131 ∨ k = 132) s0 s0 := xFr.rf
  have k1_1 : s0 1 1 = s0 1 1 := rfl
  refine x_iload_n hx hb hl 2 rfl dX7_fall_0 rfl ?_
  refine lv_istore (lv' := [(5, .int (xJ a)), (0, .ref (h0 + 130)), (1, .ref (h0 + 3)), (2, .int (xJ a)), (3, .int (xJ b)), (4, .int (xJ q))]) hx hb dX7_fall_1 hl (by decide) rfl (fun ls hl => ?_)
  refine x_iconst hx hb dX7_fall_3 ?_
  refine lv_istore (lv' := [(6, .int (xJ 0)), (5, .int (xJ a)), (0, .ref (h0 + 130)), (1, .ref (h0 + 3)), (2, .int (xJ a)), (3, .int (xJ b)), (4, .int (xJ q))]) hx hb dX7_fall_4 hl (by decide) rfl (fun ls hl => ?_)
  have L6 : ∀ (fu : Nat) (i5_6 : Int) (i6_6 : Int) (s_6 : xS) (H : Heap) (locs : List Loc) (ls : Array Slot), (xR i5_6) → (xR i6_6) → (xFr (fun k => k = 130 ∨ k = 131 ∨ k = 132) s0 s_6) → (IC s_6) → (s_6 1 1 = s0 1 1) → (0 ≤ i6_6 ∧ i6_6 ≤ q) → (0 ≤ i5_6 ∧ i5_6 < 100) → (zSL (s_6 131) (s_6 132) (s_6 130 3)) → (∀ t : Int, 0 ≤ t → t < 100 → s_6 131 t + zpc K9 (q - i6_6).toNat i5_6 b t = s0 131 t + zpc K9 q.toNat a b t) → (∀ t : Int, 0 ≤ t → t < 100 → s0 131 t ≤ s_6 131 t) → (q - i6_6).toNat < fu → xW D g h0 s H locs s_6 → lv_has ls 7 [(0, .ref (h0 + 130)), (1, .ref (h0 + 3)), (3, .int (xJ b)), (4, .int (xJ q)), (5, .int (xJ i5_6)), (6, .int (xJ i6_6))] → W p l e { frames := 1, cells := 0, slots := 0, locals := 23 } s m args below meth c H locs 0 0 Q (F0 m 6 ls []) := by
    intro fu
    induction fu with
    | zero => intro i5_6 i6_6 s_6 H locs ls ri5_6 ri6_6 hF_6 q6_0 q6_1 v6_0 v6_1 v6_2 v6_3 v6_4 hm; exact absurd hm (Nat.not_lt_zero _)
    | succ fu ih6 =>
      intro i5_6 i6_6 s_6 H locs ls ri5_6 ri6_6 hF_6 q6_0 q6_1 v6_0 v6_1 v6_2 v6_3 v6_4 hm hW hl
      have hm_6 := fun (_ : Unit) => hm
      clear hm
      refine x_iload hx hb hl 5 rfl dX7_fall_6 ?_
      refine x_iload hx hb hl 3 rfl dX7_fall_8 ?_
      refine x_icmp_ge (tgt := 97) hx hb ri6_6 rq dX7_fall_10 (by decide) (fun c1 => ?_) (fun c1 => ?_)
      · skip
        rw [eQ]
        exact x_vret hx hb hr hlk hW ⟨hF_6, ⟨q6_0, trivial⟩, ⟨v6_2, zpc_end v6_3 (Or.inl (by omega))⟩⟩ dX7_fall_97
      refine x_iload hx hb hl 4 rfl dX7_fall_13 ?_
      refine x_iload_n hx hb hl 2 rfl dX7_fall_15 rfl ?_
      refine x_goi (x_runSN (As := [.int (xJ i5_6), .int (xJ b)]) hx hb hml hown hT hE hW hl.1 cf_X6_beside wq784 wn841 (c_X6_besideJ l D g T h0 s_6 hW.2.1 i5_6 ri5_6 b rb) ⟨rfl, rfl, ⟨by decide, by decide⟩, ⟨by decide, by decide⟩⟩ rfl rfl (Nat.le_of_ble_eq_true rfl) dX7_fall_16) hW (fun x2 s3 H locs rx2 hp4 hW => ?_)
      obtain ⟨es3, hp4⟩ := hp4
      subst es3
      have ghp4 := hp4
      have T16 : x2 = zbe i5_6 b := (ghp4.resolve_right (fun q => q.1 (by omega))).2
      have R16 := zbe_r i5_6 b
      rw [← T16] at R16
      refine lv_istore (lv' := [(5, .int (xJ x2)), (0, .ref (h0 + 130)), (1, .ref (h0 + 3)), (3, .int (xJ b)), (4, .int (xJ q)), (6, .int (xJ i6_6))]) hx hb dX7_fall_19 hl (by decide) rfl (fun ls hl => ?_)
      refine x_aload_n hx hb hl 2 rfl dX7_fall_21 rfl ?_
      refine x_iload hx hb hl 0 rfl dX7_fall_22 ?_
      refine x_goi (x_runVN (As := [.int (xJ x2)]) hx hb hml hown hT hE hW hl.1 (Or.inl (by decide)) (so_3 h0 g _) rfl cf_X6_kindAt wq619 wq10 wn842 (c_X6_kindAt l D g T h0 s_6 hW.2.1 x2 rx2 q6_0) ⟨rfl, rfl, ⟨by decide, by decide⟩, ⟨by decide, by decide⟩⟩ rfl rfl (Nat.le_of_ble_eq_true rfl) dX7_fall_24) hW (fun x5 s6 H locs rx5 hp7 hW => ?_)
      obtain ⟨es6, hp7⟩ := hp7
      subst es6
      have ghp7 := hp7
      have K24 : (0 ≤ x2 ∧ x2 < 100 ∧ x5 = K9 x2) ∨ ((x2 < 0 ∨ 100 ≤ x2) ∧ x5 = 1) := ghp7.imp (fun q => ⟨q.1, q.2.1, q.2.2.trans (by rw [hF_6 4 (by first | decide | omega)]; exact hK _ q.1 q.2.1)⟩) (fun q => q)
      refine x_iconst hx hb dX7_fall_27 ?_
      refine x_icmp_eq (tgt := 39) hx hb rx5 (by decide) dX7_fall_28 (by decide) (fun c8 => ?_) (fun c8 => ?_)
      · skip
        rw [eQ]
        exact x_vret hx hb hr hlk hW ⟨hF_6, ⟨q6_0, trivial⟩, ⟨v6_2, zpc_end v6_3 (Or.inr (by rw [← T16]; omega))⟩⟩ dX7_fall_39
      refine x_iload hx hb hl 0 rfl dX7_fall_31 ?_
      refine x_goi (x_runSN (As := [.int (xJ x2)]) hx hb hml hown hT hE hW hl.1 cf_X6_isSpot wq831 wn830 (c_X6_isSpot l D g T h0 s_6 hW.2.1 x2 rx2) ⟨rfl, rfl, ⟨by decide, by decide⟩, ⟨by decide, by decide⟩⟩ rfl rfl (Nat.le_of_ble_eq_true rfl) dX7_fall_33) hW (fun x9 s10 H locs rx9 hp11 hW => ?_)
      obtain ⟨es10, hp11⟩ := hp11
      subst es10
      have ghp11 := hp11
      refine x_if_ne (tgt := 40) hx hb rx9 dX7_fall_36 (by decide) (fun c12 => ?_) (fun c12 => ?_)
      · skip
        refine x_aload_n hx hb hl 1 rfl dX7_fall_40 rfl ?_
        refine x_get (j := 0) (v := .ref (h0 + 131)) hx hb hown hT hE hW cls_X7 (Or.inl (by decide)) (so_130 h0 g _) (by decide) rfl wq330 dX7_fall_41 ?_
        refine x_iload hx hb hl 0 rfl dX7_fall_44 ?_
        refine x_iald hx hb hE hW (Or.inl (by decide)) (sa_131 h0 g _) (by omega) (by decide) dX7_fall_46 ?_
        refine x_rd hW (fun x13 ex13 rx13 => ?_)
        have V46 : x13 = s_6 131 x2 := ex13
        have B46 : 0 ≤ x13 ∧ x13 ≤ 1009 := by
          rw [V46]
          have y1 := v6_4 x2 (by omega) (by omega)
          have y2 := v6_3 x2 (by omega) (by omega)
          have y3 := hL x2 (by omega) (by omega)
          have y4 := zpc_le K9 q.toNat a b x2
          have y5 := zpc_n K9 (q - i6_6).toNat i5_6 b x2
          omega
        refine x_if_ne (tgt := 80) hx hb rx13 dX7_fall_47 (by decide) (fun c14 => ?_) (fun c14 => ?_)
        · skip
          refine x_aload_n hx hb hl 1 rfl dX7_fall_80 rfl ?_
          refine x_get (j := 0) (v := .ref (h0 + 131)) hx hb hown hT hE hW cls_X7 (Or.inl (by decide)) (so_130 h0 g _) (by decide) rfl wq330 dX7_fall_81 ?_
          refine x_iload hx hb hl 0 rfl dX7_fall_84 ?_
          refine lv_dup2_11 hx hb dX7_fall_86 rfl rfl ?_
          refine x_iald hx hb hE hW (Or.inl (by decide)) (sa_131 h0 g _) (by omega) (by decide) dX7_fall_87 ?_
          refine x_rd hW (fun x15 ex15 rx15 => ?_)
          have W87 : s_6 131 = s_6 131 := by first | rfl | (rw [E77, xU_k _ _ _ (by first | decide | omega), E69, xU_k _ _ _ (by first | decide | omega)])
          have V87 : x15 = s_6 131 x2 := by rw [ex15, W87]
          have B87 : 0 ≤ x15 ∧ x15 ≤ 1009 := by rw [V87, ← V46]; exact B46
          refine x_iconst hx hb dX7_fall_88 ?_
          refine x_iadd hx hb dX7_fall_89 ?_
          refine x_iast hx hb hE hW (by decide) (fun σ => sa_131 h0 g σ) (by omega) (by decide) (by omega) dX7_fall_90 (fun H locs s16 es16 hW => ?_)
          have q17 : IC s16 := by rw [es16]; exact IC_o (by decide) q6_0
          have q18 : s16 1 1 = s0 1 1 := (show s16 1 1 = s_6 1 1 from by rw [es16, xU_k _ _ _ (by first | decide | omega)]).trans q6_1
          have hF19 := hF_6.put es16 (by omega)
          have E90 := es16
          have L90 : s16 131 = xud (s_6 131) x2 (s_6 131 x2 + 1) := by rw [E90, xU_xud, W87, V87]
          have P90 : zSL (s16 131) (s16 132) (s16 130 3) := by
            first
              | (rw [show s16 132 = s_6 132 from by rw [E90, xU_k _ _ _ (by first | decide | omega)], show s16 130 3 = s_6 130 3 from by rw [E90, xU_k _ _ _ (by first | decide | omega)]]; exact v6_2.inc (t := x2) (by omega) (by omega) L90)
              | exact v6_2.new (t := x2) (by omega) (by omega) (by omega) L90 (by rw [E90, xU_k _ _ _ (by first | decide | omega), E77, xU_k _ _ _ (by first | decide | omega), E69, xU_xud, V64]) (by rw [E90, xU_k _ _ _ (by first | decide | omega), E77, xU_s, V73])
          have Z90 := zpc_put v6_3 (by omega) T16 (by omega) (by omega) L90
          refine x_iinc (lv' := [(6, .int (xJ (i6_6 + 1))), (5, .int (xJ x2)), (0, .ref (h0 + 130)), (1, .ref (h0 + 3)), (3, .int (xJ b)), (4, .int (xJ q))]) hx hb hl 5 rfl dX7_fall_91 (by decide) rfl (fun ls hl => ?_)
          refine lv_goto (tgt := 6) hx hb dX7_fall_94 (by decide) ?_
          exact ih6 x2 (i6_6 + 1) s16 H locs ls rx2 (by omega) hF19 q17 q18 (by omega) (by omega) (P90) (Z90) (fun t t1 t2 => by
            rw [L90]
            have y := v6_4 t t1 t2
            by_cases h : t = x2
            · subst h; rw [xud_s]; omega
            · rw [xud_o _ _ h]; exact y) (by have hm := hm_6 (); omega) hW (lv_sub hl [2, 3, 4, 5, 1, 0] rfl)
        refine x_aload_n hx hb hl 1 rfl dX7_fall_50 rfl ?_
        refine x_get (j := 3) (v := .int (xJ (s_6 130 3))) hx hb hown hT hE hW cls_X7 (Or.inl (by decide)) (so_130 h0 g _) (by decide) rfl wq337 dX7_fall_51 ?_
        refine x_rd hW (fun x20 ex20 rx20 => ?_)
        have bx20 : 0 ≤ x20 ∧ x20 ≤ 100 := by rw [ex20]; exact IC.z q6_0
        refine x_bipush hx hb dX7_fall_54 (by decide) ?_
        refine x_icmp_ge (tgt := 80) hx hb rx20 (by decide) dX7_fall_56 (by decide) (fun c21 => False.elim (by have := v6_2.room (t := x2) (by omega) (by omega); omega)) (fun c21 => ?_)
        refine x_aload_n hx hb hl 1 rfl dX7_fall_59 rfl ?_
        refine x_get (j := 1) (v := .ref (h0 + 132)) hx hb hown hT hE hW cls_X7 (Or.inl (by decide)) (so_130 h0 g _) (by decide) rfl wq331 dX7_fall_60 ?_
        refine x_aload_n hx hb hl 1 rfl dX7_fall_63 rfl ?_
        refine x_get (j := 3) (v := .int (xJ (s_6 130 3))) hx hb hown hT hE hW cls_X7 (Or.inl (by decide)) (so_130 h0 g _) (by decide) rfl wq337 dX7_fall_64 ?_
        refine x_rd hW (fun x22 ex22 rx22 => ?_)
        have bx22 : 0 ≤ x22 ∧ x22 ≤ 100 := by rw [ex22]; exact IC.z q6_0
        have V64 : x22 = s_6 130 3 := ex22
        refine x_iload hx hb hl 0 rfl dX7_fall_67 ?_
        refine x_iast hx hb hE hW (by decide) (fun σ => sa_132 h0 g σ) (by omega) (by decide) rx2 dX7_fall_69 (fun H locs s23 es23 hW => ?_)
        have q24 : IC s23 := by rw [es23]; exact IC_o (by decide) q6_0
        have q25 : s23 1 1 = s0 1 1 := (show s23 1 1 = s_6 1 1 from by rw [es23, xU_k _ _ _ (by first | decide | omega)]).trans q6_1
        have hF26 := hF_6.put es23 (by omega)
        have E69 := es23
        refine x_aload_n hx hb hl 1 rfl dX7_fall_70 rfl ?_
        refine lv_dup hx hb dX7_fall_71 rfl ?_
        refine x_get (j := 3) (v := .int (xJ (s23 130 3))) hx hb hown hT hE hW cls_X7 (Or.inl (by decide)) (so_130 h0 g _) (by decide) rfl wq337 dX7_fall_72 ?_
        refine x_rd hW (fun x27 ex27 rx27 => ?_)
        have bx27 : 0 ≤ x27 ∧ x27 ≤ 100 := by rw [ex27]; exact IC.z q24
        have V73 : x27 = s_6 130 3 := by rw [ex27, E69, xU_k _ _ _ (by first | decide | omega)]
        refine x_iconst hx hb dX7_fall_75 ?_
        refine x_iadd hx hb dX7_fall_76 ?_
        refine x_put (j := 3) hx hb hown hT hE hW cls_X7 (by decide) (fun σ => so_130 h0 g σ) (by decide) (st_X7_3 h0 s23 130 (x27 + 1)) (ln_X7_3 h0 _ _) wq337 rfl rfl rfl (by omega) dX7_fall_77 (fun H locs s28 es28 hW => ?_)
        have q29 : IC s28 := by rw [es28]; exact IC_130 q24 (by omega)
        have q30 : s28 1 1 = s0 1 1 := (show s28 1 1 = s23 1 1 from by rw [es28, xU_k _ _ _ (by first | decide | omega)]).trans q25
        have hF31 := hF26.put es28 (by omega)
        have E77 := es28
        refine x_aload_n hx hb hl 1 rfl dX7_fall_80 rfl ?_
        refine x_get (j := 0) (v := .ref (h0 + 131)) hx hb hown hT hE hW cls_X7 (Or.inl (by decide)) (so_130 h0 g _) (by decide) rfl wq330 dX7_fall_81 ?_
        refine x_iload hx hb hl 0 rfl dX7_fall_84 ?_
        refine lv_dup2_11 hx hb dX7_fall_86 rfl rfl ?_
        refine x_iald hx hb hE hW (Or.inl (by decide)) (sa_131 h0 g _) (by omega) (by decide) dX7_fall_87 ?_
        refine x_rd hW (fun x32 ex32 rx32 => ?_)
        have W87 : s28 131 = s_6 131 := by first | rfl | (rw [E77, xU_k _ _ _ (by first | decide | omega), E69, xU_k _ _ _ (by first | decide | omega)])
        have V87 : x32 = s_6 131 x2 := by rw [ex32, W87]
        have B87 : 0 ≤ x32 ∧ x32 ≤ 1009 := by rw [V87, ← V46]; exact B46
        refine x_iconst hx hb dX7_fall_88 ?_
        refine x_iadd hx hb dX7_fall_89 ?_
        refine x_iast hx hb hE hW (by decide) (fun σ => sa_131 h0 g σ) (by omega) (by decide) (by omega) dX7_fall_90 (fun H locs s33 es33 hW => ?_)
        have q34 : IC s33 := by rw [es33]; exact IC_o (by decide) q29
        have q35 : s33 1 1 = s0 1 1 := (show s33 1 1 = s28 1 1 from by rw [es33, xU_k _ _ _ (by first | decide | omega)]).trans q30
        have hF36 := hF31.put es33 (by omega)
        have E90 := es33
        have L90 : s33 131 = xud (s_6 131) x2 (s_6 131 x2 + 1) := by rw [E90, xU_xud, W87, V87]
        have P90 : zSL (s33 131) (s33 132) (s33 130 3) := by
          first
            | (rw [show s33 132 = s_6 132 from by rw [E90, xU_k _ _ _ (by first | decide | omega)], show s33 130 3 = s_6 130 3 from by rw [E90, xU_k _ _ _ (by first | decide | omega)]]; exact v6_2.inc (t := x2) (by omega) (by omega) L90)
            | exact v6_2.new (t := x2) (by omega) (by omega) (by omega) L90 (by rw [E90, xU_k _ _ _ (by first | decide | omega), E77, xU_k _ _ _ (by first | decide | omega), E69, xU_xud, V64]) (by rw [E90, xU_k _ _ _ (by first | decide | omega), E77, xU_s, V73])
        have Z90 := zpc_put v6_3 (by omega) T16 (by omega) (by omega) L90
        refine x_iinc (lv' := [(6, .int (xJ (i6_6 + 1))), (5, .int (xJ x2)), (0, .ref (h0 + 130)), (1, .ref (h0 + 3)), (3, .int (xJ b)), (4, .int (xJ q))]) hx hb hl 5 rfl dX7_fall_91 (by decide) rfl (fun ls hl => ?_)
        refine lv_goto (tgt := 6) hx hb dX7_fall_94 (by decide) ?_
        exact ih6 x2 (i6_6 + 1) s33 H locs ls rx2 (by omega) hF36 q34 q35 (by omega) (by omega) (P90) (Z90) (fun t t1 t2 => by
            rw [L90]
            have y := v6_4 t t1 t2
            by_cases h : t = x2
            · subst h; rw [xud_s]; omega
            · rw [xud_o _ _ h]; exact y) (by have hm := hm_6 (); omega) hW (lv_sub hl [2, 3, 4, 5, 1, 0] rfl)
      rw [eQ]
      exact x_vret hx hb hr hlk hW ⟨hF_6, ⟨q6_0, trivial⟩, ⟨v6_2, zpc_end v6_3 (Or.inr (by rw [← T16]; omega))⟩⟩ dX7_fall_39
  exact L6 ((q - 0 : Int).toNat + 1) a 0 s0 H locs ls ra (by decide) hF p0 k1_1 (by omega) (by omega) (hS) (fun t t1 t2 => by rw [Int.sub_zero]) (fun t t1 t2 => Int.le_refl _) (Nat.lt_succ_self _) hW (lv_sub hl [2, 3, 5, 6, 1, 0] rfl)
set_option maxHeartbeats 4000000 in
set_option maxRecDepth 100000 in
theorem c_X7_howManyInMoreF (l : Launch) (D : va_G) (g : xG) (T : Nat × Nat × Nat) (h0 : Nat) (s0 : xS) (hσ : xRR s0) (hS : zSL (s0 131) (s0 132) (s0 130 3)) (p0 : IC s0) : Met l yX7_howManyInMore (xws yX7_howManyInMore cX7_howManyInMore 3 (some .int)) { frames := 2, cells := 0, slots := 0, locals := 41 } (xP [.ref (h0 + 130)] D g T h0 s0) (xQi D g h0 (fun r τ => s0 = τ ∧ (r = zsu (fun t => if 1 < s0 131 t then 1 else 0) 100))) 0 0 (xA h0) := by
  refine x_met hσ (by decide) (Nat.le_of_ble_eq_true rfl) ?_
  intro p e s m args below meth c hx hb hr hml hown hT hlk hnm hE hW ls hl
  have hl : lv_has ls 3 [(0, .ref (h0 + 130))] := hl
  obtain ⟨Q, eQ⟩ : ∃ Q, Q = MQ below (xQi D g h0 (fun r τ => s0 = τ ∧ (r = zsu (fun t => if 1 < s0 131 t then 1 else 0) 100))) args s 0 0 (xA h0) := ⟨_, rfl⟩
  rw [← eQ]
  generalize hHe : ([] : List Loc) = locs at hW ⊢
  obtain ⟨H, eH⟩ : ∃ H, H = s.heap := ⟨_, rfl⟩
  rw [← eH] at hW ⊢
  have k1_1 : s0 1 1 = s0 1 1 := rfl
  refine x_iconst hx hb dX7_howManyInMore_0 ?_
  refine lv_istore_n (lv' := [(1, .int (xJ 0)), (0, .ref (h0 + 130))]) hx hb dX7_howManyInMore_1 rfl hl (by decide) rfl (fun ls hl => ?_)
  refine x_iconst hx hb dX7_howManyInMore_2 ?_
  refine lv_istore_n (lv' := [(2, .int (xJ 0)), (1, .int (xJ 0)), (0, .ref (h0 + 130))]) hx hb dX7_howManyInMore_3 rfl hl (by decide) rfl (fun ls hl => ?_)
  have L4 : ∀ (fu : Nat) (i1_4 : Int) (i2_4 : Int) (H : Heap) (locs : List Loc) (ls : Array Slot), (xR i1_4) → (xR i2_4) → (0 ≤ i2_4 ∧ i2_4 ≤ s0 130 3) → (0 ≤ i1_4 ∧ i1_4 ≤ i2_4) → (i1_4 = zsu (fun i => if 1 < s0 131 (s0 132 i) then 1 else 0) (i2_4).toNat) → (101 - i2_4).toNat < fu → xW D g h0 s H locs s0 → lv_has ls 3 [(0, .ref (h0 + 130)), (1, .int (xJ i1_4)), (2, .int (xJ i2_4))] → W p l e { frames := 2, cells := 0, slots := 0, locals := 41 } s m args below meth c H locs 0 0 Q (F0 m 4 ls []) := by
    intro fu
    induction fu with
    | zero => intro i1_4 i2_4 H locs ls ri1_4 ri2_4 v4_0 v4_1 v4_2 hm; exact absurd hm (Nat.not_lt_zero _)
    | succ fu ih4 =>
      intro i1_4 i2_4 H locs ls ri1_4 ri2_4 v4_0 v4_1 v4_2 hm hW hl
      have hm_4 := fun (_ : Unit) => hm
      clear hm
      refine x_iload_n hx hb hl 2 rfl dX7_howManyInMore_4 rfl ?_
      refine x_aload_n hx hb hl 0 rfl dX7_howManyInMore_5 rfl ?_
      refine x_get (j := 3) (v := .int (xJ (s0 130 3))) hx hb hown hT hE hW cls_X7 (Or.inl (by decide)) (so_130 h0 g _) (by decide) rfl wq337 dX7_howManyInMore_6 ?_
      refine x_rd hW (fun x1 ex1 rx1 => ?_)
      have bx1 : 0 ≤ x1 ∧ x1 ≤ 100 := by rw [ex1]; exact IC.z p0
      refine x_icmp_ge (tgt := 46) hx hb ri2_4 rx1 dX7_howManyInMore_9 (by decide) (fun c2 => ?_) (fun c2 => ?_)
      · skip
        refine x_iload_n hx hb hl 1 rfl dX7_howManyInMore_46 rfl ?_
        rw [eQ]
        exact x_iret hx hb hr hlk hW ri1_4 ⟨rfl, by rw [v4_2, show (i2_4).toNat = (s0 130 3).toNat from by omega]; exact zSL.two hS⟩ dX7_howManyInMore_47
      refine x_iload_n hx hb hl 2 rfl dX7_howManyInMore_12 rfl ?_
      refine x_bipush hx hb dX7_howManyInMore_13 (by decide) ?_
      refine x_icmp_ge (tgt := 46) hx hb ri2_4 (by decide) dX7_howManyInMore_15 (by decide) (fun c3 => False.elim (by have := hS.1; omega)) (fun c3 => ?_)
      refine x_iload_n hx hb hl 1 rfl dX7_howManyInMore_18 rfl ?_
      refine x_aload_n hx hb hl 0 rfl dX7_howManyInMore_19 rfl ?_
      refine x_aload_n hx hb hl 0 rfl dX7_howManyInMore_20 rfl ?_
      refine x_get (j := 1) (v := .ref (h0 + 132)) hx hb hown hT hE hW cls_X7 (Or.inl (by decide)) (so_130 h0 g _) (by decide) rfl wq331 dX7_howManyInMore_21 ?_
      refine x_iload_n hx hb hl 2 rfl dX7_howManyInMore_24 rfl ?_
      refine x_iald hx hb hE hW (Or.inl (by decide)) (sa_132 h0 g _) (by omega) (by decide) dX7_howManyInMore_25 ?_
      refine x_rd hW (fun x4 ex4 rx4 => ?_)
      have V25 : x4 = s0 132 i2_4 := ex4
      have B25 := hS.2.1 i2_4 (by omega) (by omega)
      rw [← V25] at B25
      refine x_goi (x_runV (As := [.int (xJ x4)]) hx hb hml hown hT hE hW hl.1 (Or.inl (by decide)) (so_130 h0 g _) rfl cf_X7_layersAt wq899 wq61 wq980 (c_X7_layersAtF l D g T h0 s0 hW.2.1 x4 rx4 p0) ⟨rfl, rfl, ⟨by decide, by decide⟩, ⟨by decide, by decide⟩⟩ rfl rfl (Nat.le_of_ble_eq_true rfl) dX7_howManyInMore_26) hW (fun x5 s6 H locs rx5 hp7 hW => ?_)
      obtain ⟨es6, hp7⟩ := hp7
      subst es6
      have ghp7 := hp7
      have V26 : x5 = s0 131 (s0 132 i2_4) := by
        have e := (ghp7.resolve_right (fun q => by omega)).2.2
        rw [V25] at e
        exact e
      refine x_iconst hx hb dX7_howManyInMore_29 ?_
      refine x_icmp_le (tgt := 37) hx hb rx5 (by decide) dX7_howManyInMore_30 (by decide) (fun c8 => ?_) (fun c8 => ?_)
      · skip
        refine x_iconst hx hb dX7_howManyInMore_37 ?_
        refine x_iadd hx hb dX7_howManyInMore_38 ?_
        refine x_nm (fun x9 ex9 => ?_)
        refine lv_istore_n (lv' := [(1, .int (xJ x9)), (0, .ref (h0 + 130)), (2, .int (xJ i2_4))]) hx hb dX7_howManyInMore_39 rfl hl (by decide) rfl (fun ls hl => ?_)
        refine x_iinc (lv' := [(2, .int (xJ (i2_4 + 1))), (1, .int (xJ x9)), (0, .ref (h0 + 130))]) hx hb hl 2 rfl dX7_howManyInMore_40 (by decide) rfl (fun ls hl => ?_)
        refine lv_goto (tgt := 4) hx hb dX7_howManyInMore_43 (by decide) ?_
        exact ih4 x9 (i2_4 + 1) H locs ls (by omega) (by omega) (by omega) (by omega) (by
            rw [show (i2_4 + 1).toNat = i2_4.toNat + 1 from by omega]
            show _ = zsu (fun i => if 1 < s0 131 (s0 132 i) then 1 else 0) i2_4.toNat + (if 1 < s0 131 (s0 132 ((i2_4.toNat : Nat) : Int)) then 1 else 0)
            rw [show ((i2_4.toNat : Nat) : Int) = i2_4 from by omega, ← v4_2]
            first
              | (rw [if_pos (by omega)] <;> omega)
              | (rw [if_neg (by omega)] <;> omega)) (by have hm := hm_4 (); omega) hW (lv_sub hl [2, 1, 0] rfl)
      refine x_iconst hx hb dX7_howManyInMore_33 ?_
      refine lv_goto (tgt := 38) hx hb dX7_howManyInMore_34 (by decide) ?_
      refine x_iadd hx hb dX7_howManyInMore_38 ?_
      refine x_nm (fun x10 ex10 => ?_)
      refine lv_istore_n (lv' := [(1, .int (xJ x10)), (0, .ref (h0 + 130)), (2, .int (xJ i2_4))]) hx hb dX7_howManyInMore_39 rfl hl (by decide) rfl (fun ls hl => ?_)
      refine x_iinc (lv' := [(2, .int (xJ (i2_4 + 1))), (1, .int (xJ x10)), (0, .ref (h0 + 130))]) hx hb hl 2 rfl dX7_howManyInMore_40 (by decide) rfl (fun ls hl => ?_)
      refine lv_goto (tgt := 4) hx hb dX7_howManyInMore_43 (by decide) ?_
      exact ih4 x10 (i2_4 + 1) H locs ls (by omega) (by omega) (by omega) (by omega) (by
            rw [show (i2_4 + 1).toNat = i2_4.toNat + 1 from by omega]
            show _ = zsu (fun i => if 1 < s0 131 (s0 132 i) then 1 else 0) i2_4.toNat + (if 1 < s0 131 (s0 132 ((i2_4.toNat : Nat) : Int)) then 1 else 0)
            rw [show ((i2_4.toNat : Nat) : Int) = i2_4 from by omega, ← v4_2]
            first
              | (rw [if_pos (by omega)] <;> omega)
              | (rw [if_neg (by omega)] <;> omega)) (by have hm := hm_4 (); omega) hW (lv_sub hl [2, 1, 0] rfl)
  exact L4 ((101 - 0 : Int).toNat + 1) 0 0 H locs ls (by decide) (by decide) (by have := hS.1; omega) (by omega) (rfl) (Nat.lt_succ_self _) hW (lv_sub hl [2, 1, 0] rfl)
set_option maxHeartbeats 4000000 in
set_option maxRecDepth 100000 in
theorem c_X10_holdsF2 (l : Launch) (D : va_G) (g : xG) (T : Nat × Nat × Nat) (h0 : Nat) (s0 : xS) (hσ : xRR s0) (ka : Nat) (hka : ka < 310) (hns : nsC ka) (hca : ∀ σ : xS, xcel h0 g σ ka = .inl (g.1, 2, .inl (fun j => xJ (σ ka j)))) (x : Int) (rx : xR x) : Met l yX10_holds (xws yX10_holds cX10_holds 3 (some .boolean)) { frames := 0, cells := 0, slots := 0, locals := 0 } (xP [.ref (h0 + ka), .int (xJ x)] D g T h0 s0) (xQi D g h0 (fun r τ => s0 = τ ∧ ((r = 1 ∧ (s0 ka 0 = x ∨ s0 ka 1 = x)) ∨ (r = 0 ∧ s0 ka 0 ≠ x ∧ s0 ka 1 ≠ x)))) 0 0 (xA h0) := by
  refine x_met hσ (by decide) (Nat.le_of_ble_eq_true rfl) ?_
  intro p e s m args below meth c hx hb hr hml hown hT hlk hnm hE hW ls hl
  have hl : lv_has ls 3 [(0, .ref (h0 + ka)), (1, .int (xJ x))] := hl
  obtain ⟨Q, eQ⟩ : ∃ Q, Q = MQ below (xQi D g h0 (fun r τ => s0 = τ ∧ ((r = 1 ∧ (s0 ka 0 = x ∨ s0 ka 1 = x)) ∨ (r = 0 ∧ s0 ka 0 ≠ x ∧ s0 ka 1 ≠ x)))) args s 0 0 (xA h0) := ⟨_, rfl⟩
  rw [← eQ]
  generalize hHe : ([] : List Loc) = locs at hW ⊢
  obtain ⟨H, eH⟩ : ∃ H, H = s.heap := ⟨_, rfl⟩
  rw [← eH] at hW ⊢
  refine x_iconst hx hb dX10_holds_0 ?_
  refine lv_istore_n (lv' := [(2, .int (xJ 0)), (0, .ref (h0 + ka)), (1, .int (xJ x))]) hx hb dX10_holds_1 rfl hl (by decide) rfl (fun ls hl => ?_)
  have L2 : ∀ (fu : Nat) (i2_2 : Int) (ls : Array Slot), (xR i2_2) → (0 ≤ i2_2 ∧ i2_2 ≤ 2) → (0 < i2_2 → s0 ka 0 ≠ x) → (1 < i2_2 → s0 ka 1 ≠ x) → (2 - i2_2).toNat < fu → lv_has ls 3 [(0, .ref (h0 + ka)), (1, .int (xJ x)), (2, .int (xJ i2_2))] → W p l e { frames := 0, cells := 0, slots := 0, locals := 0 } s m args below meth c H locs 0 0 Q (F0 m 2 ls []) := by
    intro fu
    induction fu with
    | zero => intro i2_2 ls ri2_2 v2_0 v2_1 v2_2 hm; exact absurd hm (Nat.not_lt_zero _)
    | succ fu ih2 =>
      intro i2_2 ls ri2_2 v2_0 v2_1 v2_2 hm  hl
      have hm_2 := fun (_ : Unit) => hm
      clear hm
      refine x_iload_n hx hb hl 2 rfl dX10_holds_2 rfl ?_
      refine x_aload_n hx hb hl 0 rfl dX10_holds_3 rfl ?_
      refine x_alen (n := 2) (t0 := 0) hx hb hE hW (Or.inl hka) (hca _) rfl rfl dX10_holds_4 ?_
      refine x_icmp_ge (tgt := 23) hx hb ri2_2 (by decide) dX10_holds_5 (by decide) (fun c1 => ?_) (fun c1 => ?_)
      · skip
        refine x_iconst hx hb dX10_holds_23 ?_
        rw [eQ]
        exact x_zret hx hb hr hlk hW (by omega) ⟨rfl, Or.inr ⟨by omega, v2_1 (by omega), v2_2 (by omega)⟩⟩ dX10_holds_24
      refine x_aload_n hx hb hl 0 rfl dX10_holds_8 rfl ?_
      refine x_iload_n hx hb hl 2 rfl dX10_holds_9 rfl ?_
      refine x_iald hx hb hE hW (Or.inl hka) (hca _) (by omega) (by decide) dX10_holds_10 ?_
      refine x_rd hW (fun x2 ex2 rx2 => ?_)
      have V10 : (i2_2 = 0 → x2 = s0 ka 0) ∧ (i2_2 = 1 → x2 = s0 ka 1) := ⟨fun h => ex2.trans (congrArg (s0 ka) h), fun h => ex2.trans (congrArg (s0 ka) h)⟩
      refine x_iload_n hx hb hl 1 rfl dX10_holds_11 rfl ?_
      refine x_icmp_ne (tgt := 17) hx hb rx2 rx dX10_holds_12 (by decide) (fun c3 => ?_) (fun c3 => ?_)
      · skip
        refine x_iinc (lv' := [(2, .int (xJ (i2_2 + 1))), (0, .ref (h0 + ka)), (1, .int (xJ x))]) hx hb hl 2 rfl dX10_holds_17 (by decide) rfl (fun ls hl => ?_)
        refine lv_goto (tgt := 2) hx hb dX10_holds_20 (by decide) ?_
        exact ih2 (i2_2 + 1) ls (by omega) (by omega) (by omega) (by omega) (by have hm := hm_2 (); omega)  (lv_sub hl [1, 2, 0] rfl)
      refine x_iconst hx hb dX10_holds_15 ?_
      rw [eQ]
      exact x_zret hx hb hr hlk hW (by omega) ⟨rfl, by
          rcases (by omega : i2_2 = 0 ∨ i2_2 = 1) with h | h
          · exact Or.inl ⟨by omega, Or.inl (by rw [← V10.1 h]; omega)⟩
          · exact Or.inl ⟨by omega, Or.inr (by rw [← V10.2 h]; omega)⟩⟩ dX10_holds_16
  exact L2 ((2 - 0 : Int).toNat + 1) 0 ls (by decide) (by omega) (by omega) (by omega) (Nat.lt_succ_self _)  (lv_sub hl [1, 2, 0] rfl)

set_option maxHeartbeats 4000000 in
set_option maxRecDepth 100000 in
theorem c_X0_castOfLampF (l : Launch) (D : va_G) (g : xG) (T : Nat × Nat × Nat) (h0 : Nat) (s0 : xS) (hσ : xRR s0) (d : Nat) (hd : xDay d) (a : Int) (ra : xR a) (K9 : Int → Int) (hK : ∀ t : Int, 0 ≤ t → t < 100 → s0 4 t = K9 t) (ha : a = -1 ∨ (0 ≤ a ∧ a < 100)) (hS : zSL (s0 131) (s0 132) (s0 130 3)) (hL : ∀ t : Int, 0 ≤ t → t < 100 → 0 ≤ s0 131 t ∧ s0 131 t ≤ 800) (p0 : IC s0) : Met l yX0_castOfLamp (xws yX0_castOfLamp cX0_castOfLamp 6 none) { frames := 2, cells := 0, slots := 0, locals := 49 } (xP [.ref (h0 + 128), .ref (h0 + d), .int (xJ a)] D g T h0 s0) (xQv D g h0 (fun τ => xFr (fun k => k = 130 ∨ k = 131 ∨ k = 132) s0 τ ∧ (((IC τ) ∧ True) ∧ (zSL (τ 131) (τ 132) (τ 130 3) ∧ ∀ t : Int, 0 ≤ t → t < 100 → τ 131 t = s0 131 t + zLL K9 (s0 (d + 1)) a t)))) 0 0 (xA h0) := by
  refine x_met hσ (by decide) (Nat.le_of_ble_eq_true rfl) ?_
  intro p e s m args below meth c hx hb hr hml hown hT hlk hnm hE hW ls hl
  have hl : lv_has ls 6 [(0, .ref (h0 + 128)), (1, .ref (h0 + d)), (2, .int (xJ a))] := hl
  obtain ⟨Q, eQ⟩ : ∃ Q, Q = MQ below (xQv D g h0 (fun τ => xFr (fun k => k = 130 ∨ k = 131 ∨ k = 132) s0 τ ∧ (((IC τ) ∧ True) ∧ (zSL (τ 131) (τ 132) (τ 130 3) ∧ ∀ t : Int, 0 ≤ t → t < 100 → τ 131 t = s0 131 t + zLL K9 (s0 (d + 1)) a t)))) args s 0 0 (xA h0) := ⟨_, rfl⟩
  rw [← eQ]
  generalize hHe : ([] : List Loc) = locs at hW ⊢
  obtain ⟨H, eH⟩ : ∃ H, H = s.heap := ⟨_, rfl⟩
  rw [← eH] at hW ⊢
  have hF : xFr (fun k => k = 130 ∨ k = 131 ∨ k = 132) s0 s0 := xFr.rf
  have hbd : (136 ≤ d ∧ d < 209) ∧ (d ≤ 146 ∨ 158 ≤ d) := by unfold xDay at hd; omega
  have k1_1 : s0 1 1 = s0 1 1 := rfl
  refine x_iconst hx hb dX0_castOfLamp_0 ?_
  refine lv_istore_n (lv' := [(3, .int (xJ 0)), (0, .ref (h0 + 128)), (1, .ref (h0 + d)), (2, .int (xJ a))]) hx hb dX0_castOfLamp_1 rfl hl (by decide) rfl (fun ls hl => ?_)
  have L2 : ∀ (fu : Nat) (i3_2 : Int) (s_2 : xS) (H : Heap) (locs : List Loc) (ls : Array Slot), (xR i3_2) → (xFr (fun k => k = 130 ∨ k = 131 ∨ k = 132) s0 s_2) → (IC s_2) → (s_2 1 1 = s0 1 1) → (0 ≤ i3_2 ∧ i3_2 ≤ 8) → (0 < i3_2 → a ≠ -1) → (zSL (s_2 131) (s_2 132) (s_2 130 3)) → (∀ t : Int, 0 ≤ t → t < 100 → s_2 131 t = s0 131 t + (if a = -1 then 0 else zsu (fun w => zlv K9 (s0 (d + 1)) 4 a w t) (i3_2).toNat)) → (9 - i3_2).toNat < fu → xW D g h0 s H locs s_2 → lv_has ls 6 [(0, .ref (h0 + 128)), (1, .ref (h0 + d)), (2, .int (xJ a)), (3, .int (xJ i3_2))] → W p l e { frames := 2, cells := 0, slots := 0, locals := 49 } s m args below meth c H locs 0 0 Q (F0 m 2 ls []) := by
    intro fu
    induction fu with
    | zero => intro i3_2 s_2 H locs ls ri3_2 hF_2 q2_0 q2_1 v2_0 v2_1 v2_2 v2_3 hm; exact absurd hm (Nat.not_lt_zero _)
    | succ fu ih2 =>
      intro i3_2 s_2 H locs ls ri3_2 hF_2 q2_0 q2_1 v2_0 v2_1 v2_2 v2_3 hm hW hl
      have hm_2 := fun (_ : Unit) => hm
      clear hm
      refine x_iload_n hx hb hl 3 rfl dX0_castOfLamp_2 rfl ?_
      refine va_getsN hx hb hE.2.2.1.1 hW.2.2 hown (xE_N hE wn847 rfl) (fun _ h9 => h9) dX0_castOfLamp_3 ?_
      refine va_tlen (v := xJ 8) hx hb hE.2.2.1.2 hW.2.2 rfl dX0_castOfLamp_6 ?_
      refine x_icmp_ge (tgt := 90) hx hb ri3_2 (by decide) dX0_castOfLamp_7 (by decide) (fun c1 => ?_) (fun c1 => ?_)
      · skip
        rw [eQ]
        exact x_vret hx hb hr hlk hW ⟨hF_2, ⟨q2_0, trivial⟩, ⟨v2_2, fun t t1 t2 => by
            rw [v2_3 t t1 t2]
            unfold zLL
            by_cases h : a = -1
            · rw [if_pos h, if_pos h]
            · rw [if_neg h, if_neg h, show (i3_2).toNat = 8 from by omega]⟩⟩ dX0_castOfLamp_90
      refine x_iload_n hx hb hl 2 rfl dX0_castOfLamp_10 rfl ?_
      refine x_iconst hx hb dX0_castOfLamp_11 ?_
      refine x_icmp_eq (tgt := 90) hx hb ra (by decide) dX0_castOfLamp_12 (by decide) (fun c2 => ?_) (fun c2 => ?_)
      · skip
        rw [eQ]
        exact x_vret hx hb hr hlk hW ⟨hF_2, ⟨q2_0, trivial⟩, ⟨v2_2, fun t t1 t2 => by
            rw [v2_3 t t1 t2]
            unfold zLL
            by_cases h : a = -1
            · rw [if_pos h, if_pos h]
            · rw [if_neg h, if_neg h, show (i3_2).toNat = 8 from by omega]⟩⟩ dX0_castOfLamp_90
      refine x_iload_n hx hb hl 2 rfl dX0_castOfLamp_15 rfl ?_
      refine lv_istore (lv' := [(4, .int (xJ a)), (0, .ref (h0 + 128)), (1, .ref (h0 + d)), (2, .int (xJ a)), (3, .int (xJ i3_2))]) hx hb dX0_castOfLamp_16 hl (by decide) rfl (fun ls hl => ?_)
      refine x_iconst hx hb dX0_castOfLamp_18 ?_
      refine lv_istore (lv' := [(5, .int (xJ 0)), (4, .int (xJ a)), (0, .ref (h0 + 128)), (1, .ref (h0 + d)), (2, .int (xJ a)), (3, .int (xJ i3_2))]) hx hb dX0_castOfLamp_19 hl (by decide) rfl (fun ls hl => ?_)
      have L21 : ∀ (fu : Nat) (i4_21 : Int) (i5_21 : Int) (s_21 : xS) (H : Heap) (locs : List Loc) (ls : Array Slot), (xR i4_21) → (xR i5_21) → (xFr (fun k => k = 130 ∨ k = 131 ∨ k = 132) s0 s_21) → (IC s_21) → (s_21 1 1 = s0 1 1) → (0 ≤ i5_21 ∧ i5_21 ≤ 4) → (0 ≤ i4_21 ∧ i4_21 < 100) → (zSL (s_21 131) (s_21 132) (s_21 130 3)) → (∀ t : Int, 0 ≤ t → t < 100 → s_21 131 t + zlv K9 (s0 (d + 1)) (4 - i5_21).toNat i4_21 i3_2 t = s_2 131 t + zlv K9 (s0 (d + 1)) 4 a i3_2 t) → (∀ t : Int, 0 ≤ t → t < 100 → s0 131 t ≤ s_21 131 t) → (5 - i5_21).toNat < fu → xW D g h0 s H locs s_21 → lv_has ls 6 [(0, .ref (h0 + 128)), (1, .ref (h0 + d)), (2, .int (xJ a)), (3, .int (xJ i3_2)), (4, .int (xJ i4_21)), (5, .int (xJ i5_21))] → W p l e { frames := 2, cells := 0, slots := 0, locals := 49 } s m args below meth c H locs 0 0 Q (F0 m 21 ls []) := by
        intro fu
        induction fu with
        | zero => intro i4_21 i5_21 s_21 H locs ls ri4_21 ri5_21 hF_21 q21_0 q21_1 v21_0 v21_1 v21_2 v21_3 v21_4 hm; exact absurd hm (Nat.not_lt_zero _)
        | succ fu ih21 =>
          intro i4_21 i5_21 s_21 H locs ls ri4_21 ri5_21 hF_21 q21_0 q21_1 v21_0 v21_1 v21_2 v21_3 v21_4 hm hW hl
          have hm_21 := fun (_ : Unit) => hm
          clear hm
          refine x_iload hx hb hl 5 rfl dX0_castOfLamp_21 ?_
          refine x_iconst hx hb dX0_castOfLamp_23 ?_
          refine x_icmp_ge (tgt := 84) hx hb ri5_21 (by decide) dX0_castOfLamp_24 (by decide) (fun c3 => ?_) (fun c3 => ?_)
          · skip
            refine x_iinc (lv' := [(3, .int (xJ (i3_2 + 1))), (0, .ref (h0 + 128)), (1, .ref (h0 + d)), (2, .int (xJ a)), (4, .int (xJ i4_21)), (5, .int (xJ i5_21))]) hx hb hl 3 rfl dX0_castOfLamp_84 (by decide) rfl (fun ls hl => ?_)
            refine lv_goto (tgt := 2) hx hb dX0_castOfLamp_87 (by decide) ?_
            exact ih2 (i3_2 + 1) s_21 H locs ls (by omega) hF_21 q21_0 q21_1 (by omega) (by omega) (v21_2) (fun t t1 t2 => by
                have y := v2_3 t t1 t2
                have z := v21_3 t t1 t2
                rw [if_neg (by omega)] at y ⊢
                rw [show (i3_2 + 1).toNat = i3_2.toNat + 1 from by omega]
                show _ = _ + (zsu (fun w => zlv K9 (s0 (d + 1)) 4 a w t) i3_2.toNat + zlv K9 (s0 (d + 1)) 4 a ((i3_2.toNat : Nat) : Int) t)
                rw [show ((i3_2.toNat : Nat) : Int) = i3_2 from by omega]
                have e := zlv_end z (by first | exact Or.inl (by omega) | exact Or.inr (by rw [← T30]; omega))
                omega) (by have hm := hm_2 (); omega) hW (lv_sub hl [1, 2, 3, 0] rfl)
          refine x_iload hx hb hl 4 rfl dX0_castOfLamp_27 ?_
          refine x_iload_n hx hb hl 3 rfl dX0_castOfLamp_29 rfl ?_
          refine x_goi (x_runSN (As := [.int (xJ i4_21), .int (xJ i3_2)]) hx hb hml hown hT hE hW hl.1 cf_X6_beside wq784 wn783 (c_X6_besideJ l D g T h0 s_21 hW.2.1 i4_21 ri4_21 i3_2 ri3_2) ⟨rfl, rfl, ⟨by decide, by decide⟩, ⟨by decide, by decide⟩⟩ rfl rfl (Nat.le_of_ble_eq_true rfl) dX0_castOfLamp_30) hW (fun x4 s5 H locs rx4 hp6 hW => ?_)
          obtain ⟨es5, hp6⟩ := hp6
          subst es5
          have ghp6 := hp6
          have T30 : x4 = zbe i4_21 i3_2 := (ghp6.resolve_right (fun q => q.1 (by omega))).2
          have R30 := zbe_r i4_21 i3_2
          rw [← T30] at R30
          refine lv_istore (lv' := [(4, .int (xJ x4)), (0, .ref (h0 + 128)), (1, .ref (h0 + d)), (2, .int (xJ a)), (3, .int (xJ i3_2)), (5, .int (xJ i5_21))]) hx hb dX0_castOfLamp_33 hl (by decide) rfl (fun ls hl => ?_)
          refine x_aload_n hx hb hl 1 rfl dX0_castOfLamp_35 rfl ?_
          refine x_get (j := 0) (v := .ref (h0 + 3)) hx hb hown hT hE hW cls_X0 (Or.inl (by decide)) (so_128 h0 g _) (by decide) rfl wq351 dX0_castOfLamp_36 ?_
          refine x_iload hx hb hl 0 rfl dX0_castOfLamp_39 ?_
          refine x_goi (x_runVN (As := [.int (xJ x4)]) hx hb hml hown hT hE hW hl.1 (Or.inl (by decide)) (so_3 h0 g _) rfl cf_X6_kindAt wq619 wq10 wn848 (c_X6_kindAt l D g T h0 s_21 hW.2.1 x4 rx4 q21_0) ⟨rfl, rfl, ⟨by decide, by decide⟩, ⟨by decide, by decide⟩⟩ rfl rfl (Nat.le_of_ble_eq_true rfl) dX0_castOfLamp_41) hW (fun x7 s8 H locs rx7 hp9 hW => ?_)
          obtain ⟨es8, hp9⟩ := hp9
          subst es8
          have ghp9 := hp9
          have K41 : (0 ≤ x4 ∧ x4 < 100 ∧ x7 = K9 x4) ∨ ((x4 < 0 ∨ 100 ≤ x4) ∧ x7 = 1) := ghp9.imp (fun q => ⟨q.1, q.2.1, q.2.2.trans (by rw [hF_21 4 (by first | decide | omega)]; exact hK _ q.1 q.2.1)⟩) (fun q => q)
          refine x_iconst hx hb dX0_castOfLamp_44 ?_
          refine x_icmp_ne (tgt := 51) hx hb rx7 (by decide) dX0_castOfLamp_45 (by decide) (fun c10 => ?_) (fun c10 => ?_)
          · skip
            refine x_aload_n hx hb hl 2 rfl dX0_castOfLamp_51 rfl ?_
            refine x_getN (j := 0) (v := .ref (h0 + (d + 1))) hx hb hown hT hE hW cls_X2 (Or.inl (by omega)) (so_day0 h0 g hd _) (by decide) rfl wn384 dX0_castOfLamp_52 ?_
            refine x_iload hx hb hl 0 rfl dX0_castOfLamp_55 ?_
            refine x_goi (x_runSN (As := [.ref (h0 + (d + 1)), .int (xJ x4)]) hx hb hml hown hT hE hW hl.1 cf_X10_holds wq850 wn849 (c_X10_holdsF2 l D g T h0 s_21 hW.2.1 (d + 1) (by omega) (nsC_d hd (by decide)) (fun σ => sa_day1 h0 g hd σ) x4 rx4) ⟨rfl, rfl, ⟨by decide, by decide⟩, ⟨by decide, by decide⟩⟩ rfl rfl (Nat.le_of_ble_eq_true rfl) dX0_castOfLamp_57) hW (fun x11 s12 H locs rx11 hp13 hW => ?_)
            obtain ⟨es12, hp13⟩ := hp13
            subst es12
            have ghp13 := hp13
            have H57 := ghp13
            rw [hF_21 (d + 1) (by omega)] at H57
            refine x_if_eq (tgt := 78) hx hb rx11 dX0_castOfLamp_60 (by decide) (fun c14 => ?_) (fun c14 => ?_)
            · skip
              refine x_iinc (lv' := [(5, .int (xJ (i5_21 + 1))), (4, .int (xJ x4)), (0, .ref (h0 + 128)), (1, .ref (h0 + d)), (2, .int (xJ a)), (3, .int (xJ i3_2))]) hx hb hl 5 rfl dX0_castOfLamp_78 (by decide) rfl (fun ls hl => ?_)
              refine lv_goto (tgt := 21) hx hb dX0_castOfLamp_81 (by decide) ?_
              exact ih21 x4 (i5_21 + 1) s_21 H locs ls rx4 (by omega) hF_21 q21_0 q21_1 (by omega) (by omega) (by first | exact v21_2 | exact H75.1) (fun t t1 t2 => by
                  have z := v21_3 t t1 t2
                  rw [show (4 - i5_21).toNat = (4 - (i5_21 + 1)).toNat + 1 from by omega, zlv_go (by rw [← T30]; omega), ← T30] at z
                  first
                    | (rw [if_pos H57p] at z; rw [H75.2 t t1 t2]; have e : (2 : Int).toNat = 2 := rfl; rw [e]; omega)
                    | (rw [if_neg (by omega)] at z; omega)) (fun t t1 t2 => by
                  have y := v21_4 t t1 t2
                  first
                    | exact y
                    | (rw [H75.2 t t1 t2]; have := zpc_n K9 (2 : Int).toNat x4 i3_2 t; omega)) (by have hm := hm_21 (); omega) hW (lv_sub hl [2, 3, 4, 5, 1, 0] rfl)
            refine x_aload_n hx hb hl 1 rfl dX0_castOfLamp_63 rfl ?_
            have H57p : (s0 (d + 1)) 0 = x4 ∨ (s0 (d + 1)) 1 = x4 := by omega
            have B60 : ∀ t : Int, 0 ≤ t → t < 100 → 0 ≤ s_21 131 t ∧ s_21 131 t ≤ 1000 := fun t t1 t2 => by
              have y1 := v21_4 t t1 t2
              have y2 := v21_3 t t1 t2
              have y3 := hL t t1 t2
              have y4 := zlv_r K9 (s0 (d + 1)) 4 a i3_2 t
              have y5 := zlv_r K9 (s0 (d + 1)) (4 - i5_21).toNat i4_21 i3_2 t
              have y6 := v2_3 t t1 t2
              have y7 := zsu_b (f := fun w => zlv K9 (s0 (d + 1)) 4 a w t) (b := 8) (n := i3_2.toNat) (fun i _ _ => by have := zlv_r K9 (s0 (d + 1)) 4 a i t; omega)
              rw [if_neg (by omega)] at y6
              omega
            refine x_get (j := 3) (v := .ref (h0 + 130)) hx hb hown hT hE hW cls_X0 (Or.inl (by decide)) (so_128 h0 g _) (by decide) rfl wq357 dX0_castOfLamp_64 ?_
            refine x_aload_n hx hb hl 1 rfl dX0_castOfLamp_67 rfl ?_
            refine x_get (j := 0) (v := .ref (h0 + 3)) hx hb hown hT hE hW cls_X0 (Or.inl (by decide)) (so_128 h0 g _) (by decide) rfl wq351 dX0_castOfLamp_68 ?_
            refine x_iload hx hb hl 0 rfl dX0_castOfLamp_71 ?_
            refine x_iload_n hx hb hl 4 rfl dX0_castOfLamp_73 rfl ?_
            refine x_iconst hx hb dX0_castOfLamp_74 ?_
            refine x_gov (x_runVN (As := [.ref (h0 + 3), .int (xJ x4), .int (xJ i3_2), .int (xJ 2)]) hx hb hml hown hT hE hW hl.1 (Or.inl (by decide)) (so_130 h0 g _) rfl cf_X7_fall wq839 wq49 wn837 (c_X7_fallF l D g T h0 s_21 hW.2.1 x4 rx4 i3_2 ri3_2 2 (by decide) K9 (by first | exact hK | exact fun t t1 t2 => by rw [hF_21 4 (by first | decide | omega)]; exact hK t t1 t2) (by omega) (by omega) (by omega) (v21_2) (B60) q21_0) ⟨rfl, rfl, ⟨by decide, by decide⟩, ⟨by decide, by decide⟩⟩ rfl rfl (Nat.le_of_ble_eq_true rfl) dX0_castOfLamp_75) hW (fun s16 H locs hp17 hW => ?_)
            obtain ⟨fs16, hp17⟩ := hp17
            have hF18 := hF_21.call fs16 (fun k h => by omega)
            have q19 : s16 1 1 = s0 1 1 := (congrFun (fs16 _ (by omega)) _).trans q21_1
            have ghp17 := hp17.2
            have H75 := ghp17
            refine x_iinc (lv' := [(5, .int (xJ (i5_21 + 1))), (4, .int (xJ x4)), (0, .ref (h0 + 128)), (1, .ref (h0 + d)), (2, .int (xJ a)), (3, .int (xJ i3_2))]) hx hb hl 5 rfl dX0_castOfLamp_78 (by decide) rfl (fun ls hl => ?_)
            refine lv_goto (tgt := 21) hx hb dX0_castOfLamp_81 (by decide) ?_
            exact ih21 x4 (i5_21 + 1) s16 H locs ls rx4 (by omega) hF18 hp17.1.1 q19 (by omega) (by omega) (by first | exact v21_2 | exact H75.1) (fun t t1 t2 => by
                have z := v21_3 t t1 t2
                rw [show (4 - i5_21).toNat = (4 - (i5_21 + 1)).toNat + 1 from by omega, zlv_go (by rw [← T30]; omega), ← T30] at z
                first
                  | (rw [if_pos H57p] at z; rw [H75.2 t t1 t2]; have e : (2 : Int).toNat = 2 := rfl; rw [e]; omega)
                  | (rw [if_neg (by omega)] at z; omega)) (fun t t1 t2 => by
                have y := v21_4 t t1 t2
                first
                  | exact y
                  | (rw [H75.2 t t1 t2]; have := zpc_n K9 (2 : Int).toNat x4 i3_2 t; omega)) (by have hm := hm_21 (); omega) hW (lv_sub hl [2, 3, 4, 5, 1, 0] rfl)
          refine lv_goto (tgt := 84) hx hb dX0_castOfLamp_48 (by decide) ?_
          refine x_iinc (lv' := [(3, .int (xJ (i3_2 + 1))), (4, .int (xJ x4)), (0, .ref (h0 + 128)), (1, .ref (h0 + d)), (2, .int (xJ a)), (5, .int (xJ i5_21))]) hx hb hl 4 rfl dX0_castOfLamp_84 (by decide) rfl (fun ls hl => ?_)
          refine lv_goto (tgt := 2) hx hb dX0_castOfLamp_87 (by decide) ?_
          exact ih2 (i3_2 + 1) s_21 H locs ls (by omega) hF_21 q21_0 q21_1 (by omega) (by omega) (v21_2) (fun t t1 t2 => by
            have y := v2_3 t t1 t2
            have z := v21_3 t t1 t2
            rw [if_neg (by omega)] at y ⊢
            rw [show (i3_2 + 1).toNat = i3_2.toNat + 1 from by omega]
            show _ = _ + (zsu (fun w => zlv K9 (s0 (d + 1)) 4 a w t) i3_2.toNat + zlv K9 (s0 (d + 1)) 4 a ((i3_2.toNat : Nat) : Int) t)
            rw [show ((i3_2.toNat : Nat) : Int) = i3_2 from by omega]
            have e := zlv_end z (by first | exact Or.inl (by omega) | exact Or.inr (by rw [← T30]; omega))
            omega) (by have hm := hm_2 (); omega) hW (lv_sub hl [2, 3, 4, 0] rfl)
      exact L21 ((5 - 0 : Int).toNat + 1) a 0 s_2 H locs ls ra (by decide) hF_2 q2_0 q2_1 (by omega) (by omega) (v2_2) (fun t t1 t2 => rfl) (fun t t1 t2 => by
          rw [v2_3 t t1 t2]
          split
          · omega
          · have := zsu_b (f := fun w => zlv K9 (s0 (d + 1)) 4 a w t) (b := 8) (n := i3_2.toNat) (fun i _ _ => by have := zlv_r K9 (s0 (d + 1)) 4 a i t; omega); omega) (Nat.lt_succ_self _) hW (lv_sub hl [2, 3, 4, 5, 1, 0] rfl)
  exact L2 ((9 - 0 : Int).toNat + 1) 0 s0 H locs ls (by decide) hF p0 k1_1 (by omega) (by omega) (hS) (fun t t1 t2 => by
          split
          · omega
          · show _ = _ + (0 : Int); omega) (Nat.lt_succ_self _) hW (lv_sub hl [1, 2, 3, 0] rfl)


