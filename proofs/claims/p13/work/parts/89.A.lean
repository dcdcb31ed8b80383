/-! ===== how many of a set ===== -/
theorem zbit_and (a b k : Nat) : (a &&& b) / 2 ^ k % 2 = (a / 2 ^ k % 2) * (b / 2 ^ k % 2) := by
  have h := Nat.testBit_and a b k
  rw [Nat.testBit_eq_decide_div_mod_eq, Nat.testBit_eq_decide_div_mod_eq, Nat.testBit_eq_decide_div_mod_eq] at h
  have m1 := Nat.mod_lt (a / 2 ^ k) (show 2 > 0 from by decide)
  have m2 := Nat.mod_lt (b / 2 ^ k) (show 2 > 0 from by decide)
  have m3 := Nat.mod_lt ((a &&& b) / 2 ^ k) (show 2 > 0 from by decide)
  by_cases c1 : a / 2 ^ k % 2 = 1
  · by_cases c2 : b / 2 ^ k % 2 = 1
    · rw [c1, c2] at h ⊢
      have h : decide ((a &&& b) / 2 ^ k % 2 = 1) = true := h
      exact of_decide_eq_true h
    · rw [c1, show b / 2 ^ k % 2 = 0 from by omega] at h ⊢
      have h : decide ((a &&& b) / 2 ^ k % 2 = 1) = false := h
      have := of_decide_eq_false h
      omega
  · rw [show a / 2 ^ k % 2 = 0 from by omega] at h ⊢
    have h : decide ((a &&& b) / 2 ^ k % 2 = 1) = false := h
    have := of_decide_eq_false h
    omega
theorem zand_n {a b : Int} (ha : 0 ≤ a ∧ a < 1024) (hb : 0 ≤ b ∧ b < 1024) : zand a b = ((a.toNat &&& b.toNat : Nat) : Int) := by
  have lt : (a.toNat &&& b.toNat) < 2 ^ 10 := Nat.and_lt_two_pow _ (by omega)
  have e : xJ a &&& xJ b = xJ ((a.toNat &&& b.toNat : Nat) : Int) := by
    refine Int32.toBitVec_inj.mp (BitVec.eq_of_toNat_eq ?_)
    rw [Int32.toBitVec_and, BitVec.toNat_and]
    have h1 : ∀ k : Int, 0 ≤ k ∧ k < 1024 → (xJ k).toBitVec.toNat = k.toNat := fun k hk => by
      show (BitVec.ofInt 32 k).toNat = _
      rw [BitVec.toNat_ofInt]
      omega
    rw [h1 a ha, h1 b hb, h1 _ (by omega)]
    omega
  unfold zand
  rw [e, xJ_toInt (by omega)]
theorem zand_b {a b k : Int} (ha : 0 ≤ a ∧ a < 1024) (hb : 0 ≤ b ∧ b < 1024) : (0 ≤ zand a b ∧ zand a b < 1024) ∧ xsh (zand a b) k % 2 = (xsh a k % 2) * (xsh b k % 2) := by
  have lt : (a.toNat &&& b.toNat) < 2 ^ 10 := Nat.and_lt_two_pow _ (by omega)
  rw [zand_n ha hb]
  refine ⟨by omega, ?_⟩
  have z := zbit_and a.toNat b.toNat k.toNat
  have e1 : xsh a k % 2 = ((a.toNat / 2 ^ k.toNat % 2 : Nat) : Int) := by
    unfold xsh
    rw [Int.natCast_emod, Int.natCast_ediv, show ((a.toNat : Nat) : Int) = a from by omega]
    rfl
  have e2 : xsh b k % 2 = ((b.toNat / 2 ^ k.toNat % 2 : Nat) : Int) := by
    unfold xsh
    rw [Int.natCast_emod, Int.natCast_ediv, show ((b.toNat : Nat) : Int) = b from by omega]
    rfl
  have e3 : xsh ((a.toNat &&& b.toNat : Nat) : Int) k % 2 = (((a.toNat &&& b.toNat) / 2 ^ k.toNat % 2 : Nat) : Int) := by
    unfold xsh
    rw [Int.natCast_emod, Int.natCast_ediv]
    rfl
  rw [e1, e2, e3, z, Int.natCast_mul]
set_option maxHeartbeats 4000000 in
set_option maxRecDepth 100000 in
theorem c_X11_bitsF (l : Launch) (D : va_G) (g : xG) (T : Nat × Nat × Nat) (h0 : Nat) (s0 : xS) (hσ : xRR s0) (a : Int) (ra : xR a) (ha : 0 ≤ a ∧ a < 1024) : Met l yX11_bits (xws yX11_bits cX11_bits 3 (some .int)) { frames := 0, cells := 0, slots := 0, locals := 0 } (xP [.int (xJ a)] D g T h0 s0) (xQi D g h0 (fun r τ => s0 = τ ∧ (r = zsu (fun k => xsh a k % 2) 10))) 0 0 (xA h0) := by
  refine x_met hσ (by decide) (Nat.le_of_ble_eq_true rfl) ?_
  intro p e s m args below meth c hx hb hr hml hown hT hlk hnm hE hW ls hl
  have hl : lv_has ls 3 [(0, .int (xJ a))] := hl
  obtain ⟨Q, eQ⟩ : ∃ Q, Q = MQ below (xQi D g h0 (fun r τ => s0 = τ ∧ (r = zsu (fun k => xsh a k % 2) 10))) args s 0 0 (xA h0) := ⟨_, rfl⟩
  rw [← eQ]
  generalize hHe : ([] : List Loc) = locs at hW ⊢
  obtain ⟨H, eH⟩ : ∃ H, H = s.heap := ⟨_, rfl⟩
  rw [← eH] at hW ⊢
  refine x_iconst hx hb dX11_bits_0 ?_
  refine lv_istore_n (lv' := [(1, .int (xJ 0)), (0, .int (xJ a))]) hx hb dX11_bits_1 rfl hl (by decide) rfl (fun ls hl => ?_)
  refine x_iconst hx hb dX11_bits_2 ?_
  refine lv_istore_n (lv' := [(2, .int (xJ 0)), (1, .int (xJ 0)), (0, .int (xJ a))]) hx hb dX11_bits_3 rfl hl (by decide) rfl (fun ls hl => ?_)
  have L4 : ∀ (fu : Nat) (i1_4 : Int) (i2_4 : Int) (ls : Array Slot), (xR i1_4) → (xR i2_4) → (0 ≤ i2_4 ∧ i2_4 ≤ 10) → (i1_4 = zsu (fun k => xsh a k % 2) (i2_4).toNat) → (0 ≤ i1_4 ∧ i1_4 ≤ i2_4) → (10 - i2_4).toNat < fu → lv_has ls 3 [(0, .int (xJ a)), (1, .int (xJ i1_4)), (2, .int (xJ i2_4))] → W p l e { frames := 0, cells := 0, slots := 0, locals := 0 } s m args below meth c H locs 0 0 Q (F0 m 4 ls []) := by
    intro fu
    induction fu with
    | zero => intro i1_4 i2_4 ls ri1_4 ri2_4 v4_0 v4_1 v4_2 hm; exact absurd hm (Nat.not_lt_zero _)
    | succ fu ih4 =>
      intro i1_4 i2_4 ls ri1_4 ri2_4 v4_0 v4_1 v4_2 hm  hl
      have hm_4 := fun (_ : Unit) => hm
      clear hm
      refine x_iload_n hx hb hl 2 rfl dX11_bits_4 rfl ?_
      refine x_bipush hx hb dX11_bits_5 (by decide) ?_
      refine x_icmp_ge (tgt := 24) hx hb ri2_4 (by decide) dX11_bits_7 (by decide) (fun c1 => ?_) (fun c1 => ?_)
      · skip
        refine x_iload_n hx hb hl 1 rfl dX11_bits_24 rfl ?_
        rw [eQ]
        exact x_iret hx hb hr hlk hW ri1_4 ⟨rfl, by rw [v4_1, show (i2_4).toNat = 10 from by omega]⟩ dX11_bits_25
      refine x_iload_n hx hb hl 1 rfl dX11_bits_10 rfl ?_
      refine x_iload_n hx hb hl 0 rfl dX11_bits_11 rfl ?_
      refine x_iload_n hx hb hl 2 rfl dX11_bits_12 rfl ?_
      refine x_shrQ hx hb ra dX11_bits_13 (fun x2 ex2 rx2 => ?_)
      refine x_iconst hx hb dX11_bits_14 ?_
      refine x_and1 hx hb rx2 dX11_bits_15 ?_
      refine x_nm (fun x3 ex3 => ?_)
      refine x_iadd hx hb dX11_bits_16 ?_
      refine x_nm (fun x4 ex4 => ?_)
      refine lv_istore_n (lv' := [(1, .int (xJ x4)), (0, .int (xJ a)), (2, .int (xJ i2_4))]) hx hb dX11_bits_17 rfl hl (by decide) rfl (fun ls hl => ?_)
      refine x_iinc (lv' := [(2, .int (xJ (i2_4 + 1))), (1, .int (xJ x4)), (0, .int (xJ a))]) hx hb hl 2 rfl dX11_bits_18 (by decide) rfl (fun ls hl => ?_)
      refine lv_goto (tgt := 4) hx hb dX11_bits_21 (by decide) ?_
      exact ih4 x4 (i2_4 + 1) ls (by omega) (by omega) (by omega) (by
            rw [show (i2_4 + 1).toNat = i2_4.toNat + 1 from by omega]
            show _ = zsu (fun k => xsh a k % 2) i2_4.toNat + xsh a ((i2_4.toNat : Nat) : Int) % 2
            rw [show ((i2_4.toNat : Nat) : Int) = i2_4 from by omega, ← v4_1]
            omega) (by omega) (by have hm := hm_4 (); omega)  (lv_sub hl [2, 1, 0] rfl)
  exact L4 ((10 - 0 : Int).toNat + 1) 0 0 ls (by decide) (by decide) (by omega) (rfl) (by omega) (Nat.lt_succ_self _)  (lv_sub hl [2, 1, 0] rfl)
set_option maxHeartbeats 4000000 in
set_option maxRecDepth 100000 in
theorem c_X11_freeManyF (l : Launch) (D : va_G) (g : xG) (T : Nat × Nat × Nat) (h0 : Nat) (s0 : xS) (hσ : xRR s0) (p0 : IMn s0) (p1 : IMk s0) (p2 : IMo s0) : Met l yX11_freeMany (xws yX11_freeMany cX11_freeMany 3 (some .int)) { frames := 2, cells := 0, slots := 0, locals := 42 } (xP [.ref (h0 + 268)] D g T h0 s0) (xQi D g h0 (fun r τ => s0 = τ ∧ (r = zsu (fun f => if (zYN (s0 269) 0 0 0) (4 + f) ≠ -1 ∧ (zYN (s0 269) 0 0 0) (14 + f) = 0 then 1 else 0) 10))) 0 0 (xA h0) := by
  refine x_met hσ (by decide) (Nat.le_of_ble_eq_true rfl) ?_
  intro p e s m args below meth c hx hb hr hml hown hT hlk hnm hE hW ls hl
  have hl : lv_has ls 3 [(0, .ref (h0 + 268))] := hl
  obtain ⟨Q, eQ⟩ : ∃ Q, Q = MQ below (xQi D g h0 (fun r τ => s0 = τ ∧ (r = zsu (fun f => if (zYN (s0 269) 0 0 0) (4 + f) ≠ -1 ∧ (zYN (s0 269) 0 0 0) (14 + f) = 0 then 1 else 0) 10))) args s 0 0 (xA h0) := ⟨_, rfl⟩
  rw [← eQ]
  generalize hHe : ([] : List Loc) = locs at hW ⊢
  obtain ⟨H, eH⟩ : ∃ H, H = s.heap := ⟨_, rfl⟩
  rw [← eH] at hW ⊢
  have k268_8 : s0 268 8 = s0 268 8 := rfl
  have k268_58 : s0 268 58 = s0 268 58 := rfl
  have k268_17 : s0 268 17 = s0 268 17 := rfl
  have k268_48 : s0 268 48 = s0 268 48 := rfl
  refine x_iconst hx hb dX11_freeMany_0 ?_
  refine lv_istore_n (lv' := [(1, .int (xJ 0)), (0, .ref (h0 + 268))]) hx hb dX11_freeMany_1 rfl hl (by decide) rfl (fun ls hl => ?_)
  refine x_iconst hx hb dX11_freeMany_2 ?_
  refine lv_istore_n (lv' := [(2, .int (xJ 0)), (1, .int (xJ 0)), (0, .ref (h0 + 268))]) hx hb dX11_freeMany_3 rfl hl (by decide) rfl (fun ls hl => ?_)
  have L4 : ∀ (fu : Nat) (i1_4 : Int) (i2_4 : Int) (H : Heap) (locs : List Loc) (ls : Array Slot), (xR i1_4) → (xR i2_4) → (0 ≤ i2_4 ∧ i2_4 ≤ 10) → (i1_4 = zsu (fun f => if (zYN (s0 269) 0 0 0) (4 + f) ≠ -1 ∧ (zYN (s0 269) 0 0 0) (14 + f) = 0 then 1 else 0) (i2_4).toNat) → (0 ≤ i1_4 ∧ i1_4 ≤ i2_4) → (10 - i2_4).toNat < fu → xW D g h0 s H locs s0 → lv_has ls 3 [(0, .ref (h0 + 268)), (1, .int (xJ i1_4)), (2, .int (xJ i2_4))] → W p l e { frames := 2, cells := 0, slots := 0, locals := 42 } s m args below meth c H locs 0 0 Q (F0 m 4 ls []) := by
    intro fu
    induction fu with
    | zero => intro i1_4 i2_4 H locs ls ri1_4 ri2_4 v4_0 v4_1 v4_2 hm; exact absurd hm (Nat.not_lt_zero _)
    | succ fu ih4 =>
      intro i1_4 i2_4 H locs ls ri1_4 ri2_4 v4_0 v4_1 v4_2 hm hW hl
      have hm_4 := fun (_ : Unit) => hm
      clear hm
      refine x_iload_n hx hb hl 2 rfl dX11_freeMany_4 rfl ?_
      refine x_bipush hx hb dX11_freeMany_5 (by decide) ?_
      refine x_icmp_ge (tgt := 44) hx hb ri2_4 (by decide) dX11_freeMany_7 (by decide) (fun c1 => ?_) (fun c1 => ?_)
      · skip
        refine x_iload_n hx hb hl 1 rfl dX11_freeMany_44 rfl ?_
        rw [eQ]
        exact x_iret hx hb hr hlk hW ri1_4 ⟨rfl, by rw [v4_1, show (i2_4).toNat = 10 from by omega]⟩ dX11_freeMany_45
      refine x_iload_n hx hb hl 1 rfl dX11_freeMany_10 rfl ?_
      refine x_aload_n hx hb hl 0 rfl dX11_freeMany_11 rfl ?_
      refine x_iload_n hx hb hl 2 rfl dX11_freeMany_12 rfl ?_
      refine x_goi (x_runV (As := [.int (xJ i2_4)]) hx hb hml hown hT hE hW hl.1 (Or.inl (by decide)) (so_268 h0 g _) rfl cf_X11_isFelon wq1423 wq111 wq1421 (c_X11_isFelonF l D g T h0 s0 hW.2.1 i2_4 ri2_4 p0 p1 p2) ⟨rfl, rfl, ⟨by decide, by decide⟩, ⟨by decide, by decide⟩⟩ rfl rfl (Nat.le_of_ble_eq_true rfl) dX11_freeMany_13) hW (fun x2 s3 H locs rx2 hp4 hW => ?_)
      obtain ⟨es3, hp4⟩ := hp4
      subst es3
      have ghp4 := hp4
      have H13 := ghp4
      have J36 : ∀ (t0_36 : Int) (ls : Array Slot), (xR t0_36) → (t0_36 = (if (zYN (s0 269) 0 0 0) (4 + i2_4) ≠ -1 ∧ (zYN (s0 269) 0 0 0) (14 + i2_4) = 0 then 1 else 0)) → (0 ≤ t0_36 ∧ t0_36 ≤ 1) → lv_has ls 3 [(0, .ref (h0 + 268)), (2, .int (xJ i2_4))] → W p l e { frames := 2, cells := 0, slots := 0, locals := 42 } s m args below meth c H locs 0 0 Q (F0 m 36 ls [.int (xJ t0_36), .int (xJ i1_4)]) := by
        intro t0_36 ls rt0_36 v36_0 v36_1  hl
        refine x_iadd hx hb dX11_freeMany_36 ?_
        refine x_nm (fun x5 ex5 => ?_)
        refine lv_istore_n (lv' := [(1, .int (xJ x5)), (0, .ref (h0 + 268)), (2, .int (xJ i2_4))]) hx hb dX11_freeMany_37 rfl hl (by decide) rfl (fun ls hl => ?_)
        refine x_iinc (lv' := [(2, .int (xJ (i2_4 + 1))), (1, .int (xJ x5)), (0, .ref (h0 + 268))]) hx hb hl 2 rfl dX11_freeMany_38 (by decide) rfl (fun ls hl => ?_)
        refine lv_goto (tgt := 4) hx hb dX11_freeMany_41 (by decide) ?_
        exact ih4 x5 (i2_4 + 1) H locs ls (by omega) (by omega) (by omega) (by
            rw [show (i2_4 + 1).toNat = i2_4.toNat + 1 from by omega]
            show _ = zsu (fun f => if (zYN (s0 269) 0 0 0) (4 + f) ≠ -1 ∧ (zYN (s0 269) 0 0 0) (14 + f) = 0 then 1 else 0) i2_4.toNat + (if (zYN (s0 269) 0 0 0) (4 + ((i2_4.toNat : Nat) : Int)) ≠ -1 ∧ (zYN (s0 269) 0 0 0) (14 + ((i2_4.toNat : Nat) : Int)) = 0 then 1 else 0)
            rw [show ((i2_4.toNat : Nat) : Int) = i2_4 from by omega, ← v4_1, ← v36_0]
            omega) (by omega) (by have hm := hm_4 (); omega) hW (lv_sub hl [2, 1, 0] rfl)
      refine x_if_eq (tgt := 35) hx hb rx2 dX11_freeMany_16 (by decide) (fun c6 => ?_) (fun c6 => ?_)
      · skip
        refine x_iconst hx hb dX11_freeMany_35 ?_
        exact J36 0 ls (by decide) (by first | (rw [if_pos ⟨by have n4 := (IMn.n1 p0).2.2.1 (4 + i2_4) (by omega) (by omega); rw [zYN_F (by omega), if_pos (by omega)]; omega, by rw [zYN_O (by omega), if_pos (by omega)]; omega⟩]) | (rw [if_neg (fun c => by have c2 := c.2; rw [zYN_O (by omega), if_pos (by omega)] at c2; omega)]) | (rw [if_neg (fun c => by have c1 := c.1; rw [zYN_F (by omega), if_neg (by omega)] at c1; exact c1 rfl)])) (by omega)  (lv_sub hl [0, 2] rfl)
      refine x_aload_n hx hb hl 0 rfl dX11_freeMany_19 rfl ?_
      refine x_get (j := 0) (v := .ref (h0 + 269)) hx hb hown hT hE hW cls_X11 (Or.inl (by decide)) (so_268 h0 g _) (by decide) rfl wq1185 dX11_freeMany_20 ?_
      refine x_bipush hx hb dX11_freeMany_23 (by decide) ?_
      refine x_iload_n hx hb hl 2 rfl dX11_freeMany_25 rfl ?_
      refine x_iadd hx hb dX11_freeMany_26 ?_
      refine x_iald hx hb hE hW (Or.inl (by decide)) (sa_269 h0 g _) (by omega) (by decide) dX11_freeMany_27 ?_
      refine x_rd hW (fun x7 ex7 rx7 => ?_)
      have V27 : x7 = s0 269 (14 + i2_4) := ex7
      refine x_if_ne (tgt := 35) hx hb rx7 dX11_freeMany_28 (by decide) (fun c8 => ?_) (fun c8 => ?_)
      · skip
        refine x_iconst hx hb dX11_freeMany_35 ?_
        exact J36 0 ls (by decide) (by first | (rw [if_pos ⟨by have n4 := (IMn.n1 p0).2.2.1 (4 + i2_4) (by omega) (by omega); rw [zYN_F (by omega), if_pos (by omega)]; omega, by rw [zYN_O (by omega), if_pos (by omega)]; omega⟩]) | (rw [if_neg (fun c => by have c2 := c.2; rw [zYN_O (by omega), if_pos (by omega)] at c2; omega)]) | (rw [if_neg (fun c => by have c1 := c.1; rw [zYN_F (by omega), if_neg (by omega)] at c1; exact c1 rfl)])) (by omega)  (lv_sub hl [0, 2] rfl)
      refine x_iconst hx hb dX11_freeMany_31 ?_
      refine lv_goto (tgt := 36) hx hb dX11_freeMany_32 (by decide) ?_
      exact J36 1 ls (by decide) (by first | (rw [if_pos ⟨by have n4 := (IMn.n1 p0).2.2.1 (4 + i2_4) (by omega) (by omega); rw [zYN_F (by omega), if_pos (by omega)]; omega, by rw [zYN_O (by omega), if_pos (by omega)]; omega⟩]) | (rw [if_neg (fun c => by have c2 := c.2; rw [zYN_O (by omega), if_pos (by omega)] at c2; omega)]) | (rw [if_neg (fun c => by have c1 := c.1; rw [zYN_F (by omega), if_neg (by omega)] at c1; exact c1 rfl)])) (by omega)  (lv_sub hl [0, 2] rfl)
  exact L4 ((10 - 0 : Int).toNat + 1) 0 0 H locs ls (by decide) (by decide) (by omega) (rfl) (by omega) (Nat.lt_succ_self _) hW (lv_sub hl [2, 1, 0] rfl)
set_option maxHeartbeats 4000000 in
set_option maxRecDepth 100000 in
theorem c_X11_triedF (l : Launch) (D : va_G) (g : xG) (T : Nat × Nat × Nat) (h0 : Nat) (s0 : xS) (hσ : xRR s0) (n : Int) (rn : xR n) (w : Int) (rw : xR w) (K9 : Int → Int) (n9 : Int → Int) (w9 : Int → Int → Int) (q9 : zLaw) (l9 : Int → Int) (hok : zLok q9) (hlr : zLR s0 q9) (hK : ∀ t : Int, 0 ≤ t → t < 100 → s0 272 t = K9 t ∧ 0 ≤ K9 t ∧ K9 t ≤ 3) (hlm : ∀ i : Int, 0 ≤ i → i < 4 → s0 273 i = l9 i) (hw : ∀ j : Int, 0 ≤ j → j < 2 → s0 274 j = n9 j ∧ ∀ i : Int, 0 ≤ i → i < n9 j → s0 275 (60 * j + i) = w9 j i) (hY : zYq (zYr s0)) (hB : 0 ≤ s0 269 36 ∧ s0 269 36 < 1024) (hJt : zJt K9 (zY4 (zYr s0))) (hb35 : 0 ≤ s0 269 35 ∧ s0 269 35 < 1024) (p0 : IMn s0) (p1 : IMk s0) (p2 : IMo s0) : Met l yX11_tried (xws yX11_tried cX11_tried 5 (some .int)) { frames := 9, cells := 0, slots := 0, locals := 209 } (xP [.ref (h0 + 268), .int (xJ n), .int (xJ w)] D g T h0 s0) (xQi D g h0 (fun r τ => xFr (fun k => k = 268 ∨ k = 269 ∨ k = 270 ∨ k = 293 ∨ k = 294 ∨ k = 295 ∨ k = 296 ∨ k = 297 ∨ k = 298 ∨ k = 299) s0 τ ∧ (((IMn τ) ∧ (IMk τ) ∧ (IMo τ) ∧ (τ 268 8 = s0 268 8) ∧ (τ 268 58 = s0 268 58) ∧ (τ 268 17 = s0 268 17) ∧ (τ 268 48 = s0 268 48) ∧ True) ∧ ((((1 ≤ n ∧ n ≤ 120) ∧ ((0 ≤ w ∧ w ≤ 5) ∨ (10 ≤ w ∧ w ≤ 29 ∧ xsh (s0 269 35) (w % 10) % 2 = 1) ∨ (30 ≤ w ∧ w ≤ 31 ∧ xsh (s0 269 34) (w - 30) % 2 = 1))) ∧ r = ztr (zSm (zYN (s0 269) 0 0 0) - zSm (zmn K9 q9 l9 n9 w9 (s0 268 48) n.toNat (zYN (s0 269) 0 0 0))) (zmn K9 q9 l9 n9 w9 (s0 268 48) n.toNat (zYN (s0 269) 0 0 0)) w ∧ (∀ q : Int, 0 ≤ q → q < 39 → τ 269 q = s0 269 q)) ∨ (¬ ((1 ≤ n ∧ n ≤ 120) ∧ ((0 ≤ w ∧ w ≤ 5) ∨ (10 ≤ w ∧ w ≤ 29 ∧ xsh (s0 269 35) (w % 10) % 2 = 1) ∨ (30 ≤ w ∧ w ≤ 31 ∧ xsh (s0 269 34) (w - 30) % 2 = 1))) ∧ r = -1 ∧ (∀ q : Int, 0 ≤ q → q < 39 → τ 269 q = s0 269 q)))))) 0 0 (xA h0) := by
  refine x_met hσ (by decide) (Nat.le_of_ble_eq_true rfl) ?_
  intro p e s m args below meth c hx hb hr hml hown hT hlk hnm hE hW ls hl
  have hl : lv_has ls 5 [(0, .ref (h0 + 268)), (1, .int (xJ n)), (2, .int (xJ w))] := hl
  obtain ⟨Q, eQ⟩ : ∃ Q, Q = MQ below (xQi D g h0 (fun r τ => xFr (fun k => k = 268 ∨ k = 269 ∨ k = 270 ∨ k = 293 ∨ k = 294 ∨ k = 295 ∨ k = 296 ∨ k = 297 ∨ k = 298 ∨ k = 299) s0 τ ∧ (((IMn τ) ∧ (IMk τ) ∧ (IMo τ) ∧ (τ 268 8 = s0 268 8) ∧ (τ 268 58 = s0 268 58) ∧ (τ 268 17 = s0 268 17) ∧ (τ 268 48 = s0 268 48) ∧ True) ∧ ((((1 ≤ n ∧ n ≤ 120) ∧ ((0 ≤ w ∧ w ≤ 5) ∨ (10 ≤ w ∧ w ≤ 29 ∧ xsh (s0 269 35) (w % 10) % 2 = 1) ∨ (30 ≤ w ∧ w ≤ 31 ∧ xsh (s0 269 34) (w - 30) % 2 = 1))) ∧ r = ztr (zSm (zYN (s0 269) 0 0 0) - zSm (zmn K9 q9 l9 n9 w9 (s0 268 48) n.toNat (zYN (s0 269) 0 0 0))) (zmn K9 q9 l9 n9 w9 (s0 268 48) n.toNat (zYN (s0 269) 0 0 0)) w ∧ (∀ q : Int, 0 ≤ q → q < 39 → τ 269 q = s0 269 q)) ∨ (¬ ((1 ≤ n ∧ n ≤ 120) ∧ ((0 ≤ w ∧ w ≤ 5) ∨ (10 ≤ w ∧ w ≤ 29 ∧ xsh (s0 269 35) (w % 10) % 2 = 1) ∨ (30 ≤ w ∧ w ≤ 31 ∧ xsh (s0 269 34) (w - 30) % 2 = 1))) ∧ r = -1 ∧ (∀ q : Int, 0 ≤ q → q < 39 → τ 269 q = s0 269 q)))))) args s 0 0 (xA h0) := ⟨_, rfl⟩
  rw [← eQ]
  generalize hHe : ([] : List Loc) = locs at hW ⊢
  obtain ⟨H, eH⟩ : ∃ H, H = s.heap := ⟨_, rfl⟩
  rw [← eH] at hW ⊢
  have hF : xFr (fun k => k = 268 ∨ k = 269 ∨ k = 270 ∨ k = 293 ∨ k = 294 ∨ k = 295 ∨ k = 296 ∨ k = 297 ∨ k = 298 ∨ k = 299) s0 s0 := xFr.rf
  have k268_8 : s0 268 8 = s0 268 8 := rfl
  have k268_58 : s0 268 58 = s0 268 58 := rfl
  have k268_17 : s0 268 17 = s0 268 17 := rfl
  have k268_48 : s0 268 48 = s0 268 48 := rfl
  refine x_iload_n hx hb hl 2 rfl dX11_tried_0 rfl ?_
  refine x_iconst hx hb dX11_tried_1 ?_
  refine x_iconst hx hb dX11_tried_2 ?_
  refine x_goi (x_runS (As := [.int (xJ w), .int (xJ 0), .int (xJ 5)]) hx hb hml hown hT hE hW hl.1 cf_X11_in wq1383 wq1382 (c_X11_in l D g T h0 s0 hW.2.1 w rw 0 (by decide) 5 (by decide)) ⟨rfl, rfl, ⟨by decide, by decide⟩, ⟨by decide, by decide⟩⟩ rfl rfl (Nat.le_of_ble_eq_true rfl) dX11_tried_3) hW (fun x1 s2 H locs rx1 hp3 hW => ?_)
  obtain ⟨es2, hp3⟩ := hp3
  subst es2
  have ghp3 := hp3
  have J58 : ∀ (t0_58 : Int) (H : Heap) (locs : List Loc) (ls : Array Slot), (xR t0_58) → ((t0_58 = 1 ∧ ((0 ≤ w ∧ w ≤ 5) ∨ (10 ≤ w ∧ w ≤ 29 ∧ xsh (s0 269 35) (w % 10) % 2 = 1) ∨ (30 ≤ w ∧ w ≤ 31 ∧ xsh (s0 269 34) (w - 30) % 2 = 1))) ∨ (t0_58 = 0 ∧ ¬ ((0 ≤ w ∧ w ≤ 5) ∨ (10 ≤ w ∧ w ≤ 29 ∧ xsh (s0 269 35) (w % 10) % 2 = 1) ∨ (30 ≤ w ∧ w ≤ 31 ∧ xsh (s0 269 34) (w - 30) % 2 = 1)))) → xW D g h0 s H locs s0 → lv_has ls 5 [(0, .ref (h0 + 268)), (1, .int (xJ n)), (2, .int (xJ w))] → W p l e { frames := 9, cells := 0, slots := 0, locals := 209 } s m args below meth c H locs 0 0 Q (F0 m 58 ls [.int (xJ t0_58)]) := by
    intro t0_58 H locs ls rt0_58 v58_0 hW hl
    refine lv_istore_n (lv' := [(3, .int (xJ t0_58)), (0, .ref (h0 + 268)), (1, .int (xJ n)), (2, .int (xJ w))]) hx hb dX11_tried_58 rfl hl (by decide) rfl (fun ls hl => ?_)
    have T58 := v58_0
    refine x_iload_n hx hb hl 2 rfl dX11_tried_59 rfl ?_
    refine x_iconst hx hb dX11_tried_60 ?_
    refine x_bipush hx hb dX11_tried_61 (by decide) ?_
    refine x_goi (x_runS (As := [.int (xJ n), .int (xJ 1), .int (xJ 120)]) hx hb hml hown hT hE hW hl.1 cf_X11_in wq1383 wq1382 (c_X11_in l D g T h0 s0 hW.2.1 n rn 1 (by decide) 120 (by decide)) ⟨rfl, rfl, ⟨by decide, by decide⟩, ⟨by decide, by decide⟩⟩ rfl rfl (Nat.le_of_ble_eq_true rfl) dX11_tried_63) hW (fun x4 s5 H locs rx4 hp6 hW => ?_)
    obtain ⟨es5, hp6⟩ := hp6
    subst es5
    have ghp6 := hp6
    refine x_if_eq (tgt := 73) hx hb rx4 dX11_tried_66 (by decide) (fun c7 => ?_) (fun c7 => ?_)
    · skip
      refine x_iconst hx hb dX11_tried_73 ?_
      rw [eQ]
      exact x_iret hx hb hr hlk hW (by decide) ⟨hF, ⟨p0, p1, p2, k268_8, k268_58, k268_17, k268_48, trivial⟩, Or.inr ⟨by omega, by omega, fun _ _ _ => rfl⟩⟩ dX11_tried_74
    refine x_iload_n hx hb hl 0 rfl dX11_tried_69 rfl ?_
    refine x_if_ne (tgt := 75) hx hb rt0_58 dX11_tried_70 (by decide) (fun c8 => ?_) (fun c8 => ?_)
    · skip
      refine x_aload_n hx hb hl 1 rfl dX11_tried_75 rfl ?_
      refine x_get (j := 0) (v := .ref (h0 + 269)) hx hb hown hT hE hW cls_X11 (Or.inl (by decide)) (so_268 h0 g _) (by decide) rfl wq1185 dX11_tried_76 ?_
      refine x_aload_n hx hb hl 1 rfl dX11_tried_79 rfl ?_
      refine x_get (j := 1) (v := .ref (h0 + 270)) hx hb hown hT hE hW cls_X11 (Or.inl (by decide)) (so_268 h0 g _) (by decide) rfl wq1186 dX11_tried_80 ?_
      refine x_gov (x_runS (As := [.ref (h0 + 269), .ref (h0 + 270)]) hx hb hml hown hT hE hW hl.1 cf_X11_copies wq1647 wq1646 (c_X11_copiesMA l D g T h0 s0 hW.2.1 p0 p1 p2) ⟨rfl, rfl, ⟨by decide, by decide⟩, ⟨by decide, by decide⟩⟩ rfl rfl (Nat.le_of_ble_eq_true rfl) dX11_tried_83) hW (fun s10 H locs hp11 hW => ?_)
      obtain ⟨fs10, hp11⟩ := hp11
      have hF12 := hF.call fs10 (fun k h => by omega)
      have q13 : s10 268 8 = s0 268 8 := (congrFun (fs10 _ (by omega)) _).trans k268_8
      have q14 : s10 268 58 = s0 268 58 := (congrFun (fs10 _ (by omega)) _).trans k268_58
      have q15 : s10 268 17 = s0 268 17 := (congrFun (fs10 _ (by omega)) _).trans k268_17
      have q16 : s10 268 48 = s0 268 48 := (congrFun (fs10 _ (by omega)) _).trans k268_48
      have ghp11 := hp11.2
      have q17 : s10 270 = s10 270 := rfl
      have A83 : ∀ q : Int, 0 ≤ q → q < 39 → s10 270 q = s0 269 q := ghp11
      have B83 : s10 269 = s0 269 ∧ s10 268 = s0 268 := ⟨fs10 269 (by first | decide | omega), fs10 268 (by first | decide | omega)⟩
      have Z83 : zYr s10 = zYr s0 := zYr_f B83.1 B83.2
      refine x_aload_n hx hb hl 1 rfl dX11_tried_86 rfl ?_
      refine x_iload_n hx hb hl 2 rfl dX11_tried_87 rfl ?_
      refine x_gov (x_runV (As := [.int (xJ n)]) hx hb hml hown hT hE hW hl.1 (Or.inl (by decide)) (so_268 h0 g _) rfl cf_X11_minutesGo wq1539 wq130 wq1537 (c_X11_minutesGoF l D g T h0 s10 hW.2.1 n rn K9 n9 w9 q9 l9 (hok) (by first | exact hlr | exact hlr.f (fun k hk => hF12 k (by omega)) (by omega)) (by first | exact hK | exact fun t t1 t2 => by rw [hF12 272 (by first | decide | omega)]; exact hK t t1 t2) (by first | exact hlm | exact fun i i1 i2 => by rw [hF12 273 (by first | decide | omega)]; exact hlm i i1 i2) (by first | exact hw | exact (by rw [hF12 274 (by first | decide | omega), hF12 275 (by first | decide | omega)]; exact hw)) (by rw [Z83]; exact hY) (by rw [B83.1]; exact hB) (by rw [Z83]; exact hJt) (by omega) hp11.1.1 hp11.1.2.1 hp11.1.2.2.1) ⟨rfl, rfl, ⟨by decide, by decide⟩, ⟨by decide, by decide⟩⟩ rfl rfl (Nat.le_of_ble_eq_true rfl) dX11_tried_88) hW (fun s19 H locs hp20 hW => ?_)
      obtain ⟨fs19, hp20⟩ := hp20
      have hF21 := hF12.call fs19 (fun k h => by omega)
      have q22 : s19 270 = s10 270 := (fs19 _ (by omega)).trans q17
      have ghp20 := hp20.2
      have H88 := ghp20
      have D88 : zYr s19 = zmn K9 q9 l9 n9 w9 (s0 268 48) n.toNat (zYN (s0 269) 0 0 0) := by rw [H88.1, B83.1, B83.2]
      have S88 : s19 268 41 = (zSm (zYN (s0 269) 0 0 0) - zSm (zmn K9 q9 l9 n9 w9 (s0 268 48) n.toNat (zYN (s0 269) 0 0 0))) := by rw [H88.2.1, D88, Z83]; congr 1 <;> exact zSm_rr (a := 0) (c := 0) (s := 0) (fun _ _ _ => rfl)
      have N88 : s19 269 35 = s0 269 35 ∧ s19 269 34 = s0 269 34 := ⟨by rw [H88.2.2.2.2.1, B83.1], by have z := congrFun B83.1 34; omega⟩
      have R88 : (zmn K9 q9 l9 n9 w9 (s0 268 48) n.toNat (zYN (s0 269) 0 0 0)) 46 = s19 268 42 ∧ (zmn K9 q9 l9 n9 w9 (s0 268 48) n.toNat (zYN (s0 269) 0 0 0)) 47 = s19 268 43 ∧ (zmn K9 q9 l9 n9 w9 (s0 268 48) n.toNat (zYN (s0 269) 0 0 0)) 48 = s19 268 44 := by rw [← D88]; exact ⟨rfl, rfl, rfl⟩
      have F88 : ∀ f : Int, 0 ≤ f → f < 10 → xsh (s0 269 35) f % 2 = 1 → (zmn K9 q9 l9 n9 w9 (s0 268 48) n.toNat (zYN (s0 269) 0 0 0)) (4 + f) = s19 269 (4 + f) ∧ (zmn K9 q9 l9 n9 w9 (s0 268 48) n.toNat (zYN (s0 269) 0 0 0)) (14 + f) = s19 269 (14 + f) := fun f f1 f2 c => by
        rw [← D88]
        show zYN (s19 269) _ _ _ (4 + f) = _ ∧ zYN (s19 269) _ _ _ (14 + f) = _
        rw [zYN_F ⟨f1, f2⟩, zYN_O ⟨f1, f2⟩, N88.1, if_pos c, if_pos c]
        exact ⟨rfl, rfl⟩
      have J88 : ∀ j : Int, 0 ≤ j → j < 2 → xsh (s0 269 34) j % 2 = 1 → (zmn K9 q9 l9 n9 w9 (s0 268 48) n.toNat (zYN (s0 269) 0 0 0)) j = s19 269 j := fun j j1 j2 c => by
        rw [← D88]
        show zYN (s19 269) _ _ _ j = _
        rw [zYN_J ⟨j1, j2⟩, zrj_p (by rw [N88.2]; exact c)]
      have C88 : ∀ f : Int, 0 ≤ f → f < 10 → ((zYN (s19 269) 0 0 0 (4 + f) = (zmn K9 q9 l9 n9 w9 (s0 268 48) n.toNat (zYN (s0 269) 0 0 0)) (4 + f)) ∧ zYN (s19 269) 0 0 0 (14 + f) = (zmn K9 q9 l9 n9 w9 (s0 268 48) n.toNat (zYN (s0 269) 0 0 0)) (14 + f)) := fun f f1 f2 => by
        rw [← D88]
        show _ = zYN (s19 269) _ _ _ (4 + f) ∧ _ = zYN (s19 269) _ _ _ (14 + f)
        rw [zYN_F ⟨f1, f2⟩, zYN_O ⟨f1, f2⟩, zYN_F ⟨f1, f2⟩, zYN_O ⟨f1, f2⟩]
        exact ⟨rfl, rfl⟩
      refine x_iload_n hx hb hl 3 rfl dX11_tried_91 rfl ?_
      have J254 : ∀ (i4_254 : Int) (H : Heap) (locs : List Loc) (ls : Array Slot), (xR i4_254) → (i4_254 = ztr (zSm (zYN (s0 269) 0 0 0) - zSm (zmn K9 q9 l9 n9 w9 (s0 268 48) n.toNat (zYN (s0 269) 0 0 0))) (zmn K9 q9 l9 n9 w9 (s0 268 48) n.toNat (zYN (s0 269) 0 0 0)) w) → xW D g h0 s H locs s19 → lv_has ls 5 [(0, .ref (h0 + 268)), (4, .int (xJ i4_254))] → W p l e { frames := 9, cells := 0, slots := 0, locals := 209 } s m args below meth c H locs 0 0 Q (F0 m 254 ls []) := by
        intro i4_254 H locs ls ri4_254 v254_0 hW hl
        refine x_aload_n hx hb hl 0 rfl dX11_tried_254 rfl ?_
        refine x_get (j := 1) (v := .ref (h0 + 270)) hx hb hown hT hE hW cls_X11 (Or.inl (by decide)) (so_268 h0 g _) (by decide) rfl wq1186 dX11_tried_255 ?_
        refine x_aload_n hx hb hl 0 rfl dX11_tried_258 rfl ?_
        refine x_get (j := 0) (v := .ref (h0 + 269)) hx hb hown hT hE hW cls_X11 (Or.inl (by decide)) (so_268 h0 g _) (by decide) rfl wq1185 dX11_tried_259 ?_
        refine x_gov (x_runS (As := [.ref (h0 + 270), .ref (h0 + 269)]) hx hb hml hown hT hE hW hl.1 cf_X11_copies wq1647 wq1646 (c_X11_copiesMB l D g T h0 s19 hW.2.1 hp20.1.1 hp20.1.2.1 hp20.1.2.2.1) ⟨rfl, rfl, ⟨by decide, by decide⟩, ⟨by decide, by decide⟩⟩ rfl rfl (Nat.le_of_ble_eq_true rfl) dX11_tried_262) hW (fun s24 H locs hp25 hW => ?_)
        obtain ⟨fs24, hp25⟩ := hp25
        have hF26 := hF21.call fs24 (fun k h => by omega)
        have q27 : s24 270 = s10 270 := (fs24 _ (by omega)).trans q22
        have q28 : s24 268 8 = s0 268 8 := (congrFun (fs24 _ (by omega)) _).trans (hp20.1.2.2.2.1.trans q13)
        have q29 : s24 268 58 = s0 268 58 := (congrFun (fs24 _ (by omega)) _).trans (hp20.1.2.2.2.2.1.trans q14)
        have q30 : s24 268 17 = s0 268 17 := (congrFun (fs24 _ (by omega)) _).trans (hp20.1.2.2.2.2.2.1.trans q15)
        have q31 : s24 268 48 = s0 268 48 := (congrFun (fs24 _ (by omega)) _).trans (hp20.1.2.2.2.2.2.2.2.1.trans q16)
        have ghp25 := hp25.2
        have Q262 : ∀ q : Int, 0 ≤ q → q < 39 → s24 269 q = s0 269 q := fun q a b => (ghp25 q a b).trans ((congrFun ((fs24 270 (by first | decide | omega)).symm.trans q27) q).trans (A83 q a b))
        have K262 : s24 268 = s19 268 := fs24 268 (by first | decide | omega)
        refine x_iload hx hb hl 1 rfl dX11_tried_265 ?_
        rw [eQ]
        exact x_iret hx hb hr hlk hW ri4_254 ⟨hF26, ⟨hp25.1.1, hp25.1.2.1, hp25.1.2.2.1, q28, q29, q30, q31, trivial⟩, Or.inl ⟨by omega, v254_0, Q262⟩⟩ dX11_tried_267
      rcases (show (w < 0 ∨ 5 < w) ∨ w = 0 ∨ w = 1 ∨ w = 2 ∨ w = 3 ∨ w = 4 ∨ w = 5 from by omega) with c32 | c32 | c32 | c32 | c32 | c32 | c32
      · refine x_tabOut (tgt := 200) hx hb rw dX11_tried_92 c32 (by decide) ?_
        refine x_iload_n hx hb hl 3 rfl dX11_tried_200 rfl ?_
        refine x_bipush hx hb dX11_tried_201 (by decide) ?_
        refine x_icmp_ge (tgt := 220) hx hb rw (by decide) dX11_tried_203 (by decide) (fun c33 => ?_) (fun c33 => ?_)
        · skip
          refine x_iload_n hx hb hl 3 rfl dX11_tried_220 rfl ?_
          refine x_bipush hx hb dX11_tried_221 (by decide) ?_
          refine x_icmp_ge (tgt := 241) hx hb rw (by decide) dX11_tried_223 (by decide) (fun c34 => ?_) (fun c34 => ?_)
          · skip
            refine x_aload_n hx hb hl 1 rfl dX11_tried_241 rfl ?_
            refine x_get (j := 0) (v := .ref (h0 + 269)) hx hb hown hT hE hW cls_X11 (Or.inl (by decide)) (so_268 h0 g _) (by decide) rfl wq1185 dX11_tried_242 ?_
            refine x_iconst hx hb dX11_tried_245 ?_
            refine x_iload_n hx hb hl 3 rfl dX11_tried_246 rfl ?_
            refine x_iadd hx hb dX11_tried_247 ?_
            refine x_bipush hx hb dX11_tried_248 (by decide) ?_
            refine x_isub hx hb dX11_tried_250 ?_
            refine x_iald hx hb hE hW (Or.inl (by decide)) (sa_269 h0 g _) (by omega) (by decide) dX11_tried_251 ?_
            refine x_rd hW (fun x35 ex35 rx35 => ?_)
            have bx35 : 0 ≤ x35 ∧ x35 ≤ 99 := by rw [ex35]; exact (IMn.n1 hp20.1.1).1 _ (by omega) (by omega)
            have V251 : x35 = (zmn K9 q9 l9 n9 w9 (s0 268 48) n.toNat (zYN (s0 269) 0 0 0)) (w - 30) := by
              have e : x35 = s19 269 (w - 30) := ex35.trans (congrArg (s19 269) (by omega))
              rw [e, ← J88 (w - 30) (by omega) (by omega) (by omega)]
            refine lv_istore (lv' := [(4, .int (xJ x35)), (3, .int (xJ t0_58)), (0, .ref (h0 + 268)), (1, .int (xJ n)), (2, .int (xJ w))]) hx hb dX11_tried_252 hl (by decide) rfl (fun ls hl => ?_)
            exact J254 x35 H locs ls rx35 (by unfold ztr; (repeat' split) <;> omega) hW (lv_sub hl [2, 0] rfl)
          refine x_aload_n hx hb hl 1 rfl dX11_tried_226 rfl ?_
          refine x_get (j := 0) (v := .ref (h0 + 269)) hx hb hown hT hE hW cls_X11 (Or.inl (by decide)) (so_268 h0 g _) (by decide) rfl wq1185 dX11_tried_227 ?_
          refine x_bipush hx hb dX11_tried_230 (by decide) ?_
          refine x_iload_n hx hb hl 3 rfl dX11_tried_232 rfl ?_
          refine x_iadd hx hb dX11_tried_233 ?_
          refine x_bipush hx hb dX11_tried_234 (by decide) ?_
          refine x_isub hx hb dX11_tried_236 ?_
          refine x_iald hx hb hE hW (Or.inl (by decide)) (sa_269 h0 g _) (by omega) (by decide) dX11_tried_237 ?_
          refine x_rd hW (fun x36 ex36 rx36 => ?_)
          have V237 : x36 = (zmn K9 q9 l9 n9 w9 (s0 268 48) n.toNat (zYN (s0 269) 0 0 0)) (w - 6) := by
            have e : x36 = s19 269 (14 + (w - 20)) := ex36.trans (congrArg (s19 269) (by omega))
            rw [e, ← (F88 (w - 20) (by omega) (by omega) (by rw [show w - 20 = w % 10 from by omega]; omega)).2]
            congr 1
            omega
          refine lv_goto (tgt := 252) hx hb dX11_tried_238 (by decide) ?_
          refine lv_istore (lv' := [(4, .int (xJ x36)), (3, .int (xJ t0_58)), (0, .ref (h0 + 268)), (1, .int (xJ n)), (2, .int (xJ w))]) hx hb dX11_tried_252 hl (by decide) rfl (fun ls hl => ?_)
          exact J254 x36 H locs ls rx36 (by unfold ztr; (repeat' split) <;> omega) hW (lv_sub hl [2, 0] rfl)
        refine x_aload_n hx hb hl 1 rfl dX11_tried_206 rfl ?_
        refine x_get (j := 0) (v := .ref (h0 + 269)) hx hb hown hT hE hW cls_X11 (Or.inl (by decide)) (so_268 h0 g _) (by decide) rfl wq1185 dX11_tried_207 ?_
        refine x_iconst hx hb dX11_tried_210 ?_
        refine x_iload_n hx hb hl 3 rfl dX11_tried_211 rfl ?_
        refine x_iadd hx hb dX11_tried_212 ?_
        refine x_bipush hx hb dX11_tried_213 (by decide) ?_
        refine x_isub hx hb dX11_tried_215 ?_
        refine x_iald hx hb hE hW (Or.inl (by decide)) (sa_269 h0 g _) (by omega) (by decide) dX11_tried_216 ?_
        refine x_rd hW (fun x37 ex37 rx37 => ?_)
        have bx37 : 0 ≤ x37 ∧ x37 ≤ 99 := by rw [ex37]; exact (IMn.n1 hp20.1.1).2.2.1 _ (by omega) (by omega)
        have V216 : x37 = (zmn K9 q9 l9 n9 w9 (s0 268 48) n.toNat (zYN (s0 269) 0 0 0)) (w - 6) := by
          have e : x37 = s19 269 (4 + (w - 10)) := ex37.trans (congrArg (s19 269) (by omega))
          rw [e, ← (F88 (w - 10) (by omega) (by omega) (by rw [show w - 10 = w % 10 from by omega]; omega)).1]
          congr 1
          omega
        refine lv_goto (tgt := 252) hx hb dX11_tried_217 (by decide) ?_
        refine lv_istore (lv' := [(4, .int (xJ x37)), (3, .int (xJ t0_58)), (0, .ref (h0 + 268)), (1, .int (xJ n)), (2, .int (xJ w))]) hx hb dX11_tried_252 hl (by decide) rfl (fun ls hl => ?_)
        exact J254 x37 H locs ls rx37 (by unfold ztr; (repeat' split) <;> omega) hW (lv_sub hl [2, 0] rfl)
      · refine x_tabIn (v := 0) (tgt := 132) hx hb rw c32 dX11_tried_92 (by decide) rfl (by decide) ?_
        refine x_aload_n hx hb hl 1 rfl dX11_tried_132 rfl ?_
        refine x_get (j := 41) (v := .int (xJ (s19 268 41))) hx hb hown hT hE hW cls_X11 (Or.inl (by decide)) (so_268 h0 g _) (by decide) rfl wq1226 dX11_tried_133 ?_
        refine x_rd hW (fun x38 ex38 rx38 => ?_)
        have V133 : x38 = (zSm (zYN (s0 269) 0 0 0) - zSm (zmn K9 q9 l9 n9 w9 (s0 268 48) n.toNat (zYN (s0 269) 0 0 0))) := ex38.trans S88
        refine lv_istore (lv' := [(4, .int (xJ x38)), (3, .int (xJ t0_58)), (0, .ref (h0 + 268)), (1, .int (xJ n)), (2, .int (xJ w))]) hx hb dX11_tried_136 hl (by decide) rfl (fun ls hl => ?_)
        refine lv_goto (tgt := 254) hx hb dX11_tried_138 (by decide) ?_
        exact J254 x38 H locs ls rx38 (by unfold ztr; (repeat' split) <;> omega) hW (lv_sub hl [2, 0] rfl)
      · refine x_tabIn (v := 1) (tgt := 141) hx hb rw c32 dX11_tried_92 (by decide) rfl (by decide) ?_
        refine x_aload_n hx hb hl 1 rfl dX11_tried_141 rfl ?_
        refine x_get (j := 42) (v := .int (xJ (s19 268 42))) hx hb hown hT hE hW cls_X11 (Or.inl (by decide)) (so_268 h0 g _) (by decide) rfl wq1227 dX11_tried_142 ?_
        refine x_rd hW (fun x39 ex39 rx39 => ?_)
        have V142 : x39 = (zmn K9 q9 l9 n9 w9 (s0 268 48) n.toNat (zYN (s0 269) 0 0 0)) 46 := ex39.trans R88.1.symm
        refine lv_istore (lv' := [(4, .int (xJ x39)), (3, .int (xJ t0_58)), (0, .ref (h0 + 268)), (1, .int (xJ n)), (2, .int (xJ w))]) hx hb dX11_tried_145 hl (by decide) rfl (fun ls hl => ?_)
        refine lv_goto (tgt := 254) hx hb dX11_tried_147 (by decide) ?_
        exact J254 x39 H locs ls rx39 (by unfold ztr; (repeat' split) <;> omega) hW (lv_sub hl [2, 0] rfl)
      · refine x_tabIn (v := 2) (tgt := 150) hx hb rw c32 dX11_tried_92 (by decide) rfl (by decide) ?_
        refine x_aload_n hx hb hl 1 rfl dX11_tried_150 rfl ?_
        refine x_get (j := 0) (v := .ref (h0 + 269)) hx hb hown hT hE hW cls_X11 (Or.inl (by decide)) (so_268 h0 g _) (by decide) rfl wq1185 dX11_tried_151 ?_
        refine x_bipush hx hb dX11_tried_154 (by decide) ?_
        refine x_iald hx hb hE hW (Or.inl (by decide)) (sa_269 h0 g _) ⟨by decide, by decide⟩ (by decide) dX11_tried_156 ?_
        refine x_rd hW (fun x40 ex40 rx40 => ?_)
        have V156 : x40 = s19 269 36 := ex40
        refine x_aload_n hx hb hl 1 rfl dX11_tried_157 rfl ?_
        refine x_get (j := 0) (v := .ref (h0 + 269)) hx hb hown hT hE hW cls_X11 (Or.inl (by decide)) (so_268 h0 g _) (by decide) rfl wq1185 dX11_tried_158 ?_
        refine x_bipush hx hb dX11_tried_161 (by decide) ?_
        refine x_iald hx hb hE hW (Or.inl (by decide)) (sa_269 h0 g _) ⟨by decide, by decide⟩ (by decide) dX11_tried_163 ?_
        refine x_rd hW (fun x41 ex41 rx41 => ?_)
        have V163 : x41 = s0 269 35 := ex41.trans N88.1
        refine x_zand hx hb dX11_tried_164 (fun x42 ex42 rx42 => ?_)
        have E164 := ex42
        have z164 := zand_b (k := 0) H88.2.2.2.1 hb35
        rw [← V156, ← V163, ← E164] at z164
        refine x_goi (x_runS (As := [.int (xJ x42)]) hx hb hml hown hT hE hW hl.1 cf_X11_bits wq1650 wq1649 (c_X11_bitsF l D g T h0 s19 hW.2.1 x42 rx42 (z164.1)) ⟨rfl, rfl, ⟨by decide, by decide⟩, ⟨by decide, by decide⟩⟩ rfl rfl (Nat.le_of_ble_eq_true rfl) dX11_tried_165) hW (fun x43 s44 H locs rx43 hp45 hW => ?_)
        obtain ⟨es44, hp45⟩ := hp45
        subst es44
        have ghp45 := hp45
        have V165 : x43 = zsu (fun f => if (zmn K9 q9 l9 n9 w9 (s0 268 48) n.toNat (zYN (s0 269) 0 0 0)) (4 + f) ≠ -1 ∧ (zmn K9 q9 l9 n9 w9 (s0 268 48) n.toNat (zYN (s0 269) 0 0 0)) (34 + f) ≠ 0 then 1 else 0) 10 := ghp45.trans (zsu_c (fun k k1 k2 => by
          show xsh _ k % 2 = if (zmn K9 q9 l9 n9 w9 (s0 268 48) n.toNat (zYN (s0 269) 0 0 0)) (4 + k) ≠ -1 ∧ (zmn K9 q9 l9 n9 w9 (s0 268 48) n.toNat (zYN (s0 269) 0 0 0)) (34 + k) ≠ 0 then 1 else 0
          rw [E164, (zand_b (k := k) (by rw [V156]; exact H88.2.2.2.1) (by rw [V163]; exact hb35)).2, V163, V156]
          have n4 := (IMn.n1 hp20.1.1).2.2.1 (4 + k) (by omega) (by omega)
          rw [← D88]
          show _ = if zYN (s19 269) _ _ _ (4 + k) ≠ -1 ∧ zYN (s19 269) _ _ _ (34 + k) ≠ 0 then 1 else 0
          rw [zYN_F ⟨k1, by omega⟩, zYN_D ⟨k1, by omega⟩, N88.1]
          rcases (by omega : xsh (s0 269 35) k % 2 = 0 ∨ xsh (s0 269 35) k % 2 = 1) with c | c
          · rw [c, if_neg (show ¬ (0 : Int) = 1 from by decide), if_neg (fun q => q.1 rfl)]; omega
          · rw [c, if_pos rfl, if_pos rfl]
            rcases (by omega : xsh (s19 269 36) k % 2 = 0 ∨ xsh (s19 269 36) k % 2 = 1) with g | g
            · rw [g, if_neg (fun q => q.2 rfl)]; rfl
            · rw [g, if_pos ⟨by omega, by decide⟩]; rfl))
        refine lv_istore (lv' := [(4, .int (xJ x43)), (3, .int (xJ t0_58)), (0, .ref (h0 + 268)), (1, .int (xJ n)), (2, .int (xJ w))]) hx hb dX11_tried_168 hl (by decide) rfl (fun ls hl => ?_)
        refine lv_goto (tgt := 254) hx hb dX11_tried_170 (by decide) ?_
        exact J254 x43 H locs ls rx43 (by unfold ztr; (repeat' split) <;> omega) hW (lv_sub hl [2, 0] rfl)
      · refine x_tabIn (v := 3) (tgt := 173) hx hb rw c32 dX11_tried_92 (by decide) rfl (by decide) ?_
        refine x_aload_n hx hb hl 1 rfl dX11_tried_173 rfl ?_
        refine x_get (j := 43) (v := .int (xJ (s19 268 43))) hx hb hown hT hE hW cls_X11 (Or.inl (by decide)) (so_268 h0 g _) (by decide) rfl wq1228 dX11_tried_174 ?_
        refine x_rd hW (fun x46 ex46 rx46 => ?_)
        have V174 : x46 = (zmn K9 q9 l9 n9 w9 (s0 268 48) n.toNat (zYN (s0 269) 0 0 0)) 47 := ex46.trans R88.2.1.symm
        refine lv_istore (lv' := [(4, .int (xJ x46)), (3, .int (xJ t0_58)), (0, .ref (h0 + 268)), (1, .int (xJ n)), (2, .int (xJ w))]) hx hb dX11_tried_177 hl (by decide) rfl (fun ls hl => ?_)
        refine lv_goto (tgt := 254) hx hb dX11_tried_179 (by decide) ?_
        exact J254 x46 H locs ls rx46 (by unfold ztr; (repeat' split) <;> omega) hW (lv_sub hl [2, 0] rfl)
      · refine x_tabIn (v := 4) (tgt := 182) hx hb rw c32 dX11_tried_92 (by decide) rfl (by decide) ?_
        refine x_aload_n hx hb hl 1 rfl dX11_tried_182 rfl ?_
        refine x_get (j := 44) (v := .int (xJ (s19 268 44))) hx hb hown hT hE hW cls_X11 (Or.inl (by decide)) (so_268 h0 g _) (by decide) rfl wq1229 dX11_tried_183 ?_
        refine x_rd hW (fun x47 ex47 rx47 => ?_)
        have V183 : x47 = (zmn K9 q9 l9 n9 w9 (s0 268 48) n.toNat (zYN (s0 269) 0 0 0)) 48 := ex47.trans R88.2.2.symm
        refine lv_istore (lv' := [(4, .int (xJ x47)), (3, .int (xJ t0_58)), (0, .ref (h0 + 268)), (1, .int (xJ n)), (2, .int (xJ w))]) hx hb dX11_tried_186 hl (by decide) rfl (fun ls hl => ?_)
        refine lv_goto (tgt := 254) hx hb dX11_tried_188 (by decide) ?_
        exact J254 x47 H locs ls rx47 (by unfold ztr; (repeat' split) <;> omega) hW (lv_sub hl [2, 0] rfl)
      · refine x_tabIn (v := 5) (tgt := 191) hx hb rw c32 dX11_tried_92 (by decide) rfl (by decide) ?_
        refine x_aload_n hx hb hl 1 rfl dX11_tried_191 rfl ?_
        refine x_goi (x_runV (As := []) hx hb hml hown hT hE hW hl.1 (Or.inl (by decide)) (so_268 h0 g _) rfl cf_X11_freeMany wq1654 wq152 wq1652 (c_X11_freeManyF l D g T h0 s19 hW.2.1 hp20.1.1 hp20.1.2.1 hp20.1.2.2.1) ⟨rfl, rfl, ⟨by decide, by decide⟩, ⟨by decide, by decide⟩⟩ rfl rfl (Nat.le_of_ble_eq_true rfl) dX11_tried_192) hW (fun x48 s49 H locs rx48 hp50 hW => ?_)
        obtain ⟨es49, hp50⟩ := hp50
        subst es49
        have ghp50 := hp50
        have V192 : x48 = zsu (fun f => if (zmn K9 q9 l9 n9 w9 (s0 268 48) n.toNat (zYN (s0 269) 0 0 0)) (4 + f) ≠ -1 ∧ (zmn K9 q9 l9 n9 w9 (s0 268 48) n.toNat (zYN (s0 269) 0 0 0)) (14 + f) = 0 then 1 else 0) 10 := ghp50.trans (zsu_c (fun k k1 k2 => by
          have y := C88 k k1 (by omega)
          show (if _ then (1 : Int) else 0) = (if _ then (1 : Int) else 0)
          rw [y.1, y.2]))
        refine lv_istore (lv' := [(4, .int (xJ x48)), (3, .int (xJ t0_58)), (0, .ref (h0 + 268)), (1, .int (xJ n)), (2, .int (xJ w))]) hx hb dX11_tried_195 hl (by decide) rfl (fun ls hl => ?_)
        refine lv_goto (tgt := 254) hx hb dX11_tried_197 (by decide) ?_
        exact J254 x48 H locs ls rx48 (by unfold ztr; (repeat' split) <;> omega) hW (lv_sub hl [2, 0] rfl)
    refine x_iconst hx hb dX11_tried_73 ?_
    rw [eQ]
    exact x_iret hx hb hr hlk hW (by decide) ⟨hF, ⟨p0, p1, p2, k268_8, k268_58, k268_17, k268_48, trivial⟩, Or.inr ⟨by omega, by omega, fun _ _ _ => rfl⟩⟩ dX11_tried_74
  refine x_if_ne (tgt := 53) hx hb rx1 dX11_tried_6 (by decide) (fun c51 => ?_) (fun c51 => ?_)
  · skip
    refine x_iconst hx hb dX11_tried_53 ?_
    refine lv_goto (tgt := 58) hx hb dX11_tried_54 (by decide) ?_
    exact J58 1 H locs ls (by decide) (by omega) hW (lv_sub hl [0, 1, 2] rfl)
  refine x_iload_n hx hb hl 2 rfl dX11_tried_9 rfl ?_
  refine x_bipush hx hb dX11_tried_10 (by decide) ?_
  refine x_bipush hx hb dX11_tried_12 (by decide) ?_
  refine x_goi (x_runS (As := [.int (xJ w), .int (xJ 10), .int (xJ 29)]) hx hb hml hown hT hE hW hl.1 cf_X11_in wq1383 wq1382 (c_X11_in l D g T h0 s0 hW.2.1 w rw 10 (by decide) 29 (by decide)) ⟨rfl, rfl, ⟨by decide, by decide⟩, ⟨by decide, by decide⟩⟩ rfl rfl (Nat.le_of_ble_eq_true rfl) dX11_tried_14) hW (fun x52 s53 H locs rx52 hp54 hW => ?_)
  obtain ⟨es53, hp54⟩ := hp54
  subst es53
  have ghp54 := hp54
  refine x_if_eq (tgt := 31) hx hb rx52 dX11_tried_17 (by decide) (fun c55 => ?_) (fun c55 => ?_)
  · skip
    refine x_iload_n hx hb hl 2 rfl dX11_tried_31 rfl ?_
    refine x_bipush hx hb dX11_tried_32 (by decide) ?_
    refine x_bipush hx hb dX11_tried_34 (by decide) ?_
    refine x_goi (x_runS (As := [.int (xJ w), .int (xJ 30), .int (xJ 31)]) hx hb hml hown hT hE hW hl.1 cf_X11_in wq1383 wq1382 (c_X11_in l D g T h0 s0 hW.2.1 w rw 30 (by decide) 31 (by decide)) ⟨rfl, rfl, ⟨by decide, by decide⟩, ⟨by decide, by decide⟩⟩ rfl rfl (Nat.le_of_ble_eq_true rfl) dX11_tried_36) hW (fun x56 s57 H locs rx56 hp58 hW => ?_)
    obtain ⟨es57, hp58⟩ := hp58
    subst es57
    have ghp58 := hp58
    refine x_if_eq (tgt := 57) hx hb rx56 dX11_tried_39 (by decide) (fun c59 => ?_) (fun c59 => ?_)
    · skip
      refine x_iconst hx hb dX11_tried_57 ?_
      exact J58 0 H locs ls (by decide) (by omega) hW (lv_sub hl [0, 1, 2] rfl)
    refine x_aload_n hx hb hl 0 rfl dX11_tried_42 rfl ?_
    refine x_iload_n hx hb hl 2 rfl dX11_tried_43 rfl ?_
    refine x_bipush hx hb dX11_tried_44 (by decide) ?_
    refine x_isub hx hb dX11_tried_46 ?_
    refine x_goi (x_runV (As := [.int (xJ (w - 30))]) hx hb hml hown hT hE hW hl.1 (Or.inl (by decide)) (so_268 h0 g _) rfl cf_X11_isJudge wq1409 wq109 wq1407 (c_X11_isJudgeJ l D g T h0 s0 hW.2.1 (w - 30) (by omega) p0 p1 p2) ⟨rfl, rfl, ⟨by decide, by decide⟩, ⟨by decide, by decide⟩⟩ rfl rfl (Nat.le_of_ble_eq_true rfl) dX11_tried_47) hW (fun x60 s61 H locs rx60 hp62 hW => ?_)
    obtain ⟨es61, hp62⟩ := hp62
    subst es61
    have ghp62 := hp62
    have H47 := ghp62
    refine x_if_eq (tgt := 57) hx hb rx60 dX11_tried_50 (by decide) (fun c63 => ?_) (fun c63 => ?_)
    · skip
      refine x_iconst hx hb dX11_tried_57 ?_
      exact J58 0 H locs ls (by decide) (by omega) hW (lv_sub hl [0, 1, 2] rfl)
    refine x_iconst hx hb dX11_tried_53 ?_
    refine lv_goto (tgt := 58) hx hb dX11_tried_54 (by decide) ?_
    exact J58 1 H locs ls (by decide) (by omega) hW (lv_sub hl [0, 1, 2] rfl)
  refine x_aload_n hx hb hl 0 rfl dX11_tried_20 rfl ?_
  refine x_iload_n hx hb hl 2 rfl dX11_tried_21 rfl ?_
  refine x_bipush hx hb dX11_tried_22 (by decide) ?_
  refine x_irem hx hb rw (by decide) (by omega) (by decide) dX11_tried_24 ?_
  refine x_goi (x_runV (As := [.int (xJ (w % 10))]) hx hb hml hown hT hE hW hl.1 (Or.inl (by decide)) (so_268 h0 g _) rfl cf_X11_isFelon wq1423 wq111 wq1421 (c_X11_isFelonF l D g T h0 s0 hW.2.1 (w % 10) (by omega) p0 p1 p2) ⟨rfl, rfl, ⟨by decide, by decide⟩, ⟨by decide, by decide⟩⟩ rfl rfl (Nat.le_of_ble_eq_true rfl) dX11_tried_25) hW (fun x64 s65 H locs rx64 hp66 hW => ?_)
  obtain ⟨es65, hp66⟩ := hp66
  subst es65
  have ghp66 := hp66
  have H25 := ghp66
  refine x_if_ne (tgt := 53) hx hb rx64 dX11_tried_28 (by decide) (fun c67 => ?_) (fun c67 => ?_)
  · skip
    refine x_iconst hx hb dX11_tried_53 ?_
    refine lv_goto (tgt := 58) hx hb dX11_tried_54 (by decide) ?_
    exact J58 1 H locs ls (by decide) (by omega) hW (lv_sub hl [0, 1, 2] rfl)
  refine x_iload_n hx hb hl 2 rfl dX11_tried_31 rfl ?_
  refine x_bipush hx hb dX11_tried_32 (by decide) ?_
  refine x_bipush hx hb dX11_tried_34 (by decide) ?_
  refine x_goi (x_runS (As := [.int (xJ w), .int (xJ 30), .int (xJ 31)]) hx hb hml hown hT hE hW hl.1 cf_X11_in wq1383 wq1382 (c_X11_in l D g T h0 s0 hW.2.1 w rw 30 (by decide) 31 (by decide)) ⟨rfl, rfl, ⟨by decide, by decide⟩, ⟨by decide, by decide⟩⟩ rfl rfl (Nat.le_of_ble_eq_true rfl) dX11_tried_36) hW (fun x68 s69 H locs rx68 hp70 hW => ?_)
  obtain ⟨es69, hp70⟩ := hp70
  subst es69
  have ghp70 := hp70
  refine x_if_eq (tgt := 57) hx hb rx68 dX11_tried_39 (by decide) (fun c71 => ?_) (fun c71 => ?_)
  · skip
    refine x_iconst hx hb dX11_tried_57 ?_
    exact J58 0 H locs ls (by decide) (by omega) hW (lv_sub hl [0, 1, 2] rfl)
  refine x_aload_n hx hb hl 0 rfl dX11_tried_42 rfl ?_
  refine x_iload_n hx hb hl 2 rfl dX11_tried_43 rfl ?_
  refine x_bipush hx hb dX11_tried_44 (by decide) ?_
  refine x_isub hx hb dX11_tried_46 ?_
  refine x_goi (x_runV (As := [.int (xJ (w - 30))]) hx hb hml hown hT hE hW hl.1 (Or.inl (by decide)) (so_268 h0 g _) rfl cf_X11_isJudge wq1409 wq109 wq1407 (c_X11_isJudgeJ l D g T h0 s0 hW.2.1 (w - 30) (by omega) p0 p1 p2) ⟨rfl, rfl, ⟨by decide, by decide⟩, ⟨by decide, by decide⟩⟩ rfl rfl (Nat.le_of_ble_eq_true rfl) dX11_tried_47) hW (fun x72 s73 H locs rx72 hp74 hW => ?_)
  obtain ⟨es73, hp74⟩ := hp74
  subst es73
  have ghp74 := hp74
  have H47 := ghp74
  refine x_if_eq (tgt := 57) hx hb rx72 dX11_tried_50 (by decide) (fun c75 => ?_) (fun c75 => ?_)
  · skip
    refine x_iconst hx hb dX11_tried_57 ?_
    exact J58 0 H locs ls (by decide) (by omega) hW (lv_sub hl [0, 1, 2] rfl)
  refine x_iconst hx hb dX11_tried_53 ?_
  refine lv_goto (tgt := 58) hx hb dX11_tried_54 (by decide) ?_
  exact J58 1 H locs ls (by decide) (by omega) hW (lv_sub hl [0, 1, 2] rfl)

/-! ===== a way of its own, STEP by STEP ===== -/
def zhn (n : Int → Int) (j : Int) : Int → Int := xud n j 1
def zhw (w : Int → Int → Int) (j v : Int) : Int → Int → Int := fun i p => if i = j then v else w i p
noncomputable def zhc (K : Int → Int) (q : zLaw) (lm n : Int → Int) (w : Int → Int → Int) (j g : Int) (Y : Int → Int) : Int → Int := zmn K q lm (zhn n j) (zhw w j (2 * g)) (-1) 1 (xud Y (2 + j) 0)
noncomputable def zhD (K : Int → Int) (q : zLaw) (lm n : Int → Int) (w : Int → Int → Int) (j : Int) (g Y : Int → Int) : Nat → Int → Int
  | 0 => Y
  | k + 1 => zhc K q lm n w j (g (k : Int)) (zhD K q lm n w j g Y k)
/-- the walk of the JUDGE that goes its own way aside -/
def zWo (σ : xS) (d : Nat) (n : Int → Int) (w : Int → Int → Int) (j : Int) : Prop := ∀ q : Int, 0 ≤ q → q < 2 → q ≠ j → zRo σ (σ (d + 2) q).toNat ∧ (xlen σ (σ (d + 2) q).toNat : Int) = n q ∧ ∀ i : Int, 0 ≤ i → i < n q → 2 * σ (σ (d + 2) q).toNat i = w q i ∧ 0 ≤ w q i ∧ w q i ≤ 8
/-- the rows of single STEPS -/
def zSg (σ : xS) : Prop := ∀ k : Nat, k < 5 → (xlen σ (219 + k) : Int) = 1 ∧ σ (219 + k) 0 = (k : Int)
section HM
variable {σ τ : xS} {d d2 r : Nat} {K lm n : Int → Int} {q : zLaw} {w : Int → Int → Int} {g g2 Y : Int → Int} {j v m c : Int}
theorem zhw_o {i : Int} (h : i ≠ j) : zhw w j v i = w i := funext fun p => if_neg h
theorem zhw_s {p : Int} : zhw w j v j p = v := if_pos rfl
theorem zWc.wo (h : zWc σ d n w) : zWo σ d n w j := fun q q1 q2 _ => h q q1 q2
theorem zWo.gg (h : zWo σ d n w j) (hc : ∀ q : Int, 0 ≤ q → q < 2 → q ≠ j → τ (d2 + 2) q = σ (d + 2) q) (eR : ∀ k : Nat, (k = 139 ∨ k = 140 ∨ k = 149 ∨ k = 150 ∨ (219 ≤ k ∧ k < 224) ∨ 310 ≤ k) → τ k = σ k) : zWo τ d2 n w j := fun q q1 q2 q3 => by
  obtain ⟨g1, g2, g3⟩ := h q q1 q2 q3
  have l8 : xlen τ = xlen σ := funext fun r => by unfold xlen; rw [eR 999998 (by omega)]
  have er : τ (σ (d + 2) q).toNat = σ (σ (d + 2) q).toNat := eR _ (by unfold zRo at g1; omega)
  rw [hc q q1 q2 q3, l8, er]
  exact ⟨g1.f (eR 999996 (by omega)), g2, g3⟩
theorem zWo.cc (h : zWo σ d n w j) (hr : 219 ≤ r ∧ r < 224) (he : (σ (d + 2) j).toNat = r) (hl : (xlen σ r : Int) = 1) (hv : 2 * σ r 0 = v ∧ 0 ≤ v ∧ v ≤ 8) : zWc σ d (zhn n j) (zhw w j v) := fun q q1 q2 => by
  by_cases e : q = j
  · rw [e, he]
    refine ⟨by unfold zRo; omega, by rw [hl]; exact (xud_s n j 1).symm, fun i i1 i2 => ?_⟩
    have i3 : i < 1 := by
      have z : zhn n j j = 1 := xud_s n j 1
      rw [z] at i2
      exact i2
    have e0 : i = 0 := by omega
    rw [e0, zhw_s]
    exact hv
  · have z := h q q1 q2 e
    have e1 : zhn n j q = n q := xud_o n 1 e
    rw [zhw_o e, e1]
    exact z
theorem zSg.f (h : zSg σ) (e : ∀ k : Nat, ((219 ≤ k ∧ k < 224) ∨ k = 999998) → τ k = σ k) : zSg τ := fun k hk => by
  have l8 : xlen τ = xlen σ := funext fun r => by unfold xlen; rw [e 999998 (by omega)]
  rw [l8, e (219 + k) (by omega)]
  exact h k hk
theorem zhD_s {k : Nat} : zhD K q lm n w j g Y (k + 1) = zhc K q lm n w j (g (k : Int)) (zhD K q lm n w j g Y k) := rfl
theorem zhD_g : ∀ {k : Nat}, (∀ i : Int, 0 ≤ i → i < (k : Int) → g2 i = g i) → zhD K q lm n w j g2 Y k = zhD K q lm n w j g Y k
  | 0, _ => rfl
  | k + 1, h => by
    rw [zhD_s, zhD_s, zhD_g (k := k) (fun i i1 i2 => h i i1 (by omega)), h (k : Int) (by omega) (by omega)]
theorem zok_2 (h : zok (zY4 Y)) (hj : 0 ≤ j ∧ j < 2) : zok (zY4 (xud Y (2 + j) 0)) := by
  obtain ⟨h1, h2, h3, h4⟩ := h
  rcases (by omega : j = 0 ∨ j = 1) with rfl | rfl
  · exact ⟨h1, h2, by show (0 : Int) ≤ xud Y 2 0 2; exact Int.le_of_eq (xud_s Y 2 0).symm, h4⟩
  · exact ⟨h1, h2, h3, by show (0 : Int) ≤ xud Y 3 0 3; exact Int.le_of_eq (xud_s Y 3 0).symm⟩
theorem zhD_q (h : zYq Y) (hj : 0 ≤ j ∧ j < 2) : ∀ k : Nat, zYq (zhD K q lm n w j g Y k)
  | 0 => h
  | k + 1 => by
    rw [zhD_s]
    exact zmn_q (zYq_x (zhD_q h hj k) (by omega)) 1
theorem zhD_ok (h : zok (zY4 Y)) (hj : 0 ≤ j ∧ j < 2) : ∀ k : Nat, zok (zY4 (zhD K q lm n w j g Y k))
  | 0 => h
  | k + 1 => by
    rw [zhD_s]
    exact zmn_ok (zok_2 (zhD_ok h hj k) hj) 1
/-! what is OWED grows no more -/
theorem zgo_sm {L T : Int → Int} {nt : Int} (hL : ∀ t : Int, 0 ≤ t → t < 100 → 0 ≤ L t) (hY : zYq Y) : ∀ l : List Int, (∀ x, x ∈ l → 0 ≤ x ∧ x < 10) → zSm (zgo K q L nt l (Y, T)).1 ≤ zSm Y
  | [], _ => Int.le_refl _
  | f :: r, h => by
    have ih := zgo_sm (L := L) (nt := nt) (T := T) hL hY r (fun x hx => h x (List.mem_cons_of_mem _ hx))
    have hq := zgo_q (K := K) (q := q) (L := L) (nt := nt) (T := T) hL hY r (fun x hx => h x (List.mem_cons_of_mem _ hx))
    have hf := h f List.mem_cons_self
    obtain ⟨S, e⟩ : ∃ S, S = zgo K q L nt r (Y, T) := ⟨_, rfl⟩
    show zSm (zsv K q L nt f (zgo K q L nt r (Y, T))).1 ≤ _
    rw [← e] at ih hq ⊢
    obtain ⟨Y1, T1⟩ := S
    have hq : zYq Y1 := hq
    have ih : zSm Y1 ≤ zSm Y := ih
    have z := (zsv_q (K := K) (q := q) (L := L) (nt := nt) (T := T1) hf hL hq).2.2
    have y := zSm_1 (Y := Y1) (Y2 := (zsv K q L nt f (Y1, T1)).1) hf (fun g g1 g2 g3 => zsv_o hf (by omega))
    omega
theorem zmi_sm {ah : Int} (hY : zYq Y) : zSm (zmi K q lm n w ah Y) ≤ zSm Y := by
  have z := zgo_sm (K := K) (q := q) (L := zmL K q lm n w Y) (nt := zni q (Y 44)) (T := fun _ => 0) (fun t _ _ => (zmL_r t).1) (zm3_q (K := K) (q := q) (n := n) (w := w) hY) (zlu K q (zm3 K q n w Y) ah 1000 10) (fun x hx => zlu_in hx (by decide))
  have e1 : zSm (zmi K q lm n w ah Y) = zSm (zm4 K q lm n w ah Y) := zSm_o (fun g g1 g2 => xud_o _ _ (by omega))
  have e2 : zSm (zm3 K q n w Y) = zSm Y := zSm_o (fun g g1 g2 => zm3_o (by omega))
  rw [e1, ← e2]
  exact z
theorem zmn_sm {ah : Int} (hY : zYq Y) : ∀ k : Nat, zSm (zmn K q lm n w ah k Y) ≤ zSm Y
  | 0 => Int.le_refl _
  | k + 1 => by
    have ih := zmn_sm (ah := ah) hY k
    have hq := zmn_q (K := K) (q := q) (lm := lm) (n := n) (w := w) (ah := ah) hY k
    unfold zmn
    split
    · have := zmi_sm (K := K) (q := q) (lm := lm) (n := n) (w := w) (ah := ah) hq
      omega
    · exact ih
theorem zhD_sm (h : zYq Y) (hj : 0 ≤ j ∧ j < 2) : ∀ k : Nat, zSm (zhD K q lm n w j g Y k) ≤ zSm Y
  | 0 => Int.le_refl _
  | k + 1 => by
    have ih := zhD_sm h hj k
    rw [zhD_s]
    have z := zmn_sm (K := K) (q := q) (lm := lm) (n := zhn n j) (w := zhw w j (2 * g (k : Int))) (ah := -1) (zYq_x (v := 0) (zhD_q (K := K) (q := q) (lm := lm) (n := n) (w := w) (g := g) h hj k) (show 2 + j < 4 ∨ 44 ≤ 2 + j from by omega)) 1
    rw [zSm_x (by omega)] at z
    exact Int.le_trans z ih
end HM
/-! ===== ways as numbers ===== -/
def zwn (g : Int → Int) : Nat → Int
  | 0 => 0
  | k + 1 => 5 * zwn g k + g (k : Int)
def z5 (m : Int) : Int := if m = 1 then 5 else if m = 2 then 25 else if m = 3 then 125 else if m = 4 then 625 else 3125
def zd5 (c : Int) : Nat → Int
  | 0 => c
  | k + 1 => zd5 c k / 5
def zdgt (m c : Int) : Int → Int := fun i => zd5 c (m - 1 - i).toNat % 5
section WN
variable {g g2 : Int → Int} {n r c i : Int}
theorem zwn_1 : zwn g 1 = g 0 := by
  show 5 * 0 + g 0 = g 0
  omega
theorem zwn_2 : zwn g 2 = 5 * g 0 + g 1 := by
  show 5 * zwn g 1 + g 1 = _
  rw [zwn_1]
theorem zwn_3 : zwn g 3 = 25 * g 0 + 5 * g 1 + g 2 := by
  show 5 * zwn g 2 + g 2 = _
  rw [zwn_2]; omega
theorem zwn_4 : zwn g 4 = 125 * g 0 + 25 * g 1 + 5 * g 2 + g 3 := by
  show 5 * zwn g 3 + g 3 = _
  rw [zwn_3]; omega
theorem zwn_5 : zwn g 5 = 625 * g 0 + 125 * g 1 + 25 * g 2 + 5 * g 3 + g 4 := by
  show 5 * zwn g 4 + g 4 = _
  rw [zwn_4]; omega
theorem zwn_t (hn : 1 ≤ n ∧ n ≤ 5) (hr : 0 ≤ r ∧ r < n) (h : ∀ q : Int, 0 ≤ q → q < n → (q < r ∧ g2 q = g q) ∨ (q = r ∧ g2 q = g q + 1) ∨ (r < q ∧ g q = 4 ∧ g2 q = 0)) : zwn g2 n.toNat = zwn g n.toNat + 1 := by
  rcases (by omega : n = 1 ∨ n = 2 ∨ n = 3 ∨ n = 4 ∨ n = 5) with rfl | rfl | rfl | rfl | rfl
  · have a0 := h 0 (by decide) (by decide)
    show zwn g2 1 = zwn g 1 + 1
    rw [zwn_1, zwn_1]; omega
  · have a0 := h 0 (by decide) (by decide)
    have a1 := h 1 (by decide) (by decide)
    show zwn g2 2 = zwn g 2 + 1
    rw [zwn_2, zwn_2]; omega
  · have a0 := h 0 (by decide) (by decide)
    have a1 := h 1 (by decide) (by decide)
    have a2 := h 2 (by decide) (by decide)
    show zwn g2 3 = zwn g 3 + 1
    rw [zwn_3, zwn_3]; omega
  · have a0 := h 0 (by decide) (by decide)
    have a1 := h 1 (by decide) (by decide)
    have a2 := h 2 (by decide) (by decide)
    have a3 := h 3 (by decide) (by decide)
    show zwn g2 4 = zwn g 4 + 1
    rw [zwn_4, zwn_4]; omega
  · have a0 := h 0 (by decide) (by decide)
    have a1 := h 1 (by decide) (by decide)
    have a2 := h 2 (by decide) (by decide)
    have a3 := h 3 (by decide) (by decide)
    have a4 := h 4 (by decide) (by decide)
    show zwn g2 5 = zwn g 5 + 1
    rw [zwn_5, zwn_5]; omega
theorem zwn_all (hn : 1 ≤ n ∧ n ≤ 5) (h : ∀ q : Int, 0 ≤ q → q < n → g q = 4) : zwn g n.toNat = z5 n - 1 := by
  rcases (by omega : n = 1 ∨ n = 2 ∨ n = 3 ∨ n = 4 ∨ n = 5) with rfl | rfl | rfl | rfl | rfl
  · show zwn g 1 = 5 - 1
    rw [zwn_1, h 0 (by decide) (by decide)]; rfl
  · show zwn g 2 = 25 - 1
    rw [zwn_2, h 0 (by decide) (by decide), h 1 (by decide) (by decide)]; rfl
  · show zwn g 3 = 125 - 1
    rw [zwn_3, h 0 (by decide) (by decide), h 1 (by decide) (by decide), h 2 (by decide) (by decide)]; rfl
  · show zwn g 4 = 625 - 1
    rw [zwn_4, h 0 (by decide) (by decide), h 1 (by decide) (by decide), h 2 (by decide) (by decide), h 3 (by decide) (by decide)]; rfl
  · show zwn g 5 = 3125 - 1
    rw [zwn_5, h 0 (by decide) (by decide), h 1 (by decide) (by decide), h 2 (by decide) (by decide), h 3 (by decide) (by decide), h 4 (by decide) (by decide)]; rfl
theorem z5_r (hn : 1 ≤ n ∧ n ≤ 5) : 5 ≤ z5 n ∧ z5 n ≤ 3125 := by
  rcases (by omega : n = 1 ∨ n = 2 ∨ n = 3 ∨ n = 4 ∨ n = 5) with rfl | rfl | rfl | rfl | rfl <;> decide
/-- the digits are the way -/
theorem zwn_d (hn : 1 ≤ n ∧ n ≤ 5) (h : ∀ q : Int, 0 ≤ q → q < n → 0 ≤ g q ∧ g q ≤ 4) : (0 ≤ zwn g n.toNat ∧ zwn g n.toNat < z5 n) ∧ ∀ q : Int, 0 ≤ q → q < n → zdgt n (zwn g n.toNat) q = g q := by
  rcases (by omega : n = 1 ∨ n = 2 ∨ n = 3 ∨ n = 4 ∨ n = 5) with rfl | rfl | rfl | rfl | rfl
  · have a0 := h 0 (by decide) (by decide)
    show (0 ≤ zwn g 1 ∧ zwn g 1 < 5) ∧ ∀ q : Int, 0 ≤ q → q < 1 → zdgt 1 (zwn g 1) q = g q
    rw [zwn_1]
    refine ⟨by omega, fun q q1 q2 => ?_⟩
    rw [show q = 0 from by omega]
    show g 0 % 5 = g 0
    omega
  · have a0 := h 0 (by decide) (by decide)
    have a1 := h 1 (by decide) (by decide)
    show (0 ≤ zwn g 2 ∧ zwn g 2 < 25) ∧ ∀ q : Int, 0 ≤ q → q < 2 → zdgt 2 (zwn g 2) q = g q
    rw [zwn_2]
    refine ⟨by omega, fun q q1 q2 => ?_⟩
    rcases (by omega : q = 0 ∨ q = 1) with rfl | rfl
    · show (5 * g 0 + g 1) / 5 % 5 = g 0
      omega
    · show (5 * g 0 + g 1) % 5 = g 1
      omega
  · have a0 := h 0 (by decide) (by decide)
    have a1 := h 1 (by decide) (by decide)
    have a2 := h 2 (by decide) (by decide)
    show (0 ≤ zwn g 3 ∧ zwn g 3 < 125) ∧ ∀ q : Int, 0 ≤ q → q < 3 → zdgt 3 (zwn g 3) q = g q
    rw [zwn_3]
    refine ⟨by omega, fun q q1 q2 => ?_⟩
    rcases (by omega : q = 0 ∨ q = 1 ∨ q = 2) with rfl | rfl | rfl
    · show (25 * g 0 + 5 * g 1 + g 2) / 5 / 5 % 5 = g 0
      omega
    · show (25 * g 0 + 5 * g 1 + g 2) / 5 % 5 = g 1
      omega
    · show (25 * g 0 + 5 * g 1 + g 2) % 5 = g 2
      omega
  · have a0 := h 0 (by decide) (by decide)
    have a1 := h 1 (by decide) (by decide)
    have a2 := h 2 (by decide) (by decide)
    have a3 := h 3 (by decide) (by decide)
    show (0 ≤ zwn g 4 ∧ zwn g 4 < 625) ∧ ∀ q : Int, 0 ≤ q → q < 4 → zdgt 4 (zwn g 4) q = g q
    rw [zwn_4]
    refine ⟨by omega, fun q q1 q2 => ?_⟩
    rcases (by omega : q = 0 ∨ q = 1 ∨ q = 2 ∨ q = 3) with rfl | rfl | rfl | rfl
    · show (125 * g 0 + 25 * g 1 + 5 * g 2 + g 3) / 5 / 5 / 5 % 5 = g 0
      omega
    · show (125 * g 0 + 25 * g 1 + 5 * g 2 + g 3) / 5 / 5 % 5 = g 1
      omega
    · show (125 * g 0 + 25 * g 1 + 5 * g 2 + g 3) / 5 % 5 = g 2
      omega
    · show (125 * g 0 + 25 * g 1 + 5 * g 2 + g 3) % 5 = g 3
      omega
  · have a0 := h 0 (by decide) (by decide)
    have a1 := h 1 (by decide) (by decide)
    have a2 := h 2 (by decide) (by decide)
    have a3 := h 3 (by decide) (by decide)
    have a4 := h 4 (by decide) (by decide)
    show (0 ≤ zwn g 5 ∧ zwn g 5 < 3125) ∧ ∀ q : Int, 0 ≤ q → q < 5 → zdgt 5 (zwn g 5) q = g q
    rw [zwn_5]
    refine ⟨by omega, fun q q1 q2 => ?_⟩
    rcases (by omega : q = 0 ∨ q = 1 ∨ q = 2 ∨ q = 3 ∨ q = 4) with rfl | rfl | rfl | rfl | rfl
    · show (625 * g 0 + 125 * g 1 + 25 * g 2 + 5 * g 3 + g 4) / 5 / 5 / 5 / 5 % 5 = g 0
      omega
    · show (625 * g 0 + 125 * g 1 + 25 * g 2 + 5 * g 3 + g 4) / 5 / 5 / 5 % 5 = g 1
      omega
    · show (625 * g 0 + 125 * g 1 + 25 * g 2 + 5 * g 3 + g 4) / 5 / 5 % 5 = g 2
      omega
    · show (625 * g 0 + 125 * g 1 + 25 * g 2 + 5 * g 3 + g 4) / 5 % 5 = g 3
      omega
    · show (625 * g 0 + 125 * g 1 + 25 * g 2 + 5 * g 3 + g 4) % 5 = g 4
      omega
/-- the first of the greatest -/
def zbx (S : Int → Int) : Nat → Int × Int
  | 0 => (-1, -1)
  | k + 1 => if (zbx S k).1 < S (k : Int) then (S (k : Int), (k : Int)) else zbx S k
variable {S S2 : Int → Int}
theorem zbx_y {k : Nat} (hi : i = (k : Int)) (h : (zbx S k).1 < S i) : zbx S (k + 1) = (S i, i) := by
  subst hi
  exact if_pos h
theorem zbx_n {k : Nat} (hi : i = (k : Int)) (h : S i ≤ (zbx S k).1) : zbx S (k + 1) = zbx S k := by
  subst hi
  exact if_neg (by omega)
theorem zbx_r (h : ∀ i : Int, 0 ≤ S i) : ∀ k : Nat, 1 ≤ k → 0 ≤ (zbx S k).1 ∧ 0 ≤ (zbx S k).2 ∧ (zbx S k).2 < (k : Int)
  | 0, h1 => absurd h1 (by decide)
  | 1, _ => by
    have z := h 0
    have e : zbx S 1 = (S 0, 0) := zbx_y (k := 0) rfl (by show (-1 : Int) < S 0; omega)
    rw [e]
    exact ⟨z, Int.le_refl _, by show (0 : Int) < ((1 : Nat) : Int); decide⟩
  | k + 2, _ => by
    have ih := zbx_r h (k + 1) (by omega)
    have z := h ((k + 1 : Nat) : Int)
    by_cases c : (zbx S (k + 1)).1 < S ((k + 1 : Nat) : Int)
    · rw [zbx_y rfl c]
      exact ⟨z, by show (0 : Int) ≤ ((k + 1 : Nat) : Int); omega, by show ((k + 1 : Nat) : Int) < ((k + 2 : Nat) : Int); omega⟩
    · rw [zbx_n rfl (by omega)]
      exact ⟨ih.1, ih.2.1, by omega⟩
end WN
/-- how much is served by the way of that number -/
noncomputable def zhS (K : Int → Int) (q : zLaw) (lm n : Int → Int) (w : Int → Int → Int) (j m : Int) (Y : Int → Int) (c : Int) : Int := zSm Y - zSm (zhD K q lm n w j (zdgt m c) Y m.toNat)
set_option maxHeartbeats 4000000 in
set_option maxRecDepth 100000 in
theorem c_X3_stepAloneF (l : Launch) (D : va_G) (g : xG) (T : Nat × Nat × Nat) (h0 : Nat) (s0 : xS) (hσ : xRR s0) (x : Int) (rx : xR x) (p0 : IC s0) : Met l yX3_stepAlone (xws yX3_stepAlone cX3_stepAlone 2 (some (.array .int))) { frames := 0, cells := 0, slots := 0, locals := 0 } (xP [.ref (h0 + 156), .int (xJ x)] D g T h0 s0) (xQr D g h0 (fun r τ => s0 = τ ∧ ((219 ≤ r ∧ r < 224) ∧ (0 ≤ x ∧ x ≤ 4 → (r : Int) = 219 + x)))) 0 0 (xA h0) := by
  refine x_met hσ (by decide) (Nat.le_of_ble_eq_true rfl) ?_
  intro p e s m args below meth c hx hb hr hml hown hT hlk hnm hE hW ls hl
  have hl : lv_has ls 2 [(0, .ref (h0 + 156)), (1, .int (xJ x))] := hl
  obtain ⟨Q, eQ⟩ : ∃ Q, Q = MQ below (xQr D g h0 (fun r τ => s0 = τ ∧ ((219 ≤ r ∧ r < 224) ∧ (0 ≤ x ∧ x ≤ 4 → (r : Int) = 219 + x)))) args s 0 0 (xA h0) := ⟨_, rfl⟩
  rw [← eQ]
  generalize hHe : ([] : List Loc) = locs at hW ⊢
  obtain ⟨H, eH⟩ : ∃ H, H = s.heap := ⟨_, rfl⟩
  rw [← eH] at hW ⊢
  have k1_1 : s0 1 1 = s0 1 1 := rfl
  refine x_aload_n hx hb hl 0 rfl dX3_stepAlone_0 rfl ?_
  refine x_get (j := 3) (v := .ref (h0 + 218)) hx hb hown hT hE hW cls_X3 (Or.inl (by decide)) (so_156 h0 g _) (by decide) rfl wq453 dX3_stepAlone_1 ?_
  refine x_iload_n hx hb hl 1 rfl dX3_stepAlone_4 rfl ?_
  refine x_if_lt (tgt := 17) hx hb rx dX3_stepAlone_5 (by decide) (fun c1 => ?_) (fun c1 => ?_)
  · skip
    refine x_iconst hx hb dX3_stepAlone_17 ?_
    refine x_aaldR (t0 := 3) (n := 5) (r := 223) hx hb hE hW (by decide) rfl rfl (sg_218 h0 g _) ⟨by decide, by decide⟩ (by decide) rfl dX3_stepAlone_18 ?_
    rw [eQ]
    exact x_aret hx hb hr (Or.inr ⟨_, rfl⟩) hlk hW ⟨rfl, by omega⟩ dX3_stepAlone_19
  refine x_iload_n hx hb hl 1 rfl dX3_stepAlone_8 rfl ?_
  refine x_iconst hx hb dX3_stepAlone_9 ?_
  refine x_icmp_gt (tgt := 17) hx hb rx (by decide) dX3_stepAlone_10 (by decide) (fun c2 => ?_) (fun c2 => ?_)
  · skip
    refine x_iconst hx hb dX3_stepAlone_17 ?_
    refine x_aaldR (t0 := 3) (n := 5) (r := 223) hx hb hE hW (by decide) rfl rfl (sg_218 h0 g _) ⟨by decide, by decide⟩ (by decide) rfl dX3_stepAlone_18 ?_
    rw [eQ]
    exact x_aret hx hb hr (Or.inr ⟨_, rfl⟩) hlk hW ⟨rfl, by omega⟩ dX3_stepAlone_19
  refine x_iload_n hx hb hl 1 rfl dX3_stepAlone_13 rfl ?_
  refine lv_goto (tgt := 18) hx hb dX3_stepAlone_14 (by decide) ?_
  refine x_aaldR (t0 := 3) (n := 5) (r := 219 + (x).toNat) hx hb hE hW (by decide) rfl rfl (sg_218 h0 g _) (by omega) (by decide) rfl dX3_stepAlone_18 ?_
  rw [eQ]
  exact x_aret hx hb hr (Or.inr ⟨_, rfl⟩) hlk hW ⟨rfl, by omega⟩ dX3_stepAlone_19
set_option maxHeartbeats 4000000 in
set_option maxRecDepth 100000 in
theorem c_X3_turnToNextWayF (l : Launch) (D : va_G) (g : xG) (T : Nat × Nat × Nat) (h0 : Nat) (s0 : xS) (hσ : xRR s0) (n : Int) (rn : xR n) (hn5 : 1 ≤ n ∧ n ≤ 5) (p0 : IC s0) : Met l yX3_turnToNextWay (xws yX3_turnToNextWay cX3_turnToNextWay 3 (some .int)) { frames := 1, cells := 0, slots := 0, locals := 13 } (xP [.ref (h0 + 156), .int (xJ n)] D g T h0 s0) (xQi D g h0 (fun r τ => xFr (fun k => k = 224) s0 τ ∧ (((IC τ) ∧ True) ∧ ((r = -1 ∧ ∀ q : Int, 0 ≤ q → q < n → s0 224 q = 4 ∧ τ 224 q = 0 ∨ 4 < s0 224 q) ∨ (0 ≤ r ∧ r < n ∧ s0 224 r < 4 ∧ τ 224 r = s0 224 r + 1 ∧ (∀ q : Int, 0 ≤ q → q < r → τ 224 q = s0 224 q) ∧ ∀ q : Int, r < q → q < n → s0 224 q = 4 ∧ τ 224 q = 0 ∨ 4 < s0 224 q))))) 0 0 (xA h0) := by
  refine x_met hσ (by decide) (Nat.le_of_ble_eq_true rfl) ?_
  intro p e s m args below meth c hx hb hr hml hown hT hlk hnm hE hW ls hl
  have hl : lv_has ls 3 [(0, .ref (h0 + 156)), (1, .int (xJ n))] := hl
  obtain ⟨Q, eQ⟩ : ∃ Q, Q = MQ below (xQi D g h0 (fun r τ => xFr (fun k => k = 224) s0 τ ∧ (((IC τ) ∧ True) ∧ ((r = -1 ∧ ∀ q : Int, 0 ≤ q → q < n → s0 224 q = 4 ∧ τ 224 q = 0 ∨ 4 < s0 224 q) ∨ (0 ≤ r ∧ r < n ∧ s0 224 r < 4 ∧ τ 224 r = s0 224 r + 1 ∧ (∀ q : Int, 0 ≤ q → q < r → τ 224 q = s0 224 q) ∧ ∀ q : Int, r < q → q < n → s0 224 q = 4 ∧ τ 224 q = 0 ∨ 4 < s0 224 q))))) args s 0 0 (xA h0) := ⟨_, rfl⟩
  rw [← eQ]
  generalize hHe : ([] : List Loc) = locs at hW ⊢
  obtain ⟨H, eH⟩ : ∃ H, H = s.heap := ⟨_, rfl⟩
  rw [← eH] at hW ⊢
  have hF : xFr (fun k => k = 224) s0 s0 := xFr.rf
  have k1_1 : s0 1 1 = s0 1 1 := rfl
  refine x_iload_n hx hb hl 1 rfl dX3_turnToNextWay_0 rfl ?_
  refine x_iconst hx hb dX3_turnToNextWay_1 ?_
  refine x_mmin hx hb hml hl.1 hown hT wq997 wq569 wq180 wq570 ⟨by decide, Nat.le_of_ble_eq_true rfl, by decide, by decide⟩ rn (by decide) dX3_turnToNextWay_2 ?_
  refine x_nm (fun x1 ex1 => ?_)
  have fx1 : (x1 = n ∧ n ≤ 5) ∨ (x1 = 5 ∧ 5 ≤ n) := by rw [ex1]; split <;> omega
  refine x_iconst hx hb dX3_turnToNextWay_5 ?_
  refine x_isub hx hb dX3_turnToNextWay_6 ?_
  refine x_nm (fun x2 ex2 => ?_)
  refine lv_istore_n (lv' := [(2, .int (xJ x2)), (0, .ref (h0 + 156)), (1, .int (xJ n))]) hx hb dX3_turnToNextWay_7 rfl hl (by decide) rfl (fun ls hl => ?_)
  have L8 : ∀ (fu : Nat) (i2_8 : Int) (s_8 : xS) (H : Heap) (locs : List Loc) (ls : Array Slot), (xR i2_8) → (xFr (fun k => k = 224) s0 s_8) → (IC s_8) → (s_8 1 1 = s0 1 1) → (-1 ≤ i2_8 ∧ i2_8 ≤ n - 1) → (∀ q : Int, i2_8 < q → q < n → s0 224 q = 4 ∧ s_8 224 q = 0 ∨ 4 < s0 224 q) → (∀ q : Int, q ≤ i2_8 → s_8 224 q = s0 224 q) → (i2_8 + 1).toNat < fu → xW D g h0 s H locs s_8 → lv_has ls 3 [(0, .ref (h0 + 156)), (2, .int (xJ i2_8))] → W p l e { frames := 1, cells := 0, slots := 0, locals := 13 } s m args below meth c H locs 0 0 Q (F0 m 8 ls []) := by
    intro fu
    induction fu with
    | zero => intro i2_8 s_8 H locs ls ri2_8 hF_8 q8_0 q8_1 v8_0 v8_1 v8_2 hm; exact absurd hm (Nat.not_lt_zero _)
    | succ fu ih8 =>
      intro i2_8 s_8 H locs ls ri2_8 hF_8 q8_0 q8_1 v8_0 v8_1 v8_2 hm hW hl
      have hm_8 := fun (_ : Unit) => hm
      clear hm
      refine x_iload_n hx hb hl 1 rfl dX3_turnToNextWay_8 rfl ?_
      refine x_if_lt (tgt := 47) hx hb ri2_8 dX3_turnToNextWay_9 (by decide) (fun c3 => ?_) (fun c3 => ?_)
      · skip
        refine x_iconst hx hb dX3_turnToNextWay_47 ?_
        rw [eQ]
        exact x_iret hx hb hr hlk hW (by decide) ⟨hF_8, ⟨q8_0, trivial⟩, Or.inl ⟨by omega, fun q q1 q2 => v8_1 q (by omega) q2⟩⟩ dX3_turnToNextWay_48
      refine x_aload_n hx hb hl 0 rfl dX3_turnToNextWay_12 rfl ?_
      refine x_get (j := 4) (v := .ref (h0 + 224)) hx hb hown hT hE hW cls_X3 (Or.inl (by decide)) (so_156 h0 g _) (by decide) rfl wq454 dX3_turnToNextWay_13 ?_
      refine x_iload_n hx hb hl 1 rfl dX3_turnToNextWay_16 rfl ?_
      refine x_iald hx hb hE hW (Or.inl (by decide)) (sa_224 h0 g _) (by omega) (by decide) dX3_turnToNextWay_17 ?_
      refine x_rd hW (fun x4 ex4 rx4 => ?_)
      have V17 : x4 = s0 224 i2_8 := ex4.trans (v8_2 _ (by omega))
      refine x_iconst hx hb dX3_turnToNextWay_18 ?_
      refine x_icmp_ge (tgt := 34) hx hb rx4 (by decide) dX3_turnToNextWay_19 (by decide) (fun c5 => ?_) (fun c5 => ?_)
      · skip
        refine x_aload_n hx hb hl 0 rfl dX3_turnToNextWay_34 rfl ?_
        refine x_get (j := 4) (v := .ref (h0 + 224)) hx hb hown hT hE hW cls_X3 (Or.inl (by decide)) (so_156 h0 g _) (by decide) rfl wq454 dX3_turnToNextWay_35 ?_
        refine x_iload_n hx hb hl 1 rfl dX3_turnToNextWay_38 rfl ?_
        refine x_iconst hx hb dX3_turnToNextWay_39 ?_
        refine x_iast hx hb hE hW (by decide) (fun σ => sa_224 h0 g σ) (by omega) (by decide) (by decide) dX3_turnToNextWay_40 (fun H locs s6 es6 hW => ?_)
        have q7 : IC s6 := by rw [es6]; exact IC_o (by decide) q8_0
        have q8 : s6 1 1 = s0 1 1 := (show s6 1 1 = s_8 1 1 from by rw [es6, xU_k _ _ _ (by first | decide | omega)]).trans q8_1
        have hF9 := hF_8.put es6 (by omega)
        have E40 := es6
        refine x_iinc (lv' := [(2, .int (xJ (i2_8 + (-1)))), (0, .ref (h0 + 156))]) hx hb hl 1 rfl dX3_turnToNextWay_41 (by decide) rfl (fun ls hl => ?_)
        refine lv_goto (tgt := 8) hx hb dX3_turnToNextWay_44 (by decide) ?_
        exact ih8 (i2_8 + (-1)) s6 H locs ls (by omega) hF9 q7 q8 (by omega) (fun q q1 q2 => by
            rw [E40, xU_xud]
            by_cases h : q = i2_8
            · rw [h, xud_s, ← V17]; omega
            · rw [xud_o _ _ h]; exact v8_1 q (by omega) q2) (fun q q1 => by rw [E40, xU_j _ _ (by omega)]; exact v8_2 q (by omega)) (by have hm := hm_8 (); omega) hW (lv_sub hl [1, 0] rfl)
      refine x_aload_n hx hb hl 0 rfl dX3_turnToNextWay_22 rfl ?_
      refine x_get (j := 4) (v := .ref (h0 + 224)) hx hb hown hT hE hW cls_X3 (Or.inl (by decide)) (so_156 h0 g _) (by decide) rfl wq454 dX3_turnToNextWay_23 ?_
      refine x_iload_n hx hb hl 1 rfl dX3_turnToNextWay_26 rfl ?_
      refine lv_dup2_11 hx hb dX3_turnToNextWay_27 rfl rfl ?_
      refine x_iald hx hb hE hW (Or.inl (by decide)) (sa_224 h0 g _) (by omega) (by decide) dX3_turnToNextWay_28 ?_
      refine x_rd hW (fun x10 ex10 rx10 => ?_)
      have V28 : x10 = s0 224 i2_8 := ex10.trans (v8_2 _ (by omega))
      refine x_iconst hx hb dX3_turnToNextWay_29 ?_
      refine x_iadd hx hb dX3_turnToNextWay_30 ?_
      refine x_iast hx hb hE hW (by decide) (fun σ => sa_224 h0 g σ) (by omega) (by decide) (by omega) dX3_turnToNextWay_31 (fun H locs s11 es11 hW => ?_)
      have q12 : IC s11 := by rw [es11]; exact IC_o (by decide) q8_0
      have q13 : s11 1 1 = s0 1 1 := (show s11 1 1 = s_8 1 1 from by rw [es11, xU_k _ _ _ (by first | decide | omega)]).trans q8_1
      have hF14 := hF_8.put es11 (by omega)
      have E31 := es11
      refine x_iload_n hx hb hl 1 rfl dX3_turnToNextWay_32 rfl ?_
      rw [eQ]
      exact x_iret hx hb hr hlk hW ri2_8 ⟨hF14, ⟨q12, trivial⟩, Or.inr ⟨by omega, by omega, by omega, by rw [E31, xU_s]; omega, fun q q1 q2 => by rw [E31, xU_j _ _ (by omega)]; exact v8_2 q (by omega), fun q q1 q2 => by rw [E31, xU_j _ _ (by omega)]; exact v8_1 q q1 q2⟩⟩ dX3_turnToNextWay_33
  exact L8 ((x2 + 1 : Int).toNat + 1) x2 s0 H locs ls (by omega) hF p0 k1_1 (by omega) (fun q q1 q2 => absurd q2 (by omega)) (fun q _ => rfl) (Nat.lt_succ_self _) hW (lv_sub hl [1, 0] rfl)

set_option maxHeartbeats 4000000 in
set_option maxRecDepth 100000 in
theorem c_X3_leastOwedWayF (l : Launch) (D : va_G) (g : xG) (T : Nat × Nat × Nat) (h0 : Nat) (s0 : xS) (hσ : xRR s0) (j : Int) (rj : xR j) (n : Int) (rn : xR n) (K9 : Int → Int) (n9 : Int → Int) (w9 : Int → Int → Int) (q9 : zLaw) (l9 : Int → Int) (hok : zLok q9) (hlc : zLD s0 q9) (hK : ∀ t : Int, 0 ≤ t → t < 100 → s0 4 t = K9 t) (hlm : ∀ i : Int, 0 ≤ i → i < 4 → s0 129 i = l9 i ∧ (l9 i = -1 ∨ (0 ≤ l9 i ∧ l9 i < 100))) (hw : zWc s0 136 n9 w9) (hY : zYq (zYc s0 136)) (hok4 : zok (zY4 (zYc s0 136))) (hn5 : 1 ≤ n ∧ n ≤ 5) (hj : 0 ≤ j ∧ j < 2) (hsg : zSg s0) (p0 : IC s0) (p1 : IS s0) (p2 : IQ s0) : Met l yX3_leastOwedWay (xws yX3_leastOwedWay cX3_leastOwedWay 9 (some .int)) { frames := 6, cells := 0, slots := 0, locals := 155 } (xP [.ref (h0 + 156), .int (xJ j), .int (xJ n)] D g T h0 s0) (xQi D g h0 (fun r τ => xFr (fun k => (158 ≤ k ∧ k < 218) ∨ (7 ≤ k ∧ k < 107) ∨ k = 107 ∨ k = 115 ∨ k = 116 ∨ k = 130 ∨ k = 131 ∨ k = 132 ∨ k = 133 ∨ k = 134 ∨ k = 135 ∨ k = 158 ∨ k = 159 ∨ k = 160 ∨ k = 163 ∨ k = 164 ∨ k = 165 ∨ k = 166 ∨ k = 167 ∨ k = 224 ∨ k = 225) s0 τ ∧ (((IC τ) ∧ (IS τ) ∧ (IQ τ) ∧ True) ∧ (r = (zbx (zhS K9 q9 l9 n9 w9 j n (zY0 (zYc s0 136))) (z5 n).toNat).1 ∧ ∀ q : Int, 0 ≤ q → q < n → τ 225 q = zdgt n (zbx (zhS K9 q9 l9 n9 w9 j n (zY0 (zYc s0 136))) (z5 n).toNat).2 q)))) 0 0 (xA h0) := by
  refine x_met hσ (by decide) (Nat.le_of_ble_eq_true rfl) ?_
  intro p e s m args below meth c hx hb hr hml hown hT hlk hnm hE hW ls hl
  have hl : lv_has ls 9 [(0, .ref (h0 + 156)), (1, .int (xJ j)), (2, .int (xJ n))] := hl
  obtain ⟨Q, eQ⟩ : ∃ Q, Q = MQ below (xQi D g h0 (fun r τ => xFr (fun k => (158 ≤ k ∧ k < 218) ∨ (7 ≤ k ∧ k < 107) ∨ k = 107 ∨ k = 115 ∨ k = 116 ∨ k = 130 ∨ k = 131 ∨ k = 132 ∨ k = 133 ∨ k = 134 ∨ k = 135 ∨ k = 158 ∨ k = 159 ∨ k = 160 ∨ k = 163 ∨ k = 164 ∨ k = 165 ∨ k = 166 ∨ k = 167 ∨ k = 224 ∨ k = 225) s0 τ ∧ (((IC τ) ∧ (IS τ) ∧ (IQ τ) ∧ True) ∧ (r = (zbx (zhS K9 q9 l9 n9 w9 j n (zY0 (zYc s0 136))) (z5 n).toNat).1 ∧ ∀ q : Int, 0 ≤ q → q < n → τ 225 q = zdgt n (zbx (zhS K9 q9 l9 n9 w9 j n (zY0 (zYc s0 136))) (z5 n).toNat).2 q)))) args s 0 0 (xA h0) := ⟨_, rfl⟩
  rw [← eQ]
  generalize hHe : ([] : List Loc) = locs at hW ⊢
  obtain ⟨H, eH⟩ : ∃ H, H = s.heap := ⟨_, rfl⟩
  rw [← eH] at hW ⊢
  have hF : xFr (fun k => (158 ≤ k ∧ k < 218) ∨ (7 ≤ k ∧ k < 107) ∨ k = 107 ∨ k = 115 ∨ k = 116 ∨ k = 130 ∨ k = 131 ∨ k = 132 ∨ k = 133 ∨ k = 134 ∨ k = 135 ∨ k = 158 ∨ k = 159 ∨ k = 160 ∨ k = 163 ∨ k = 164 ∨ k = 165 ∨ k = 166 ∨ k = 167 ∨ k = 224 ∨ k = 225) s0 s0 := xFr.rf
  have k1_1 : s0 1 1 = s0 1 1 := rfl
  refine x_aload_n hx hb hl 0 rfl dX3_leastOwedWay_0 rfl ?_
  refine x_gor (x_runV (As := []) hx hb hml hown hT hE hW hl.1 (Or.inl (by decide)) (so_156 h0 g _) rfl cf_X3_copyOfNow wq914 wq63 wq992 (c_X3_copyOfNowF l D g T h0 s0 hW.2.1 p0) ⟨rfl, rfl, ⟨by decide, by decide⟩, ⟨by decide, by decide⟩⟩ rfl rfl (Nat.le_of_ble_eq_true rfl) dX3_leastOwedWay_1) hW (fun x1 s2 H locs hp3 hW => ?_)
  obtain ⟨ex1, hp3⟩ := hp3
  subst ex1
  obtain ⟨fs2, hp3⟩ := hp3
  have hF4 := hF.call fs2 (fun k h => by omega)
  have q5 : IS s2 := IS_f (fun k hk => fs2 k (by unfold suIS at hk; omega)) p1
  have q6 : IQ s2 := IQ_f (fun k hk => fs2 k (by unfold suIQ at hk; omega)) p2
  have q7 : s2 1 1 = s0 1 1 := (congrFun (fs2 _ (by omega)) _).trans k1_1
  have ghp3 := hp3.2
  have H1 := ghp3
  have Y1 : zYc s2 158 = zY0 (zYc s0 136) := by rw [H1.1] <;> exact congrArg zY0 (((zYc_f (fun o ho => fs2 (136 + o) (by omega))).symm).trans (zYc_f (fun o ho => hF4 (136 + o) (by omega))))
  have W1 : zWc s2 158 n9 w9 := hw.cp (fun q q1 q2 => (H1.2 q q1 q2).trans (by rw [← fs2 138 (by first | decide | omega), hF4 138 (by first | decide | omega)])) (fun k hk => hF4 k (by omega))
  refine x_goi (x_runVN (As := []) hx hb hml hown hT hE hW hl.1 (Or.inl (by decide)) (so_158 h0 g _) rfl cf_X2_owedByAll wq765 wq35 wn1022 (c_X2_owedByAllF l D g T h0 s2 hW.2.1 158 xd_158 (fun f f1 f2 => by rw [Y1]; exact (zY0_q hY f f1 f2).2.1) hp3.1.1) ⟨rfl, rfl, ⟨by decide, by decide⟩, ⟨by decide, by decide⟩⟩ rfl rfl (Nat.le_of_ble_eq_true rfl) dX3_leastOwedWay_4) hW (fun x8 s9 H locs rx8 hp10 hW => ?_)
  obtain ⟨es9, hp10⟩ := hp10
  subst es9
  have ghp10 := hp10
  have H4 : x8 = zSm (zY0 (zYc s0 136)) := by rw [← Y1]; exact ghp10
  have b4 := zSm_r (zY0_q hY)
  rw [← H4] at b4
  refine lv_istore_n (lv' := [(3, .int (xJ x8)), (0, .ref (h0 + 156)), (1, .int (xJ j)), (2, .int (xJ n))]) hx hb dX3_leastOwedWay_7 rfl hl (by decide) rfl (fun ls hl => ?_)
  refine lv_ldc (v := xJ 1000000) hx hb hown (hT _ wq991) dX3_leastOwedWay_8 ?_
  refine lv_istore (lv' := [(4, .int (xJ 1000000)), (3, .int (xJ x8)), (0, .ref (h0 + 156)), (1, .int (xJ j)), (2, .int (xJ n))]) hx hb dX3_leastOwedWay_10 hl (by decide) rfl (fun ls hl => ?_)
  refine x_iconst hx hb dX3_leastOwedWay_12 ?_
  refine lv_istore (lv' := [(5, .int (xJ 0)), (4, .int (xJ 1000000)), (3, .int (xJ x8)), (0, .ref (h0 + 156)), (1, .int (xJ j)), (2, .int (xJ n))]) hx hb dX3_leastOwedWay_13 hl (by decide) rfl (fun ls hl => ?_)
  refine x_iconst hx hb dX3_leastOwedWay_15 ?_
  refine lv_istore (lv' := [(6, .int (xJ 0)), (5, .int (xJ 0)), (4, .int (xJ 1000000)), (3, .int (xJ x8)), (0, .ref (h0 + 156)), (1, .int (xJ j)), (2, .int (xJ n))]) hx hb dX3_leastOwedWay_16 hl (by decide) rfl (fun ls hl => ?_)
  have L18 : ∀ (fu : Nat) (i6_18 : Int) (s_18 : xS) (H : Heap) (locs : List Loc) (ls : Array Slot), (xR i6_18) → (xFr (fun k => (158 ≤ k ∧ k < 218) ∨ (7 ≤ k ∧ k < 107) ∨ k = 107 ∨ k = 115 ∨ k = 116 ∨ k = 130 ∨ k = 131 ∨ k = 132 ∨ k = 133 ∨ k = 134 ∨ k = 135 ∨ k = 158 ∨ k = 159 ∨ k = 160 ∨ k = 163 ∨ k = 164 ∨ k = 165 ∨ k = 166 ∨ k = 167 ∨ k = 224 ∨ k = 225) s0 s_18) → (IS s_18) → (IQ s_18) → (s_18 1 1 = s0 1 1) → (IC s_18) → (0 ≤ i6_18 ∧ i6_18 ≤ 5) → (∀ q : Int, 0 ≤ q → q < i6_18 → s_18 224 q = 0) → (zYc s_18 158 = zY0 (zYc s0 136) ∧ zWc s_18 158 n9 w9) → (5 - i6_18).toNat < fu → xW D g h0 s H locs s_18 → lv_has ls 9 [(0, .ref (h0 + 156)), (1, .int (xJ j)), (2, .int (xJ n)), (3, .int (xJ x8)), (4, .int (xJ 1000000)), (5, .int (xJ 0)), (6, .int (xJ i6_18))] → W p l e { frames := 6, cells := 0, slots := 0, locals := 155 } s m args below meth c H locs 0 0 Q (F0 m 18 ls []) := by
    intro fu
    induction fu with
    | zero => intro i6_18 s_18 H locs ls ri6_18 hF_18 q18_0 q18_1 q18_2 q18_3 v18_0 v18_1 v18_2 hm; exact absurd hm (Nat.not_lt_zero _)
    | succ fu ih18 =>
      intro i6_18 s_18 H locs ls ri6_18 hF_18 q18_0 q18_1 q18_2 q18_3 v18_0 v18_1 v18_2 hm hW hl
      have hm_18 := fun (_ : Unit) => hm
      clear hm
      refine x_iload hx hb hl 6 rfl dX3_leastOwedWay_18 ?_
      refine x_iconst hx hb dX3_leastOwedWay_20 ?_
      refine x_icmp_ge (tgt := 38) hx hb ri6_18 (by decide) dX3_leastOwedWay_21 (by decide) (fun c11 => ?_) (fun c11 => ?_)
      · skip
        refine x_iconst hx hb dX3_leastOwedWay_38 ?_
        refine lv_istore (lv' := [(6, .int (xJ 0)), (0, .ref (h0 + 156)), (1, .int (xJ j)), (2, .int (xJ n)), (3, .int (xJ x8)), (4, .int (xJ 1000000)), (5, .int (xJ 0))]) hx hb dX3_leastOwedWay_39 hl (by decide) rfl (fun ls hl => ?_)
        have Z18 : zwn (s_18 224) n.toNat = 0 := by
          have a := v18_1
          rcases (by omega : n = 1 ∨ n = 2 ∨ n = 3 ∨ n = 4 ∨ n = 5) with h | h | h | h | h <;> rw [h]
          · show zwn (s_18 224) 1 = 0
            rw [zwn_1, a 0 (by omega) (by omega)]
          · show zwn (s_18 224) 2 = 0
            rw [zwn_2, a 0 (by omega) (by omega), a 1 (by omega) (by omega)]; rfl
          · show zwn (s_18 224) 3 = 0
            rw [zwn_3, a 0 (by omega) (by omega), a 1 (by omega) (by omega), a 2 (by omega) (by omega)]; rfl
          · show zwn (s_18 224) 4 = 0
            rw [zwn_4, a 0 (by omega) (by omega), a 1 (by omega) (by omega), a 2 (by omega) (by omega), a 3 (by omega) (by omega)]; rfl
          · show zwn (s_18 224) 5 = 0
            rw [zwn_5, a 0 (by omega) (by omega), a 1 (by omega) (by omega), a 2 (by omega) (by omega), a 3 (by omega) (by omega), a 4 (by omega) (by omega)]; rfl
        have L41 : ∀ (fu : Nat) (i4_41 : Int) (i5_41 : Int) (i6_41 : Int) (s_41 : xS) (H : Heap) (locs : List Loc) (ls : Array Slot), (xR i4_41) → (xR i5_41) → (xR i6_41) → (xFr (fun k => (158 ≤ k ∧ k < 218) ∨ (7 ≤ k ∧ k < 107) ∨ k = 107 ∨ k = 115 ∨ k = 116 ∨ k = 130 ∨ k = 131 ∨ k = 132 ∨ k = 133 ∨ k = 134 ∨ k = 135 ∨ k = 158 ∨ k = 159 ∨ k = 160 ∨ k = 163 ∨ k = 164 ∨ k = 165 ∨ k = 166 ∨ k = 167 ∨ k = 224 ∨ k = 225) s0 s_41) → (IS s_41) → (IQ s_41) → (s_41 1 1 = s0 1 1) → (IC s_41) → (0 ≤ i6_41 ∧ i6_41 ≤ 3125) → (-1 ≤ i5_41 ∧ i5_41 < n) → (∀ q : Int, 0 ≤ q → q < n → 0 ≤ s_41 224 q ∧ s_41 224 q ≤ 4) → ((0 ≤ i5_41 ∧ i6_41 = zwn (s_41 224) n.toNat) ∨ (i5_41 = -1 ∧ i6_41 = z5 n)) → (∀ i : Nat, (i : Int) ≤ i5_41 → zYc s_41 (158 + 10 * i) = zhD K9 q9 l9 n9 w9 j (s_41 224) (zY0 (zYc s0 136)) i ∧ zWo s_41 (158 + 10 * i) n9 w9 j) → ((i6_41 = 0 ∧ i4_41 = 1000000) ∨ (1 ≤ i6_41 ∧ i4_41 = x8 - (zbx (zhS K9 q9 l9 n9 w9 j n (zY0 (zYc s0 136))) (i6_41).toNat).1 ∧ ∀ q : Int, 0 ≤ q → q < n → s_41 225 q = zdgt n (zbx (zhS K9 q9 l9 n9 w9 j n (zY0 (zYc s0 136))) (i6_41).toNat).2 q)) → (0 ≤ i4_41 ∧ i4_41 ≤ 1000000) → (3125 - i6_41).toNat < fu → xW D g h0 s H locs s_41 → lv_has ls 9 [(0, .ref (h0 + 156)), (1, .int (xJ j)), (2, .int (xJ n)), (3, .int (xJ x8)), (4, .int (xJ i4_41)), (5, .int (xJ i5_41)), (6, .int (xJ i6_41))] → W p l e { frames := 6, cells := 0, slots := 0, locals := 155 } s m args below meth c H locs 0 0 Q (F0 m 41 ls []) := by
          intro fu
          induction fu with
          | zero => intro i4_41 i5_41 i6_41 s_41 H locs ls ri4_41 ri5_41 ri6_41 hF_41 q41_0 q41_1 q41_2 q41_3 v41_0 v41_1 v41_2 v41_3 v41_4 v41_5 v41_6 hm; exact absurd hm (Nat.not_lt_zero _)
          | succ fu ih41 =>
            intro i4_41 i5_41 i6_41 s_41 H locs ls ri4_41 ri5_41 ri6_41 hF_41 q41_0 q41_1 q41_2 q41_3 v41_0 v41_1 v41_2 v41_3 v41_4 v41_5 v41_6 hm hW hl
            have hm_41 := fun (_ : Unit) => hm
            clear hm
            refine x_iload hx hb hl 6 rfl dX3_leastOwedWay_41 ?_
            refine x_sipush hx hb dX3_leastOwedWay_43 (by decide) ?_
            refine x_icmp_ge (tgt := 182) hx hb ri6_41 (by decide) dX3_leastOwedWay_46 (by decide) (fun c12 => ?_) (fun c12 => ?_)
            · skip
              refine x_iload_n hx hb hl 3 rfl dX3_leastOwedWay_182 rfl ?_
              refine x_iload hx hb hl 4 rfl dX3_leastOwedWay_183 ?_
              refine x_isub hx hb dX3_leastOwedWay_185 ?_
              rw [eQ]
              exact x_iret hx hb hr hlk hW (by omega) ⟨hF_41, ⟨q41_3, q41_0, q41_1, trivial⟩, by
                  have h5 := z5_r hn5
                  have c : i5_41 = -1 ∧ i6_41 = z5 n := by
                    rcases v41_3 with h | h
                    · exfalso
                      have z := (zwn_d hn5 v41_2).1
                      omega
                    · exact h
                  have b := v41_5.resolve_left (fun h => by omega)
                  rw [c.2] at b
                  exact ⟨by omega, b.2.2⟩⟩ dX3_leastOwedWay_186
            refine x_iload hx hb hl 5 rfl dX3_leastOwedWay_49 ?_
            refine x_if_lt (tgt := 182) hx hb ri5_41 dX3_leastOwedWay_51 (by decide) (fun c13 => ?_) (fun c13 => ?_)
            · skip
              refine x_iload_n hx hb hl 3 rfl dX3_leastOwedWay_182 rfl ?_
              refine x_iload hx hb hl 4 rfl dX3_leastOwedWay_183 ?_
              refine x_isub hx hb dX3_leastOwedWay_185 ?_
              rw [eQ]
              exact x_iret hx hb hr hlk hW (by omega) ⟨hF_41, ⟨q41_3, q41_0, q41_1, trivial⟩, by
                  have h5 := z5_r hn5
                  have c : i5_41 = -1 ∧ i6_41 = z5 n := by
                    rcases v41_3 with h | h
                    · exfalso
                      have z := (zwn_d hn5 v41_2).1
                      omega
                    · exact h
                  have b := v41_5.resolve_left (fun h => by omega)
                  rw [c.2] at b
                  exact ⟨by omega, b.2.2⟩⟩ dX3_leastOwedWay_186
            refine x_aload_n hx hb hl 0 rfl dX3_leastOwedWay_54 rfl ?_
            refine x_get (j := 2) (v := .ref (h0 + 157)) hx hb hown hT hE hW cls_X3 (Or.inl (by decide)) (so_156 h0 g _) (by decide) rfl wq452 dX3_leastOwedWay_55 ?_
            refine x_iload hx hb hl 5 rfl dX3_leastOwedWay_58 ?_
            obtain ⟨d83, ed83, hd83, gd83⟩ : ∃ d : Nat, d = 158 + 10 * (i5_41).toNat ∧ xDay d ∧ (158 ≤ d ∧ d ≤ 208) := ⟨_, rfl, by unfold xDay; omega, by omega⟩
            refine x_aaldR (t0 := 4) (n := 6) (r := d83) hx hb hE hW (by decide) rfl rfl (sg_157 h0 g _) (by omega) (by decide) (by rw [ed83]; rfl) dX3_leastOwedWay_60 ?_
            refine lv_astore (lv' := [(7, .ref (h0 + d83)), (0, .ref (h0 + 156)), (1, .int (xJ j)), (2, .int (xJ n)), (3, .int (xJ x8)), (4, .int (xJ i4_41)), (5, .int (xJ i5_41)), (6, .int (xJ i6_41))]) hx hb dX3_leastOwedWay_61 hl (by decide) rfl (fun ls hl => ?_)
            refine x_iload hx hb hl 6 rfl dX3_leastOwedWay_63 ?_
            refine lv_istore (lv' := [(8, .int (xJ i5_41)), (7, .ref (h0 + d83)), (0, .ref (h0 + 156)), (1, .int (xJ j)), (2, .int (xJ n)), (3, .int (xJ x8)), (4, .int (xJ i4_41)), (5, .int (xJ i5_41)), (6, .int (xJ i6_41))]) hx hb dX3_leastOwedWay_65 hl (by decide) rfl (fun ls hl => ?_)
            have L67 : ∀ (fu : Nat) (d767 : Nat) (i8_67 : Int) (s_67 : xS) (H : Heap) (locs : List Loc) (ls : Array Slot), (xDay d767) → (158 ≤ d767 ∧ d767 ≤ 208) → (xR i8_67) → (xFr (fun k => (158 ≤ k ∧ k < 218) ∨ (7 ≤ k ∧ k < 107) ∨ k = 107 ∨ k = 115 ∨ k = 116 ∨ k = 130 ∨ k = 131 ∨ k = 132 ∨ k = 133 ∨ k = 134 ∨ k = 135 ∨ k = 158 ∨ k = 159 ∨ k = 160 ∨ k = 163 ∨ k = 164 ∨ k = 165 ∨ k = 166 ∨ k = 167 ∨ k = 224 ∨ k = 225) s0 s_67) → (IS s_67) → (IQ s_67) → (s_67 1 1 = s0 1 1) → (IC s_67) → (0 ≤ i8_67 ∧ i8_67 ≤ n) → (d767 = 158 + 10 * (i8_67).toNat) → (s_67 224 = s_41 224 ∧ s_67 225 = s_41 225) → (∀ i : Nat, (i : Int) ≤ i8_67 → zYc s_67 (158 + 10 * i) = zhD K9 q9 l9 n9 w9 j (s_67 224) (zY0 (zYc s0 136)) i ∧ zWo s_67 (158 + 10 * i) n9 w9 j) → (5 - i8_67).toNat < fu → xW D g h0 s H locs s_67 → lv_has ls 9 [(0, .ref (h0 + 156)), (1, .int (xJ j)), (2, .int (xJ n)), (3, .int (xJ x8)), (4, .int (xJ i4_41)), (6, .int (xJ i6_41)), (7, .ref (h0 + d767)), (8, .int (xJ i8_67))] → W p l e { frames := 6, cells := 0, slots := 0, locals := 155 } s m args below meth c H locs 0 0 Q (F0 m 67 ls []) := by
              intro fu
              induction fu with
              | zero => intro d767 i8_67 s_67 H locs ls hd767 gd767 ri8_67 hF_67 q67_0 q67_1 q67_2 q67_3 v67_0 v67_1 v67_2 v67_3 hm; exact absurd hm (Nat.not_lt_zero _)
              | succ fu ih67 =>
                intro d767 i8_67 s_67 H locs ls hd767 gd767 ri8_67 hF_67 q67_0 q67_1 q67_2 q67_3 v67_0 v67_1 v67_2 v67_3 hm hW hl
                have hm_67 := fun (_ : Unit) => hm
                clear hm
                refine x_iload hx hb hl 7 rfl dX3_leastOwedWay_67 ?_
                refine x_iload_n hx hb hl 2 rfl dX3_leastOwedWay_69 rfl ?_
                have J137 : ∀ (ls : Array Slot), (i8_67 = n) → lv_has ls 9 [(0, .ref (h0 + 156)), (1, .int (xJ j)), (2, .int (xJ n)), (3, .int (xJ x8)), (4, .int (xJ i4_41)), (6, .int (xJ i6_41)), (7, .ref (h0 + d767))] → W p l e { frames := 6, cells := 0, slots := 0, locals := 155 } s m args below meth c H locs 0 0 Q (F0 m 137 ls []) := by
                  intro ls v137_0  hl
                  refine x_aload hx hb hl 6 rfl dX3_leastOwedWay_137 ?_
                  have D137 : zYc s_67 d767 = zhD K9 q9 l9 n9 w9 j (s_41 224) (zY0 (zYc s0 136)) n.toNat := by
                    have z := v67_3 n.toNat (by omega)
                    rw [show d767 = 158 + 10 * n.toNat from by omega, z.1, v67_2.1]
                  have N137 := zwn_d (g := s_41 224) hn5 v41_2
                  have c137 := v41_3.resolve_right (fun q => by omega)
                  rw [← c137.2] at N137
                  have E137 : zhD K9 q9 l9 n9 w9 j (s_41 224) (zY0 (zYc s0 136)) n.toNat = zhD K9 q9 l9 n9 w9 j (zdgt n i6_41) (zY0 (zYc s0 136)) n.toNat := zhD_g (fun i i1 i2 => (N137.2 i i1 (by omega)).symm)
                  refine x_goi (x_runVN (As := []) hx hb hml hown hT hE hW hl.1 (Or.inl (by omega)) (so_day0 h0 g hd767 _) rfl cf_X2_owedByAll wq765 wq35 wn1022 (c_X2_owedByAllF l D g T h0 s_67 hW.2.1 d767 hd767 (fun f f1 f2 => by rw [D137]; exact (zhD_q (zY0_q hY) hj _ f f1 f2).2.1) q67_3) ⟨rfl, rfl, ⟨by decide, by decide⟩, ⟨by decide, by decide⟩⟩ rfl rfl (Nat.le_of_ble_eq_true rfl) dX3_leastOwedWay_139) hW (fun x15 s16 H locs rx15 hp17 hW => ?_)
                  obtain ⟨es16, hp17⟩ := hp17
                  subst es16
                  have ghp17 := hp17
                  have H139 : x15 = zSm (zY0 (zYc s0 136)) - (zhS K9 q9 l9 n9 w9 j n (zY0 (zYc s0 136))) i6_41 := by
                    have e := ghp17
                    rw [D137, E137] at e
                    unfold zhS
                    omega
                  have b139 := zSm_r (zhD_q (K := K9) (q := q9) (lm := l9) (n := n9) (w := w9) (g := s_41 224) (zY0_q hY) hj n.toNat)
                  rw [← D137] at b139
                  have p139 : 0 ≤ (zhS K9 q9 l9 n9 w9 j n (zY0 (zYc s0 136))) i6_41 := by have z := zhD_sm (K := K9) (q := q9) (lm := l9) (n := n9) (w := w9) (g := zdgt n i6_41) (zY0_q hY) hj n.toNat; unfold zhS; omega
                  refine lv_istore (lv' := [(8, .int (xJ x15)), (0, .ref (h0 + 156)), (1, .int (xJ j)), (2, .int (xJ n)), (3, .int (xJ x8)), (4, .int (xJ i4_41)), (6, .int (xJ i6_41)), (7, .ref (h0 + d767))]) hx hb dX3_leastOwedWay_142 hl (by decide) rfl (fun ls hl => ?_)
                  refine x_iload hx hb hl 0 rfl dX3_leastOwedWay_144 ?_
                  refine x_iload hx hb hl 5 rfl dX3_leastOwedWay_146 ?_
                  have J169 : ∀ (i4_169 : Int) (s_169 : xS) (H : Heap) (locs : List Loc) (ls : Array Slot), (xR i4_169) → (xFr (fun k => (158 ≤ k ∧ k < 218) ∨ (7 ≤ k ∧ k < 107) ∨ k = 107 ∨ k = 115 ∨ k = 116 ∨ k = 130 ∨ k = 131 ∨ k = 132 ∨ k = 133 ∨ k = 134 ∨ k = 135 ∨ k = 158 ∨ k = 159 ∨ k = 160 ∨ k = 163 ∨ k = 164 ∨ k = 165 ∨ k = 166 ∨ k = 167 ∨ k = 224 ∨ k = 225) s0 s_169) → (IS s_169) → (IQ s_169) → (s_169 1 1 = s0 1 1) → (IC s_169) → (s_169 224 = s_41 224) → (∀ i : Nat, (i : Int) ≤ n → zYc s_169 (158 + 10 * i) = zhD K9 q9 l9 n9 w9 j (s_41 224) (zY0 (zYc s0 136)) i ∧ zWo s_169 (158 + 10 * i) n9 w9 j) → (i4_169 = x8 - (zbx (zhS K9 q9 l9 n9 w9 j n (zY0 (zYc s0 136))) (i6_41.toNat + 1)).1 ∧ ∀ q : Int, 0 ≤ q → q < n → s_169 225 q = zdgt n (zbx (zhS K9 q9 l9 n9 w9 j n (zY0 (zYc s0 136))) (i6_41.toNat + 1)).2 q) → (0 ≤ i4_169 ∧ i4_169 ≤ 1000000) → xW D g h0 s H locs s_169 → lv_has ls 9 [(0, .ref (h0 + 156)), (1, .int (xJ j)), (2, .int (xJ n)), (3, .int (xJ x8)), (4, .int (xJ i4_169)), (6, .int (xJ i6_41))] → W p l e { frames := 6, cells := 0, slots := 0, locals := 155 } s m args below meth c H locs 0 0 Q (F0 m 169 ls []) := by
                    intro i4_169 s_169 H locs ls ri4_169 hF_169 q169_0 q169_1 q169_2 q169_3 v169_0 v169_1 v169_2 v169_3 hW hl
                    refine x_aload_n hx hb hl 0 rfl dX3_leastOwedWay_169 rfl ?_
                    refine x_iload_n hx hb hl 2 rfl dX3_leastOwedWay_170 rfl ?_
                    refine x_goi (x_runV (As := [.int (xJ n)]) hx hb hml hown hT hE hW hl.1 (Or.inl (by decide)) (so_156 h0 g _) rfl cf_X3_turnToNextWay wq1031 wq82 wq1029 (c_X3_turnToNextWayF l D g T h0 s_169 hW.2.1 n rn (by omega) q169_3) ⟨rfl, rfl, ⟨by decide, by decide⟩, ⟨by decide, by decide⟩⟩ rfl rfl (Nat.le_of_ble_eq_true rfl) dX3_leastOwedWay_171) hW (fun x18 s19 H locs rx18 hp20 hW => ?_)
                    obtain ⟨fs19, hp20⟩ := hp20
                    have hF21 := hF_169.call fs19 (fun k h => by omega)
                    have q22 : IS s19 := IS_f (fun k hk => fs19 k (by unfold suIS at hk; omega)) q169_0
                    have q23 : IQ s19 := IQ_f (fun k hk => fs19 k (by unfold suIQ at hk; omega)) q169_1
                    have q24 : s19 1 1 = s0 1 1 := (congrFun (fs19 _ (by omega)) _).trans q169_2
                    have ghp20 := hp20.2
                    have H171 := ghp20
                    have F171 := fs19
                    rw [v169_0] at H171
                    have K171 : ∀ q : Int, 0 ≤ q → q < n → (x18 = -1 ∧ s_41 224 q = 4 ∧ s19 224 q = 0) ∨ (0 ≤ x18 ∧ x18 < n ∧ ((q < x18 ∧ s19 224 q = s_41 224 q) ∨ (q = x18 ∧ s19 224 q = s_41 224 q + 1 ∧ s_41 224 q < 4) ∨ (x18 < q ∧ s_41 224 q = 4 ∧ s19 224 q = 0))) := fun q q1 q2 => by
                      have a := v41_2 q q1 q2
                      rcases H171 with h | h
                      · have z := h.2 q q1 q2
                        exact Or.inl ⟨h.1, by omega, by omega⟩
                      · refine Or.inr ⟨h.1, h.2.1, ?_⟩
                        rcases (by omega : q < x18 ∨ q = x18 ∨ x18 < q) with c | c | c
                        · exact Or.inl ⟨c, h.2.2.2.2.1 q q1 c⟩
                        · exact Or.inr (Or.inl ⟨c, by rw [c]; exact h.2.2.2.1, by rw [c]; exact h.2.2.1⟩)
                        · have z := h.2.2.2.2.2 q c q2
                          exact Or.inr (Or.inr ⟨c, by omega, by omega⟩)
                    have G171 : ∀ q : Int, 0 ≤ q → q < n → 0 ≤ s19 224 q ∧ s19 224 q ≤ 4 := fun q q1 q2 => by
                      have a := v41_2 q q1 q2
                      have k := K171 q q1 q2
                      omega
                    have C171 : (0 ≤ x18 ∧ i6_41 + 1 = zwn (s19 224) n.toNat) ∨ (x18 = -1 ∧ i6_41 + 1 = z5 n) := by
                      have c := c137.2
                      rcases H171 with h | h
                      · refine Or.inr ⟨h.1, ?_⟩
                        have z := zwn_all (g := s_41 224) hn5 (fun q q1 q2 => by have k := K171 q q1 q2; have hh := h.1; omega)
                        omega
                      · refine Or.inl ⟨h.1, ?_⟩
                        have z := zwn_t (g := s_41 224) (g2 := s19 224) (r := x18) hn5 ⟨h.1, h.2.1⟩ (fun q q1 q2 => by have k := K171 q q1 q2; have hh := h.1; omega)
                        omega
                    have D171 : ∀ i : Nat, (i : Int) ≤ x18 → zYc s19 (158 + 10 * i) = zhD K9 q9 l9 n9 w9 j (s19 224) (zY0 (zYc s0 136)) i ∧ zWo s19 (158 + 10 * i) n9 w9 j := fun i hi => by
                      have h := H171.resolve_left (fun h => by have hh := h.1; omega)
                      have h2 := h.2.1
                      have z := v169_1 i (by omega)
                      have fr : zYc s19 (158 + 10 * i) = zYc s_169 (158 + 10 * i) := zYc_f (fun o ho => F171 _ (by omega))
                      refine ⟨?_, z.2.gg (fun q q1 q2 _ => congrFun (F171 _ (by omega)) q) (fun k hk => F171 k (by omega))⟩
                      rw [fr, z.1]
                      exact (zhD_g (fun q q1 q2 => h.2.2.2.2.1 q q1 (by omega))).symm
                    have B171 : 1 ≤ i6_41 + 1 ∧ i4_169 = x8 - (zbx (zhS K9 q9 l9 n9 w9 j n (zY0 (zYc s0 136))) (i6_41 + 1).toNat).1 ∧ ∀ q : Int, 0 ≤ q → q < n → s19 225 q = zdgt n (zbx (zhS K9 q9 l9 n9 w9 j n (zY0 (zYc s0 136))) (i6_41 + 1).toNat).2 q := by
                      rw [show (i6_41 + 1).toNat = i6_41.toNat + 1 from by omega, F171 225 (by omega)]
                      exact ⟨by omega, v169_2⟩
                    refine lv_istore (lv' := [(5, .int (xJ x18)), (0, .ref (h0 + 156)), (1, .int (xJ j)), (2, .int (xJ n)), (3, .int (xJ x8)), (4, .int (xJ i4_169)), (6, .int (xJ i6_41))]) hx hb dX3_leastOwedWay_174 hl (by decide) rfl (fun ls hl => ?_)
                    refine x_iinc (lv' := [(6, .int (xJ (i6_41 + 1))), (5, .int (xJ x18)), (0, .ref (h0 + 156)), (1, .int (xJ j)), (2, .int (xJ n)), (3, .int (xJ x8)), (4, .int (xJ i4_169))]) hx hb hl 6 rfl dX3_leastOwedWay_176 (by decide) rfl (fun ls hl => ?_)
                    refine lv_goto (tgt := 41) hx hb dX3_leastOwedWay_179 (by decide) ?_
                    exact ih41 i4_169 x18 (i6_41 + 1) s19 H locs ls ri4_169 rx18 (by omega) hF21 q22 q23 q24 hp20.1.1 (by omega) (by omega) (G171) (C171) (D171) (Or.inr B171) (by omega) (by have hm := hm_41 (); omega) hW (lv_sub hl [2, 3, 4, 5, 6, 1, 0] rfl)
                  refine x_icmp_ge (tgt := 169) hx hb rx15 ri4_41 dX3_leastOwedWay_148 (by decide) (fun c25 => ?_) (fun c25 => ?_)
                  · skip
                    exact J169 i4_41 s_67 H locs ls ri4_41 hF_67 q67_0 q67_1 q67_2 q67_3 (by first | exact S166 | exact v67_2.1) (by first | exact D166 | exact (fun i hi => by have z := v67_3 i (by omega); rw [v67_2.1] at z; exact z)) (by
                        have w41 := v41_5
                        first
                          | (have z : zbx (zhS K9 q9 l9 n9 w9 j n (zY0 (zYc s0 136))) (i6_41.toNat + 1) = ((zhS K9 q9 l9 n9 w9 j n (zY0 (zYc s0 136))) i6_41, i6_41) := zbx_y (by omega) (by
                               rcases w41 with h | h
                               · rw [show i6_41.toNat = 0 from by omega]
                                 show (-1 : Int) < _
                                 omega
                               · omega)
                             rw [z]
                             exact ⟨by show _ = _ - (zhS K9 q9 l9 n9 w9 j n (zY0 (zYc s0 136))) i6_41; omega, fun q q1 q2 => by rw [R166 q q1 q2]; exact (N137.2 q q1 q2).symm⟩)
                          | (have g := w41.resolve_left (fun h => by omega)
                             have z : zbx (zhS K9 q9 l9 n9 w9 j n (zY0 (zYc s0 136))) (i6_41.toNat + 1) = zbx (zhS K9 q9 l9 n9 w9 j n (zY0 (zYc s0 136))) i6_41.toNat := zbx_n (i := i6_41) (by omega) (by omega)
                             rw [z]
                             exact ⟨by omega, fun q q1 q2 => by rw [v67_2.2]; exact g.2.2 q q1 q2⟩)) (by omega) hW (lv_sub hl [1, 2, 3, 4, 5, 6] rfl)
                  refine x_iload hx hb hl 0 rfl dX3_leastOwedWay_151 ?_
                  refine lv_istore (lv' := [(4, .int (xJ x15)), (8, .int (xJ x15)), (0, .ref (h0 + 156)), (1, .int (xJ j)), (2, .int (xJ n)), (3, .int (xJ x8)), (6, .int (xJ i6_41)), (7, .ref (h0 + d767))]) hx hb dX3_leastOwedWay_153 hl (by decide) rfl (fun ls hl => ?_)
                  refine x_aload_n hx hb hl 2 rfl dX3_leastOwedWay_155 rfl ?_
                  refine x_get (j := 4) (v := .ref (h0 + 224)) hx hb hown hT hE hW cls_X3 (Or.inl (by decide)) (so_156 h0 g _) (by decide) rfl wq454 dX3_leastOwedWay_156 ?_
                  refine x_iconst hx hb dX3_leastOwedWay_159 ?_
                  refine x_aload_n hx hb hl 2 rfl dX3_leastOwedWay_160 rfl ?_
                  refine x_get (j := 5) (v := .ref (h0 + 225)) hx hb hown hT hE hW cls_X3 (Or.inl (by decide)) (so_156 h0 g _) (by decide) rfl wq455 dX3_leastOwedWay_161 ?_
                  refine x_iconst hx hb dX3_leastOwedWay_164 ?_
                  refine x_iconst hx hb dX3_leastOwedWay_165 ?_
                  refine x_copyi (ns := 5) (nd := 5) hx hb hml hl.1 hown hT hE hW wq1002 wq604 wq603 wq181 (Or.inl (by decide)) (sa_224 h0 g _) (by decide) (fun σ => sa_225 h0 g σ) (by omega) ⟨by decide, Nat.le_of_ble_eq_true rfl⟩ dX3_leastOwedWay_166 (fun H locs s26 es26 hW => ?_)
                  have q27 : IS s26 := IS_f (fun k hk => by rw [es26]; exact xC_k _ _ _ (by unfold suIS at hk; omega)) q67_0
                  have q28 : IQ s26 := IQ_f (fun k hk => by rw [es26]; exact xC_k _ _ _ (by unfold suIQ at hk; omega)) q67_1
                  have q29 : s26 1 1 = s0 1 1 := (show s26 1 1 = s_67 1 1 from by rw [es26, xC_k _ _ _ (by omega)]).trans q67_2
                  have q30 : IC s26 := IC_f (fun k hk => by rw [es26]; exact xC_k _ _ _ (fun q => hk (q ▸ (by decide)))) q67_3
                  have hF31 := hF_67.cpy es26 (by omega)
                  have E166 := es26
                  have R166 : ∀ q : Int, 0 ≤ q → q < n → s26 225 q = s_41 224 q := fun q q1 q2 => by rw [E166, xC_j, if_pos ⟨by omega, by omega⟩, v67_2.1]
                  have S166 : s26 224 = s_41 224 := by rw [E166, xC_k _ _ _ (by omega)]; exact v67_2.1
                  have D166 : ∀ i : Nat, (i : Int) ≤ n → zYc s26 (158 + 10 * i) = zhD K9 q9 l9 n9 w9 j (s_41 224) (zY0 (zYc s0 136)) i ∧ zWo s26 (158 + 10 * i) n9 w9 j := fun i hi => by
                    have z := v67_3 i (by omega)
                    refine ⟨?_, z.2.gg (fun q q1 q2 _ => congrFun (by rw [E166, xC_k _ _ _ (by omega)]) q) (fun k hk => by rw [E166, xC_k _ _ _ (by omega)])⟩
                    rw [show zYc s26 (158 + 10 * i) = zYc s_67 (158 + 10 * i) from zYc_f (fun o ho => by rw [E166, xC_k _ _ _ (by omega)]), z.1, v67_2.1]
                  exact J169 x15 s26 H locs ls rx15 hF31 q27 q28 q29 q30 (by first | exact S166 | exact v67_2.1) (by first | exact D166 | exact (fun i hi => by have z := v67_3 i (by omega); rw [v67_2.1] at z; exact z)) (by
                      have w41 := v41_5
                      first
                        | (have z : zbx (zhS K9 q9 l9 n9 w9 j n (zY0 (zYc s0 136))) (i6_41.toNat + 1) = ((zhS K9 q9 l9 n9 w9 j n (zY0 (zYc s0 136))) i6_41, i6_41) := zbx_y (by omega) (by
                             rcases w41 with h | h
                             · rw [show i6_41.toNat = 0 from by omega]
                               show (-1 : Int) < _
                               omega
                             · omega)
                           rw [z]
                           exact ⟨by show _ = _ - (zhS K9 q9 l9 n9 w9 j n (zY0 (zYc s0 136))) i6_41; omega, fun q q1 q2 => by rw [R166 q q1 q2]; exact (N137.2 q q1 q2).symm⟩)
                        | (have g := w41.resolve_left (fun h => by omega)
                           have z : zbx (zhS K9 q9 l9 n9 w9 j n (zY0 (zYc s0 136))) (i6_41.toNat + 1) = zbx (zhS K9 q9 l9 n9 w9 j n (zY0 (zYc s0 136))) i6_41.toNat := zbx_n (i := i6_41) (by omega) (by omega)
                           rw [z]
                           exact ⟨by omega, fun q q1 q2 => by rw [v67_2.2]; exact g.2.2 q q1 q2⟩)) (by omega) hW (lv_sub hl [2, 3, 4, 5, 0, 6] rfl)
                refine x_icmp_ge (tgt := 137) hx hb ri8_67 rn dX3_leastOwedWay_70 (by decide) (fun c32 => ?_) (fun c32 => ?_)
                · skip
                  exact J137 ls (by omega)  (lv_sub hl [0, 1, 2, 3, 4, 5, 6] rfl)
                refine x_iload hx hb hl 7 rfl dX3_leastOwedWay_73 ?_
                refine x_iconst hx hb dX3_leastOwedWay_75 ?_
                refine x_icmp_ge (tgt := 137) hx hb ri8_67 (by decide) dX3_leastOwedWay_76 (by decide) (fun c33 => ?_) (fun c33 => ?_)
                · skip
                  exact J137 ls (by omega)  (lv_sub hl [0, 1, 2, 3, 4, 5, 6] rfl)
                refine x_aload_n hx hb hl 0 rfl dX3_leastOwedWay_79 rfl ?_
                refine x_get (j := 2) (v := .ref (h0 + 157)) hx hb hown hT hE hW cls_X3 (Or.inl (by decide)) (so_156 h0 g _) (by decide) rfl wq452 dX3_leastOwedWay_80 ?_
                refine x_iload hx hb hl 7 rfl dX3_leastOwedWay_83 ?_
                refine x_iconst hx hb dX3_leastOwedWay_85 ?_
                refine x_iadd hx hb dX3_leastOwedWay_86 ?_
                obtain ⟨d103, ed103, hd103, gd103⟩ : ∃ d : Nat, d = 158 + 10 * ((i8_67 + 1)).toNat ∧ xDay d ∧ (158 ≤ d ∧ d ≤ 208) := ⟨_, rfl, by unfold xDay; omega, by omega⟩
                refine x_aaldR (t0 := 4) (n := 6) (r := d103) hx hb hE hW (by decide) rfl rfl (sg_157 h0 g _) (by omega) (by decide) (by rw [ed103]; rfl) dX3_leastOwedWay_87 ?_
                refine lv_astore (lv' := [(7, .ref (h0 + d103)), (0, .ref (h0 + 156)), (1, .int (xJ j)), (2, .int (xJ n)), (3, .int (xJ x8)), (4, .int (xJ i4_41)), (6, .int (xJ i6_41)), (8, .int (xJ i8_67))]) hx hb dX3_leastOwedWay_88 hl (by decide) rfl (fun ls hl => ?_)
                refine x_aload hx hb hl 0 rfl dX3_leastOwedWay_90 ?_
                refine x_aload_n hx hb hl 1 rfl dX3_leastOwedWay_92 rfl ?_
                refine x_get (j := 2) (v := .ref (h0 + 157)) hx hb hown hT hE hW cls_X3 (Or.inl (by decide)) (so_156 h0 g _) (by decide) rfl wq452 dX3_leastOwedWay_93 ?_
                refine x_iload hx hb hl 7 rfl dX3_leastOwedWay_96 ?_
                obtain ⟨d104, ed104, hd104, gd104⟩ : ∃ d : Nat, d = 158 + 10 * (i8_67).toNat ∧ xDay d ∧ (158 ≤ d ∧ d ≤ 208) := ⟨_, rfl, by unfold xDay; omega, by omega⟩
                refine x_aaldR (t0 := 4) (n := 6) (r := d104) hx hb hE hW (by decide) rfl rfl (sg_157 h0 g _) (by omega) (by decide) (by rw [ed104]; rfl) dX3_leastOwedWay_98 ?_
                refine x_gov (x_runVN (As := [.ref (h0 + d104)]) hx hb hml hown hT hE hW hl.1 (Or.inl (by omega)) (so_day0 h0 g hd103 _) rfl cf_X2_copyFrom wq918 wq64 wn916 (c_X2_copyFromF l D g T h0 s_67 hW.2.1 d103 hd103 d104 hd104 (by omega) q67_3) ⟨rfl, rfl, ⟨by decide, by decide⟩, ⟨by decide, by decide⟩⟩ rfl rfl (Nat.le_of_ble_eq_true rfl) dX3_leastOwedWay_99) hW (fun s37 H locs hp38 hW => ?_)
                obtain ⟨fs37, hp38⟩ := hp38
                have hF39 := hF_67.call fs37 (fun k h => by omega)
                have q40 : IS s37 := IS_f (fun k hk => fs37 k (by unfold suIS at hk; omega)) q67_0
                have q41 : IQ s37 := IQ_f (fun k hk => fs37 k (by unfold suIQ at hk; omega)) q67_1
                have q42 : s37 1 1 = s0 1 1 := (congrFun (fs37 _ (by omega)) _).trans q67_2
                have ghp38 := hp38.2
                have H99 := ghp38
                have F99 := fs37
                have D67 := v67_3 (i8_67).toNat (by omega)
                have eB : d104 = 158 + 10 * (i8_67).toNat := by omega
                have eA : d103 = 158 + 10 * ((i8_67).toNat + 1) := by omega
                rw [← eB] at D67
                have Y99 : zYc s37 d103 = zhD K9 q9 l9 n9 w9 j (s_41 224) (zY0 (zYc s0 136)) (i8_67).toNat := H99.1.trans (D67.1.trans (by rw [v67_2.1]))
                have O99 : zWo s37 d103 n9 w9 j := D67.2.gg (fun q q1 q2 _ => H99.2 q q1 q2) (fun k hk => F99 k (by omega))
                refine x_aload hx hb hl 0 rfl dX3_leastOwedWay_102 ?_
                refine x_iload_n hx hb hl 2 rfl dX3_leastOwedWay_104 rfl ?_
                refine x_aload_n hx hb hl 1 rfl dX3_leastOwedWay_105 rfl ?_
                refine x_aload_n hx hb hl 1 rfl dX3_leastOwedWay_106 rfl ?_
                refine x_get (j := 4) (v := .ref (h0 + 224)) hx hb hown hT hE hW cls_X3 (Or.inl (by decide)) (so_156 h0 g _) (by decide) rfl wq454 dX3_leastOwedWay_107 ?_
                refine x_iload hx hb hl 7 rfl dX3_leastOwedWay_110 ?_
                refine x_iald hx hb hE hW (Or.inl (by decide)) (sa_224 h0 g _) (by omega) (by decide) dX3_leastOwedWay_112 ?_
                refine x_rd hW (fun x43 ex43 rx43 => ?_)
                have V112 : x43 = s_41 224 i8_67 := by rw [ex43, F99 224 (by omega), v67_2.1]
                have B112 := v41_2 i8_67 (by omega) (by omega)
                rw [← V112] at B112
                refine x_gor (x_runV (As := [.int (xJ x43)]) hx hb hml hown hT hE hW hl.1 (Or.inl (by decide)) (so_156 h0 g _) rfl cf_X3_stepAlone wq1025 wq81 wq1023 (c_X3_stepAloneF l D g T h0 s37 hW.2.1 x43 rx43 hp38.1.1) ⟨rfl, rfl, ⟨by decide, by decide⟩, ⟨by decide, by decide⟩⟩ rfl rfl (Nat.le_of_ble_eq_true rfl) dX3_leastOwedWay_113) hW (fun x44 s45 H locs hp46 hW => ?_)
                obtain ⟨es45, hp46⟩ := hp46
                subst es45
                have ghp46 := hp46
                have H113 := ghp46
                refine x_gov (x_runVN (As := [.int (xJ j), .ref (h0 + x44)]) hx hb hml hown hT hE hW hl.1 (Or.inl (by omega)) (so_day0 h0 g hd103 _) rfl cf_X2_setWalk wq745 wq33 wn1027 (c_X2_setWalkF l D g T h0 s37 hW.2.1 d103 hd103 j rj ((x44 : Nat) : Int) (by omega) (xAr_s (by omega)) (by omega) hp38.1.1) ⟨rfl, rfl, ⟨by decide, by decide⟩, ⟨by decide, by decide⟩⟩ rfl rfl (Nat.le_of_ble_eq_true rfl) dX3_leastOwedWay_116) hW (fun s48 H locs hp49 hW => ?_)
                obtain ⟨fs48, hp49⟩ := hp49
                have hF50 := hF39.call fs48 (fun k h => by omega)
                have q51 : IS s48 := IS_f (fun k hk => fs48 k (by unfold suIS at hk; omega)) q40
                have q52 : IQ s48 := IQ_f (fun k hk => fs48 k (by unfold suIQ at hk; omega)) q41
                have q53 : s48 1 1 = s0 1 1 := (congrFun (fs48 _ (by omega)) _).trans q42
                have ghp49 := hp49.2
                have H116 := ghp49
                have F116 := fs48
                have sg116 : zSg s48 := hsg.f (fun k hk => hF50 k (by omega))
                have g116 := sg116 (x43).toNat (by omega)
                have e113 : 219 + (x43).toNat = x44 := by have y := H113.2 (by omega); omega
                rw [e113] at g116
                have O116 : zWo s48 d103 n9 w9 j := O99.gg (fun q q1 q2 q3 => by rw [H116.1, xud_o _ _ q3]) (fun k hk => F116 k (by omega))
                have W116 : zWc s48 d103 (zhn n9 j) (zhw w9 j (2 * x43)) := O116.cc (r := x44) (by omega) (by rw [H116.1, xud_s]; omega) g116.1 (by rw [g116.2]; omega)
                have Y116 : zYc s48 d103 = xud (zhD K9 q9 l9 n9 w9 j (s_41 224) (zY0 (zYc s0 136)) (i8_67).toNat) (2 + j) 0 := by rw [H116.2, Y99]
                have Q116 : zYq (zYc s48 d103) := by rw [Y116]; exact zYq_x (zhD_q (zY0_q hY) hj _) (by omega)
                have K116 : zok (zY4 (zYc s48 d103)) := by rw [Y116]; exact zok_2 (zhD_ok (by rw [zY0_4]; exact hok4) hj _) hj
                refine x_aload_n hx hb hl 1 rfl dX3_leastOwedWay_119 rfl ?_
                refine x_get (j := 0) (v := .ref (h0 + 128)) hx hb hown hT hE hW cls_X3 (Or.inl (by decide)) (so_156 h0 g _) (by decide) rfl wq450 dX3_leastOwedWay_120 ?_
                refine x_aload hx hb hl 0 rfl dX3_leastOwedWay_123 ?_
                refine x_iconst hx hb dX3_leastOwedWay_125 ?_
                refine x_iconst hx hb dX3_leastOwedWay_126 ?_
                refine x_goi (x_runVN (As := [.ref (h0 + d103), .int (xJ 1), .int (xJ (-1))]) hx hb hml hown hT hE hW hl.1 (Or.inl (by decide)) (so_128 h0 g _) rfl cf_X0_goOn wq761 wq34 wn1028 (c_X0_goOnF l D g T h0 s48 hW.2.1 d103 hd103 1 (by decide) (-1) (by decide) K9 (zhn n9 j) (zhw w9 j (2 * x43)) q9 l9 (hok) (by first | exact hlc | exact hlc.f (fun k hk => hF50 k (by omega))) (by first | exact hK | exact fun t t1 t2 => by rw [hF50 4 (by first | decide | omega)]; exact hK t t1 t2) (by first | exact hlm | exact fun i i1 i2 => by rw [hF50 129 (by first | decide | omega)]; exact hlm i i1 i2) (W116) (Q116) (K116) (by omega) hp49.1.1 q51 q52) ⟨rfl, rfl, ⟨by decide, by decide⟩, ⟨by decide, by decide⟩⟩ rfl rfl (Nat.le_of_ble_eq_true rfl) dX3_leastOwedWay_127) hW (fun x54 s55 H locs rx54 hp56 hW => ?_)
                obtain ⟨fs55, hp56⟩ := hp56
                have hF57 := hF50.call fs55 (fun k h => by omega)
                have q58 : s55 1 1 = s0 1 1 := (congrFun (fs55 _ (by omega)) _).trans q53
                have ghp56 := hp56.2
                have H127 := ghp56
                have F127 := fs55
                have Y127 : zYc s55 d103 = zhD K9 q9 l9 n9 w9 j (s_41 224) (zY0 (zYc s0 136)) ((i8_67).toNat + 1) := by
                  rw [H127.1, Y116, zhD_s]
                  rw [show (((i8_67).toNat : Nat) : Int) = i8_67 from by omega, ← V112]
                  rfl
                have O127 : zWo s55 d103 n9 w9 j := O116.gg (fun q q1 q2 q3 => congrFun (F127 (d103 + 2) (by omega)) q) (fun k hk => F127 k (by omega))
                have S127 : s55 224 = s_41 224 := (F127 224 (by omega)).trans ((F116 224 (by omega)).trans ((F99 224 (by omega)).trans v67_2.1))
                have D131 : ∀ i : Nat, (i : Int) ≤ i8_67 + 1 → zYc s55 (158 + 10 * i) = zhD K9 q9 l9 n9 w9 j (s55 224) (zY0 (zYc s0 136)) i ∧ zWo s55 (158 + 10 * i) n9 w9 j := fun i hi => by
                  by_cases e : (i : Int) ≤ i8_67
                  · have z := v67_3 i e
                    have fr : ∀ k : Nat, (k < d103 ∧ 158 ≤ k) → s55 k = s_67 k := fun k hk => (F127 k (by omega)).trans ((F116 k (by omega)).trans (F99 k (by omega)))
                    refine ⟨?_, z.2.gg (fun q q1 q2 _ => congrFun (fr _ (by omega)) q) (fun k hk => (F127 k (by omega)).trans ((F116 k (by omega)).trans (F99 k (by omega))))⟩
                    rw [show zYc s55 (158 + 10 * i) = zYc s_67 (158 + 10 * i) from zYc_f (fun o ho => fr _ (by omega)), z.1, S127, v67_2.1]
                  · have ei : i = (i8_67).toNat + 1 := by omega
                    rw [ei, ← eA, S127]
                    exact ⟨Y127, O127⟩
                refine lv_pop hx hb dX3_leastOwedWay_130 rfl ?_
                refine x_iinc (lv' := [(8, .int (xJ (i8_67 + 1))), (7, .ref (h0 + d103)), (0, .ref (h0 + 156)), (1, .int (xJ j)), (2, .int (xJ n)), (3, .int (xJ x8)), (4, .int (xJ i4_41)), (6, .int (xJ i6_41))]) hx hb hl 7 rfl dX3_leastOwedWay_131 (by decide) rfl (fun ls hl => ?_)
                refine lv_goto (tgt := 67) hx hb dX3_leastOwedWay_134 (by decide) ?_
                exact ih67 d103 (i8_67 + 1) s55 H locs ls hd103 (by omega) (by omega) hF57 hp56.1.2.1 hp56.1.2.2.1 q58 hp56.1.1 (by omega) (by omega) (⟨(F127 224 (by omega)).trans ((F116 224 (by omega)).trans ((F99 224 (by omega)).trans v67_2.1)), (F127 225 (by omega)).trans ((F116 225 (by omega)).trans ((F99 225 (by omega)).trans v67_2.2))⟩) (D131) (by have hm := hm_67 (); omega) hW (lv_sub hl [2, 3, 4, 5, 6, 7, 1, 0] rfl)
            exact L67 ((5 - i5_41 : Int).toNat + 1) d83 i5_41 s_41 H locs ls hd83 (by omega) ri5_41 hF_41 q41_0 q41_1 q41_2 q41_3 (by omega) (by omega) (⟨rfl, rfl⟩) (v41_4) (Nat.lt_succ_self _) hW (lv_sub hl [2, 3, 4, 5, 6, 8, 1, 0] rfl)
        exact L41 ((3125 - 0 : Int).toNat + 1) 1000000 0 0 s_18 H locs ls (by decide) (by decide) (by decide) hF_18 q18_0 q18_1 q18_2 q18_3 (by omega) (by omega) (fun q q1 q2 => by rw [v18_1 q q1 (by omega)]; omega) (Or.inl ⟨by omega, Z18.symm⟩) (fun i hi => by
          rw [show i = 0 from by omega]
          exact ⟨v18_2.1, v18_2.2.wo⟩) (Or.inl ⟨rfl, rfl⟩) (by omega) (Nat.lt_succ_self _) hW (lv_sub hl [1, 2, 3, 4, 5, 6, 0] rfl)
      refine x_aload_n hx hb hl 0 rfl dX3_leastOwedWay_24 rfl ?_
      refine x_get (j := 4) (v := .ref (h0 + 224)) hx hb hown hT hE hW cls_X3 (Or.inl (by decide)) (so_156 h0 g _) (by decide) rfl wq454 dX3_leastOwedWay_25 ?_
      refine x_iload hx hb hl 6 rfl dX3_leastOwedWay_28 ?_
      refine x_iconst hx hb dX3_leastOwedWay_30 ?_
      refine x_iast hx hb hE hW (by decide) (fun σ => sa_224 h0 g σ) (by omega) (by decide) (by decide) dX3_leastOwedWay_31 (fun H locs s59 es59 hW => ?_)
      have q60 : IS s59 := by rw [es59]; exact IS_o (by unfold suIS; first | decide | omega) q18_0
      have q61 : IQ s59 := by rw [es59]; exact IQ_o (by unfold suIQ; first | decide | omega) q18_1
      have q62 : s59 1 1 = s0 1 1 := (show s59 1 1 = s_18 1 1 from by rw [es59, xU_k _ _ _ (by first | decide | omega)]).trans q18_2
      have q63 : IC s59 := by rw [es59]; exact IC_o (by decide) q18_3
      have hF64 := hF_18.put es59 (by omega)
      have E31 := es59
      refine x_iinc (lv' := [(6, .int (xJ (i6_18 + 1))), (0, .ref (h0 + 156)), (1, .int (xJ j)), (2, .int (xJ n)), (3, .int (xJ x8)), (4, .int (xJ 1000000)), (5, .int (xJ 0))]) hx hb hl 6 rfl dX3_leastOwedWay_32 (by decide) rfl (fun ls hl => ?_)
      refine lv_goto (tgt := 18) hx hb dX3_leastOwedWay_35 (by decide) ?_
      exact ih18 (i6_18 + 1) s59 H locs ls (by omega) hF64 q60 q61 q62 q63 (by omega) (fun q q1 q2 => by
            rw [E31]
            by_cases h : q = i6_18
            · rw [h, xU_s]
            · rw [xU_j _ _ h]; exact v18_1 q q1 (by omega)) (by rw [E31, zYc_o (by omega)]; exact ⟨v18_2.1, v18_2.2.f (xU_k _ _ _ (by first | decide | omega)) (fun k hk => xU_k _ _ _ (by first | decide | omega))⟩) (by have hm := hm_18 (); omega) hW (lv_sub hl [1, 2, 3, 4, 5, 6, 0] rfl)
  exact L18 ((5 - 0 : Int).toNat + 1) 0 s2 H locs ls (by decide) hF4 q5 q6 q7 hp3.1.1 (by omega) (fun q q1 q2 => absurd q2 (by omega)) (⟨Y1, W1⟩) (Nat.lt_succ_self _) hW (lv_sub hl [4, 5, 6, 3, 2, 1, 0] rfl)

set_option maxHeartbeats 4000000 in
set_option maxRecDepth 100000 in
theorem c_X10_homeF (l : Launch) (D : va_G) (g : xG) (T : Nat × Nat × Nat) (h0 : Nat) (s0 : xS) (hσ : xRR s0) (j : Int) (rj : xR j) (n : Int) (rn : xR n) (w : Int) (rw : xR w) (K9 : Int → Int) (n9 : Int → Int) (w9 : Int → Int → Int) (q9 : zLaw) (l9 : Int → Int) (hok : zLok q9) (hlc : zLD s0 q9) (hK : ∀ t : Int, 0 ≤ t → t < 100 → s0 4 t = K9 t) (hlm : ∀ i : Int, 0 ≤ i → i < 4 → s0 129 i = l9 i ∧ (l9 i = -1 ∨ (0 ≤ l9 i ∧ l9 i < 100))) (hw : zWc s0 136 n9 w9) (hY : zYq (zYc s0 136)) (hok4 : zok (zY4 (zYc s0 136))) (hsg : zSg s0) (p0 : IC s0) (p1 : IS s0) (p2 : IQ s0) : Met l yX10_home (xws yX10_home cX10_home 5 (some .int)) { frames := 7, cells := 0, slots := 0, locals := 183 } (xP [.ref (h0 + 0), .int (xJ j), .int (xJ n), .int (xJ w)] D g T h0 s0) (xQi D g h0 (fun r τ => xFr (fun k => (158 ≤ k ∧ k < 218) ∨ (7 ≤ k ∧ k < 107) ∨ k = 107 ∨ k = 115 ∨ k = 116 ∨ k = 130 ∨ k = 131 ∨ k = 132 ∨ k = 133 ∨ k = 134 ∨ k = 135 ∨ k = 158 ∨ k = 159 ∨ k = 160 ∨ k = 163 ∨ k = 164 ∨ k = 165 ∨ k = 166 ∨ k = 167 ∨ k = 224 ∨ k = 225) s0 τ ∧ (((IC τ) ∧ (IS τ) ∧ (IQ τ) ∧ True) ∧ (((0 ≤ j ∧ j < 2 ∧ zYc s0 136 j ≠ -1 ∧ 1 ≤ n ∧ n ≤ 5 ∧ (w = 10 ∨ (0 ≤ w ∧ w < n))) ∧ (w = 10 → r = (zbx (zhS K9 q9 l9 n9 w9 j n (zY0 (zYc s0 136))) (z5 n).toNat).1) ∧ (w ≠ 10 → r = zdgt n (zbx (zhS K9 q9 l9 n9 w9 j n (zY0 (zYc s0 136))) (z5 n).toNat).2 w)) ∨ (¬ (0 ≤ j ∧ j < 2 ∧ zYc s0 136 j ≠ -1 ∧ 1 ≤ n ∧ n ≤ 5 ∧ (w = 10 ∨ (0 ≤ w ∧ w < n))) ∧ r = -1))))) 0 0 (xA h0) := by
  refine x_met hσ (by decide) (Nat.le_of_ble_eq_true rfl) ?_
  intro p e s m args below meth c hx hb hr hml hown hT hlk hnm hE hW ls hl
  have hl : lv_has ls 5 [(0, .ref (h0 + 0)), (1, .int (xJ j)), (2, .int (xJ n)), (3, .int (xJ w))] := hl
  obtain ⟨Q, eQ⟩ : ∃ Q, Q = MQ below (xQi D g h0 (fun r τ => xFr (fun k => (158 ≤ k ∧ k < 218) ∨ (7 ≤ k ∧ k < 107) ∨ k = 107 ∨ k = 115 ∨ k = 116 ∨ k = 130 ∨ k = 131 ∨ k = 132 ∨ k = 133 ∨ k = 134 ∨ k = 135 ∨ k = 158 ∨ k = 159 ∨ k = 160 ∨ k = 163 ∨ k = 164 ∨ k = 165 ∨ k = 166 ∨ k = 167 ∨ k = 224 ∨ k = 225) s0 τ ∧ (((IC τ) ∧ (IS τ) ∧ (IQ τ) ∧ True) ∧ (((0 ≤ j ∧ j < 2 ∧ zYc s0 136 j ≠ -1 ∧ 1 ≤ n ∧ n ≤ 5 ∧ (w = 10 ∨ (0 ≤ w ∧ w < n))) ∧ (w = 10 → r = (zbx (zhS K9 q9 l9 n9 w9 j n (zY0 (zYc s0 136))) (z5 n).toNat).1) ∧ (w ≠ 10 → r = zdgt n (zbx (zhS K9 q9 l9 n9 w9 j n (zY0 (zYc s0 136))) (z5 n).toNat).2 w)) ∨ (¬ (0 ≤ j ∧ j < 2 ∧ zYc s0 136 j ≠ -1 ∧ 1 ≤ n ∧ n ≤ 5 ∧ (w = 10 ∨ (0 ≤ w ∧ w < n))) ∧ r = -1))))) args s 0 0 (xA h0) := ⟨_, rfl⟩
  rw [← eQ]
  generalize hHe : ([] : List Loc) = locs at hW ⊢
  obtain ⟨H, eH⟩ : ∃ H, H = s.heap := ⟨_, rfl⟩
  rw [← eH] at hW ⊢
  have hF : xFr (fun k => (158 ≤ k ∧ k < 218) ∨ (7 ≤ k ∧ k < 107) ∨ k = 107 ∨ k = 115 ∨ k = 116 ∨ k = 130 ∨ k = 131 ∨ k = 132 ∨ k = 133 ∨ k = 134 ∨ k = 135 ∨ k = 158 ∨ k = 159 ∨ k = 160 ∨ k = 163 ∨ k = 164 ∨ k = 165 ∨ k = 166 ∨ k = 167 ∨ k = 224 ∨ k = 225) s0 s0 := xFr.rf
  have k1_1 : s0 1 1 = s0 1 1 := rfl
  refine x_aload_n hx hb hl 0 rfl dX10_home_0 rfl ?_
  refine x_get (j := 8) (v := .ref (h0 + 136)) hx hb hown hT hE hW cls_X10 (Or.inl (by decide)) (so_0 h0 g _) (by decide) rfl wq520 dX10_home_1 ?_
  refine x_iload_n hx hb hl 1 rfl dX10_home_4 rfl ?_
  refine x_goi (x_runVN (As := [.int (xJ j)]) hx hb hml hown hT hE hW hl.1 (Or.inl (by decide)) (so_136 h0 g _) rfl cf_X2_hasJudge wq773 wq37 wn911 (c_X2_hasJudgeJ l D g T h0 s0 hW.2.1 136 xd_136 j rj p0) ⟨rfl, rfl, ⟨by decide, by decide⟩, ⟨by decide, by decide⟩⟩ rfl rfl (Nat.le_of_ble_eq_true rfl) dX10_home_5) hW (fun x1 s2 H locs rx1 hp3 hW => ?_)
  obtain ⟨es2, hp3⟩ := hp3
  subst es2
  have ghp3 := hp3
  have H5 := ghp3
  simp only [Nat.reduceAdd] at H5
  have J5 : 0 ≤ j ∧ j < 2 → zYc s0 136 j = s0 137 j := fun h => zYc_J h
  refine x_if_eq (tgt := 20) hx hb rx1 dX10_home_8 (by decide) (fun c4 => ?_) (fun c4 => ?_)
  · skip
    refine x_iconst hx hb dX10_home_20 ?_
    rw [eQ]
    exact x_iret hx hb hr hlk hW (by decide) ⟨hF, ⟨p0, p1, p2, trivial⟩, Or.inr ⟨fun z => by have a := J5 ⟨z.1, z.2.1⟩; have b := z.2.2; omega, by omega⟩⟩ dX10_home_21
  refine x_iload_n hx hb hl 2 rfl dX10_home_11 rfl ?_
  refine x_iconst hx hb dX10_home_12 ?_
  refine x_iconst hx hb dX10_home_13 ?_
  refine x_goi (x_runS (As := [.int (xJ n), .int (xJ 1), .int (xJ 5)]) hx hb hml hown hT hE hW hl.1 cf_X10_isIn wq562 wq561 (c_X10_isIn l D g T h0 s0 hW.2.1 n rn 1 (by decide) 5 (by decide)) ⟨rfl, rfl, ⟨by decide, by decide⟩, ⟨by decide, by decide⟩⟩ rfl rfl (Nat.le_of_ble_eq_true rfl) dX10_home_14) hW (fun x5 s6 H locs rx5 hp7 hW => ?_)
  obtain ⟨es6, hp7⟩ := hp7
  subst es6
  have ghp7 := hp7
  refine x_if_ne (tgt := 22) hx hb rx5 dX10_home_17 (by decide) (fun c8 => ?_) (fun c8 => ?_)
  · skip
    refine x_iload_n hx hb hl 3 rfl dX10_home_22 rfl ?_
    refine x_bipush hx hb dX10_home_23 (by decide) ?_
    refine x_icmp_eq (tgt := 41) hx hb rw (by decide) dX10_home_25 (by decide) (fun c9 => ?_) (fun c9 => ?_)
    · skip
      refine x_aload_n hx hb hl 0 rfl dX10_home_41 rfl ?_
      refine x_get (j := 6) (v := .ref (h0 + 156)) hx hb hown hT hE hW cls_X10 (Or.inl (by decide)) (so_0 h0 g _) (by decide) rfl wq518 dX10_home_42 ?_
      refine x_iload_n hx hb hl 1 rfl dX10_home_45 rfl ?_
      refine x_iload_n hx hb hl 2 rfl dX10_home_46 rfl ?_
      refine x_goi (x_runVN (As := [.int (xJ j), .int (xJ n)]) hx hb hml hown hT hE hW hl.1 (Or.inl (by decide)) (so_156 h0 g _) rfl cf_X3_leastOwedWay wq1020 wq80 wn1018 (c_X3_leastOwedWayF l D g T h0 s0 hW.2.1 j rj n rn K9 n9 w9 q9 l9 (hok) (by first | exact hlc | exact hlc.f (fun k hk => hF k (by omega))) (by first | exact hK | exact fun t t1 t2 => by rw [hF 4 (by omega)]; exact hK t t1 t2) (by first | exact hlm | exact fun i i1 i2 => by rw [hF 129 (by omega)]; exact hlm i i1 i2) (by first | exact hw | exact hw.f (hF _ (by omega)) (fun k hk => hF k (by first | omega | (unfold xDay at hd; omega)))) (hY) (hok4) (by omega) (by omega) (hsg) p0 p1 p2) ⟨rfl, rfl, ⟨by decide, by decide⟩, ⟨by decide, by decide⟩⟩ rfl rfl (Nat.le_of_ble_eq_true rfl) dX10_home_47) hW (fun x10 s11 H locs rx10 hp12 hW => ?_)
      obtain ⟨fs11, hp12⟩ := hp12
      have hF13 := hF.call fs11 (fun k h => by omega)
      have q14 : s11 1 1 = s0 1 1 := (congrFun (fs11 _ (by omega)) _).trans k1_1
      have ghp12 := hp12.2
      have H47 := ghp12
      refine lv_istore (lv' := [(4, .int (xJ x10)), (0, .ref (h0 + 0)), (1, .int (xJ j)), (2, .int (xJ n)), (3, .int (xJ w))]) hx hb dX10_home_50 hl (by decide) rfl (fun ls hl => ?_)
      refine x_iload_n hx hb hl 4 rfl dX10_home_52 rfl ?_
      refine x_bipush hx hb dX10_home_53 (by decide) ?_
      refine x_icmp_ne (tgt := 63) hx hb rw (by decide) dX10_home_55 (by decide) (fun c15 => ?_) (fun c15 => ?_)
      · skip
        refine x_aload_n hx hb hl 1 rfl dX10_home_63 rfl ?_
        refine x_get (j := 6) (v := .ref (h0 + 156)) hx hb hown hT hE hW cls_X10 (Or.inl (by decide)) (so_0 h0 g _) (by decide) rfl wq518 dX10_home_64 ?_
        refine x_getN (j := 5) (v := .ref (h0 + 225)) hx hb hown hT hE hW cls_X3 (Or.inl (by decide)) (so_156 h0 g _) (by decide) rfl wn456 dX10_home_67 ?_
        refine x_iload_n hx hb hl 4 rfl dX10_home_70 rfl ?_
        refine x_iald hx hb hE hW (Or.inl (by decide)) (sa_225 h0 g _) (by omega) (by decide) dX10_home_71 ?_
        refine x_rd hW (fun x16 ex16 rx16 => ?_)
        have V71 := ex16
        rw [eQ]
        exact x_iret hx hb hr hlk hW rx16 ⟨hF13, ⟨hp12.1.1, hp12.1.2.1, hp12.1.2.2.1, trivial⟩, by
            have a := J5 (by omega)
            first
              | exact Or.inl ⟨by omega, fun z => H47.1, fun z => absurd z (by omega)⟩
              | exact Or.inl ⟨by omega, fun z => absurd z (by omega), fun z => V71.trans (H47.2 w (by omega) (by omega))⟩⟩ dX10_home_72
      refine x_iload hx hb hl 0 rfl dX10_home_58 ?_
      refine lv_goto (tgt := 72) hx hb dX10_home_60 (by decide) ?_
      rw [eQ]
      exact x_iret hx hb hr hlk hW rx10 ⟨hF13, ⟨hp12.1.1, hp12.1.2.1, hp12.1.2.2.1, trivial⟩, by
          have a := J5 (by omega)
          first
            | exact Or.inl ⟨by omega, fun z => H47.1, fun z => absurd z (by omega)⟩
            | exact Or.inl ⟨by omega, fun z => absurd z (by omega), fun z => V71.trans (H47.2 w (by omega) (by omega))⟩⟩ dX10_home_72
    refine x_iload_n hx hb hl 3 rfl dX10_home_28 rfl ?_
    refine x_iconst hx hb dX10_home_29 ?_
    refine x_iload_n hx hb hl 2 rfl dX10_home_30 rfl ?_
    refine x_iconst hx hb dX10_home_31 ?_
    refine x_isub hx hb dX10_home_32 ?_
    refine x_goi (x_runS (As := [.int (xJ w), .int (xJ 0), .int (xJ (n - 1))]) hx hb hml hown hT hE hW hl.1 cf_X10_isIn wq562 wq561 (c_X10_isIn l D g T h0 s0 hW.2.1 w rw 0 (by decide) (n - 1) (by omega)) ⟨rfl, rfl, ⟨by decide, by decide⟩, ⟨by decide, by decide⟩⟩ rfl rfl (Nat.le_of_ble_eq_true rfl) dX10_home_33) hW (fun x17 s18 H locs rx17 hp19 hW => ?_)
    obtain ⟨es18, hp19⟩ := hp19
    subst es18
    have ghp19 := hp19
    refine x_if_ne (tgt := 41) hx hb rx17 dX10_home_36 (by decide) (fun c20 => ?_) (fun c20 => ?_)
    · skip
      refine x_aload_n hx hb hl 0 rfl dX10_home_41 rfl ?_
      refine x_get (j := 6) (v := .ref (h0 + 156)) hx hb hown hT hE hW cls_X10 (Or.inl (by decide)) (so_0 h0 g _) (by decide) rfl wq518 dX10_home_42 ?_
      refine x_iload_n hx hb hl 1 rfl dX10_home_45 rfl ?_
      refine x_iload_n hx hb hl 2 rfl dX10_home_46 rfl ?_
      refine x_goi (x_runVN (As := [.int (xJ j), .int (xJ n)]) hx hb hml hown hT hE hW hl.1 (Or.inl (by decide)) (so_156 h0 g _) rfl cf_X3_leastOwedWay wq1020 wq80 wn1018 (c_X3_leastOwedWayF l D g T h0 s0 hW.2.1 j rj n rn K9 n9 w9 q9 l9 (hok) (by first | exact hlc | exact hlc.f (fun k hk => hF k (by omega))) (by first | exact hK | exact fun t t1 t2 => by rw [hF 4 (by omega)]; exact hK t t1 t2) (by first | exact hlm | exact fun i i1 i2 => by rw [hF 129 (by omega)]; exact hlm i i1 i2) (by first | exact hw | exact hw.f (hF _ (by omega)) (fun k hk => hF k (by first | omega | (unfold xDay at hd; omega)))) (hY) (hok4) (by omega) (by omega) (hsg) p0 p1 p2) ⟨rfl, rfl, ⟨by decide, by decide⟩, ⟨by decide, by decide⟩⟩ rfl rfl (Nat.le_of_ble_eq_true rfl) dX10_home_47) hW (fun x21 s22 H locs rx21 hp23 hW => ?_)
      obtain ⟨fs22, hp23⟩ := hp23
      have hF24 := hF.call fs22 (fun k h => by omega)
      have q25 : s22 1 1 = s0 1 1 := (congrFun (fs22 _ (by omega)) _).trans k1_1
      have ghp23 := hp23.2
      have H47 := ghp23
      refine lv_istore (lv' := [(4, .int (xJ x21)), (0, .ref (h0 + 0)), (1, .int (xJ j)), (2, .int (xJ n)), (3, .int (xJ w))]) hx hb dX10_home_50 hl (by decide) rfl (fun ls hl => ?_)
      refine x_iload_n hx hb hl 4 rfl dX10_home_52 rfl ?_
      refine x_bipush hx hb dX10_home_53 (by decide) ?_
      refine x_icmp_ne (tgt := 63) hx hb rw (by decide) dX10_home_55 (by decide) (fun c26 => ?_) (fun c26 => ?_)
      · skip
        refine x_aload_n hx hb hl 1 rfl dX10_home_63 rfl ?_
        refine x_get (j := 6) (v := .ref (h0 + 156)) hx hb hown hT hE hW cls_X10 (Or.inl (by decide)) (so_0 h0 g _) (by decide) rfl wq518 dX10_home_64 ?_
        refine x_getN (j := 5) (v := .ref (h0 + 225)) hx hb hown hT hE hW cls_X3 (Or.inl (by decide)) (so_156 h0 g _) (by decide) rfl wn456 dX10_home_67 ?_
        refine x_iload_n hx hb hl 4 rfl dX10_home_70 rfl ?_
        refine x_iald hx hb hE hW (Or.inl (by decide)) (sa_225 h0 g _) (by omega) (by decide) dX10_home_71 ?_
        refine x_rd hW (fun x27 ex27 rx27 => ?_)
        have V71 := ex27
        rw [eQ]
        exact x_iret hx hb hr hlk hW rx27 ⟨hF24, ⟨hp23.1.1, hp23.1.2.1, hp23.1.2.2.1, trivial⟩, by
            have a := J5 (by omega)
            first
              | exact Or.inl ⟨by omega, fun z => H47.1, fun z => absurd z (by omega)⟩
              | exact Or.inl ⟨by omega, fun z => absurd z (by omega), fun z => V71.trans (H47.2 w (by omega) (by omega))⟩⟩ dX10_home_72
      refine x_iload hx hb hl 0 rfl dX10_home_58 ?_
      refine lv_goto (tgt := 72) hx hb dX10_home_60 (by decide) ?_
      rw [eQ]
      exact x_iret hx hb hr hlk hW rx21 ⟨hF24, ⟨hp23.1.1, hp23.1.2.1, hp23.1.2.2.1, trivial⟩, by
          have a := J5 (by omega)
          first
            | exact Or.inl ⟨by omega, fun z => H47.1, fun z => absurd z (by omega)⟩
            | exact Or.inl ⟨by omega, fun z => absurd z (by omega), fun z => V71.trans (H47.2 w (by omega) (by omega))⟩⟩ dX10_home_72
    refine x_iconst hx hb dX10_home_39 ?_
    rw [eQ]
    exact x_iret hx hb hr hlk hW (by decide) ⟨hF, ⟨p0, p1, p2, trivial⟩, Or.inr ⟨fun z => by have b := z.2.2; omega, by omega⟩⟩ dX10_home_40
  refine x_iconst hx hb dX10_home_20 ?_
  rw [eQ]
  exact x_iret hx hb hr hlk hW (by decide) ⟨hF, ⟨p0, p1, p2, trivial⟩, Or.inr ⟨fun z => by have a := J5 ⟨z.1, z.2.1⟩; have b := z.2.2; omega, by omega⟩⟩ dX10_home_21

/-! ===== the other side's way of its own ===== -/
def zhk (K n : Int → Int) (w : Int → Int → Int) (j v : Int) (P : Int × Int × Int × Int) : Int × Int × Int × Int := if j = 0 then zjk K n w 1 (znW K P.1 P.2.1 v, P.2.1, P.2.2.1, P.2.2.2) else ((zjk K n w 0 P).1, znW K (zjk K n w 0 P).2.1 (zjk K n w 0 P).1 v, (zjk K n w 0 P).2.2.1, (zjk K n w 0 P).2.2.2)
noncomputable def zhr (K : Int → Int) (q : zLaw) (lm n : Int → Int) (w : Int → Int → Int) (j g ah : Int) (Y : Int → Int) : Int → Int := if Y 44 < 9999 then zmB K q lm ah (zYj Y (zhk K n w j (2 * g) (zY4 Y))) else Y
noncomputable def zhR (K : Int → Int) (q : zLaw) (lm n : Int → Int) (w : Int → Int → Int) (j ah : Int) (g Y : Int → Int) : Nat → Int → Int
  | 0 => Y
  | k + 1 => zhr K q lm n w j (g (k : Int)) ah (zhR K q lm n w j ah g Y k)
def zYh (e : Int) (Y Y2 : Int → Int) : Prop := ∀ i : Int, i ≠ e → i ≠ 46 → i ≠ 47 → i ≠ 48 → Y i = Y2 i
section YH
variable {K n lm L T : Int → Int} {w : Int → Int → Int} {q : zLaw} {Y Y2 g : Int → Int} {ah f nt e j v : Int} {P : Int × Int × Int × Int}
theorem zYh.ff (h : zYh e Y Y2) (he : e = 2 ∨ e = 3) (hf : 0 ≤ f ∧ f < 10) : zff K Y f = zff K Y2 f := by
  unfold zff
  rw [h 44 (by omega) (by decide) (by decide) (by decide), h (14 + f) (by omega) (by omega) (by omega) (by omega), h (24 + f) (by omega) (by omega) (by omega) (by omega), h (4 + f) (by omega) (by omega) (by omega) (by omega)]
theorem zYh.vF (h : zYh e Y Y2) (he : e = 2 ∨ e = 3) (hf : 0 ≤ f ∧ f < 10) {kd hi : Int} : zvF K q Y kd hi f = zvF K q Y2 kd hi f := by
  unfold zvF
  rw [h.ff he hf]
theorem zYh.ow (h : zYh e Y Y2) (he : e = 2 ∨ e = 3) (hf : 0 ≤ f ∧ f < 10) : zOw Y f ↔ zOw Y2 f := by
  unfold zOw
  rw [h (14 + f) (by omega) (by omega) (by omega) (by omega), h (34 + f) (by omega) (by omega) (by omega) (by omega), h (4 + f) (by omega) (by omega) (by omega) (by omega)]
theorem zYh.lu (h : zYh e Y Y2) (he : e = 2 ∨ e = 3) {tp : Int} : ∀ m : Nat, m ≤ 10 → zlu K q Y ah tp m = zlu K q Y2 ah tp m
  | 0, _ => rfl
  | m + 1, hm => by
    have ih := h.lu he (tp := tp) m (by omega)
    by_cases c : zOw Y (m : Int)
    · rw [zlu_y rfl c, zlu_y rfl ((h.ow he (by omega)).mp c), ih]
      refine zins_cg (fun x hx => ?_)
      have z := zlu_mem hx
      have er : ∀ y : Int, 0 ≤ y ∧ y < 10 → zrq K q Y ah tp y = zrq K q Y2 ah tp y := fun y hy => by
        unfold zrq
        rw [h.vF he hy]
      rw [er x (by omega), er (m : Int) (by omega)]
    · rw [zlu_n rfl c, zlu_n rfl (fun k => c ((h.ow he (by omega)).mpr k)), ih]
theorem zYh.sv (h : zYh e Y Y2) (he : e = 2 ∨ e = 3) (hf : 0 ≤ f ∧ f < 10) : zYh e (zsv K q L nt f (Y, T)).1 (zsv K q L nt f (Y2, T)).1 ∧ (zsv K q L nt f (Y, T)).2 = (zsv K q L nt f (Y2, T)).2 := by
  have e4 := h (4 + f) (by omega) (by omega) (by omega) (by omega)
  have ev := h.vF (K := K) (q := q) (kd := 118) (hi := 3) he hf
  obtain ⟨b, hb⟩ : ∃ b, b = zbk K L T (Y (4 + f)) (zvF K q Y 118 3 f).toNat 100 := ⟨_, rfl⟩
  have hb2 : b = zbk K L T (Y2 (4 + f)) (zvF K q Y2 118 3 f).toNat 100 := by rw [← e4, ← ev]; exact hb
  by_cases c : b = -1
  · rw [zsv_none (by rw [← hb]; exact c), zsv_none (by rw [← hb2]; exact c)]
    refine ⟨fun i h0 h1 h2 h3 => ?_, rfl⟩
    show xud (xud Y 46 _) (24 + f) _ i = xud (xud Y2 46 _) (24 + f) _ i
    rw [h (24 + f) (by omega) (by omega) (by omega) (by omega)]
    exact zud_c (fun _ => by rw [xud_o _ _ h1, xud_o _ _ h1]; exact h i h0 h1 h2 h3)
  · rw [zsv_some hb c, zsv_some hb2 c]
    refine ⟨fun i h0 h1 h2 h3 => ?_, rfl⟩
    show xud (xud (xud (xud Y 48 _) (4 + f) b) (14 + f) _) (34 + f) _ i = xud (xud (xud (xud Y2 48 _) (4 + f) b) (14 + f) _) (34 + f) _ i
    rw [h (14 + f) (by omega) (by omega) (by omega) (by omega), h (34 + f) (by omega) (by omega) (by omega) (by omega), h 44 (by omega) (by decide) (by decide) (by decide)]
    exact zud_c (fun _ => zud_c (fun _ => zud_c (fun _ => by rw [xud_o _ _ h3, xud_o _ _ h3]; exact h i h0 h1 h2 h3)))
theorem zYh.go (h : zYh e Y Y2) (he : e = 2 ∨ e = 3) : ∀ l : List Int, (∀ x, x ∈ l → 0 ≤ x ∧ x < 10) → zYh e (zgo K q L nt l (Y, T)).1 (zgo K q L nt l (Y2, T)).1 ∧ (zgo K q L nt l (Y, T)).2 = (zgo K q L nt l (Y2, T)).2
  | [], _ => ⟨h, rfl⟩
  | f :: r, hm => by
    have ih := h.go he r (fun x hx => hm x (List.mem_cons_of_mem _ hx))
    have hf := hm f List.mem_cons_self
    obtain ⟨S1, e1⟩ : ∃ S, S = zgo K q L nt r (Y, T) := ⟨_, rfl⟩
    obtain ⟨S2, e2⟩ : ∃ S, S = zgo K q L nt r (Y2, T) := ⟨_, rfl⟩
    show zYh e (zsv K q L nt f (zgo K q L nt r (Y, T))).1 (zsv K q L nt f (zgo K q L nt r (Y2, T))).1 ∧ (zsv K q L nt f (zgo K q L nt r (Y, T))).2 = (zsv K q L nt f (zgo K q L nt r (Y2, T))).2
    rw [← e1, ← e2] at ih ⊢
    obtain ⟨A1, T1⟩ := S1
    obtain ⟨A2, T2⟩ := S2
    have i2 : T1 = T2 := ih.2
    subst i2
    exact zYh.sv ih.1 he hf
theorem zYh.b3 (h : zYh e Y Y2) (he : e = 2 ∨ e = 3) : zYh e (zb3 q Y) (zb3 q Y2) ∧ zcl q Y = zcl q Y2 := by
  have ec : zcl q Y = zcl q Y2 := by
    unfold zcl
    rw [h 44 (by omega) (by decide) (by decide) (by decide), h 45 (by omega) (by decide) (by decide) (by decide)]
  refine ⟨fun i h0 h1 h2 h3 => ?_, ec⟩
  unfold zb3
  rw [← ec, h 45 (by omega) (by decide) (by decide) (by decide)]
  split
  · rw [xud_o _ _ h2, xud_o _ _ h2]
    exact zud_c (fun _ => h i h0 h1 h2 h3)
  · exact zud_c (fun _ => h i h0 h1 h2 h3)
theorem zYh.mB (h : zYh e Y Y2) (he : e = 2 ∨ e = 3) : zYh e (zmB K q lm ah Y) (zmB K q lm ah Y2) := by
  have z := h.b3 (q := q) he
  have e44 := h 44 (by omega) (by decide) (by decide) (by decide)
  have eL : zbL K q lm Y = zbL K q lm Y2 := by
    funext t
    unfold zbL
    rw [e44, z.2, zLy_J (J2 := zb3 q Y) (J := zb3 q Y2) (z.1 0 (by omega) (by decide) (by decide) (by decide)) (z.1 1 (by omega) (by decide) (by decide) (by decide))]
  have el : zlu K q (zb3 q Y) ah 1000 10 = zlu K q (zb3 q Y2) ah 1000 10 := z.1.lu he 10 (by decide)
  have g := z.1.go (K := K) (q := q) (L := zbL K q lm Y2) (nt := zni q (Y2 44)) (T := fun _ => 0) he (zlu K q (zb3 q Y2) ah 1000 10) (fun x hx => zlu_in hx (by decide))
  intro i h0 h1 h2 h3
  unfold zmB zb4
  rw [e44, eL, el]
  exact zud_c (fun _ => g.1 i h0 h1 h2 h3)
theorem zYh.sm (h : zYh e Y Y2) (he : e = 2 ∨ e = 3) : zSm Y = zSm Y2 := zSm_o (fun g g1 g2 => h _ (by omega) (by omega) (by omega) (by omega))
/-- one that is told stays told -/
theorem znW_t {a b : Int} (h : a ≠ -1) : znW K a b v ≠ -1 := by
  unfold znW
  split
  · exact h
  · rename_i c
    exact fun q => c (Or.inr (Or.inl q))
theorem zhk_0 : zhk K n w 0 v P = zjk K n w 1 (znW K P.1 P.2.1 v, P.2.1, P.2.2.1, P.2.2.2) := if_pos rfl
theorem zhk_1 : zhk K n w 1 v P = ((zjk K n w 0 P).1, znW K (zjk K n w 0 P).2.1 (zjk K n w 0 P).1 v, (zjk K n w 0 P).2.2.1, (zjk K n w 0 P).2.2.2) := if_neg (by decide)
theorem zhR_s {k : Nat} (h : zhR K q lm n w j ah g Y k 44 < 9999) : zhR K q lm n w j ah g Y (k + 1) = zmB K q lm ah (zYj (zhR K q lm n w j ah g Y k) (zhk K n w j (2 * g (k : Int)) (zY4 (zhR K q lm n w j ah g Y k)))) := if_pos h
theorem zhR_stop {k : Nat} (h : 9999 ≤ zhR K q lm n w j ah g Y k 44) : ∀ i : Nat, zhR K q lm n w j ah g Y (k + i) = zhR K q lm n w j ah g Y k
  | 0 => rfl
  | i + 1 => by
    have ih := zhR_stop h i
    show (if zhR K q lm n w j ah g Y (k + i) 44 < 9999 then _ else zhR K q lm n w j ah g Y (k + i)) = _
    rw [ih, if_neg (by omega)]
end YH
noncomputable def zhT (K : Int → Int) (q : zLaw) (lm n : Int → Int) (w : Int → Int → Int) (j m ah : Int) (Y : Int → Int) (c : Int) : Int := zSm Y - zSm (zhR K q lm n w j ah (zdgt m c) Y m.toNat)
theorem zYN_uJ {N : Int → Int} {a c s j v : Int} (hj : 0 ≤ j ∧ j < 2) (ht : xsh (N 34) j % 2 = 1) : zYN (xud N j v) a c s = xud (zYN N a c s) j v := by
  refine zYN_c (i0 := j) (Y := zYN N a c s) (fun i hi => ?_) ?_
  · by_cases h : 0 ≤ i ∧ i < 2
    · rw [zYN_J h, zYN_J h]
      exact zrj_c (xud_o _ _ hi) (xud_o _ _ (by omega))
    · unfold zYN
      rw [xud_o _ _ (show (35 : Int) ≠ j from by omega), xud_o _ _ (show (36 : Int) ≠ j from by omega), xud_o _ _ (show (37 : Int) ≠ j from by omega), xud_o _ _ (show (38 : Int) ≠ j from by omega)]
      by_cases b : i < 0
      · rw [if_pos b, if_pos b]
      · rw [if_neg b, if_neg b, if_neg (show ¬ i < 2 from by omega), if_neg (show ¬ i < 2 from by omega), xud_o _ _ hi]
  · rw [zYN_J hj, zrj_p (by rw [xud_o _ _ (by omega)]; exact ht), xud_s]
section YR
variable {K n lm : Int → Int} {w : Int → Int → Int} {q : zLaw} {Y g N : Int → Int} {ah j v a b : Int} {P : Int × Int × Int × Int}
theorem zrt_u0 (h : xsh (N 34) 0 % 2 = 1) : zrt (xud N 0 v) = (v, (zrt N).2.1, (zrt N).2.2.1, (zrt N).2.2.2) := by
  show (zrj _ 0, zrj _ 1, xud N 0 v 2, xud N 0 v 3) = (v, zrj N 1, N 2, N 3)
  rw [zrj_p (by rw [xud_o _ _ (by decide)]; exact h), xud_s, zrj_o (by decide) (by decide), xud_o _ _ (by decide), xud_o _ _ (by decide)]
theorem zrt_u1 (h : xsh (N 34) 1 % 2 = 1) : zrt (xud N 1 v) = ((zrt N).1, v, (zrt N).2.2.1, (zrt N).2.2.2) := by
  show (zrj _ 0, zrj _ 1, xud N 1 v 2, xud N 1 v 3) = (zrj N 0, v, N 2, N 3)
  rw [zrj_p (j := 1) (by rw [xud_o _ _ (by decide)]; exact h), xud_s, zrj_o (by decide) (by decide), xud_o _ _ (by decide), xud_o _ _ (by decide)]
theorem znW_g (h : a ≠ -1) (ha : K a ≠ 1 ∧ K a ≠ 3) (hb : a ≠ b) : (K (znW K a b v) ≠ 1 ∧ K (znW K a b v) ≠ 3) ∧ znW K a b v ≠ b := by
  unfold znW
  by_cases h2 : v = 8 ∨ zbe a v = -1 ∨ K (zbe a v) = 1 ∨ K (zbe a v) = 3 ∨ b = zbe a v
  · rw [if_pos h2]; exact ⟨ha, hb⟩
  · rw [if_neg h2]
    exact ⟨⟨fun e => h2 (Or.inr (Or.inr (Or.inl e))), fun e => h2 (Or.inr (Or.inr (Or.inr (Or.inl e))))⟩, fun e => h2 (Or.inr (Or.inr (Or.inr (Or.inr e.symm))))⟩
theorem zhk_g (h : zJt K P) (hj : 0 ≤ j ∧ j < 2) (h0 : j = 0 → P.1 ≠ -1) (h1 : j = 1 → P.2.1 ≠ -1) : zJt K (zhk K n w j v P) := by
  obtain ⟨a, b, c, d⟩ := P
  obtain ⟨k1, k2, k3⟩ := h
  have k1 : a = -1 ∨ (K a ≠ 1 ∧ K a ≠ 3) := k1
  have k2 : b = -1 ∨ (K b ≠ 1 ∧ K b ≠ 3) := k2
  have k3 : a ≠ b ∨ a = -1 := k3
  rcases (by omega : j = 0 ∨ j = 1) with rfl | rfl
  · have t : a ≠ -1 := h0 rfl
    have z := znW_g (v := v) t (k1.resolve_left t) (k3.resolve_right t)
    have g2 := znw_g (K := K) (a := b) (b := znW K a b v) (c := d) (m := n 1) (v := w 1 d) k2 (by
      by_cases hb : b = -1
      · exact Or.inr hb
      · exact Or.inl (fun q => z.2 q.symm))
    have t2 : znW K a b v ≠ -1 := znW_t t
    show zJt K (znW K a b v, znw K b (znW K a b v) d (n 1) (w 1 d), c, znc b d (n 1))
    refine ⟨Or.inr z.1, g2.1, Or.inl ?_⟩
    show znW K a b v ≠ znw K b (znW K a b v) d (n 1) (w 1 d)
    rcases g2.2 with e | e
    · exact fun q => e q.symm
    · rw [e]; exact t2
  · have t : b ≠ -1 := h1 rfl
    have g1 := znw_g (K := K) (c := c) (m := n 0) (v := w 0 c) k1 k3
    have nb : b ≠ znw K a b c (n 0) (w 0 c) := by
      rcases g1.2 with e | e
      · exact fun q => e q.symm
      · rw [e]; exact t
    have z := znW_g (v := v) t (k2.resolve_left t) nb
    show zJt K (znw K a b c (n 0) (w 0 c), znW K b (znw K a b c (n 0) (w 0 c)) v, znc a c (n 0), d)
    exact ⟨g1.1, Or.inr z.1, Or.inl (fun q => z.2 q.symm)⟩
theorem zmB_sm (hY : zYq Y) : zSm (zmB K q lm ah Y) ≤ zSm Y ∧ zYq (zmB K q lm ah Y) := by
  have hL : ∀ t : Int, 0 ≤ t → t < 100 → 0 ≤ zbL K q lm Y t := fun t _ _ => (zLy_r K q lm (Y 44) (zb3 q Y) (if zcl q Y ≠ 0 then 0 else 1) (zni q (Y 44)) t).1
  have z := zgo_sm (K := K) (q := q) (L := zbL K q lm Y) (nt := zni q (Y 44)) (T := fun _ => 0) hL (zb3_q (q := q) hY) (zlu K q (zb3 q Y) ah 1000 10) (fun x hx => zlu_in hx (by decide))
  have y := zgo_q (K := K) (q := q) (L := zbL K q lm Y) (nt := zni q (Y 44)) (T := fun _ => 0) hL (zb3_q (q := q) hY) (zlu K q (zb3 q Y) ah 1000 10) (fun x hx => zlu_in hx (by decide))
  have e1 : zSm (zmB K q lm ah Y) = zSm (zb4 K q lm ah Y) := zSm_o (fun g g1 g2 => xud_o _ _ (by omega))
  have e2 : zSm (zb3 q Y) = zSm Y := zSm_o (fun g g1 g2 => zb3_o (by omega))
  refine ⟨by rw [e1, ← e2]; exact z, fun f f1 f2 => ?_⟩
  unfold zmB
  rw [xud_o _ _ (by omega), xud_o _ _ (by omega), xud_o _ _ (by omega), xud_o _ _ (by omega)]
  exact y f f1 f2
theorem zYj_q (h : zYq Y) : zYq (zYj Y P) := fun f f1 f2 => by
  rw [zYj_o (by omega), zYj_o (by omega), zYj_o (by omega), zYj_o (by omega)]
  exact h f f1 f2
theorem zYj_sm : zSm (zYj Y P) = zSm Y := zSm_o (fun g g1 g2 => zYj_o (by omega))
theorem zhR_q (h : zYq Y) : ∀ k : Nat, zYq (zhR K q lm n w j ah g Y k) ∧ zSm (zhR K q lm n w j ah g Y k) ≤ zSm Y
  | 0 => ⟨h, Int.le_refl _⟩
  | k + 1 => by
    have ih := zhR_q h k
    show zYq (zhr K q lm n w j (g (k : Int)) ah (zhR K q lm n w j ah g Y k)) ∧ zSm (zhr K q lm n w j (g (k : Int)) ah (zhR K q lm n w j ah g Y k)) ≤ zSm Y
    unfold zhr
    split
    · have z := zmB_sm (K := K) (q := q) (lm := lm) (ah := ah) (zYj_q (P := zhk K n w j (2 * g (k : Int)) (zY4 (zhR K q lm n w j ah g Y k))) ih.1)
      rw [zYj_sm] at z
      exact ⟨z.2, Int.le_trans z.1 ih.2⟩
    · exact ih
theorem zhT_r {m c : Int} (h : zYq Y) : 0 ≤ zhT K q lm n w j m ah Y c := by
  have z := (zhR_q (K := K) (q := q) (lm := lm) (n := n) (w := w) (j := j) (ah := ah) (g := zdgt m c) h m.toNat).2
  unfold zhT
  omega
end YR
theorem zdgt_r {m c i : Int} (hc : 0 ≤ c) : 0 ≤ zdgt m c i ∧ zdgt m c i ≤ 4 := by
  unfold zdgt
  omega
set_option maxHeartbeats 4000000 in
set_option maxRecDepth 100000 in
theorem c_X11_stepInF (l : Launch) (D : va_G) (g : xG) (T : Nat × Nat × Nat) (h0 : Nat) (s0 : xS) (hσ : xRR s0) (a : Int) (ra : xR a) (n : Int) (rn : xR n) (q : Int) (rq : xR q) (ha : 0 ≤ a ∧ a ≤ 3125) (hq : 0 ≤ q ∧ q < n ∧ n ≤ 5) : Met l yX11_stepIn (xws yX11_stepIn cX11_stepIn 5 (some .int)) { frames := 0, cells := 0, slots := 0, locals := 0 } (xP [.int (xJ a), .int (xJ n), .int (xJ q)] D g T h0 s0) (xQi D g h0 (fun r τ => s0 = τ ∧ (r = 2 * zdgt n a q))) 0 0 (xA h0) := by
  refine x_met hσ (by decide) (Nat.le_of_ble_eq_true rfl) ?_
  intro p e s m args below meth c hx hb hr hml hown hT hlk hnm hE hW ls hl
  have hl : lv_has ls 5 [(0, .int (xJ a)), (1, .int (xJ n)), (2, .int (xJ q))] := hl
  obtain ⟨Q, eQ⟩ : ∃ Q, Q = MQ below (xQi D g h0 (fun r τ => s0 = τ ∧ (r = 2 * zdgt n a q))) args s 0 0 (xA h0) := ⟨_, rfl⟩
  rw [← eQ]
  generalize hHe : ([] : List Loc) = locs at hW ⊢
  obtain ⟨H, eH⟩ : ∃ H, H = s.heap := ⟨_, rfl⟩
  rw [← eH] at hW ⊢
  refine x_iload_n hx hb hl 0 rfl dX11_stepIn_0 rfl ?_
  refine lv_istore_n (lv' := [(3, .int (xJ a)), (0, .int (xJ a)), (1, .int (xJ n)), (2, .int (xJ q))]) hx hb dX11_stepIn_1 rfl hl (by decide) rfl (fun ls hl => ?_)
  refine x_iload_n hx hb hl 2 rfl dX11_stepIn_2 rfl ?_
  refine x_iconst hx hb dX11_stepIn_3 ?_
  refine x_isub hx hb dX11_stepIn_4 ?_
  refine x_nm (fun x1 ex1 => ?_)
  refine lv_istore (lv' := [(4, .int (xJ x1)), (3, .int (xJ a)), (0, .int (xJ a)), (1, .int (xJ n)), (2, .int (xJ q))]) hx hb dX11_stepIn_5 hl (by decide) rfl (fun ls hl => ?_)
  have L7 : ∀ (fu : Nat) (i3_7 : Int) (i4_7 : Int) (ls : Array Slot), (xR i3_7) → (xR i4_7) → (q ≤ i4_7 ∧ i4_7 ≤ n - 1) → (i3_7 = zd5 a (n - 1 - i4_7).toNat) → (0 ≤ i3_7 ∧ i3_7 ≤ 3125) → (i4_7 - q).toNat < fu → lv_has ls 5 [(2, .int (xJ q)), (3, .int (xJ i3_7)), (4, .int (xJ i4_7))] → W p l e { frames := 0, cells := 0, slots := 0, locals := 0 } s m args below meth c H locs 0 0 Q (F0 m 7 ls []) := by
    intro fu
    induction fu with
    | zero => intro i3_7 i4_7 ls ri3_7 ri4_7 v7_0 v7_1 v7_2 hm; exact absurd hm (Nat.not_lt_zero _)
    | succ fu ih7 =>
      intro i3_7 i4_7 ls ri3_7 ri4_7 v7_0 v7_1 v7_2 hm  hl
      have hm_7 := fun (_ : Unit) => hm
      clear hm
      refine x_iload hx hb hl 2 rfl dX11_stepIn_7 ?_
      refine x_iload_n hx hb hl 0 rfl dX11_stepIn_9 rfl ?_
      refine x_icmp_le (tgt := 23) hx hb ri4_7 rq dX11_stepIn_10 (by decide) (fun c2 => ?_) (fun c2 => ?_)
      · skip
        refine x_iconst hx hb dX11_stepIn_23 ?_
        refine x_iload_n hx hb hl 1 rfl dX11_stepIn_24 rfl ?_
        refine x_iconst hx hb dX11_stepIn_25 ?_
        refine x_irem hx hb ri3_7 (by decide) (by omega) (by decide) dX11_stepIn_26 ?_
        refine x_imul hx hb dX11_stepIn_27 ?_
        rw [eQ]
        exact x_iret hx hb hr hlk hW (by omega) ⟨rfl, by
            unfold zdgt
            rw [show (n - 1 - q).toNat = (n - 1 - i4_7).toNat from by omega]
            omega⟩ dX11_stepIn_28
      refine x_iload_n hx hb hl 1 rfl dX11_stepIn_13 rfl ?_
      refine x_iconst hx hb dX11_stepIn_14 ?_
      refine x_idiv hx hb ri3_7 (by decide) (by omega) (by decide) dX11_stepIn_15 ?_
      refine x_nm (fun x3 ex3 => ?_)
      refine lv_istore_n (lv' := [(3, .int (xJ x3)), (2, .int (xJ q)), (4, .int (xJ i4_7))]) hx hb dX11_stepIn_16 rfl hl (by decide) rfl (fun ls hl => ?_)
      refine x_iinc (lv' := [(4, .int (xJ (i4_7 + (-1)))), (3, .int (xJ x3)), (2, .int (xJ q))]) hx hb hl 2 rfl dX11_stepIn_17 (by decide) rfl (fun ls hl => ?_)
      refine lv_goto (tgt := 7) hx hb dX11_stepIn_20 (by decide) ?_
      exact ih7 x3 (i4_7 + (-1)) ls (by omega) (by omega) (by omega) (by rw [show (n - 1 - (i4_7 + (-1))).toNat = (n - 1 - i4_7).toNat + 1 from by omega]; show _ = zd5 a (n - 1 - i4_7).toNat / 5; omega) (by omega) (by have hm := hm_7 (); omega)  (lv_sub hl [2, 1, 0] rfl)
  exact L7 ((x1 - q : Int).toNat + 1) a x1 ls ra (by omega) (by omega) (by rw [show (n - 1 - x1).toNat = 0 from by omega]; rfl) (by omega) (Nat.lt_succ_self _)  (lv_sub hl [4, 1, 0] rfl)
set_option maxHeartbeats 4000000 in
set_option maxRecDepth 100000 in
theorem c_X11_servedInF (l : Launch) (D : va_G) (g : xG) (T : Nat × Nat × Nat) (h0 : Nat) (s0 : xS) (hσ : xRR s0) (j : Int) (rj : xR j) (n : Int) (rn : xR n) (a : Int) (ra : xR a) (K9 : Int → Int) (n9 : Int → Int) (w9 : Int → Int → Int) (q9 : zLaw) (l9 : Int → Int) (hok : zLok q9) (hlr : zLR s0 q9) (hK : ∀ t : Int, 0 ≤ t → t < 100 → s0 272 t = K9 t ∧ 0 ≤ K9 t ∧ K9 t ≤ 3) (hlm : ∀ i : Int, 0 ≤ i → i < 4 → s0 273 i = l9 i) (hw : ∀ j : Int, 0 ≤ j → j < 2 → s0 274 j = n9 j ∧ ∀ i : Int, 0 ≤ i → i < n9 j → s0 275 (60 * j + i) = w9 j i) (hY : zYq (zYr s0)) (hB : 0 ≤ s0 269 36 ∧ s0 269 36 < 1024) (hJt : zJt K9 (zY4 (zYr s0))) (hj : 0 ≤ j ∧ j < 2) (hn5 : 1 ≤ n ∧ n ≤ 5) (ha : 0 ≤ a ∧ a ≤ 3125) (htj : xsh (s0 269 34) j % 2 = 1) (p0 : IMn s0) (p1 : IMk s0) (p2 : IMo s0) : Met l yX11_servedIn (xws yX11_servedIn cX11_servedIn 5 (some .int)) { frames := 8, cells := 0, slots := 0, locals := 187 } (xP [.ref (h0 + 268), .int (xJ j), .int (xJ n), .int (xJ a)] D g T h0 s0) (xQi D g h0 (fun r τ => xFr (fun k => k = 268 ∨ k = 269 ∨ k = 270 ∨ k = 293 ∨ k = 294 ∨ k = 295 ∨ k = 296 ∨ k = 297 ∨ k = 298 ∨ k = 299) s0 τ ∧ (((IMn τ) ∧ (IMk τ) ∧ (IMo τ) ∧ (τ 268 8 = s0 268 8) ∧ (τ 268 58 = s0 268 58) ∧ (τ 268 17 = s0 268 17) ∧ (τ 268 48 = s0 268 48) ∧ True) ∧ (r = zhT K9 q9 l9 n9 w9 j n (s0 268 48) (zYN (s0 269) 0 0 0) a ∧ (∀ q : Int, 0 ≤ q → q < 39 → τ 269 q = s0 269 q))))) 0 0 (xA h0) := by
  refine x_met hσ (by decide) (Nat.le_of_ble_eq_true rfl) ?_
  intro p e s m args below meth c hx hb hr hml hown hT hlk hnm hE hW ls hl
  have hl : lv_has ls 5 [(0, .ref (h0 + 268)), (1, .int (xJ j)), (2, .int (xJ n)), (3, .int (xJ a))] := hl
  obtain ⟨Q, eQ⟩ : ∃ Q, Q = MQ below (xQi D g h0 (fun r τ => xFr (fun k => k = 268 ∨ k = 269 ∨ k = 270 ∨ k = 293 ∨ k = 294 ∨ k = 295 ∨ k = 296 ∨ k = 297 ∨ k = 298 ∨ k = 299) s0 τ ∧ (((IMn τ) ∧ (IMk τ) ∧ (IMo τ) ∧ (τ 268 8 = s0 268 8) ∧ (τ 268 58 = s0 268 58) ∧ (τ 268 17 = s0 268 17) ∧ (τ 268 48 = s0 268 48) ∧ True) ∧ (r = zhT K9 q9 l9 n9 w9 j n (s0 268 48) (zYN (s0 269) 0 0 0) a ∧ (∀ q : Int, 0 ≤ q → q < 39 → τ 269 q = s0 269 q))))) args s 0 0 (xA h0) := ⟨_, rfl⟩
  rw [← eQ]
  generalize hHe : ([] : List Loc) = locs at hW ⊢
  obtain ⟨H, eH⟩ : ∃ H, H = s.heap := ⟨_, rfl⟩
  rw [← eH] at hW ⊢
  have hF : xFr (fun k => k = 268 ∨ k = 269 ∨ k = 270 ∨ k = 293 ∨ k = 294 ∨ k = 295 ∨ k = 296 ∨ k = 297 ∨ k = 298 ∨ k = 299) s0 s0 := xFr.rf
  have k268_8 : s0 268 8 = s0 268 8 := rfl
  have k268_58 : s0 268 58 = s0 268 58 := rfl
  have k268_17 : s0 268 17 = s0 268 17 := rfl
  have k268_48 : s0 268 48 = s0 268 48 := rfl
  have k269_37 : s0 269 37 = s0 269 37 := rfl
  refine x_aload_n hx hb hl 0 rfl dX11_servedIn_0 rfl ?_
  refine x_get (j := 0) (v := .ref (h0 + 269)) hx hb hown hT hE hW cls_X11 (Or.inl (by decide)) (so_268 h0 g _) (by decide) rfl wq1185 dX11_servedIn_1 ?_
  refine x_aload_n hx hb hl 0 rfl dX11_servedIn_4 rfl ?_
  refine x_get (j := 1) (v := .ref (h0 + 270)) hx hb hown hT hE hW cls_X11 (Or.inl (by decide)) (so_268 h0 g _) (by decide) rfl wq1186 dX11_servedIn_5 ?_
  refine x_gov (x_runS (As := [.ref (h0 + 269), .ref (h0 + 270)]) hx hb hml hown hT hE hW hl.1 cf_X11_copies wq1647 wq1646 (c_X11_copiesMA l D g T h0 s0 hW.2.1 p0 p1 p2) ⟨rfl, rfl, ⟨by decide, by decide⟩, ⟨by decide, by decide⟩⟩ rfl rfl (Nat.le_of_ble_eq_true rfl) dX11_servedIn_8) hW (fun s2 H locs hp3 hW => ?_)
  obtain ⟨fs2, hp3⟩ := hp3
  have hF4 := hF.call fs2 (fun k h => by omega)
  have q5 : s2 268 8 = s0 268 8 := (congrFun (fs2 _ (by omega)) _).trans k268_8
  have q6 : s2 268 58 = s0 268 58 := (congrFun (fs2 _ (by omega)) _).trans k268_58
  have q7 : s2 268 17 = s0 268 17 := (congrFun (fs2 _ (by omega)) _).trans k268_17
  have q8 : s2 268 48 = s0 268 48 := (congrFun (fs2 _ (by omega)) _).trans k268_48
  have q10 : s2 269 37 = s0 269 37 := (congrFun (fs2 _ (by omega)) _).trans k269_37
  have ghp3 := hp3.2
  have q11 : s2 270 = s2 270 := rfl
  have A8 : ∀ q : Int, 0 ≤ q → q < 39 → s2 270 q = s0 269 q := ghp3
  have B8 : s2 269 = s0 269 ∧ s2 268 = s0 268 := ⟨fs2 269 (by first | decide | omega), fs2 268 (by first | decide | omega)⟩
  refine x_aload_n hx hb hl 0 rfl dX11_servedIn_11 rfl ?_
  refine x_gov (x_runV (As := []) hx hb hml hown hT hE hW hl.1 (Or.inl (by decide)) (so_268 h0 g _) rfl cf_X11_begins wq1543 wq131 wq1541 (c_X11_beginsF l D g T h0 s2 hW.2.1 hp3.1.1 hp3.1.2.1 hp3.1.2.2.1) ⟨rfl, rfl, ⟨by decide, by decide⟩, ⟨by decide, by decide⟩⟩ rfl rfl (Nat.le_of_ble_eq_true rfl) dX11_servedIn_12) hW (fun s13 H locs hp14 hW => ?_)
  obtain ⟨fs13, hp14⟩ := hp14
  have hF15 := hF4.call fs13 (fun k h => by omega)
  have q16 : s13 269 37 = s0 269 37 := (congrFun (fs13 _ (by omega)) _).trans q10
  have q17 : s13 270 = s2 270 := (fs13 _ (by omega)).trans q11
  have ghp14 := hp14.2
  have H12 := ghp14
  have N12 : s13 269 = s0 269 := (fs13 269 (by first | decide | omega)).trans B8.1
  have Y12 : zYr s13 = (zYN (s0 269) 0 0 0) := by
    show zYN (s13 269) (s13 268 42) (s13 268 43) (s13 268 44) = _
    rw [N12, H12.2.1, H12.2.2.1, H12.2.2.2.1]
  have e12 : zSm (zYr s13) = zSm (zYr s0) := by rw [Y12]; exact (zSm_rr (a := 0) (c := 0) (s := 0) (fun _ _ _ => rfl)).symm
  refine x_iconst hx hb dX11_servedIn_15 ?_
  refine lv_istore (lv' := [(4, .int (xJ 0)), (0, .ref (h0 + 268)), (1, .int (xJ j)), (2, .int (xJ n)), (3, .int (xJ a))]) hx hb dX11_servedIn_16 hl (by decide) rfl (fun ls hl => ?_)
  have L18 : ∀ (fu : Nat) (i4_18 : Int) (s_18 : xS) (H : Heap) (locs : List Loc) (ls : Array Slot), (xR i4_18) → (xFr (fun k => k = 268 ∨ k = 269 ∨ k = 270 ∨ k = 293 ∨ k = 294 ∨ k = 295 ∨ k = 296 ∨ k = 297 ∨ k = 298 ∨ k = 299) s0 s_18) → (s_18 270 = s2 270) → (IMn s_18) → (IMk s_18) → (IMo s_18) → (s_18 268 8 = s0 268 8) → (s_18 268 58 = s0 268 58) → (s_18 268 17 = s0 268 17) → (s_18 268 48 = s0 268 48) → (0 ≤ i4_18 ∧ i4_18 ≤ n) → (True) → (zYq (zYr s_18)) → (s_18 268 41 = zSm (zYr s0) - zSm (zYr s_18)) → ((0 ≤ s_18 269 36 ∧ s_18 269 36 < 1024) ∧ s_18 269 35 = s0 269 35 ∧ s_18 268 48 = s0 268 48 ∧ s_18 269 34 = s0 269 34) → (zJt K9 (zY4 (zYr s_18))) → (zYr s_18 = zhR K9 q9 l9 n9 w9 j (s0 268 48) (zdgt n a) (zYN (s0 269) 0 0 0) (i4_18).toNat) → (zSm (zYr s_18) ≤ zSm (zYr s0)) → (n - i4_18).toNat < fu → xW D g h0 s H locs s_18 → lv_has ls 5 [(0, .ref (h0 + 268)), (1, .int (xJ j)), (2, .int (xJ n)), (3, .int (xJ a)), (4, .int (xJ i4_18))] → W p l e { frames := 8, cells := 0, slots := 0, locals := 187 } s m args below meth c H locs 0 0 Q (F0 m 18 ls []) := by
    intro fu
    induction fu with
    | zero => intro i4_18 s_18 H locs ls ri4_18 hF_18 q18_1 q18_2 q18_3 q18_4 q18_5 q18_6 q18_7 q18_8 v18_0 v18_1 v18_2 v18_3 v18_4 v18_5 v18_6 v18_7 hm; exact absurd hm (Nat.not_lt_zero _)
    | succ fu ih18 =>
      intro i4_18 s_18 H locs ls ri4_18 hF_18 q18_1 q18_2 q18_3 q18_4 q18_5 q18_6 q18_7 q18_8 v18_0 v18_1 v18_2 v18_3 v18_4 v18_5 v18_6 v18_7 hm hW hl
      have hm_18 := fun (_ : Unit) => hm
      clear hm
      refine x_iload hx hb hl 4 rfl dX11_servedIn_18 ?_
      refine x_iload_n hx hb hl 2 rfl dX11_servedIn_20 rfl ?_
      refine x_icmp_ge (tgt := 87) hx hb ri4_18 rn dX11_servedIn_21 (by decide) (fun c18 => ?_) (fun c18 => ?_)
      · skip
        refine x_aload_n hx hb hl 0 rfl dX11_servedIn_87 rfl ?_
        refine x_get (j := 1) (v := .ref (h0 + 270)) hx hb hown hT hE hW cls_X11 (Or.inl (by decide)) (so_268 h0 g _) (by decide) rfl wq1186 dX11_servedIn_88 ?_
        refine x_aload_n hx hb hl 0 rfl dX11_servedIn_91 rfl ?_
        refine x_get (j := 0) (v := .ref (h0 + 269)) hx hb hown hT hE hW cls_X11 (Or.inl (by decide)) (so_268 h0 g _) (by decide) rfl wq1185 dX11_servedIn_92 ?_
        refine x_gov (x_runS (As := [.ref (h0 + 270), .ref (h0 + 269)]) hx hb hml hown hT hE hW hl.1 cf_X11_copies wq1647 wq1646 (c_X11_copiesMB l D g T h0 s_18 hW.2.1 q18_2 q18_3 q18_4) ⟨rfl, rfl, ⟨by decide, by decide⟩, ⟨by decide, by decide⟩⟩ rfl rfl (Nat.le_of_ble_eq_true rfl) dX11_servedIn_95) hW (fun s20 H locs hp21 hW => ?_)
        obtain ⟨fs20, hp21⟩ := hp21
        have hF22 := hF_18.call fs20 (fun k h => by omega)
        have q23 : s20 270 = s2 270 := (fs20 _ (by omega)).trans q18_1
        have q24 : s20 268 8 = s0 268 8 := (congrFun (fs20 _ (by omega)) _).trans q18_5
        have q25 : s20 268 58 = s0 268 58 := (congrFun (fs20 _ (by omega)) _).trans q18_6
        have q26 : s20 268 17 = s0 268 17 := (congrFun (fs20 _ (by omega)) _).trans q18_7
        have q27 : s20 268 48 = s0 268 48 := (congrFun (fs20 _ (by omega)) _).trans q18_8
        have ghp21 := hp21.2
        have Q95 : ∀ q : Int, 0 ≤ q → q < 39 → s20 269 q = s0 269 q := fun q a b => (ghp21 q a b).trans ((congrFun ((fs20 270 (by first | decide | omega)).symm.trans q23) q).trans (A8 q a b))
        have K95 : s20 268 = s_18 268 := fs20 268 (by first | decide | omega)
        refine x_aload_n hx hb hl 0 rfl dX11_servedIn_98 rfl ?_
        refine x_get (j := 41) (v := .int (xJ (s20 268 41))) hx hb hown hT hE hW cls_X11 (Or.inl (by decide)) (so_268 h0 g _) (by decide) rfl wq1226 dX11_servedIn_99 ?_
        refine x_rd hW (fun x28 ex28 rx28 => ?_)
        have V99 : x28 = zSm (zYr s0) - zSm (zYr s_18) := ex28.trans (by rw [K95]; exact v18_3)
        rw [eQ]
        exact x_iret hx hb hr hlk hW rx28 ⟨hF22, ⟨hp21.1.1, hp21.1.2.1, hp21.1.2.2.1, q24, q25, q26, q27, trivial⟩, by
            have e : zYr s_18 = zhR K9 q9 l9 n9 w9 j (s0 268 48) (zdgt n a) (zYN (s0 269) 0 0 0) n.toNat := by
              first
                | (rw [v18_6, show (i4_18).toNat = n.toNat from by omega])
                | (rw [show n.toNat = i4_18.toNat + (n - i4_18).toNat from by omega, zhR_stop (by rw [← v18_6, ← V28]; omega)]; exact v18_6)
            refine ⟨?_, Q95⟩
            rw [V99, e]
            unfold zhT
            rw [show zSm (zYr s0) = zSm (zYN (s0 269) 0 0 0) from zSm_rr (a := 0) (c := 0) (s := 0) (fun _ _ _ => rfl)]⟩ dX11_servedIn_102
      refine x_aload_n hx hb hl 0 rfl dX11_servedIn_24 rfl ?_
      refine x_get (j := 0) (v := .ref (h0 + 269)) hx hb hown hT hE hW cls_X11 (Or.inl (by decide)) (so_268 h0 g _) (by decide) rfl wq1185 dX11_servedIn_25 ?_
      refine x_bipush hx hb dX11_servedIn_28 (by decide) ?_
      refine x_iald hx hb hE hW (Or.inl (by decide)) (sa_269 h0 g _) ⟨by decide, by decide⟩ (by decide) dX11_servedIn_30 ?_
      refine x_rd hW (fun x29 ex29 rx29 => ?_)
      have bx29 : 0 ≤ x29 ∧ x29 ≤ 9999 := by rw [ex29]; exact (IMn.n1 q18_2).2.2.2.1
      have q30 : s_18 269 37 = x29 := ex29.symm
      have I18 : IMn s_18 := q18_2
      have n28 : zYr s_18 44 < 9999 ∨ 9999 ≤ zYr s_18 44 := by omega
      have V28 : x29 = zYr s_18 44 := ex29
      have d28 := zdgt_r (m := n) (c := a) (i := i4_18) ha.1
      have t28 : xsh (s_18 269 34) j % 2 = 1 := by rw [v18_4.2.2.2]; exact htj
      refine x_sipush hx hb dX11_servedIn_31 (by decide) ?_
      refine x_icmp_ge (tgt := 87) hx hb rx29 (by decide) dX11_servedIn_34 (by decide) (fun c31 => ?_) (fun c31 => ?_)
      · skip
        refine x_aload_n hx hb hl 0 rfl dX11_servedIn_87 rfl ?_
        refine x_get (j := 1) (v := .ref (h0 + 270)) hx hb hown hT hE hW cls_X11 (Or.inl (by decide)) (so_268 h0 g _) (by decide) rfl wq1186 dX11_servedIn_88 ?_
        refine x_aload_n hx hb hl 0 rfl dX11_servedIn_91 rfl ?_
        refine x_get (j := 0) (v := .ref (h0 + 269)) hx hb hown hT hE hW cls_X11 (Or.inl (by decide)) (so_268 h0 g _) (by decide) rfl wq1185 dX11_servedIn_92 ?_
        refine x_gov (x_runS (As := [.ref (h0 + 270), .ref (h0 + 269)]) hx hb hml hown hT hE hW hl.1 cf_X11_copies wq1647 wq1646 (c_X11_copiesMB l D g T h0 s_18 hW.2.1 q18_2 q18_3 q18_4) ⟨rfl, rfl, ⟨by decide, by decide⟩, ⟨by decide, by decide⟩⟩ rfl rfl (Nat.le_of_ble_eq_true rfl) dX11_servedIn_95) hW (fun s33 H locs hp34 hW => ?_)
        obtain ⟨fs33, hp34⟩ := hp34
        have hF35 := hF_18.call fs33 (fun k h => by omega)
        have q36 : s33 270 = s2 270 := (fs33 _ (by omega)).trans q18_1
        have q37 : s33 268 8 = s0 268 8 := (congrFun (fs33 _ (by omega)) _).trans q18_5
        have q38 : s33 268 58 = s0 268 58 := (congrFun (fs33 _ (by omega)) _).trans q18_6
        have q39 : s33 268 17 = s0 268 17 := (congrFun (fs33 _ (by omega)) _).trans q18_7
        have q40 : s33 268 48 = s0 268 48 := (congrFun (fs33 _ (by omega)) _).trans q18_8
        have ghp34 := hp34.2
        have Q95 : ∀ q : Int, 0 ≤ q → q < 39 → s33 269 q = s0 269 q := fun q a b => (ghp34 q a b).trans ((congrFun ((fs33 270 (by first | decide | omega)).symm.trans q36) q).trans (A8 q a b))
        have K95 : s33 268 = s_18 268 := fs33 268 (by first | decide | omega)
        refine x_aload_n hx hb hl 0 rfl dX11_servedIn_98 rfl ?_
        refine x_get (j := 41) (v := .int (xJ (s33 268 41))) hx hb hown hT hE hW cls_X11 (Or.inl (by decide)) (so_268 h0 g _) (by decide) rfl wq1226 dX11_servedIn_99 ?_
        refine x_rd hW (fun x41 ex41 rx41 => ?_)
        have V99 : x41 = zSm (zYr s0) - zSm (zYr s_18) := ex41.trans (by rw [K95]; exact v18_3)
        rw [eQ]
        exact x_iret hx hb hr hlk hW rx41 ⟨hF35, ⟨hp34.1.1, hp34.1.2.1, hp34.1.2.2.1, q37, q38, q39, q40, trivial⟩, by
            have e : zYr s_18 = zhR K9 q9 l9 n9 w9 j (s0 268 48) (zdgt n a) (zYN (s0 269) 0 0 0) n.toNat := by
              first
                | (rw [v18_6, show (i4_18).toNat = n.toNat from by omega])
                | (rw [show n.toNat = i4_18.toNat + (n - i4_18).toNat from by omega, zhR_stop (by rw [← v18_6, ← V28]; omega)]; exact v18_6)
            refine ⟨?_, Q95⟩
            rw [V99, e]
            unfold zhT
            rw [show zSm (zYr s0) = zSm (zYN (s0 269) 0 0 0) from zSm_rr (a := 0) (c := 0) (s := 0) (fun _ _ _ => rfl)]⟩ dX11_servedIn_102
      refine x_iload_n hx hb hl 1 rfl dX11_servedIn_37 rfl ?_
      have J53 : ∀ (s_53 : xS) (H : Heap) (locs : List Loc) (ls : Array Slot), (xFr (fun k => k = 268 ∨ k = 269 ∨ k = 270 ∨ k = 293 ∨ k = 294 ∨ k = 295 ∨ k = 296 ∨ k = 297 ∨ k = 298 ∨ k = 299) s0 s_53) → (s_53 270 = s2 270) → (IMn s_53) → (IMk s_53) → (IMo s_53) → (s_53 268 8 = s0 268 8) → (s_53 268 58 = s0 268 58) → (s_53 268 17 = s0 268 17) → (s_53 268 48 = s0 268 48) → (s_53 269 37 = x29) → ((j = 0 ∧ s_53 269 = xud (s_18 269) 0 (znW K9 (s_18 269 0) (zrj (s_18 269) 1) (2 * (zdgt n a i4_18)))) ∨ (j = 1 ∧ s_53 269 = s_18 269)) → (s_53 268 = s_18 268) → xW D g h0 s H locs s_53 → lv_has ls 5 [(0, .ref (h0 + 268)), (1, .int (xJ j)), (2, .int (xJ n)), (3, .int (xJ a)), (4, .int (xJ i4_18))] → W p l e { frames := 8, cells := 0, slots := 0, locals := 187 } s m args below meth c H locs 0 0 Q (F0 m 53 ls []) := by
        intro s_53 H locs ls hF_53 q53_0 q53_1 q53_2 q53_3 q53_4 q53_5 q53_6 q53_7 q53_8 v53_0 v53_1 hW hl
        refine x_aload_n hx hb hl 0 rfl dX11_servedIn_53 rfl ?_
        refine x_iconst hx hb dX11_servedIn_54 ?_
        refine x_iload_n hx hb hl 1 rfl dX11_servedIn_55 rfl ?_
        refine x_isub hx hb dX11_servedIn_56 ?_
        refine x_gov (x_runV (As := [.int (xJ (1 - j))]) hx hb hml hown hT hE hW hl.1 (Or.inl (by decide)) (so_268 h0 g _) rfl cf_X11_walksOn wq1547 wq132 wq1545 (c_X11_walksOnJ l D g T h0 s_53 hW.2.1 (1 - j) (by omega) K9 n9 w9 (by omega) (by first | exact hK | exact fun t t1 t2 => by rw [hF_53 272 (by first | decide | omega)]; exact hK t t1 t2) (by first | exact hw | exact (by rw [hF_53 274 (by first | decide | omega), hF_53 275 (by first | decide | omega)]; exact hw)) q53_1 q53_2 q53_3) ⟨rfl, rfl, ⟨by decide, by decide⟩, ⟨by decide, by decide⟩⟩ rfl rfl (Nat.le_of_ble_eq_true rfl) dX11_servedIn_57) hW (fun s43 H locs hp44 hW => ?_)
        obtain ⟨fs43, hp44⟩ := hp44
        have hF45 := hF_53.call fs43 (fun k h => by omega)
        have q46 : s43 270 = s2 270 := (fs43 _ (by omega)).trans q53_0
        have q47 : s43 268 8 = s0 268 8 := (congrFun (fs43 _ (by omega)) _).trans q53_4
        have q48 : s43 268 58 = s0 268 58 := (congrFun (fs43 _ (by omega)) _).trans q53_5
        have q49 : s43 268 17 = s0 268 17 := (congrFun (fs43 _ (by omega)) _).trans q53_6
        have q50 : s43 268 48 = s0 268 48 := (congrFun (fs43 _ (by omega)) _).trans q53_7
        have ghp44 := hp44.2
        have H57 := ghp44
        have f57 := fs43
        have G57 : s43 268 = s_18 268 := (fs43 268 (by first | decide | omega)).trans v53_1
        have K53 : ∀ i : Int, 4 ≤ i → s_53 269 i = s_18 269 i := fun i hi => v53_0.elim (fun z => by rw [z.2, xud_o _ _ (by omega)]) (fun z => by rw [z.2])
        have K57 : ∀ i : Int, 4 ≤ i → s43 269 i = s_18 269 i := fun i hi => (H57.2 i hi).trans (K53 i hi)
        have Z53 : j = 0 → zrt (s_53 269) = (znW K9 (zrt (s_18 269)).1 (zrt (s_18 269)).2.1 (2 * (zdgt n a i4_18)), (zrt (s_18 269)).2.1, (zrt (s_18 269)).2.2.1, (zrt (s_18 269)).2.2.2) := fun h => by
          have z := (v53_0.resolve_right (fun q => by omega)).2
          have t : xsh (s_18 269 34) 0 % 2 = 1 := by rw [← h]; exact t28
          rw [z, zrt_u0 t]
          show (znW K9 (s_18 269 0) (zrj (s_18 269) 1) _, _) = (znW K9 (zrj (s_18 269) 0) (zrj (s_18 269) 1) _, _)
          rw [zrj_p t]
        refine x_iload_n hx hb hl 1 rfl dX11_servedIn_60 rfl ?_
        refine x_iconst hx hb dX11_servedIn_61 ?_
        have J77 : ∀ (s_77 : xS) (H : Heap) (locs : List Loc) (ls : Array Slot), (xFr (fun k => k = 268 ∨ k = 269 ∨ k = 270 ∨ k = 293 ∨ k = 294 ∨ k = 295 ∨ k = 296 ∨ k = 297 ∨ k = 298 ∨ k = 299) s0 s_77) → (s_77 270 = s2 270) → (s_77 268 8 = s0 268 8) → (s_77 268 58 = s0 268 58) → (s_77 268 17 = s0 268 17) → (s_77 268 48 = s0 268 48) → (IMn s_77) → (IMk s_77) → (IMo s_77) → (s_77 269 37 = x29) → (s_77 269 34 = s_53 269 34) → (zYr s_77 = zYj (zYr s_18) (zhk K9 n9 w9 j (2 * (zdgt n a i4_18)) (zY4 (zYr s_18)))) → (s_77 268 = s_18 268) → (∀ i : Int, 4 ≤ i → s_77 269 i = s_18 269 i) → xW D g h0 s H locs s_77 → lv_has ls 5 [(0, .ref (h0 + 268)), (1, .int (xJ j)), (2, .int (xJ n)), (3, .int (xJ a)), (4, .int (xJ i4_18))] → W p l e { frames := 8, cells := 0, slots := 0, locals := 187 } s m args below meth c H locs 0 0 Q (F0 m 77 ls []) := by
          intro s_77 H locs ls hF_77 q77_0 q77_1 q77_2 q77_3 q77_4 q77_5 q77_6 q77_7 q77_8 q77_9 v77_0 v77_1 v77_2 hW hl
          refine x_aload_n hx hb hl 0 rfl dX11_servedIn_77 rfl ?_
          have g77 : zJt K9 (zrt (s_77 269)) := by
            have e : zrt (s_77 269) = zhk K9 n9 w9 j (2 * (zdgt n a i4_18)) (zY4 (zYr s_18)) := by
              have z := congrArg zY4 v77_0
              rw [zYj_4] at z
              exact z
            rw [e]
            exact zhk_g v18_5 hj (fun h => by
              show zrj (s_18 269) 0 ≠ -1
              rw [zrj_p (by have t := t28; rw [h] at t; exact t)]
              have := (IMn.n1 I18).1 0 (by decide) (by decide)
              omega) (fun h => by
              show zrj (s_18 269) 1 ≠ -1
              rw [zrj_p (by have t := t28; rw [h] at t; exact t)]
              have := (IMn.n1 I18).1 1 (by decide) (by decide)
              omega)
          refine x_gov (x_runV (As := []) hx hb hml hown hT hE hW hl.1 (Or.inl (by decide)) (so_268 h0 g _) rfl cf_X11_shadesGo wq1564 wq134 wq1562 (c_X11_shadesGoF l D g T h0 s_77 hW.2.1 q9 K9 l9 (hok) (by first | exact hlr | exact hlr.f (fun k hk => hF_77 k (by omega)) (by omega)) (by first | exact hK | exact fun t t1 t2 => by rw [hF_77 272 (by first | decide | omega)]; exact hK t t1 t2) (by first | exact hlm | exact fun i i1 i2 => by rw [hF_77 273 (by first | decide | omega)]; exact hlm i i1 i2) (zJg_G g77 (fun j j1 j2 => ((IMn.n1 q77_5).1 j j1 j2).1)) (zJg_N g77) (by rw [v77_0]; exact zYj_q v18_2) (by rw [v77_2 36 (by decide)]; exact v18_4.1) (by omega) (by rw [v77_1]; have a := v18_3; have b := zSm_r hY; have c := zSm_r v18_2; have e := v18_7; omega) q77_5 q77_6 q77_7) ⟨rfl, rfl, ⟨by decide, by decide⟩, ⟨by decide, by decide⟩⟩ rfl rfl (Nat.le_of_ble_eq_true rfl) dX11_servedIn_78) hW (fun s52 H locs hp53 hW => ?_)
          obtain ⟨fs52, hp53⟩ := hp53
          have hF54 := hF_77.call fs52 (fun k h => by omega)
          have q55 : s52 270 = s2 270 := (fs52 _ (by omega)).trans q77_0
          have ghp53 := hp53.2
          have H78 := ghp53
          have T78 : s52 269 34 = s_77 269 34 := by omega
          have Z78 : zYr s52 = zhR K9 q9 l9 n9 w9 j (s0 268 48) (zdgt n a) (zYN (s0 269) 0 0 0) (i4_18 + 1).toNat := by
            rw [show (i4_18 + 1).toNat = (i4_18).toNat + 1 from by omega, zhR_s (by rw [← v18_6, ← V28]; omega), ← v18_6, show (((i4_18).toNat : Nat) : Int) = i4_18 from by omega, ← v77_0, H78.1, show s_77 268 48 = s0 268 48 from by rw [v77_1]; exact v18_4.2.2.1]
          have J78 : zJt K9 (zY4 (zYr s52)) := by
            have e : zY4 (zYr s52) = zrt (s_77 269) := by
              rw [H78.1]
              have o : ∀ i : Int, i < 4 → zmB K9 q9 l9 (s_77 268 48) (zYr s_77) i = zYr s_77 i := fun i hi => by
                unfold zmB zb4
                rw [xud_o _ _ (by omega), zgo_o (by omega) _ (fun x hx => zlu_in hx (by decide)), zb3_o (by omega)]
              show (_, _, _, _) = (zYr s_77 0, zYr s_77 1, zYr s_77 2, zYr s_77 3)
              rw [o 0 (by decide), o 1 (by decide), o 2 (by decide), o 3 (by decide)]
            rw [e]; exact g77
          refine x_iinc (lv' := [(4, .int (xJ (i4_18 + 1))), (0, .ref (h0 + 268)), (1, .int (xJ j)), (2, .int (xJ n)), (3, .int (xJ a))]) hx hb hl 4 rfl dX11_servedIn_81 (by decide) rfl (fun ls hl => ?_)
          refine lv_goto (tgt := 18) hx hb dX11_servedIn_84 (by decide) ?_
          exact ih18 (i4_18 + 1) s52 H locs ls (by omega) hF54 q55 hp53.1.1 hp53.1.2.1 hp53.1.2.2.1 (hp53.1.2.2.2.1.trans q77_1) (hp53.1.2.2.2.2.1.trans q77_2) (hp53.1.2.2.2.2.2.2.2.2.2.2.1.trans q77_3) (hp53.1.2.2.2.2.2.2.2.2.2.2.2.1.trans q77_4) (by omega) (trivial) (H78.2.2.2.2.2.1) (by have a := H78.2.1; have b := v18_3; rw [v77_0, zYj_sm, v77_1] at a; omega) (⟨H78.2.2.1, H78.2.2.2.1.trans ((v77_2 35 (by decide)).trans v18_4.2.1), H78.2.2.2.2.1.trans (by rw [v77_1]; exact v18_4.2.2.1), T78.trans ((v77_2 34 (by decide)).trans v18_4.2.2.2)⟩) (J78) (Z78) (by have a := H78.2.2.2.2.2.2.2; rw [v77_0, zYj_sm] at a; have b := v18_7; omega) (by have hm := hm_18 (); omega) hW (lv_sub hl [1, 2, 3, 4, 0] rfl)
        refine x_icmp_ne (tgt := 77) hx hb rj (by decide) dX11_servedIn_62 (by decide) (fun c56 => ?_) (fun c56 => ?_)
        · skip
          exact J77 s43 H locs ls hF45 q46 q47 q48 q49 q50 hp44.1.1 hp44.1.2.1 hp44.1.2.2.1 (hp44.1.2.2.2.1.trans q53_8) hp44.1.2.2.2.2.1 (by
              show zYN (s43 269) (s43 268 42) (s43 268 43) (s43 268 44) = _
              rw [show s43 268 = s_18 268 from (by first | exact G74 | exact G57)]
              refine zYN_js (N := s_18 269) ?_ (by first | exact K74 | exact K57)
              first
                | (have h1 : j = 1 := by omega
                   have t : xsh (s43 269 34) 1 % 2 = 1 := by have t := t28; rw [h1] at t; rw [K57 34 (by decide)]; exact t
                   have z : zrt (s43 269) = zjk K9 n9 w9 0 (zrt (s_18 269)) := by
                     have y := H57.1
                     rw [show (1 : Int) - j = 0 from by omega, (v53_0.resolve_left (fun q => by omega)).2] at y
                     exact y
                   have z1 : s43 269 1 = (zrt (s43 269)).2.1 := (zrj_p t).symm
                   have z0 : zrj (s43 269) 0 = (zrt (s43 269)).1 := rfl
                   rw [N74, zrt_u1 t, z1, z0, z, h1]
                   exact zhk_1.symm)
                | (have h0 : j = 0 := by omega
                   have y := H57.1
                   rw [show (1 : Int) - j = 1 from by omega, Z53 h0] at y
                   rw [h0]
                   exact y.trans zhk_0.symm)) (by first | exact G74 | exact G57) (by first | exact K74 | exact K57) hW (lv_sub hl [0, 1, 2, 3, 4] rfl)
        refine x_aload_n hx hb hl 0 rfl dX11_servedIn_65 rfl ?_
        refine x_iconst hx hb dX11_servedIn_66 ?_
        refine x_iload_n hx hb hl 3 rfl dX11_servedIn_67 rfl ?_
        refine x_iload_n hx hb hl 2 rfl dX11_servedIn_68 rfl ?_
        refine x_iload hx hb hl 4 rfl dX11_servedIn_69 ?_
        refine x_goi (x_runS (As := [.int (xJ a), .int (xJ n), .int (xJ i4_18)]) hx hb hml hown hT hE hW hl.1 cf_X11_stepIn wq1700 wq1699 (c_X11_stepInF l D g T h0 s43 hW.2.1 a ra n rn i4_18 ri4_18 (by omega) (by omega)) ⟨rfl, rfl, ⟨by decide, by decide⟩, ⟨by decide, by decide⟩⟩ rfl rfl (Nat.le_of_ble_eq_true rfl) dX11_servedIn_71) hW (fun x57 s58 H locs rx57 hp59 hW => ?_)
        obtain ⟨es58, hp59⟩ := hp59
        subst es58
        have ghp59 := hp59
        have V71 := ghp59
        refine x_gov (x_runV (As := [.int (xJ 1), .int (xJ x57)]) hx hb hml hown hT hE hW hl.1 (Or.inl (by decide)) (so_268 h0 g _) rfl cf_X11_steps wq1551 wq133 wq1549 (c_X11_stepsJ l D g T h0 s43 hW.2.1 1 (by decide) x57 rx57 K9 (by omega) (by first | exact hK | exact fun t t1 t2 => by rw [hF45 272 (by first | decide | omega)]; exact hK t t1 t2) hp44.1.1 hp44.1.2.1 hp44.1.2.2.1) ⟨rfl, rfl, ⟨by decide, by decide⟩, ⟨by decide, by decide⟩⟩ rfl rfl (Nat.le_of_ble_eq_true rfl) dX11_servedIn_74) hW (fun s61 H locs hp62 hW => ?_)
        obtain ⟨fs61, hp62⟩ := hp62
        have hF63 := hF45.call fs61 (fun k h => by omega)
        have q64 : s61 270 = s2 270 := (fs61 _ (by omega)).trans q46
        have q65 : s61 268 8 = s0 268 8 := (congrFun (fs61 _ (by omega)) _).trans q47
        have q66 : s61 268 58 = s0 268 58 := (congrFun (fs61 _ (by omega)) _).trans q48
        have q67 : s61 268 17 = s0 268 17 := (congrFun (fs61 _ (by omega)) _).trans q49
        have q68 : s61 268 48 = s0 268 48 := (congrFun (fs61 _ (by omega)) _).trans q50
        have ghp62 := hp62.2
        have N74 : s61 269 = xud (s43 269) 1 (znW K9 (s43 269 1) (zrj (s43 269) 0) (2 * (zdgt n a i4_18))) := by rw [← V71]; exact ghp62
        have K74 : ∀ i : Int, 4 ≤ i → s61 269 i = s_18 269 i := fun i hi => by rw [N74, xud_o _ _ (by omega)]; exact K57 i hi
        have G74 : s61 268 = s_18 268 := (fs61 268 (by first | decide | omega)).trans G57
        exact J77 s61 H locs ls hF63 q64 q65 q66 q67 q68 hp62.1.1 hp62.1.2.1 hp62.1.2.2.1 (hp62.1.2.2.2.1.trans (hp44.1.2.2.2.1.trans q53_8)) (hp62.1.2.2.2.2.1.trans hp44.1.2.2.2.2.1) (by
            show zYN (s61 269) (s61 268 42) (s61 268 43) (s61 268 44) = _
            rw [show s61 268 = s_18 268 from (by first | exact G74 | exact G57)]
            refine zYN_js (N := s_18 269) ?_ (by first | exact K74 | exact K57)
            first
              | (have h1 : j = 1 := by omega
                 have t : xsh (s43 269 34) 1 % 2 = 1 := by have t := t28; rw [h1] at t; rw [K57 34 (by decide)]; exact t
                 have z : zrt (s43 269) = zjk K9 n9 w9 0 (zrt (s_18 269)) := by
                   have y := H57.1
                   rw [show (1 : Int) - j = 0 from by omega, (v53_0.resolve_left (fun q => by omega)).2] at y
                   exact y
                 have z1 : s43 269 1 = (zrt (s43 269)).2.1 := (zrj_p t).symm
                 have z0 : zrj (s43 269) 0 = (zrt (s43 269)).1 := rfl
                 rw [N74, zrt_u1 t, z1, z0, z, h1]
                 exact zhk_1.symm)
              | (have h0 : j = 0 := by omega
                 have y := H57.1
                 rw [show (1 : Int) - j = 1 from by omega, Z53 h0] at y
                 rw [h0]
                 exact y.trans zhk_0.symm)) (by first | exact G74 | exact G57) (by first | exact K74 | exact K57) hW (lv_sub hl [0, 1, 2, 3, 4] rfl)
      refine x_if_ne (tgt := 53) hx hb rj dX11_servedIn_38 (by decide) (fun c69 => ?_) (fun c69 => ?_)
      · skip
        exact J53 s_18 H locs ls hF_18 q18_1 q18_2 q18_3 q18_4 q18_5 q18_6 q18_7 q18_8 q30 (by first | exact Or.inl ⟨by omega, N50⟩ | exact Or.inr ⟨by omega, rfl⟩) (by first | exact fs_18 268 (by omega) | rfl) hW (lv_sub hl [0, 1, 2, 3, 4] rfl)
      refine x_aload_n hx hb hl 0 rfl dX11_servedIn_41 rfl ?_
      refine x_iconst hx hb dX11_servedIn_42 ?_
      refine x_iload_n hx hb hl 3 rfl dX11_servedIn_43 rfl ?_
      refine x_iload_n hx hb hl 2 rfl dX11_servedIn_44 rfl ?_
      refine x_iload hx hb hl 4 rfl dX11_servedIn_45 ?_
      refine x_goi (x_runS (As := [.int (xJ a), .int (xJ n), .int (xJ i4_18)]) hx hb hml hown hT hE hW hl.1 cf_X11_stepIn wq1700 wq1699 (c_X11_stepInF l D g T h0 s_18 hW.2.1 a ra n rn i4_18 ri4_18 (by omega) (by omega)) ⟨rfl, rfl, ⟨by decide, by decide⟩, ⟨by decide, by decide⟩⟩ rfl rfl (Nat.le_of_ble_eq_true rfl) dX11_servedIn_47) hW (fun x70 s71 H locs rx70 hp72 hW => ?_)
      obtain ⟨es71, hp72⟩ := hp72
      subst es71
      have ghp72 := hp72
      have V47 := ghp72
      refine x_gov (x_runV (As := [.int (xJ 0), .int (xJ x70)]) hx hb hml hown hT hE hW hl.1 (Or.inl (by decide)) (so_268 h0 g _) rfl cf_X11_steps wq1551 wq133 wq1549 (c_X11_stepsJ l D g T h0 s_18 hW.2.1 0 (by decide) x70 rx70 K9 (by omega) (by first | exact hK | exact fun t t1 t2 => by rw [hF_18 272 (by first | decide | omega)]; exact hK t t1 t2) q18_2 q18_3 q18_4) ⟨rfl, rfl, ⟨by decide, by decide⟩, ⟨by decide, by decide⟩⟩ rfl rfl (Nat.le_of_ble_eq_true rfl) dX11_servedIn_50) hW (fun s74 H locs hp75 hW => ?_)
      obtain ⟨fs74, hp75⟩ := hp75
      have hF76 := hF_18.call fs74 (fun k h => by omega)
      have q77 : s74 270 = s2 270 := (fs74 _ (by omega)).trans q18_1
      have q78 : s74 268 8 = s0 268 8 := (congrFun (fs74 _ (by omega)) _).trans q18_5
      have q79 : s74 268 58 = s0 268 58 := (congrFun (fs74 _ (by omega)) _).trans q18_6
      have q80 : s74 268 17 = s0 268 17 := (congrFun (fs74 _ (by omega)) _).trans q18_7
      have q81 : s74 268 48 = s0 268 48 := (congrFun (fs74 _ (by omega)) _).trans q18_8
      have ghp75 := hp75.2
      have N50 : s74 269 = xud (s_18 269) 0 (znW K9 (s_18 269 0) (zrj (s_18 269) 1) (2 * (zdgt n a i4_18))) := by rw [← V47]; exact ghp75
      exact J53 s74 H locs ls hF76 q77 hp75.1.1 hp75.1.2.1 hp75.1.2.2.1 q78 q79 q80 q81 (hp75.1.2.2.2.1.trans q30) (by first | exact Or.inl ⟨by omega, N50⟩ | exact Or.inr ⟨by omega, rfl⟩) (by first | exact fs74 268 (by first | decide | omega) | rfl) hW (lv_sub hl [0, 1, 2, 3, 4] rfl)
  exact L18 ((n - 0 : Int).toNat + 1) 0 s13 H locs ls (by decide) hF15 q17 hp14.1.1 hp14.1.2.1 hp14.1.2.2.1 (hp14.1.2.2.2.1.trans q5) (hp14.1.2.2.2.2.1.trans q6) (hp14.1.2.2.2.2.2.1.trans q7) (hp14.1.2.2.2.2.2.2.1.trans q8) (by omega) (trivial) (by rw [Y12]; exact zYN_q hY) (by rw [H12.1, e12]; omega) (by rw [N12, H12.2.2.2.2, B8.2]; exact ⟨hB, rfl, rfl, rfl⟩) (by rw [Y12]; exact hJt) (Y12) (by rw [e12]; exact Int.le_refl _) (Nat.lt_succ_self _) hW (lv_sub hl [1, 2, 3, 4, 0] rfl)

set_option maxHeartbeats 4000000 in
set_option maxRecDepth 100000 in
theorem c_X11_homeF (l : Launch) (D : va_G) (g : xG) (T : Nat × Nat × Nat) (h0 : Nat) (s0 : xS) (hσ : xRR s0) (j : Int) (rj : xR j) (n : Int) (rn : xR n) (w : Int) (rw : xR w) (K9 : Int → Int) (n9 : Int → Int) (w9 : Int → Int → Int) (q9 : zLaw) (l9 : Int → Int) (hok : zLok q9) (hlr : zLR s0 q9) (hK : ∀ t : Int, 0 ≤ t → t < 100 → s0 272 t = K9 t ∧ 0 ≤ K9 t ∧ K9 t ≤ 3) (hlm : ∀ i : Int, 0 ≤ i → i < 4 → s0 273 i = l9 i) (hw : ∀ j : Int, 0 ≤ j → j < 2 → s0 274 j = n9 j ∧ ∀ i : Int, 0 ≤ i → i < n9 j → s0 275 (60 * j + i) = w9 j i) (hY : zYq (zYr s0)) (hB : 0 ≤ s0 269 36 ∧ s0 269 36 < 1024) (hJt : zJt K9 (zY4 (zYr s0))) (p0 : IMn s0) (p1 : IMk s0) (p2 : IMo s0) : Met l yX11_home (xws yX11_home cX11_home 9 (some .int)) { frames := 9, cells := 0, slots := 0, locals := 211 } (xP [.ref (h0 + 268), .int (xJ j), .int (xJ n), .int (xJ w)] D g T h0 s0) (xQi D g h0 (fun r τ => xFr (fun k => k = 268 ∨ k = 269 ∨ k = 270 ∨ k = 293 ∨ k = 294 ∨ k = 295 ∨ k = 296 ∨ k = 297 ∨ k = 298 ∨ k = 299) s0 τ ∧ (((IMn τ) ∧ (IMk τ) ∧ (IMo τ) ∧ (τ 268 8 = s0 268 8) ∧ (τ 268 58 = s0 268 58) ∧ (τ 268 17 = s0 268 17) ∧ (τ 268 48 = s0 268 48) ∧ True) ∧ (((0 ≤ j ∧ j < 2 ∧ xsh (s0 269 34) j % 2 = 1 ∧ 1 ≤ n ∧ n ≤ 5 ∧ (w = 10 ∨ (0 ≤ w ∧ w < n))) ∧ (w = 10 → r = (zbx (zhT K9 q9 l9 n9 w9 j n (s0 268 48) (zYN (s0 269) 0 0 0)) (z5 n).toNat).1) ∧ (w ≠ 10 → r = zdgt n (zbx (zhT K9 q9 l9 n9 w9 j n (s0 268 48) (zYN (s0 269) 0 0 0)) (z5 n).toNat).2 w) ∧ (∀ q : Int, 0 ≤ q → q < 39 → τ 269 q = s0 269 q)) ∨ (¬ (0 ≤ j ∧ j < 2 ∧ xsh (s0 269 34) j % 2 = 1 ∧ 1 ≤ n ∧ n ≤ 5 ∧ (w = 10 ∨ (0 ≤ w ∧ w < n))) ∧ r = -1 ∧ (∀ q : Int, 0 ≤ q → q < 39 → τ 269 q = s0 269 q)))))) 0 0 (xA h0) := by
  refine x_met hσ (by decide) (Nat.le_of_ble_eq_true rfl) ?_
  intro p e s m args below meth c hx hb hr hml hown hT hlk hnm hE hW ls hl
  have hl : lv_has ls 9 [(0, .ref (h0 + 268)), (1, .int (xJ j)), (2, .int (xJ n)), (3, .int (xJ w))] := hl
  obtain ⟨Q, eQ⟩ : ∃ Q, Q = MQ below (xQi D g h0 (fun r τ => xFr (fun k => k = 268 ∨ k = 269 ∨ k = 270 ∨ k = 293 ∨ k = 294 ∨ k = 295 ∨ k = 296 ∨ k = 297 ∨ k = 298 ∨ k = 299) s0 τ ∧ (((IMn τ) ∧ (IMk τ) ∧ (IMo τ) ∧ (τ 268 8 = s0 268 8) ∧ (τ 268 58 = s0 268 58) ∧ (τ 268 17 = s0 268 17) ∧ (τ 268 48 = s0 268 48) ∧ True) ∧ (((0 ≤ j ∧ j < 2 ∧ xsh (s0 269 34) j % 2 = 1 ∧ 1 ≤ n ∧ n ≤ 5 ∧ (w = 10 ∨ (0 ≤ w ∧ w < n))) ∧ (w = 10 → r = (zbx (zhT K9 q9 l9 n9 w9 j n (s0 268 48) (zYN (s0 269) 0 0 0)) (z5 n).toNat).1) ∧ (w ≠ 10 → r = zdgt n (zbx (zhT K9 q9 l9 n9 w9 j n (s0 268 48) (zYN (s0 269) 0 0 0)) (z5 n).toNat).2 w) ∧ (∀ q : Int, 0 ≤ q → q < 39 → τ 269 q = s0 269 q)) ∨ (¬ (0 ≤ j ∧ j < 2 ∧ xsh (s0 269 34) j % 2 = 1 ∧ 1 ≤ n ∧ n ≤ 5 ∧ (w = 10 ∨ (0 ≤ w ∧ w < n))) ∧ r = -1 ∧ (∀ q : Int, 0 ≤ q → q < 39 → τ 269 q = s0 269 q)))))) args s 0 0 (xA h0) := ⟨_, rfl⟩
  rw [← eQ]
  generalize hHe : ([] : List Loc) = locs at hW ⊢
  obtain ⟨H, eH⟩ : ∃ H, H = s.heap := ⟨_, rfl⟩
  rw [← eH] at hW ⊢
  have hF : xFr (fun k => k = 268 ∨ k = 269 ∨ k = 270 ∨ k = 293 ∨ k = 294 ∨ k = 295 ∨ k = 296 ∨ k = 297 ∨ k = 298 ∨ k = 299) s0 s0 := xFr.rf
  have k268_8 : s0 268 8 = s0 268 8 := rfl
  have k268_58 : s0 268 58 = s0 268 58 := rfl
  have k268_17 : s0 268 17 = s0 268 17 := rfl
  have k268_48 : s0 268 48 = s0 268 48 := rfl
  have q0 : ∀ q : Int, 0 ≤ q → q < 39 → s0 269 q = s0 269 q := fun _ _ _ => rfl
  have pS : ∀ c : Int, 0 ≤ (zhT K9 q9 l9 n9 w9 j n (s0 268 48) (zYN (s0 269) 0 0 0)) c := fun c => zhT_r (zYN_q hY)
  refine x_aload_n hx hb hl 0 rfl dX11_home_0 rfl ?_
  refine x_iload_n hx hb hl 1 rfl dX11_home_1 rfl ?_
  refine x_goi (x_runV (As := [.int (xJ j)]) hx hb hml hown hT hE hW hl.1 (Or.inl (by decide)) (so_268 h0 g _) rfl cf_X11_isJudge wq1409 wq109 wq1407 (c_X11_isJudgeJ l D g T h0 s0 hW.2.1 j rj p0 p1 p2) ⟨rfl, rfl, ⟨by decide, by decide⟩, ⟨by decide, by decide⟩⟩ rfl rfl (Nat.le_of_ble_eq_true rfl) dX11_home_2) hW (fun x1 s2 H locs rx1 hp3 hW => ?_)
  obtain ⟨es2, hp3⟩ := hp3
  subst es2
  have ghp3 := hp3
  have H2 := ghp3
  refine x_if_eq (tgt := 34) hx hb rx1 dX11_home_5 (by decide) (fun c4 => ?_) (fun c4 => ?_)
  · skip
    refine x_iconst hx hb dX11_home_34 ?_
    rw [eQ]
    exact x_iret hx hb hr hlk hW (by decide) ⟨hF, ⟨p0, p1, p2, k268_8, k268_58, k268_17, k268_48, trivial⟩, Or.inr ⟨by omega, by omega, q0⟩⟩ dX11_home_35
  refine x_iload_n hx hb hl 2 rfl dX11_home_8 rfl ?_
  refine x_iconst hx hb dX11_home_9 ?_
  refine x_iconst hx hb dX11_home_10 ?_
  refine x_goi (x_runS (As := [.int (xJ n), .int (xJ 1), .int (xJ 5)]) hx hb hml hown hT hE hW hl.1 cf_X11_in wq1383 wq1382 (c_X11_in l D g T h0 s0 hW.2.1 n rn 1 (by decide) 5 (by decide)) ⟨rfl, rfl, ⟨by decide, by decide⟩, ⟨by decide, by decide⟩⟩ rfl rfl (Nat.le_of_ble_eq_true rfl) dX11_home_11) hW (fun x5 s6 H locs rx5 hp7 hW => ?_)
  obtain ⟨es6, hp7⟩ := hp7
  subst es6
  have ghp7 := hp7
  refine x_if_eq (tgt := 34) hx hb rx5 dX11_home_14 (by decide) (fun c8 => ?_) (fun c8 => ?_)
  · skip
    refine x_iconst hx hb dX11_home_34 ?_
    rw [eQ]
    exact x_iret hx hb hr hlk hW (by decide) ⟨hF, ⟨p0, p1, p2, k268_8, k268_58, k268_17, k268_48, trivial⟩, Or.inr ⟨by omega, by omega, q0⟩⟩ dX11_home_35
  refine x_iload_n hx hb hl 3 rfl dX11_home_17 rfl ?_
  refine x_bipush hx hb dX11_home_18 (by decide) ?_
  refine x_icmp_eq (tgt := 36) hx hb rw (by decide) dX11_home_20 (by decide) (fun c9 => ?_) (fun c9 => ?_)
  · skip
    refine x_iconst hx hb dX11_home_36 ?_
    refine lv_istore (lv' := [(4, .int (xJ 1)), (0, .ref (h0 + 268)), (1, .int (xJ j)), (2, .int (xJ n)), (3, .int (xJ w))]) hx hb dX11_home_37 hl (by decide) rfl (fun ls hl => ?_)
    refine x_iconst hx hb dX11_home_39 ?_
    refine lv_istore (lv' := [(5, .int (xJ 0)), (4, .int (xJ 1)), (0, .ref (h0 + 268)), (1, .int (xJ j)), (2, .int (xJ n)), (3, .int (xJ w))]) hx hb dX11_home_40 hl (by decide) rfl (fun ls hl => ?_)
    have L42 : ∀ (fu : Nat) (i4_42 : Int) (i5_42 : Int) (ls : Array Slot), (xR i4_42) → (xR i5_42) → (0 ≤ i5_42 ∧ i5_42 ≤ n) → ((i5_42 = 0 ∧ i4_42 = 1) ∨ (i5_42 = 1 ∧ i4_42 = 5) ∨ (i5_42 = 2 ∧ i4_42 = 25) ∨ (i5_42 = 3 ∧ i4_42 = 125) ∨ (i5_42 = 4 ∧ i4_42 = 625) ∨ (i5_42 = 5 ∧ i4_42 = 3125)) → (n - i5_42).toNat < fu → lv_has ls 9 [(0, .ref (h0 + 268)), (1, .int (xJ j)), (2, .int (xJ n)), (3, .int (xJ w)), (4, .int (xJ i4_42)), (5, .int (xJ i5_42))] → W p l e { frames := 9, cells := 0, slots := 0, locals := 211 } s m args below meth c H locs 0 0 Q (F0 m 42 ls []) := by
      intro fu
      induction fu with
      | zero => intro i4_42 i5_42 ls ri4_42 ri5_42 v42_0 v42_1 hm; exact absurd hm (Nat.not_lt_zero _)
      | succ fu ih42 =>
        intro i4_42 i5_42 ls ri4_42 ri5_42 v42_0 v42_1 hm  hl
        have hm_42 := fun (_ : Unit) => hm
        clear hm
        refine x_iload hx hb hl 5 rfl dX11_home_42 ?_
        refine x_iload_n hx hb hl 2 rfl dX11_home_44 rfl ?_
        refine x_icmp_ge (tgt := 60) hx hb ri5_42 rn dX11_home_45 (by decide) (fun c10 => ?_) (fun c10 => ?_)
        · skip
          refine x_iconst hx hb dX11_home_60 ?_
          refine lv_istore (lv' := [(5, .int (xJ (-1))), (0, .ref (h0 + 268)), (1, .int (xJ j)), (2, .int (xJ n)), (3, .int (xJ w)), (4, .int (xJ i4_42))]) hx hb dX11_home_61 hl (by decide) rfl (fun ls hl => ?_)
          refine x_iconst hx hb dX11_home_63 ?_
          refine lv_istore (lv' := [(6, .int (xJ (-1))), (5, .int (xJ (-1))), (0, .ref (h0 + 268)), (1, .int (xJ j)), (2, .int (xJ n)), (3, .int (xJ w)), (4, .int (xJ i4_42))]) hx hb dX11_home_64 hl (by decide) rfl (fun ls hl => ?_)
          refine x_iconst hx hb dX11_home_66 ?_
          have L66 : i4_42 = z5 n := by
            unfold z5
            (repeat' split) <;> omega
          refine lv_istore (lv' := [(7, .int (xJ 0)), (6, .int (xJ (-1))), (5, .int (xJ (-1))), (0, .ref (h0 + 268)), (1, .int (xJ j)), (2, .int (xJ n)), (3, .int (xJ w)), (4, .int (xJ i4_42))]) hx hb dX11_home_67 hl (by decide) rfl (fun ls hl => ?_)
          have L69 : ∀ (fu : Nat) (i5_69 : Int) (i6_69 : Int) (i7_69 : Int) (s_69 : xS) (H : Heap) (locs : List Loc) (ls : Array Slot), (xR i5_69) → (xR i6_69) → (xR i7_69) → (xFr (fun k => k = 268 ∨ k = 269 ∨ k = 270 ∨ k = 293 ∨ k = 294 ∨ k = 295 ∨ k = 296 ∨ k = 297 ∨ k = 298 ∨ k = 299) s0 s_69) → (IMn s_69) → (IMk s_69) → (IMo s_69) → (s_69 268 8 = s0 268 8) → (s_69 268 58 = s0 268 58) → (s_69 268 17 = s0 268 17) → (s_69 268 48 = s0 268 48) → (0 ≤ i7_69 ∧ i7_69 ≤ i4_42) → (i6_69 = (zbx (zhT K9 q9 l9 n9 w9 j n (s0 268 48) (zYN (s0 269) 0 0 0)) (i7_69).toNat).1 ∧ i5_69 = (zbx (zhT K9 q9 l9 n9 w9 j n (s0 268 48) (zYN (s0 269) 0 0 0)) (i7_69).toNat).2) → (-1 ≤ i5_69 ∧ i5_69 < 3125) → (∀ q : Int, 0 ≤ q → q < 39 → s_69 269 q = s0 269 q) → (s_69 268 48 = s0 268 48) → (i4_42 - i7_69).toNat < fu → xW D g h0 s H locs s_69 → lv_has ls 9 [(0, .ref (h0 + 268)), (1, .int (xJ j)), (2, .int (xJ n)), (3, .int (xJ w)), (4, .int (xJ i4_42)), (5, .int (xJ i5_69)), (6, .int (xJ i6_69)), (7, .int (xJ i7_69))] → W p l e { frames := 9, cells := 0, slots := 0, locals := 211 } s m args below meth c H locs 0 0 Q (F0 m 69 ls []) := by
            intro fu
            induction fu with
            | zero => intro i5_69 i6_69 i7_69 s_69 H locs ls ri5_69 ri6_69 ri7_69 hF_69 q69_0 q69_1 q69_2 q69_3 q69_4 q69_5 q69_6 v69_0 v69_1 v69_2 v69_3 v69_4 hm; exact absurd hm (Nat.not_lt_zero _)
            | succ fu ih69 =>
              intro i5_69 i6_69 i7_69 s_69 H locs ls ri5_69 ri6_69 ri7_69 hF_69 q69_0 q69_1 q69_2 q69_3 q69_4 q69_5 q69_6 v69_0 v69_1 v69_2 v69_3 v69_4 hm hW hl
              have hm_69 := fun (_ : Unit) => hm
              clear hm
              refine x_iload hx hb hl 7 rfl dX11_home_69 ?_
              refine x_iload hx hb hl 4 rfl dX11_home_71 ?_
              refine x_icmp_ge (tgt := 110) hx hb ri7_69 ri4_42 dX11_home_73 (by decide) (fun c11 => ?_) (fun c11 => ?_)
              · skip
                refine x_iload_n hx hb hl 3 rfl dX11_home_110 rfl ?_
                have z5b := z5_r (n := n) (by omega)
                have b110 := zbx_r pS (i7_69).toNat (by omega)
                have e110 : i7_69 = z5 n := by omega
                rw [e110] at v69_1 b110
                refine x_bipush hx hb dX11_home_111 (by decide) ?_
                refine x_icmp_ne (tgt := 121) hx hb rw (by decide) dX11_home_113 (by decide) (fun c12 => ?_) (fun c12 => ?_)
                · skip
                  refine x_iload hx hb hl 5 rfl dX11_home_121 ?_
                  refine x_iload_n hx hb hl 2 rfl dX11_home_123 rfl ?_
                  refine x_iload_n hx hb hl 3 rfl dX11_home_124 rfl ?_
                  refine x_goi (x_runS (As := [.int (xJ i5_69), .int (xJ n), .int (xJ w)]) hx hb hml hown hT hE hW hl.1 cf_X11_stepIn wq1700 wq1699 (c_X11_stepInF l D g T h0 s_69 hW.2.1 i5_69 ri5_69 n rn w rw (by omega) (by omega)) ⟨rfl, rfl, ⟨by decide, by decide⟩, ⟨by decide, by decide⟩⟩ rfl rfl (Nat.le_of_ble_eq_true rfl) dX11_home_125) hW (fun x13 s14 H locs rx13 hp15 hW => ?_)
                  obtain ⟨es14, hp15⟩ := hp15
                  subst es14
                  have ghp15 := hp15
                  have H125 := ghp15
                  have d125 := zdgt_r (m := n) (c := i5_69) (i := w) (by omega)
                  refine x_iconst hx hb dX11_home_128 ?_
                  refine x_idiv hx hb rx13 (by decide) (by omega) (by decide) dX11_home_129 ?_
                  rw [eQ]
                  exact x_iret hx hb hr hlk hW (by omega) ⟨hF_69, ⟨q69_0, q69_1, q69_2, q69_3, q69_4, q69_5, q69_6, trivial⟩, by
                      first
                        | exact Or.inl ⟨by omega, fun z => v69_1.1, fun z => absurd z (by omega), v69_3⟩
                        | exact Or.inl ⟨by omega, fun z => absurd z (by omega), fun z => by rw [← v69_1.2]; omega, v69_3⟩⟩ dX11_home_130
                refine x_iload hx hb hl 6 rfl dX11_home_116 ?_
                refine lv_goto (tgt := 130) hx hb dX11_home_118 (by decide) ?_
                rw [eQ]
                exact x_iret hx hb hr hlk hW ri6_69 ⟨hF_69, ⟨q69_0, q69_1, q69_2, q69_3, q69_4, q69_5, q69_6, trivial⟩, by
                    first
                      | exact Or.inl ⟨by omega, fun z => v69_1.1, fun z => absurd z (by omega), v69_3⟩
                      | exact Or.inl ⟨by omega, fun z => absurd z (by omega), fun z => by rw [← v69_1.2]; omega, v69_3⟩⟩ dX11_home_130
              refine x_aload_n hx hb hl 0 rfl dX11_home_76 rfl ?_
              refine x_iload_n hx hb hl 1 rfl dX11_home_77 rfl ?_
              refine x_iload_n hx hb hl 2 rfl dX11_home_78 rfl ?_
              refine x_iload hx hb hl 7 rfl dX11_home_79 ?_
              refine x_goi (x_runV (As := [.int (xJ j), .int (xJ n), .int (xJ i7_69)]) hx hb hml hown hT hE hW hl.1 (Or.inl (by decide)) (so_268 h0 g _) rfl cf_X11_servedIn wq1697 wq157 wq1695 (c_X11_servedInF l D g T h0 s_69 hW.2.1 j rj n rn i7_69 ri7_69 K9 n9 w9 q9 l9 (hok) (by first | exact hlr | exact hlr.f (fun k hk => hF_69 k (by omega)) (by omega)) (by first | exact hK | exact fun t t1 t2 => by rw [hF_69 272 (by first | decide | omega)]; exact hK t t1 t2) (by first | exact hlm | exact fun i i1 i2 => by rw [hF_69 273 (by first | decide | omega)]; exact hlm i i1 i2) (by first | exact hw | exact (by rw [hF_69 274 (by first | decide | omega), hF_69 275 (by first | decide | omega)]; exact hw)) (zYr_qc v69_3 hY) (by rw [v69_3 36 (by decide) (by decide)]; exact hB) (zYr_gc v69_3 hJt) (by omega) (by omega) (by omega) (by rw [v69_3 34 (by decide) (by decide)]; omega) q69_0 q69_1 q69_2) ⟨rfl, rfl, ⟨by decide, by decide⟩, ⟨by decide, by decide⟩⟩ rfl rfl (Nat.le_of_ble_eq_true rfl) dX11_home_81) hW (fun x16 s17 H locs rx16 hp18 hW => ?_)
              obtain ⟨fs17, hp18⟩ := hp18
              have hF19 := hF_69.call fs17 (fun k h => by omega)
              have ghp18 := hp18.2
              have H81 := ghp18
              have R81 : x16 = (zhT K9 q9 l9 n9 w9 j n (s0 268 48) (zYN (s0 269) 0 0 0)) i7_69 := by
                rw [H81.1, zYN_cg v69_3, show s_69 268 48 = s0 268 48 from v69_4]
              have Q81 : ∀ q : Int, 0 ≤ q → q < 39 → s17 269 q = s0 269 q := fun q a b => (H81.2 q a b).trans (v69_3 q a b)
              refine lv_istore (lv' := [(8, .int (xJ x16)), (0, .ref (h0 + 268)), (1, .int (xJ j)), (2, .int (xJ n)), (3, .int (xJ w)), (4, .int (xJ i4_42)), (5, .int (xJ i5_69)), (6, .int (xJ i6_69)), (7, .int (xJ i7_69))]) hx hb dX11_home_84 hl (by decide) rfl (fun ls hl => ?_)
              refine x_iload hx hb hl 0 rfl dX11_home_86 ?_
              refine x_iload hx hb hl 7 rfl dX11_home_88 ?_
              refine x_icmp_gt (tgt := 96) hx hb rx16 ri6_69 dX11_home_90 (by decide) (fun c20 => ?_) (fun c20 => ?_)
              · skip
                refine x_iload hx hb hl 0 rfl dX11_home_96 ?_
                refine lv_istore (lv' := [(6, .int (xJ x16)), (8, .int (xJ x16)), (0, .ref (h0 + 268)), (1, .int (xJ j)), (2, .int (xJ n)), (3, .int (xJ w)), (4, .int (xJ i4_42)), (5, .int (xJ i5_69)), (7, .int (xJ i7_69))]) hx hb dX11_home_98 hl (by decide) rfl (fun ls hl => ?_)
                refine x_iload hx hb hl 8 rfl dX11_home_100 ?_
                refine lv_istore (lv' := [(5, .int (xJ i7_69)), (6, .int (xJ x16)), (8, .int (xJ x16)), (0, .ref (h0 + 268)), (1, .int (xJ j)), (2, .int (xJ n)), (3, .int (xJ w)), (4, .int (xJ i4_42)), (7, .int (xJ i7_69))]) hx hb dX11_home_102 hl (by decide) rfl (fun ls hl => ?_)
                refine x_iinc (lv' := [(7, .int (xJ (i7_69 + 1))), (5, .int (xJ i7_69)), (6, .int (xJ x16)), (8, .int (xJ x16)), (0, .ref (h0 + 268)), (1, .int (xJ j)), (2, .int (xJ n)), (3, .int (xJ w)), (4, .int (xJ i4_42))]) hx hb hl 8 rfl dX11_home_104 (by decide) rfl (fun ls hl => ?_)
                refine lv_goto (tgt := 69) hx hb dX11_home_107 (by decide) ?_
                exact ih69 i7_69 x16 (i7_69 + 1) s17 H locs ls ri7_69 rx16 (by omega) hF19 hp18.1.1 hp18.1.2.1 hp18.1.2.2.1 (hp18.1.2.2.2.1.trans q69_3) (hp18.1.2.2.2.2.1.trans q69_4) (hp18.1.2.2.2.2.2.1.trans q69_5) (hp18.1.2.2.2.2.2.2.1.trans q69_6) (by omega) (by
                    rw [show (i7_69 + 1).toNat = i7_69.toNat + 1 from by omega]
                    first
                      | (rw [zbx_y (i := i7_69) (by omega) (by rw [← v69_1.1, ← R81]; omega)]; exact ⟨R81, rfl⟩)
                      | (rw [zbx_n (i := i7_69) (by omega) (by rw [← v69_1.1, ← R81]; omega)]; exact v69_1)) (by omega) (Q81) (by omega) (by have hm := hm_69 (); omega) hW (lv_sub hl [4, 5, 6, 7, 8, 1, 2, 0] rfl)
              refine lv_goto (tgt := 104) hx hb dX11_home_93 (by decide) ?_
              refine x_iinc (lv' := [(7, .int (xJ (i7_69 + 1))), (8, .int (xJ x16)), (0, .ref (h0 + 268)), (1, .int (xJ j)), (2, .int (xJ n)), (3, .int (xJ w)), (4, .int (xJ i4_42)), (5, .int (xJ i5_69)), (6, .int (xJ i6_69))]) hx hb hl 8 rfl dX11_home_104 (by decide) rfl (fun ls hl => ?_)
              refine lv_goto (tgt := 69) hx hb dX11_home_107 (by decide) ?_
              exact ih69 i5_69 i6_69 (i7_69 + 1) s17 H locs ls ri5_69 ri6_69 (by omega) hF19 hp18.1.1 hp18.1.2.1 hp18.1.2.2.1 (hp18.1.2.2.2.1.trans q69_3) (hp18.1.2.2.2.2.1.trans q69_4) (hp18.1.2.2.2.2.2.1.trans q69_5) (hp18.1.2.2.2.2.2.2.1.trans q69_6) (by omega) (by
                  rw [show (i7_69 + 1).toNat = i7_69.toNat + 1 from by omega]
                  first
                    | (rw [zbx_y (i := i7_69) (by omega) (by rw [← v69_1.1, ← R81]; omega)]; exact ⟨R81, rfl⟩)
                    | (rw [zbx_n (i := i7_69) (by omega) (by rw [← v69_1.1, ← R81]; omega)]; exact v69_1)) (by omega) (Q81) (by omega) (by have hm := hm_69 (); omega) hW (lv_sub hl [2, 3, 4, 5, 6, 7, 8, 0] rfl)
          exact L69 ((i4_42 - 0 : Int).toNat + 1) (-1) (-1) 0 s0 H locs ls (by decide) (by decide) (by decide) hF p0 p1 p2 k268_8 k268_58 k268_17 k268_48 (by omega) (⟨rfl, rfl⟩) (by omega) (q0) (by omega) (Nat.lt_succ_self _) hW (lv_sub hl [3, 4, 5, 6, 7, 2, 1, 0] rfl)
        refine x_iload hx hb hl 4 rfl dX11_home_48 ?_
        refine x_iconst hx hb dX11_home_50 ?_
        refine x_imul hx hb dX11_home_51 ?_
        refine x_nm (fun x21 ex21 => ?_)
        refine lv_istore (lv' := [(4, .int (xJ x21)), (0, .ref (h0 + 268)), (1, .int (xJ j)), (2, .int (xJ n)), (3, .int (xJ w)), (5, .int (xJ i5_42))]) hx hb dX11_home_52 hl (by decide) rfl (fun ls hl => ?_)
        refine x_iinc (lv' := [(5, .int (xJ (i5_42 + 1))), (4, .int (xJ x21)), (0, .ref (h0 + 268)), (1, .int (xJ j)), (2, .int (xJ n)), (3, .int (xJ w))]) hx hb hl 5 rfl dX11_home_54 (by decide) rfl (fun ls hl => ?_)
        refine lv_goto (tgt := 42) hx hb dX11_home_57 (by decide) ?_
        exact ih42 x21 (i5_42 + 1) ls (by omega) (by omega) (by omega) (by omega) (by have hm := hm_42 (); omega)  (lv_sub hl [2, 3, 4, 5, 1, 0] rfl)
    exact L42 ((n - 0 : Int).toNat + 1) 1 0 ls (by decide) (by decide) (by omega) (by omega) (Nat.lt_succ_self _)  (lv_sub hl [2, 3, 4, 5, 1, 0] rfl)
  refine x_iload_n hx hb hl 3 rfl dX11_home_23 rfl ?_
  refine x_iconst hx hb dX11_home_24 ?_
  refine x_iload_n hx hb hl 2 rfl dX11_home_25 rfl ?_
  refine x_iconst hx hb dX11_home_26 ?_
  refine x_isub hx hb dX11_home_27 ?_
  refine x_goi (x_runS (As := [.int (xJ w), .int (xJ 0), .int (xJ (n - 1))]) hx hb hml hown hT hE hW hl.1 cf_X11_in wq1383 wq1382 (c_X11_in l D g T h0 s0 hW.2.1 w rw 0 (by decide) (n - 1) (by omega)) ⟨rfl, rfl, ⟨by decide, by decide⟩, ⟨by decide, by decide⟩⟩ rfl rfl (Nat.le_of_ble_eq_true rfl) dX11_home_28) hW (fun x22 s23 H locs rx22 hp24 hW => ?_)
  obtain ⟨es23, hp24⟩ := hp24
  subst es23
  have ghp24 := hp24
  refine x_if_ne (tgt := 36) hx hb rx22 dX11_home_31 (by decide) (fun c25 => ?_) (fun c25 => ?_)
  · skip
    refine x_iconst hx hb dX11_home_36 ?_
    refine lv_istore (lv' := [(4, .int (xJ 1)), (0, .ref (h0 + 268)), (1, .int (xJ j)), (2, .int (xJ n)), (3, .int (xJ w))]) hx hb dX11_home_37 hl (by decide) rfl (fun ls hl => ?_)
    refine x_iconst hx hb dX11_home_39 ?_
    refine lv_istore (lv' := [(5, .int (xJ 0)), (4, .int (xJ 1)), (0, .ref (h0 + 268)), (1, .int (xJ j)), (2, .int (xJ n)), (3, .int (xJ w))]) hx hb dX11_home_40 hl (by decide) rfl (fun ls hl => ?_)
    have L42 : ∀ (fu : Nat) (i4_42 : Int) (i5_42 : Int) (ls : Array Slot), (xR i4_42) → (xR i5_42) → (0 ≤ i5_42 ∧ i5_42 ≤ n) → ((i5_42 = 0 ∧ i4_42 = 1) ∨ (i5_42 = 1 ∧ i4_42 = 5) ∨ (i5_42 = 2 ∧ i4_42 = 25) ∨ (i5_42 = 3 ∧ i4_42 = 125) ∨ (i5_42 = 4 ∧ i4_42 = 625) ∨ (i5_42 = 5 ∧ i4_42 = 3125)) → (n - i5_42).toNat < fu → lv_has ls 9 [(0, .ref (h0 + 268)), (1, .int (xJ j)), (2, .int (xJ n)), (3, .int (xJ w)), (4, .int (xJ i4_42)), (5, .int (xJ i5_42))] → W p l e { frames := 9, cells := 0, slots := 0, locals := 211 } s m args below meth c H locs 0 0 Q (F0 m 42 ls []) := by
      intro fu
      induction fu with
      | zero => intro i4_42 i5_42 ls ri4_42 ri5_42 v42_0 v42_1 hm; exact absurd hm (Nat.not_lt_zero _)
      | succ fu ih42 =>
        intro i4_42 i5_42 ls ri4_42 ri5_42 v42_0 v42_1 hm  hl
        have hm_42 := fun (_ : Unit) => hm
        clear hm
        refine x_iload hx hb hl 5 rfl dX11_home_42 ?_
        refine x_iload_n hx hb hl 2 rfl dX11_home_44 rfl ?_
        refine x_icmp_ge (tgt := 60) hx hb ri5_42 rn dX11_home_45 (by decide) (fun c26 => ?_) (fun c26 => ?_)
        · skip
          refine x_iconst hx hb dX11_home_60 ?_
          refine lv_istore (lv' := [(5, .int (xJ (-1))), (0, .ref (h0 + 268)), (1, .int (xJ j)), (2, .int (xJ n)), (3, .int (xJ w)), (4, .int (xJ i4_42))]) hx hb dX11_home_61 hl (by decide) rfl (fun ls hl => ?_)
          refine x_iconst hx hb dX11_home_63 ?_
          refine lv_istore (lv' := [(6, .int (xJ (-1))), (5, .int (xJ (-1))), (0, .ref (h0 + 268)), (1, .int (xJ j)), (2, .int (xJ n)), (3, .int (xJ w)), (4, .int (xJ i4_42))]) hx hb dX11_home_64 hl (by decide) rfl (fun ls hl => ?_)
          refine x_iconst hx hb dX11_home_66 ?_
          have L66 : i4_42 = z5 n := by
            unfold z5
            (repeat' split) <;> omega
          refine lv_istore (lv' := [(7, .int (xJ 0)), (6, .int (xJ (-1))), (5, .int (xJ (-1))), (0, .ref (h0 + 268)), (1, .int (xJ j)), (2, .int (xJ n)), (3, .int (xJ w)), (4, .int (xJ i4_42))]) hx hb dX11_home_67 hl (by decide) rfl (fun ls hl => ?_)
          have L69 : ∀ (fu : Nat) (i5_69 : Int) (i6_69 : Int) (i7_69 : Int) (s_69 : xS) (H : Heap) (locs : List Loc) (ls : Array Slot), (xR i5_69) → (xR i6_69) → (xR i7_69) → (xFr (fun k => k = 268 ∨ k = 269 ∨ k = 270 ∨ k = 293 ∨ k = 294 ∨ k = 295 ∨ k = 296 ∨ k = 297 ∨ k = 298 ∨ k = 299) s0 s_69) → (IMn s_69) → (IMk s_69) → (IMo s_69) → (s_69 268 8 = s0 268 8) → (s_69 268 58 = s0 268 58) → (s_69 268 17 = s0 268 17) → (s_69 268 48 = s0 268 48) → (0 ≤ i7_69 ∧ i7_69 ≤ i4_42) → (i6_69 = (zbx (zhT K9 q9 l9 n9 w9 j n (s0 268 48) (zYN (s0 269) 0 0 0)) (i7_69).toNat).1 ∧ i5_69 = (zbx (zhT K9 q9 l9 n9 w9 j n (s0 268 48) (zYN (s0 269) 0 0 0)) (i7_69).toNat).2) → (-1 ≤ i5_69 ∧ i5_69 < 3125) → (∀ q : Int, 0 ≤ q → q < 39 → s_69 269 q = s0 269 q) → (s_69 268 48 = s0 268 48) → (i4_42 - i7_69).toNat < fu → xW D g h0 s H locs s_69 → lv_has ls 9 [(0, .ref (h0 + 268)), (1, .int (xJ j)), (2, .int (xJ n)), (3, .int (xJ w)), (4, .int (xJ i4_42)), (5, .int (xJ i5_69)), (6, .int (xJ i6_69)), (7, .int (xJ i7_69))] → W p l e { frames := 9, cells := 0, slots := 0, locals := 211 } s m args below meth c H locs 0 0 Q (F0 m 69 ls []) := by
            intro fu
            induction fu with
            | zero => intro i5_69 i6_69 i7_69 s_69 H locs ls ri5_69 ri6_69 ri7_69 hF_69 q69_0 q69_1 q69_2 q69_3 q69_4 q69_5 q69_6 v69_0 v69_1 v69_2 v69_3 v69_4 hm; exact absurd hm (Nat.not_lt_zero _)
            | succ fu ih69 =>
              intro i5_69 i6_69 i7_69 s_69 H locs ls ri5_69 ri6_69 ri7_69 hF_69 q69_0 q69_1 q69_2 q69_3 q69_4 q69_5 q69_6 v69_0 v69_1 v69_2 v69_3 v69_4 hm hW hl
              have hm_69 := fun (_ : Unit) => hm
              clear hm
              refine x_iload hx hb hl 7 rfl dX11_home_69 ?_
              refine x_iload hx hb hl 4 rfl dX11_home_71 ?_
              refine x_icmp_ge (tgt := 110) hx hb ri7_69 ri4_42 dX11_home_73 (by decide) (fun c27 => ?_) (fun c27 => ?_)
              · skip
                refine x_iload_n hx hb hl 3 rfl dX11_home_110 rfl ?_
                have z5b := z5_r (n := n) (by omega)
                have b110 := zbx_r pS (i7_69).toNat (by omega)
                have e110 : i7_69 = z5 n := by omega
                rw [e110] at v69_1 b110
                refine x_bipush hx hb dX11_home_111 (by decide) ?_
                refine x_icmp_ne (tgt := 121) hx hb rw (by decide) dX11_home_113 (by decide) (fun c28 => ?_) (fun c28 => ?_)
                · skip
                  refine x_iload hx hb hl 5 rfl dX11_home_121 ?_
                  refine x_iload_n hx hb hl 2 rfl dX11_home_123 rfl ?_
                  refine x_iload_n hx hb hl 3 rfl dX11_home_124 rfl ?_
                  refine x_goi (x_runS (As := [.int (xJ i5_69), .int (xJ n), .int (xJ w)]) hx hb hml hown hT hE hW hl.1 cf_X11_stepIn wq1700 wq1699 (c_X11_stepInF l D g T h0 s_69 hW.2.1 i5_69 ri5_69 n rn w rw (by omega) (by omega)) ⟨rfl, rfl, ⟨by decide, by decide⟩, ⟨by decide, by decide⟩⟩ rfl rfl (Nat.le_of_ble_eq_true rfl) dX11_home_125) hW (fun x29 s30 H locs rx29 hp31 hW => ?_)
                  obtain ⟨es30, hp31⟩ := hp31
                  subst es30
                  have ghp31 := hp31
                  have H125 := ghp31
                  have d125 := zdgt_r (m := n) (c := i5_69) (i := w) (by omega)
                  refine x_iconst hx hb dX11_home_128 ?_
                  refine x_idiv hx hb rx29 (by decide) (by omega) (by decide) dX11_home_129 ?_
                  rw [eQ]
                  exact x_iret hx hb hr hlk hW (by omega) ⟨hF_69, ⟨q69_0, q69_1, q69_2, q69_3, q69_4, q69_5, q69_6, trivial⟩, by
                      first
                        | exact Or.inl ⟨by omega, fun z => v69_1.1, fun z => absurd z (by omega), v69_3⟩
                        | exact Or.inl ⟨by omega, fun z => absurd z (by omega), fun z => by rw [← v69_1.2]; omega, v69_3⟩⟩ dX11_home_130
                refine x_iload hx hb hl 6 rfl dX11_home_116 ?_
                refine lv_goto (tgt := 130) hx hb dX11_home_118 (by decide) ?_
                rw [eQ]
                exact x_iret hx hb hr hlk hW ri6_69 ⟨hF_69, ⟨q69_0, q69_1, q69_2, q69_3, q69_4, q69_5, q69_6, trivial⟩, by
                    first
                      | exact Or.inl ⟨by omega, fun z => v69_1.1, fun z => absurd z (by omega), v69_3⟩
                      | exact Or.inl ⟨by omega, fun z => absurd z (by omega), fun z => by rw [← v69_1.2]; omega, v69_3⟩⟩ dX11_home_130
              refine x_aload_n hx hb hl 0 rfl dX11_home_76 rfl ?_
              refine x_iload_n hx hb hl 1 rfl dX11_home_77 rfl ?_
              refine x_iload_n hx hb hl 2 rfl dX11_home_78 rfl ?_
              refine x_iload hx hb hl 7 rfl dX11_home_79 ?_
              refine x_goi (x_runV (As := [.int (xJ j), .int (xJ n), .int (xJ i7_69)]) hx hb hml hown hT hE hW hl.1 (Or.inl (by decide)) (so_268 h0 g _) rfl cf_X11_servedIn wq1697 wq157 wq1695 (c_X11_servedInF l D g T h0 s_69 hW.2.1 j rj n rn i7_69 ri7_69 K9 n9 w9 q9 l9 (hok) (by first | exact hlr | exact hlr.f (fun k hk => hF_69 k (by omega)) (by omega)) (by first | exact hK | exact fun t t1 t2 => by rw [hF_69 272 (by first | decide | omega)]; exact hK t t1 t2) (by first | exact hlm | exact fun i i1 i2 => by rw [hF_69 273 (by first | decide | omega)]; exact hlm i i1 i2) (by first | exact hw | exact (by rw [hF_69 274 (by first | decide | omega), hF_69 275 (by first | decide | omega)]; exact hw)) (zYr_qc v69_3 hY) (by rw [v69_3 36 (by decide) (by decide)]; exact hB) (zYr_gc v69_3 hJt) (by omega) (by omega) (by omega) (by rw [v69_3 34 (by decide) (by decide)]; omega) q69_0 q69_1 q69_2) ⟨rfl, rfl, ⟨by decide, by decide⟩, ⟨by decide, by decide⟩⟩ rfl rfl (Nat.le_of_ble_eq_true rfl) dX11_home_81) hW (fun x32 s33 H locs rx32 hp34 hW => ?_)
              obtain ⟨fs33, hp34⟩ := hp34
              have hF35 := hF_69.call fs33 (fun k h => by omega)
              have ghp34 := hp34.2
              have H81 := ghp34
              have R81 : x32 = (zhT K9 q9 l9 n9 w9 j n (s0 268 48) (zYN (s0 269) 0 0 0)) i7_69 := by
                rw [H81.1, zYN_cg v69_3, show s_69 268 48 = s0 268 48 from v69_4]
              have Q81 : ∀ q : Int, 0 ≤ q → q < 39 → s33 269 q = s0 269 q := fun q a b => (H81.2 q a b).trans (v69_3 q a b)
              refine lv_istore (lv' := [(8, .int (xJ x32)), (0, .ref (h0 + 268)), (1, .int (xJ j)), (2, .int (xJ n)), (3, .int (xJ w)), (4, .int (xJ i4_42)), (5, .int (xJ i5_69)), (6, .int (xJ i6_69)), (7, .int (xJ i7_69))]) hx hb dX11_home_84 hl (by decide) rfl (fun ls hl => ?_)
              refine x_iload hx hb hl 0 rfl dX11_home_86 ?_
              refine x_iload hx hb hl 7 rfl dX11_home_88 ?_
              refine x_icmp_gt (tgt := 96) hx hb rx32 ri6_69 dX11_home_90 (by decide) (fun c36 => ?_) (fun c36 => ?_)
              · skip
                refine x_iload hx hb hl 0 rfl dX11_home_96 ?_
                refine lv_istore (lv' := [(6, .int (xJ x32)), (8, .int (xJ x32)), (0, .ref (h0 + 268)), (1, .int (xJ j)), (2, .int (xJ n)), (3, .int (xJ w)), (4, .int (xJ i4_42)), (5, .int (xJ i5_69)), (7, .int (xJ i7_69))]) hx hb dX11_home_98 hl (by decide) rfl (fun ls hl => ?_)
                refine x_iload hx hb hl 8 rfl dX11_home_100 ?_
                refine lv_istore (lv' := [(5, .int (xJ i7_69)), (6, .int (xJ x32)), (8, .int (xJ x32)), (0, .ref (h0 + 268)), (1, .int (xJ j)), (2, .int (xJ n)), (3, .int (xJ w)), (4, .int (xJ i4_42)), (7, .int (xJ i7_69))]) hx hb dX11_home_102 hl (by decide) rfl (fun ls hl => ?_)
                refine x_iinc (lv' := [(7, .int (xJ (i7_69 + 1))), (5, .int (xJ i7_69)), (6, .int (xJ x32)), (8, .int (xJ x32)), (0, .ref (h0 + 268)), (1, .int (xJ j)), (2, .int (xJ n)), (3, .int (xJ w)), (4, .int (xJ i4_42))]) hx hb hl 8 rfl dX11_home_104 (by decide) rfl (fun ls hl => ?_)
                refine lv_goto (tgt := 69) hx hb dX11_home_107 (by decide) ?_
                exact ih69 i7_69 x32 (i7_69 + 1) s33 H locs ls ri7_69 rx32 (by omega) hF35 hp34.1.1 hp34.1.2.1 hp34.1.2.2.1 (hp34.1.2.2.2.1.trans q69_3) (hp34.1.2.2.2.2.1.trans q69_4) (hp34.1.2.2.2.2.2.1.trans q69_5) (hp34.1.2.2.2.2.2.2.1.trans q69_6) (by omega) (by
                    rw [show (i7_69 + 1).toNat = i7_69.toNat + 1 from by omega]
                    first
                      | (rw [zbx_y (i := i7_69) (by omega) (by rw [← v69_1.1, ← R81]; omega)]; exact ⟨R81, rfl⟩)
                      | (rw [zbx_n (i := i7_69) (by omega) (by rw [← v69_1.1, ← R81]; omega)]; exact v69_1)) (by omega) (Q81) (by omega) (by have hm := hm_69 (); omega) hW (lv_sub hl [4, 5, 6, 7, 8, 1, 2, 0] rfl)
              refine lv_goto (tgt := 104) hx hb dX11_home_93 (by decide) ?_
              refine x_iinc (lv' := [(7, .int (xJ (i7_69 + 1))), (8, .int (xJ x32)), (0, .ref (h0 + 268)), (1, .int (xJ j)), (2, .int (xJ n)), (3, .int (xJ w)), (4, .int (xJ i4_42)), (5, .int (xJ i5_69)), (6, .int (xJ i6_69))]) hx hb hl 8 rfl dX11_home_104 (by decide) rfl (fun ls hl => ?_)
              refine lv_goto (tgt := 69) hx hb dX11_home_107 (by decide) ?_
              exact ih69 i5_69 i6_69 (i7_69 + 1) s33 H locs ls ri5_69 ri6_69 (by omega) hF35 hp34.1.1 hp34.1.2.1 hp34.1.2.2.1 (hp34.1.2.2.2.1.trans q69_3) (hp34.1.2.2.2.2.1.trans q69_4) (hp34.1.2.2.2.2.2.1.trans q69_5) (hp34.1.2.2.2.2.2.2.1.trans q69_6) (by omega) (by
                  rw [show (i7_69 + 1).toNat = i7_69.toNat + 1 from by omega]
                  first
                    | (rw [zbx_y (i := i7_69) (by omega) (by rw [← v69_1.1, ← R81]; omega)]; exact ⟨R81, rfl⟩)
                    | (rw [zbx_n (i := i7_69) (by omega) (by rw [← v69_1.1, ← R81]; omega)]; exact v69_1)) (by omega) (Q81) (by omega) (by have hm := hm_69 (); omega) hW (lv_sub hl [2, 3, 4, 5, 6, 7, 8, 0] rfl)
          exact L69 ((i4_42 - 0 : Int).toNat + 1) (-1) (-1) 0 s0 H locs ls (by decide) (by decide) (by decide) hF p0 p1 p2 k268_8 k268_58 k268_17 k268_48 (by omega) (⟨rfl, rfl⟩) (by omega) (q0) (by omega) (Nat.lt_succ_self _) hW (lv_sub hl [3, 4, 5, 6, 7, 2, 1, 0] rfl)
        refine x_iload hx hb hl 4 rfl dX11_home_48 ?_
        refine x_iconst hx hb dX11_home_50 ?_
        refine x_imul hx hb dX11_home_51 ?_
        refine x_nm (fun x37 ex37 => ?_)
        refine lv_istore (lv' := [(4, .int (xJ x37)), (0, .ref (h0 + 268)), (1, .int (xJ j)), (2, .int (xJ n)), (3, .int (xJ w)), (5, .int (xJ i5_42))]) hx hb dX11_home_52 hl (by decide) rfl (fun ls hl => ?_)
        refine x_iinc (lv' := [(5, .int (xJ (i5_42 + 1))), (4, .int (xJ x37)), (0, .ref (h0 + 268)), (1, .int (xJ j)), (2, .int (xJ n)), (3, .int (xJ w))]) hx hb hl 5 rfl dX11_home_54 (by decide) rfl (fun ls hl => ?_)
        refine lv_goto (tgt := 42) hx hb dX11_home_57 (by decide) ?_
        exact ih42 x37 (i5_42 + 1) ls (by omega) (by omega) (by omega) (by omega) (by have hm := hm_42 (); omega)  (lv_sub hl [2, 3, 4, 5, 1, 0] rfl)
    exact L42 ((n - 0 : Int).toNat + 1) 1 0 ls (by decide) (by decide) (by omega) (by omega) (Nat.lt_succ_self _)  (lv_sub hl [2, 3, 4, 5, 1, 0] rfl)
  refine x_iconst hx hb dX11_home_34 ?_
  rw [eQ]
  exact x_iret hx hb hr hlk hW (by decide) ⟨hF, ⟨p0, p1, p2, k268_8, k268_58, k268_17, k268_48, trivial⟩, Or.inr ⟨by omega, by omega, q0⟩⟩ dX11_home_35


