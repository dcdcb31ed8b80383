/-! ===== the model: more of what holds ===== -/
def IMo (σ : xS) : Prop := (∀ j : Int, 0 ≤ j → j < 10 → 0 ≤ σ 297 j ∧ σ 297 j ≤ 9) ∧ ∀ j : Int, 0 ≤ j → j < 8 → 0 ≤ σ 306 j ∧ σ 306 j ≤ 7
def suIMo (k : Nat) : Prop := k = 297 ∨ k = 306
theorem IMo.a {σ : xS} (h : IMo σ) : ∀ j : Int, 0 ≤ j → j < 10 → 0 ≤ σ 297 j ∧ σ 297 j ≤ 9 := h.1
theorem IMo.b {σ : xS} (h : IMo σ) : ∀ j : Int, 0 ≤ j → j < 8 → 0 ≤ σ 306 j ∧ σ 306 j ≤ 7 := h.2
theorem IMo_f {σ τ : xS} (e : ∀ k, suIMo k → τ k = σ k) (h : IMo σ) : IMo τ := by
  unfold suIMo at e
  unfold IMo
  rw [e 297 (by decide), e 306 (by decide)]
  exact h
theorem IMo_o {σ : xS} {k : Nat} {j v : Int} (hk : ¬ suIMo k) (h : IMo σ) : IMo (xU σ k j v) := IMo_f (fun k2 h2 => xU_k σ j v (fun q => hk (q ▸ h2))) h
theorem IMo_297 {σ : xS} {j v : Int} (h : IMo σ) (c : 0 ≤ v ∧ v ≤ 9) : IMo (xU σ 297 j v) := by
  refine ⟨fun j2 a b => xU_v (fun z => 0 ≤ z ∧ z ≤ 9) (fun _ => c) (h.a j2 a b), ?_⟩
  rw [xU_k σ j v (by decide)]; exact h.b
theorem IMo_306 {σ : xS} {j v : Int} (h : IMo σ) (c : 0 ≤ v ∧ v ≤ 7) : IMo (xU σ 306 j v) := by
  refine ⟨?_, fun j2 a b => xU_v (fun z => 0 ≤ z ∧ z ≤ 7) (fun _ => c) (h.b j2 a b)⟩
  rw [xU_k σ j v (by decide)]; exact h.a
/-- the reader stands in its text -/
def IR (σ : xS) : Prop := 0 ≤ σ 268 9 ∧ σ 268 9 ≤ σ 268 10 ∧ σ 268 10 ≤ 240
def suIR (k : Nat) : Prop := k = 268
theorem IR_f {σ τ : xS} (e : ∀ k, suIR k → τ k = σ k) (h : IR σ) : IR τ := by unfold IR; rw [e 268 rfl]; exact h
theorem IR_o {σ : xS} {k : Nat} {j v : Int} (hk : ¬ suIR k) (h : IR σ) : IR (xU σ k j v) := IR_f (fun k2 h2 => xU_k σ j v (fun q => hk (q ▸ h2))) h
theorem IR_268 {σ : xS} {j v : Int} (h : IR σ) (c : (j ≠ 9 ∨ (0 ≤ v ∧ v ≤ σ 268 10)) ∧ j ≠ 10) : IR (xU σ 268 j v) := by
  unfold IR
  rw [xU_j σ v (Ne.symm c.2), xU_i]
  refine ⟨?_, ?_, h.2.2⟩
  · split
    · omega
    · exact h.1
  · split
    · omega
    · exact h.2.1
theorem p2_lt {b : Int} (h : 0 ≤ b ∧ b ≤ 9) : 0 ≤ (2 : Int) ^ b.toNat ∧ (2 : Int) ^ b.toNat < 1024 := by
  rcases (by omega : b = 0 ∨ b = 1 ∨ b = 2 ∨ b = 3 ∨ b = 4 ∨ b = 5 ∨ b = 6 ∨ b = 7 ∨ b = 8 ∨ b = 9) with rfl | rfl | rfl | rfl | rfl | rfl | rfl | rfl | rfl | rfl <;> decide
theorem xJ_tn {a : Int} (h : 0 ≤ a ∧ a < 2147483648) : (xJ a).toBitVec.toNat = a.toNat := by
  show (BitVec.ofInt 32 a).toNat = a.toNat
  rw [BitVec.toNat_ofInt]
  omega
theorem xJ_or10 {a b : Int} (ha : 0 ≤ a ∧ a < 1024) (hb : 0 ≤ b ∧ b < 1024) : xJ a ||| xJ b = xJ ((a.toNat ||| b.toNat : Nat) : Int) ∧ (a.toNat ||| b.toNat) < 1024 := by
  have h9 : (a.toNat ||| b.toNat) < 2 ^ 10 := Nat.or_lt_two_pow (by omega) (by omega)
  refine ⟨Int32.toBitVec_inj.mp (BitVec.eq_of_toNat_eq ?_), h9⟩
  rw [Int32.toBitVec_or, BitVec.toNat_or, xJ_tn (by omega), xJ_tn (by omega), xJ_tn (by omega)]
  rfl
theorem xJ_and255 {a : Int} (ha : xR a) : xJ a &&& xJ 255 = xJ (a % 256) := by
  refine Int32.toBitVec_inj.mp (BitVec.eq_of_toNat_eq ?_)
  rw [Int32.toBitVec_and, BitVec.toNat_and]
  have h1 : (xJ 255).toBitVec.toNat = 2 ^ 8 - 1 := by decide
  have h2 : (xJ a).toBitVec.toNat = (a % 4294967296).toNat := by
    show (BitVec.ofInt 32 a).toNat = _
    rw [BitVec.toNat_ofInt]
    rfl
  rw [h1, h2, Nat.and_two_pow_sub_one_eq_mod, xJ_tn (by omega)]
  omega
section X10
variable {p : Program} {l : Launch} {e : Env} {R : Room} {s : State} {m : MethodId} {args : Array Value} {below : List Frame} {meth : Method} {c : Code} {H : Heap} {locs : List Loc} {cells slots : Nat} {Q : State → Prop}
variable {cc : ByteArray} {pc : Nat} {ls : Array Slot} {rest st0 : List Value}
theorem x_ior10 (hx : p.tables.exec = Jvm.exec) (hb : c.code = cc) {a b : Int} (ha : 0 ≤ a ∧ a < 1024) (hb1 : 0 ≤ b ∧ b < 1024) (hdg : decode cc pc = .ok (.ior, 1)) (k : ∀ v : Int, (0 ≤ v ∧ v < 1024) → W p l e R s m args below meth c H locs cells slots Q (F0 m (pc + 1) ls (.int (xJ v) :: rest))) : W p l e R s m args below meth c H locs cells slots Q (F0 m pc ls (.int (xJ b) :: .int (xJ a) :: rest)) := by
  have h9 := xJ_or10 ha hb1
  exact lv_ior hx hb hdg (by rw [h9.1]; exact k _ (by omega))
theorem x_and255 (hx : p.tables.exec = Jvm.exec) (hb : c.code = cc) {a : Int} (ha : xR a) (hdg : decode cc pc = .ok (.iand, 1)) (k : W p l e R s m args below meth c H locs cells slots Q (F0 m (pc + 1) ls (.int (xJ (a % 256)) :: rest))) : W p l e R s m args below meth c H locs cells slots Q (F0 m pc ls (.int (xJ 255) :: .int (xJ a) :: rest)) :=
  lv_iand hx hb hdg (by rw [xJ_and255 ha]; exact k)
end X10
set_option maxHeartbeats 4000000 in
set_option maxRecDepth 100000 in
theorem c_X11_in (l : Launch) (D : va_G) (g : xG) (T : Nat × Nat × Nat) (h0 : Nat) (s0 : xS) (hσ : xRR s0) (x : Int) (rx : xR x) (lo : Int) (rlo : xR lo) (hi : Int) (rhi : xR hi) : Met l yX11_in (xws yX11_in cX11_in 3 (some .boolean)) { frames := 0, cells := 0, slots := 0, locals := 0 } (xP [.int (xJ x), .int (xJ lo), .int (xJ hi)] D g T h0 s0) (xQi D g h0 (fun r τ => s0 = τ ∧ ((r = 1 ∧ lo ≤ x ∧ x ≤ hi) ∨ (r = 0 ∧ (x < lo ∨ hi < x))))) 0 0 (xA h0) := by
  refine x_met hσ (by decide) (Nat.le_of_ble_eq_true rfl) ?_
  intro p e s m args below meth c hx hb hr hml hown hT hlk hnm hE hW ls hl
  have hl : lv_has ls 3 [(0, .int (xJ x)), (1, .int (xJ lo)), (2, .int (xJ hi))] := hl
  obtain ⟨Q, eQ⟩ : ∃ Q, Q = MQ below (xQi D g h0 (fun r τ => s0 = τ ∧ ((r = 1 ∧ lo ≤ x ∧ x ≤ hi) ∨ (r = 0 ∧ (x < lo ∨ hi < x))))) args s 0 0 (xA h0) := ⟨_, rfl⟩
  rw [← eQ]
  generalize hHe : ([] : List Loc) = locs at hW ⊢
  obtain ⟨H, eH⟩ : ∃ H, H = s.heap := ⟨_, rfl⟩
  rw [← eH] at hW ⊢
  refine x_iload_n hx hb hl 0 rfl dX11_in_0 rfl ?_
  refine x_iload_n hx hb hl 1 rfl dX11_in_1 rfl ?_
  refine x_icmp_lt (tgt := 14) hx hb rx rlo dX11_in_2 (by decide) (fun c1 => ?_) (fun c1 => ?_)
  · skip
    refine x_iconst hx hb dX11_in_14 ?_
    rw [eQ]
    exact x_zret hx hb hr hlk hW (by omega) ⟨rfl, by omega⟩ dX11_in_15
  refine x_iload_n hx hb hl 0 rfl dX11_in_5 rfl ?_
  refine x_iload_n hx hb hl 2 rfl dX11_in_6 rfl ?_
  refine x_icmp_gt (tgt := 14) hx hb rx rhi dX11_in_7 (by decide) (fun c2 => ?_) (fun c2 => ?_)
  · skip
    refine x_iconst hx hb dX11_in_14 ?_
    rw [eQ]
    exact x_zret hx hb hr hlk hW (by omega) ⟨rfl, by omega⟩ dX11_in_15
  refine x_iconst hx hb dX11_in_10 ?_
  refine lv_goto (tgt := 15) hx hb dX11_in_11 (by decide) ?_
  rw [eQ]
  exact x_zret hx hb hr hlk hW (by omega) ⟨rfl, by omega⟩ dX11_in_15
set_option maxHeartbeats 4000000 in
set_option maxRecDepth 100000 in
theorem c_X11_max (l : Launch) (D : va_G) (g : xG) (T : Nat × Nat × Nat) (h0 : Nat) (s0 : xS) (hσ : xRR s0) (a : Int) (ra : xR a) (b : Int) (rb : xR b) : Met l yX11_max (xws yX11_max cX11_max 2 (some .int)) { frames := 0, cells := 0, slots := 0, locals := 0 } (xP [.int (xJ a), .int (xJ b)] D g T h0 s0) (xQi D g h0 (fun r τ => s0 = τ ∧ ((r = a ∧ b < a) ∨ (r = b ∧ a ≤ b)))) 0 0 (xA h0) := by
  refine x_met hσ (by decide) (Nat.le_of_ble_eq_true rfl) ?_
  intro p e s m args below meth c hx hb hr hml hown hT hlk hnm hE hW ls hl
  have hl : lv_has ls 2 [(0, .int (xJ a)), (1, .int (xJ b))] := hl
  obtain ⟨Q, eQ⟩ : ∃ Q, Q = MQ below (xQi D g h0 (fun r τ => s0 = τ ∧ ((r = a ∧ b < a) ∨ (r = b ∧ a ≤ b)))) args s 0 0 (xA h0) := ⟨_, rfl⟩
  rw [← eQ]
  generalize hHe : ([] : List Loc) = locs at hW ⊢
  obtain ⟨H, eH⟩ : ∃ H, H = s.heap := ⟨_, rfl⟩
  rw [← eH] at hW ⊢
  refine x_iload_n hx hb hl 0 rfl dX11_max_0 rfl ?_
  refine x_iload_n hx hb hl 1 rfl dX11_max_1 rfl ?_
  refine x_icmp_le (tgt := 9) hx hb ra rb dX11_max_2 (by decide) (fun c1 => ?_) (fun c1 => ?_)
  · skip
    refine x_iload_n hx hb hl 1 rfl dX11_max_9 rfl ?_
    rw [eQ]
    exact x_iret hx hb hr hlk hW rb ⟨rfl, by omega⟩ dX11_max_10
  refine x_iload_n hx hb hl 0 rfl dX11_max_5 rfl ?_
  refine lv_goto (tgt := 10) hx hb dX11_max_6 (by decide) ?_
  rw [eQ]
  exact x_iret hx hb hr hlk hW ra ⟨rfl, by omega⟩ dX11_max_10
set_option maxHeartbeats 4000000 in
set_option maxRecDepth 100000 in
theorem c_X11_min (l : Launch) (D : va_G) (g : xG) (T : Nat × Nat × Nat) (h0 : Nat) (s0 : xS) (hσ : xRR s0) (a : Int) (ra : xR a) (b : Int) (rb : xR b) : Met l yX11_min (xws yX11_min cX11_min 2 (some .int)) { frames := 0, cells := 0, slots := 0, locals := 0 } (xP [.int (xJ a), .int (xJ b)] D g T h0 s0) (xQi D g h0 (fun r τ => s0 = τ ∧ ((r = a ∧ a < b) ∨ (r = b ∧ b ≤ a)))) 0 0 (xA h0) := by
  refine x_met hσ (by decide) (Nat.le_of_ble_eq_true rfl) ?_
  intro p e s m args below meth c hx hb hr hml hown hT hlk hnm hE hW ls hl
  have hl : lv_has ls 2 [(0, .int (xJ a)), (1, .int (xJ b))] := hl
  obtain ⟨Q, eQ⟩ : ∃ Q, Q = MQ below (xQi D g h0 (fun r τ => s0 = τ ∧ ((r = a ∧ a < b) ∨ (r = b ∧ b ≤ a)))) args s 0 0 (xA h0) := ⟨_, rfl⟩
  rw [← eQ]
  generalize hHe : ([] : List Loc) = locs at hW ⊢
  obtain ⟨H, eH⟩ : ∃ H, H = s.heap := ⟨_, rfl⟩
  rw [← eH] at hW ⊢
  refine x_iload_n hx hb hl 0 rfl dX11_min_0 rfl ?_
  refine x_iload_n hx hb hl 1 rfl dX11_min_1 rfl ?_
  refine x_icmp_ge (tgt := 9) hx hb ra rb dX11_min_2 (by decide) (fun c1 => ?_) (fun c1 => ?_)
  · skip
    refine x_iload_n hx hb hl 1 rfl dX11_min_9 rfl ?_
    rw [eQ]
    exact x_iret hx hb hr hlk hW rb ⟨rfl, by omega⟩ dX11_min_10
  refine x_iload_n hx hb hl 0 rfl dX11_min_5 rfl ?_
  refine lv_goto (tgt := 10) hx hb dX11_min_6 (by decide) ?_
  rw [eQ]
  exact x_iret hx hb hr hlk hW ra ⟨rfl, by omega⟩ dX11_min_10
set_option maxHeartbeats 4000000 in
set_option maxRecDepth 100000 in
theorem c_X11_has (l : Launch) (D : va_G) (g : xG) (T : Nat × Nat × Nat) (h0 : Nat) (s0 : xS) (hσ : xRR s0) (a : Int) (ra : xR a) (q : Int) (rq : xR q) : Met l yX11_has (xws yX11_has cX11_has 2 (some .boolean)) { frames := 0, cells := 0, slots := 0, locals := 0 } (xP [.int (xJ a), .int (xJ q)] D g T h0 s0) (xQi D g h0 (fun r τ => s0 = τ ∧ ((r = 0 ∨ r = 1) ∧ (0 ≤ q ∧ q ≤ 24 → r = xsh a q % 2)))) 0 0 (xA h0) := by
  refine x_met hσ (by decide) (Nat.le_of_ble_eq_true rfl) ?_
  intro p e s m args below meth c hx hb hr hml hown hT hlk hnm hE hW ls hl
  have hl : lv_has ls 2 [(0, .int (xJ a)), (1, .int (xJ q))] := hl
  obtain ⟨Q, eQ⟩ : ∃ Q, Q = MQ below (xQi D g h0 (fun r τ => s0 = τ ∧ ((r = 0 ∨ r = 1) ∧ (0 ≤ q ∧ q ≤ 24 → r = xsh a q % 2)))) args s 0 0 (xA h0) := ⟨_, rfl⟩
  rw [← eQ]
  generalize hHe : ([] : List Loc) = locs at hW ⊢
  obtain ⟨H, eH⟩ : ∃ H, H = s.heap := ⟨_, rfl⟩
  rw [← eH] at hW ⊢
  refine x_iload_n hx hb hl 0 rfl dX11_has_0 rfl ?_
  refine x_iload_n hx hb hl 1 rfl dX11_has_1 rfl ?_
  refine x_shrQ hx hb ra dX11_has_2 (fun x1 ex1 rx1 => ?_)
  refine x_iconst hx hb dX11_has_3 ?_
  refine x_and1 hx hb rx1 dX11_has_4 ?_
  refine x_nm (fun x2 ex2 => ?_)
  refine x_iconst hx hb dX11_has_5 ?_
  refine x_icmp_ne (tgt := 13) hx hb (by omega) (by decide) dX11_has_6 (by decide) (fun c3 => ?_) (fun c3 => ?_)
  · skip
    refine x_iconst hx hb dX11_has_13 ?_
    rw [eQ]
    exact x_zret hx hb hr hlk hW (by omega) ⟨rfl, by omega⟩ dX11_has_14
  refine x_iconst hx hb dX11_has_9 ?_
  refine lv_goto (tgt := 14) hx hb dX11_has_10 (by decide) ?_
  rw [eQ]
  exact x_zret hx hb hr hlk hW (by omega) ⟨rfl, by omega⟩ dX11_has_14
set_option maxHeartbeats 4000000 in
set_option maxRecDepth 100000 in
theorem c_X11_bits (l : Launch) (D : va_G) (g : xG) (T : Nat × Nat × Nat) (h0 : Nat) (s0 : xS) (hσ : xRR s0) (a : Int) (ra : xR a) : Met l yX11_bits (xws yX11_bits cX11_bits 3 (some .int)) { frames := 0, cells := 0, slots := 0, locals := 0 } (xP [.int (xJ a)] D g T h0 s0) (xQi D g h0 (fun r τ => s0 = τ ∧ (0 ≤ r ∧ r ≤ 10))) 0 0 (xA h0) := by
  refine x_met hσ (by decide) (Nat.le_of_ble_eq_true rfl) ?_
  intro p e s m args below meth c hx hb hr hml hown hT hlk hnm hE hW ls hl
  have hl : lv_has ls 3 [(0, .int (xJ a))] := hl
  obtain ⟨Q, eQ⟩ : ∃ Q, Q = MQ below (xQi D g h0 (fun r τ => s0 = τ ∧ (0 ≤ r ∧ r ≤ 10))) args s 0 0 (xA h0) := ⟨_, rfl⟩
  rw [← eQ]
  generalize hHe : ([] : List Loc) = locs at hW ⊢
  obtain ⟨H, eH⟩ : ∃ H, H = s.heap := ⟨_, rfl⟩
  rw [← eH] at hW ⊢
  refine x_iconst hx hb dX11_bits_0 ?_
  refine lv_istore_n (lv' := [(1, .int (xJ 0)), (0, .int (xJ a))]) hx hb dX11_bits_1 rfl hl (by decide) rfl (fun ls hl => ?_)
  refine x_iconst hx hb dX11_bits_2 ?_
  refine lv_istore_n (lv' := [(2, .int (xJ 0)), (1, .int (xJ 0)), (0, .int (xJ a))]) hx hb dX11_bits_3 rfl hl (by decide) rfl (fun ls hl => ?_)
  have L4 : ∀ (fu : Nat) (i1_4 : Int) (i2_4 : Int) (ls : Array Slot), (xR i1_4) → (xR i2_4) → (0 ≤ i2_4) → (i2_4 ≤ 10) → (0 ≤ i1_4 ∧ i1_4 ≤ i2_4) → (10 + 1 - i2_4).toNat < fu → lv_has ls 3 [(0, .int (xJ a)), (1, .int (xJ i1_4)), (2, .int (xJ i2_4))] → W p l e { frames := 0, cells := 0, slots := 0, locals := 0 } s m args below meth c H locs 0 0 Q (F0 m 4 ls []) := by
    intro fu
    induction fu with
    | zero => intro i1_4 i2_4 ls ri1_4 ri2_4 v4_0 v4_1 v4_2 hm; exact absurd hm (Nat.not_lt_zero _)
    | succ fu ih4 =>
      intro i1_4 i2_4 ls ri1_4 ri2_4 v4_0 v4_1 v4_2 hm  hl
      refine x_iload_n hx hb hl 2 rfl dX11_bits_4 rfl ?_
      refine x_bipush hx hb dX11_bits_5 (by decide) ?_
      refine x_icmp_ge (tgt := 24) hx hb ri2_4 (by decide) dX11_bits_7 (by decide) (fun c1 => ?_) (fun c1 => ?_)
      · skip
        refine x_iload_n hx hb hl 1 rfl dX11_bits_24 rfl ?_
        rw [eQ]
        exact x_iret hx hb hr hlk hW ri1_4 ⟨rfl, by omega⟩ dX11_bits_25
      refine x_iload_n hx hb hl 1 rfl dX11_bits_10 rfl ?_
      refine x_iload_n hx hb hl 0 rfl dX11_bits_11 rfl ?_
      refine x_iload_n hx hb hl 2 rfl dX11_bits_12 rfl ?_
      refine lv_ishr hx hb dX11_bits_13 ?_
      refine x_any (fun x2 rx2 => ?_)
      refine x_iconst hx hb dX11_bits_14 ?_
      refine lv_iand hx hb dX11_bits_15 ?_
      refine x_andM1 (fun x3 rx3 qx3 => ?_)
      refine x_iadd hx hb dX11_bits_16 ?_
      refine x_nm (fun x4 ex4 => ?_)
      refine lv_istore_n (lv' := [(1, .int (xJ x4)), (0, .int (xJ a)), (2, .int (xJ i2_4))]) hx hb dX11_bits_17 rfl hl (by decide) rfl (fun ls hl => ?_)
      refine x_iinc (lv' := [(2, .int (xJ (i2_4 + 1))), (1, .int (xJ x4)), (0, .int (xJ a))]) hx hb hl 2 rfl dX11_bits_18 (by decide) rfl (fun ls hl => ?_)
      refine lv_goto (tgt := 4) hx hb dX11_bits_21 (by decide) ?_
      exact ih4 x4 (i2_4 + 1) ls (by omega) (by omega) (by omega) (by omega) (by omega) (by omega)  (lv_sub hl [2, 1, 0] rfl)
  exact L4 ((10 + 1 - 0 : Int).toNat + 1) 0 0 ls (by decide) (by decide) (by omega) (by omega) (by omega) (Nat.lt_succ_self _)  (lv_sub hl [2, 1, 0] rfl)
set_option maxHeartbeats 4000000 in
set_option maxRecDepth 100000 in
theorem c_X11_isFive (l : Launch) (D : va_G) (g : xG) (T : Nat × Nat × Nat) (h0 : Nat) (s0 : xS) (hσ : xRR s0) (x : Int) (rx : xR x) (q : Int) (rq : xR q) : Met l yX11_isFive (xws yX11_isFive cX11_isFive 2 (some .boolean)) { frames := 0, cells := 0, slots := 0, locals := 0 } (xP [.int (xJ x), .int (xJ q)] D g T h0 s0) (xQi D g h0 (fun r τ => s0 = τ ∧ ((r = 1 ∧ 0 ≤ x ∧ x < q) ∨ (r = 0 ∧ (x < 0 ∨ q ≤ x))))) 0 0 (xA h0) := by
  refine x_met hσ (by decide) (Nat.le_of_ble_eq_true rfl) ?_
  intro p e s m args below meth c hx hb hr hml hown hT hlk hnm hE hW ls hl
  have hl : lv_has ls 2 [(0, .int (xJ x)), (1, .int (xJ q))] := hl
  obtain ⟨Q, eQ⟩ : ∃ Q, Q = MQ below (xQi D g h0 (fun r τ => s0 = τ ∧ ((r = 1 ∧ 0 ≤ x ∧ x < q) ∨ (r = 0 ∧ (x < 0 ∨ q ≤ x))))) args s 0 0 (xA h0) := ⟨_, rfl⟩
  rw [← eQ]
  generalize hHe : ([] : List Loc) = locs at hW ⊢
  obtain ⟨H, eH⟩ : ∃ H, H = s.heap := ⟨_, rfl⟩
  rw [← eH] at hW ⊢
  refine x_iload_n hx hb hl 0 rfl dX11_isFive_0 rfl ?_
  refine x_if_lt (tgt := 13) hx hb rx dX11_isFive_1 (by decide) (fun c1 => ?_) (fun c1 => ?_)
  · skip
    refine x_iconst hx hb dX11_isFive_13 ?_
    rw [eQ]
    exact x_zret hx hb hr hlk hW (by omega) ⟨rfl, by omega⟩ dX11_isFive_14
  refine x_iload_n hx hb hl 0 rfl dX11_isFive_4 rfl ?_
  refine x_iload_n hx hb hl 1 rfl dX11_isFive_5 rfl ?_
  refine x_icmp_ge (tgt := 13) hx hb rx rq dX11_isFive_6 (by decide) (fun c2 => ?_) (fun c2 => ?_)
  · skip
    refine x_iconst hx hb dX11_isFive_13 ?_
    rw [eQ]
    exact x_zret hx hb hr hlk hW (by omega) ⟨rfl, by omega⟩ dX11_isFive_14
  refine x_iconst hx hb dX11_isFive_9 ?_
  refine lv_goto (tgt := 14) hx hb dX11_isFive_10 (by decide) ?_
  rw [eQ]
  exact x_zret hx hb hr hlk hW (by omega) ⟨rfl, by omega⟩ dX11_isFive_14
set_option maxHeartbeats 4000000 in
set_option maxRecDepth 100000 in
theorem c_X11_isJudge (l : Launch) (D : va_G) (g : xG) (T : Nat × Nat × Nat) (h0 : Nat) (s0 : xS) (hσ : xRR s0) (j : Int) (rj : xR j) (p0 : IMn s0) (p1 : IMk s0) (p2 : IMo s0) : Met l yX11_isJudge (xws yX11_isJudge cX11_isJudge 2 (some .boolean)) { frames := 1, cells := 0, slots := 0, locals := 21 } (xP [.ref (h0 + 268), .int (xJ j)] D g T h0 s0) (xQi D g h0 (fun r τ => s0 = τ ∧ (r = 0 ∨ (r = 1 ∧ 0 ≤ j ∧ j < 2)))) 0 0 (xA h0) := by
  refine x_met hσ (by decide) (Nat.le_of_ble_eq_true rfl) ?_
  intro p e s m args below meth c hx hb hr hml hown hT hlk hnm hE hW ls hl
  have hl : lv_has ls 2 [(0, .ref (h0 + 268)), (1, .int (xJ j))] := hl
  obtain ⟨Q, eQ⟩ : ∃ Q, Q = MQ below (xQi D g h0 (fun r τ => s0 = τ ∧ (r = 0 ∨ (r = 1 ∧ 0 ≤ j ∧ j < 2)))) args s 0 0 (xA h0) := ⟨_, rfl⟩
  rw [← eQ]
  generalize hHe : ([] : List Loc) = locs at hW ⊢
  obtain ⟨H, eH⟩ : ∃ H, H = s.heap := ⟨_, rfl⟩
  rw [← eH] at hW ⊢
  have k268_8 : s0 268 8 = s0 268 8 := rfl
  have k268_58 : s0 268 58 = s0 268 58 := rfl
  refine x_iload_n hx hb hl 1 rfl dX11_isJudge_0 rfl ?_
  refine x_iconst hx hb dX11_isJudge_1 ?_
  refine x_goi (x_runS (As := [.int (xJ j), .int (xJ 2)]) hx hb hml hown hT hE hW hl.1 cf_X11_isFive wq1412 wq1411 (c_X11_isFive l D g T h0 s0 hW.2.1 j rj 2 (by decide)) ⟨rfl, rfl, ⟨by decide, by decide⟩, ⟨by decide, by decide⟩⟩ rfl rfl (Nat.le_of_ble_eq_true rfl) dX11_isJudge_2) hW (fun x1 s2 H locs rx1 hp3 hW => ?_)
  obtain ⟨es2, hp3⟩ := hp3
  subst es2
  have ghp3 := hp3
  refine x_if_eq (tgt := 26) hx hb rx1 dX11_isJudge_5 (by decide) (fun c4 => ?_) (fun c4 => ?_)
  · skip
    refine x_iconst hx hb dX11_isJudge_26 ?_
    rw [eQ]
    exact x_zret hx hb hr hlk hW (by omega) ⟨rfl, by omega⟩ dX11_isJudge_27
  refine x_aload_n hx hb hl 0 rfl dX11_isJudge_8 rfl ?_
  refine x_get (j := 0) (v := .ref (h0 + 269)) hx hb hown hT hE hW cls_X11 (Or.inl (by decide)) (so_268 h0 g _) (by decide) rfl wq1185 dX11_isJudge_9 ?_
  refine x_bipush hx hb dX11_isJudge_12 (by decide) ?_
  refine x_iald hx hb hE hW (Or.inl (by decide)) (sa_269 h0 g _) ⟨by decide, by decide⟩ (by decide) dX11_isJudge_14 ?_
  refine x_rd hW (fun x5 ex5 rx5 => ?_)
  refine x_iload_n hx hb hl 1 rfl dX11_isJudge_15 rfl ?_
  refine x_goi (x_runS (As := [.int (xJ x5), .int (xJ j)]) hx hb hml hown hT hE hW hl.1 cf_X11_has wq1415 wq1414 (c_X11_has l D g T h0 s0 hW.2.1 x5 rx5 j rj) ⟨rfl, rfl, ⟨by decide, by decide⟩, ⟨by decide, by decide⟩⟩ rfl rfl (Nat.le_of_ble_eq_true rfl) dX11_isJudge_16) hW (fun x6 s7 H locs rx6 hp8 hW => ?_)
  obtain ⟨es7, hp8⟩ := hp8
  subst es7
  have ghp8 := hp8
  refine x_if_eq (tgt := 26) hx hb rx6 dX11_isJudge_19 (by decide) (fun c9 => ?_) (fun c9 => ?_)
  · skip
    refine x_iconst hx hb dX11_isJudge_26 ?_
    rw [eQ]
    exact x_zret hx hb hr hlk hW (by omega) ⟨rfl, by omega⟩ dX11_isJudge_27
  refine x_iconst hx hb dX11_isJudge_22 ?_
  refine lv_goto (tgt := 27) hx hb dX11_isJudge_23 (by decide) ?_
  rw [eQ]
  exact x_zret hx hb hr hlk hW (by omega) ⟨rfl, by omega⟩ dX11_isJudge_27
set_option maxHeartbeats 4000000 in
set_option maxRecDepth 100000 in
theorem c_X11_isFelon (l : Launch) (D : va_G) (g : xG) (T : Nat × Nat × Nat) (h0 : Nat) (s0 : xS) (hσ : xRR s0) (f : Int) (rf : xR f) (p0 : IMn s0) (p1 : IMk s0) (p2 : IMo s0) : Met l yX11_isFelon (xws yX11_isFelon cX11_isFelon 2 (some .boolean)) { frames := 1, cells := 0, slots := 0, locals := 21 } (xP [.ref (h0 + 268), .int (xJ f)] D g T h0 s0) (xQi D g h0 (fun r τ => s0 = τ ∧ (r = 0 ∨ (r = 1 ∧ 0 ≤ f ∧ f < 10)))) 0 0 (xA h0) := by
  refine x_met hσ (by decide) (Nat.le_of_ble_eq_true rfl) ?_
  intro p e s m args below meth c hx hb hr hml hown hT hlk hnm hE hW ls hl
  have hl : lv_has ls 2 [(0, .ref (h0 + 268)), (1, .int (xJ f))] := hl
  obtain ⟨Q, eQ⟩ : ∃ Q, Q = MQ below (xQi D g h0 (fun r τ => s0 = τ ∧ (r = 0 ∨ (r = 1 ∧ 0 ≤ f ∧ f < 10)))) args s 0 0 (xA h0) := ⟨_, rfl⟩
  rw [← eQ]
  generalize hHe : ([] : List Loc) = locs at hW ⊢
  obtain ⟨H, eH⟩ : ∃ H, H = s.heap := ⟨_, rfl⟩
  rw [← eH] at hW ⊢
  have k268_8 : s0 268 8 = s0 268 8 := rfl
  have k268_58 : s0 268 58 = s0 268 58 := rfl
  refine x_iload_n hx hb hl 1 rfl dX11_isFelon_0 rfl ?_
  refine x_bipush hx hb dX11_isFelon_1 (by decide) ?_
  refine x_goi (x_runS (As := [.int (xJ f), .int (xJ 10)]) hx hb hml hown hT hE hW hl.1 cf_X11_isFive wq1412 wq1411 (c_X11_isFive l D g T h0 s0 hW.2.1 f rf 10 (by decide)) ⟨rfl, rfl, ⟨by decide, by decide⟩, ⟨by decide, by decide⟩⟩ rfl rfl (Nat.le_of_ble_eq_true rfl) dX11_isFelon_3) hW (fun x1 s2 H locs rx1 hp3 hW => ?_)
  obtain ⟨es2, hp3⟩ := hp3
  subst es2
  have ghp3 := hp3
  refine x_if_eq (tgt := 27) hx hb rx1 dX11_isFelon_6 (by decide) (fun c4 => ?_) (fun c4 => ?_)
  · skip
    refine x_iconst hx hb dX11_isFelon_27 ?_
    rw [eQ]
    exact x_zret hx hb hr hlk hW (by omega) ⟨rfl, by omega⟩ dX11_isFelon_28
  refine x_aload_n hx hb hl 0 rfl dX11_isFelon_9 rfl ?_
  refine x_get (j := 0) (v := .ref (h0 + 269)) hx hb hown hT hE hW cls_X11 (Or.inl (by decide)) (so_268 h0 g _) (by decide) rfl wq1185 dX11_isFelon_10 ?_
  refine x_bipush hx hb dX11_isFelon_13 (by decide) ?_
  refine x_iald hx hb hE hW (Or.inl (by decide)) (sa_269 h0 g _) ⟨by decide, by decide⟩ (by decide) dX11_isFelon_15 ?_
  refine x_rd hW (fun x5 ex5 rx5 => ?_)
  refine x_iload_n hx hb hl 1 rfl dX11_isFelon_16 rfl ?_
  refine x_goi (x_runS (As := [.int (xJ x5), .int (xJ f)]) hx hb hml hown hT hE hW hl.1 cf_X11_has wq1415 wq1414 (c_X11_has l D g T h0 s0 hW.2.1 x5 rx5 f rf) ⟨rfl, rfl, ⟨by decide, by decide⟩, ⟨by decide, by decide⟩⟩ rfl rfl (Nat.le_of_ble_eq_true rfl) dX11_isFelon_17) hW (fun x6 s7 H locs rx6 hp8 hW => ?_)
  obtain ⟨es7, hp8⟩ := hp8
  subst es7
  have ghp8 := hp8
  refine x_if_eq (tgt := 27) hx hb rx6 dX11_isFelon_20 (by decide) (fun c9 => ?_) (fun c9 => ?_)
  · skip
    refine x_iconst hx hb dX11_isFelon_27 ?_
    rw [eQ]
    exact x_zret hx hb hr hlk hW (by omega) ⟨rfl, by omega⟩ dX11_isFelon_28
  refine x_iconst hx hb dX11_isFelon_23 ?_
  refine lv_goto (tgt := 28) hx hb dX11_isFelon_24 (by decide) ?_
  rw [eQ]
  exact x_zret hx hb hr hlk hW (by omega) ⟨rfl, by omega⟩ dX11_isFelon_28
set_option maxHeartbeats 4000000 in
set_option maxRecDepth 100000 in
theorem c_X11_owes (l : Launch) (D : va_G) (g : xG) (T : Nat × Nat × Nat) (h0 : Nat) (s0 : xS) (hσ : xRR s0) (f : Int) (rf : xR f) (p0 : IMn s0) (p1 : IMk s0) (p2 : IMo s0) : Met l yX11_owes (xws yX11_owes cX11_owes 2 (some .boolean)) { frames := 2, cells := 0, slots := 0, locals := 42 } (xP [.ref (h0 + 268), .int (xJ f)] D g T h0 s0) (xQi D g h0 (fun r τ => s0 = τ ∧ (r = 0 ∨ (r = 1 ∧ 0 ≤ f ∧ f < 10)))) 0 0 (xA h0) := by
  refine x_met hσ (by decide) (Nat.le_of_ble_eq_true rfl) ?_
  intro p e s m args below meth c hx hb hr hml hown hT hlk hnm hE hW ls hl
  have hl : lv_has ls 2 [(0, .ref (h0 + 268)), (1, .int (xJ f))] := hl
  obtain ⟨Q, eQ⟩ : ∃ Q, Q = MQ below (xQi D g h0 (fun r τ => s0 = τ ∧ (r = 0 ∨ (r = 1 ∧ 0 ≤ f ∧ f < 10)))) args s 0 0 (xA h0) := ⟨_, rfl⟩
  rw [← eQ]
  generalize hHe : ([] : List Loc) = locs at hW ⊢
  obtain ⟨H, eH⟩ : ∃ H, H = s.heap := ⟨_, rfl⟩
  rw [← eH] at hW ⊢
  have k268_8 : s0 268 8 = s0 268 8 := rfl
  have k268_58 : s0 268 58 = s0 268 58 := rfl
  refine x_aload_n hx hb hl 0 rfl dX11_owes_0 rfl ?_
  refine x_iload_n hx hb hl 1 rfl dX11_owes_1 rfl ?_
  refine x_goi (x_runV (As := [.int (xJ f)]) hx hb hml hown hT hE hW hl.1 (Or.inl (by decide)) (so_268 h0 g _) rfl cf_X11_isFelon wq1423 wq111 wq1421 (c_X11_isFelon l D g T h0 s0 hW.2.1 f rf p0 p1 p2) ⟨rfl, rfl, ⟨by decide, by decide⟩, ⟨by decide, by decide⟩⟩ rfl rfl (Nat.le_of_ble_eq_true rfl) dX11_owes_2) hW (fun x1 s2 H locs rx1 hp3 hW => ?_)
  obtain ⟨es2, hp3⟩ := hp3
  subst es2
  have ghp3 := hp3
  refine x_if_eq (tgt := 38) hx hb rx1 dX11_owes_5 (by decide) (fun c4 => ?_) (fun c4 => ?_)
  · skip
    refine x_iconst hx hb dX11_owes_38 ?_
    rw [eQ]
    exact x_zret hx hb hr hlk hW (by omega) ⟨rfl, by omega⟩ dX11_owes_39
  refine x_aload_n hx hb hl 0 rfl dX11_owes_8 rfl ?_
  refine x_get (j := 0) (v := .ref (h0 + 269)) hx hb hown hT hE hW cls_X11 (Or.inl (by decide)) (so_268 h0 g _) (by decide) rfl wq1185 dX11_owes_9 ?_
  refine x_bipush hx hb dX11_owes_12 (by decide) ?_
  refine x_iload_n hx hb hl 1 rfl dX11_owes_14 rfl ?_
  refine x_iadd hx hb dX11_owes_15 ?_
  refine x_iald hx hb hE hW (Or.inl (by decide)) (sa_269 h0 g _) (by omega) (by decide) dX11_owes_16 ?_
  refine x_rd hW (fun x5 ex5 rx5 => ?_)
  refine x_if_le (tgt := 38) hx hb rx5 dX11_owes_17 (by decide) (fun c6 => ?_) (fun c6 => ?_)
  · skip
    refine x_iconst hx hb dX11_owes_38 ?_
    rw [eQ]
    exact x_zret hx hb hr hlk hW (by omega) ⟨rfl, by omega⟩ dX11_owes_39
  refine x_aload_n hx hb hl 0 rfl dX11_owes_20 rfl ?_
  refine x_get (j := 0) (v := .ref (h0 + 269)) hx hb hown hT hE hW cls_X11 (Or.inl (by decide)) (so_268 h0 g _) (by decide) rfl wq1185 dX11_owes_21 ?_
  refine x_bipush hx hb dX11_owes_24 (by decide) ?_
  refine x_iald hx hb hE hW (Or.inl (by decide)) (sa_269 h0 g _) ⟨by decide, by decide⟩ (by decide) dX11_owes_26 ?_
  refine x_rd hW (fun x7 ex7 rx7 => ?_)
  refine x_iload_n hx hb hl 1 rfl dX11_owes_27 rfl ?_
  refine x_goi (x_runS (As := [.int (xJ x7), .int (xJ f)]) hx hb hml hown hT hE hW hl.1 cf_X11_has wq1415 wq1414 (c_X11_has l D g T h0 s0 hW.2.1 x7 rx7 f rf) ⟨rfl, rfl, ⟨by decide, by decide⟩, ⟨by decide, by decide⟩⟩ rfl rfl (Nat.le_of_ble_eq_true rfl) dX11_owes_28) hW (fun x8 s9 H locs rx8 hp10 hW => ?_)
  obtain ⟨es9, hp10⟩ := hp10
  subst es9
  have ghp10 := hp10
  refine x_if_ne (tgt := 38) hx hb rx8 dX11_owes_31 (by decide) (fun c11 => ?_) (fun c11 => ?_)
  · skip
    refine x_iconst hx hb dX11_owes_38 ?_
    rw [eQ]
    exact x_zret hx hb hr hlk hW (by omega) ⟨rfl, by omega⟩ dX11_owes_39
  refine x_iconst hx hb dX11_owes_34 ?_
  refine lv_goto (tgt := 39) hx hb dX11_owes_35 (by decide) ?_
  rw [eQ]
  exact x_zret hx hb hr hlk hW (by omega) ⟨rfl, by omega⟩ dX11_owes_39
set_option maxHeartbeats 4000000 in
set_option maxRecDepth 100000 in
theorem c_X11_isOn (l : Launch) (D : va_G) (g : xG) (T : Nat × Nat × Nat) (h0 : Nat) (s0 : xS) (hσ : xRR s0) (x : Int) (rx : xR x) (y : Int) (ry : xR y) : Met l yX11_isOn (xws yX11_isOn cX11_isOn 2 (some .boolean)) { frames := 1, cells := 0, slots := 0, locals := 22 } (xP [.int (xJ x), .int (xJ y)] D g T h0 s0) (xQi D g h0 (fun r τ => s0 = τ ∧ ((r = 1 ∧ 0 ≤ x ∧ x < 10 ∧ 0 ≤ y ∧ y < 10) ∨ (r = 0 ∧ ¬ (0 ≤ x ∧ x < 10 ∧ 0 ≤ y ∧ y < 10))))) 0 0 (xA h0) := by
  refine x_met hσ (by decide) (Nat.le_of_ble_eq_true rfl) ?_
  intro p e s m args below meth c hx hb hr hml hown hT hlk hnm hE hW ls hl
  have hl : lv_has ls 2 [(0, .int (xJ x)), (1, .int (xJ y))] := hl
  obtain ⟨Q, eQ⟩ : ∃ Q, Q = MQ below (xQi D g h0 (fun r τ => s0 = τ ∧ ((r = 1 ∧ 0 ≤ x ∧ x < 10 ∧ 0 ≤ y ∧ y < 10) ∨ (r = 0 ∧ ¬ (0 ≤ x ∧ x < 10 ∧ 0 ≤ y ∧ y < 10))))) args s 0 0 (xA h0) := ⟨_, rfl⟩
  rw [← eQ]
  generalize hHe : ([] : List Loc) = locs at hW ⊢
  obtain ⟨H, eH⟩ : ∃ H, H = s.heap := ⟨_, rfl⟩
  rw [← eH] at hW ⊢
  refine x_iload_n hx hb hl 0 rfl dX11_isOn_0 rfl ?_
  refine x_iconst hx hb dX11_isOn_1 ?_
  refine x_bipush hx hb dX11_isOn_2 (by decide) ?_
  refine x_goi (x_runS (As := [.int (xJ x), .int (xJ 0), .int (xJ 9)]) hx hb hml hown hT hE hW hl.1 cf_X11_in wq1383 wq1382 (c_X11_in l D g T h0 s0 hW.2.1 x rx 0 (by decide) 9 (by decide)) ⟨rfl, rfl, ⟨by decide, by decide⟩, ⟨by decide, by decide⟩⟩ rfl rfl (Nat.le_of_ble_eq_true rfl) dX11_isOn_4) hW (fun x1 s2 H locs rx1 hp3 hW => ?_)
  obtain ⟨es2, hp3⟩ := hp3
  subst es2
  have ghp3 := hp3
  refine x_if_eq (tgt := 24) hx hb rx1 dX11_isOn_7 (by decide) (fun c4 => ?_) (fun c4 => ?_)
  · skip
    refine x_iconst hx hb dX11_isOn_24 ?_
    rw [eQ]
    exact x_zret hx hb hr hlk hW (by omega) ⟨rfl, by omega⟩ dX11_isOn_25
  refine x_iload_n hx hb hl 1 rfl dX11_isOn_10 rfl ?_
  refine x_iconst hx hb dX11_isOn_11 ?_
  refine x_bipush hx hb dX11_isOn_12 (by decide) ?_
  refine x_goi (x_runS (As := [.int (xJ y), .int (xJ 0), .int (xJ 9)]) hx hb hml hown hT hE hW hl.1 cf_X11_in wq1383 wq1382 (c_X11_in l D g T h0 s0 hW.2.1 y ry 0 (by decide) 9 (by decide)) ⟨rfl, rfl, ⟨by decide, by decide⟩, ⟨by decide, by decide⟩⟩ rfl rfl (Nat.le_of_ble_eq_true rfl) dX11_isOn_14) hW (fun x5 s6 H locs rx5 hp7 hW => ?_)
  obtain ⟨es6, hp7⟩ := hp7
  subst es6
  have ghp7 := hp7
  refine x_if_eq (tgt := 24) hx hb rx5 dX11_isOn_17 (by decide) (fun c8 => ?_) (fun c8 => ?_)
  · skip
    refine x_iconst hx hb dX11_isOn_24 ?_
    rw [eQ]
    exact x_zret hx hb hr hlk hW (by omega) ⟨rfl, by omega⟩ dX11_isOn_25
  refine x_iconst hx hb dX11_isOn_20 ?_
  refine lv_goto (tgt := 25) hx hb dX11_isOn_21 (by decide) ?_
  rw [eQ]
  exact x_zret hx hb hr hlk hW (by omega) ⟨rfl, by omega⟩ dX11_isOn_25
set_option maxHeartbeats 4000000 in
set_option maxRecDepth 100000 in
theorem c_X11_isGround (l : Launch) (D : va_G) (g : xG) (T : Nat × Nat × Nat) (h0 : Nat) (s0 : xS) (hσ : xRR s0) (x : Int) (rx : xR x) (hx0 : 0 ≤ x ∧ x ≤ 99) (p0 : IMn s0) (p1 : IMk s0) (p2 : IMo s0) : Met l yX11_isGround (xws yX11_isGround cX11_isGround 2 (some .boolean)) { frames := 0, cells := 0, slots := 0, locals := 0 } (xP [.ref (h0 + 268), .int (xJ x)] D g T h0 s0) (xQi D g h0 (fun r τ => s0 = τ ∧ (r = 0 ∨ r = 1))) 0 0 (xA h0) := by
  refine x_met hσ (by decide) (Nat.le_of_ble_eq_true rfl) ?_
  intro p e s m args below meth c hx hb hr hml hown hT hlk hnm hE hW ls hl
  have hl : lv_has ls 2 [(0, .ref (h0 + 268)), (1, .int (xJ x))] := hl
  obtain ⟨Q, eQ⟩ : ∃ Q, Q = MQ below (xQi D g h0 (fun r τ => s0 = τ ∧ (r = 0 ∨ r = 1))) args s 0 0 (xA h0) := ⟨_, rfl⟩
  rw [← eQ]
  generalize hHe : ([] : List Loc) = locs at hW ⊢
  obtain ⟨H, eH⟩ : ∃ H, H = s.heap := ⟨_, rfl⟩
  rw [← eH] at hW ⊢
  have k268_8 : s0 268 8 = s0 268 8 := rfl
  have k268_58 : s0 268 58 = s0 268 58 := rfl
  refine x_aload_n hx hb hl 0 rfl dX11_isGround_0 rfl ?_
  refine x_get (j := 3) (v := .ref (h0 + 272)) hx hb hown hT hE hW cls_X11 (Or.inl (by decide)) (so_268 h0 g _) (by decide) rfl wq1188 dX11_isGround_1 ?_
  refine x_iload_n hx hb hl 1 rfl dX11_isGround_4 rfl ?_
  refine x_iald hx hb hE hW (Or.inl (by decide)) (sa_272 h0 g _) (by omega) (by decide) dX11_isGround_5 ?_
  refine x_rd hW (fun x1 ex1 rx1 => ?_)
  refine x_if_eq (tgt := 19) hx hb rx1 dX11_isGround_6 (by decide) (fun c2 => ?_) (fun c2 => ?_)
  · skip
    refine x_iconst hx hb dX11_isGround_19 ?_
    refine lv_goto (tgt := 24) hx hb dX11_isGround_20 (by decide) ?_
    rw [eQ]
    exact x_zret hx hb hr hlk hW (by omega) ⟨rfl, by omega⟩ dX11_isGround_24
  refine x_aload_n hx hb hl 0 rfl dX11_isGround_9 rfl ?_
  refine x_get (j := 3) (v := .ref (h0 + 272)) hx hb hown hT hE hW cls_X11 (Or.inl (by decide)) (so_268 h0 g _) (by decide) rfl wq1188 dX11_isGround_10 ?_
  refine x_iload_n hx hb hl 1 rfl dX11_isGround_13 rfl ?_
  refine x_iald hx hb hE hW (Or.inl (by decide)) (sa_272 h0 g _) (by omega) (by decide) dX11_isGround_14 ?_
  refine x_rd hW (fun x3 ex3 rx3 => ?_)
  refine x_iconst hx hb dX11_isGround_15 ?_
  refine x_icmp_ne (tgt := 23) hx hb rx3 (by decide) dX11_isGround_16 (by decide) (fun c4 => ?_) (fun c4 => ?_)
  · skip
    refine x_iconst hx hb dX11_isGround_23 ?_
    rw [eQ]
    exact x_zret hx hb hr hlk hW (by omega) ⟨rfl, by omega⟩ dX11_isGround_24
  refine x_iconst hx hb dX11_isGround_19 ?_
  refine lv_goto (tgt := 24) hx hb dX11_isGround_20 (by decide) ?_
  rw [eQ]
  exact x_zret hx hb hr hlk hW (by omega) ⟨rfl, by omega⟩ dX11_isGround_24
set_option maxHeartbeats 4000000 in
set_option maxRecDepth 100000 in
theorem c_X11_wayX (l : Launch) (D : va_G) (g : xG) (T : Nat × Nat × Nat) (h0 : Nat) (s0 : xS) (hσ : xRR s0) (w : Int) (rw : xR w) : Met l yX11_wayX (xws yX11_wayX cX11_wayX 1 (some .int)) { frames := 0, cells := 0, slots := 0, locals := 0 } (xP [.int (xJ w)] D g T h0 s0) (xQi D g h0 (fun r τ => s0 = τ ∧ (-1 ≤ r ∧ r ≤ 1))) 0 0 (xA h0) := by
  refine x_met hσ (by decide) (Nat.le_of_ble_eq_true rfl) ?_
  intro p e s m args below meth c hx hb hr hml hown hT hlk hnm hE hW ls hl
  have hl : lv_has ls 1 [(0, .int (xJ w))] := hl
  obtain ⟨Q, eQ⟩ : ∃ Q, Q = MQ below (xQi D g h0 (fun r τ => s0 = τ ∧ (-1 ≤ r ∧ r ≤ 1))) args s 0 0 (xA h0) := ⟨_, rfl⟩
  rw [← eQ]
  generalize hHe : ([] : List Loc) = locs at hW ⊢
  obtain ⟨H, eH⟩ : ∃ H, H = s.heap := ⟨_, rfl⟩
  rw [← eH] at hW ⊢
  refine x_iload_n hx hb hl 0 rfl dX11_wayX_0 rfl ?_
  refine x_if_eq (tgt := 9) hx hb rw dX11_wayX_1 (by decide) (fun c1 => ?_) (fun c1 => ?_)
  · skip
    refine x_iconst hx hb dX11_wayX_9 ?_
    refine lv_goto (tgt := 23) hx hb dX11_wayX_10 (by decide) ?_
    rw [eQ]
    exact x_iret hx hb hr hlk hW (by decide) ⟨rfl, by omega⟩ dX11_wayX_23
  refine x_iload_n hx hb hl 0 rfl dX11_wayX_4 rfl ?_
  refine x_iconst hx hb dX11_wayX_5 ?_
  refine x_icmp_ne (tgt := 13) hx hb rw (by decide) dX11_wayX_6 (by decide) (fun c2 => ?_) (fun c2 => ?_)
  · skip
    refine x_iload_n hx hb hl 0 rfl dX11_wayX_13 rfl ?_
    refine x_iconst hx hb dX11_wayX_14 ?_
    refine x_icmp_ge (tgt := 22) hx hb rw (by decide) dX11_wayX_15 (by decide) (fun c3 => ?_) (fun c3 => ?_)
    · skip
      refine x_iconst hx hb dX11_wayX_22 ?_
      rw [eQ]
      exact x_iret hx hb hr hlk hW (by decide) ⟨rfl, by omega⟩ dX11_wayX_23
    refine x_iconst hx hb dX11_wayX_18 ?_
    refine lv_goto (tgt := 23) hx hb dX11_wayX_19 (by decide) ?_
    rw [eQ]
    exact x_iret hx hb hr hlk hW (by decide) ⟨rfl, by omega⟩ dX11_wayX_23
  refine x_iconst hx hb dX11_wayX_9 ?_
  refine lv_goto (tgt := 23) hx hb dX11_wayX_10 (by decide) ?_
  rw [eQ]
  exact x_iret hx hb hr hlk hW (by decide) ⟨rfl, by omega⟩ dX11_wayX_23
set_option maxHeartbeats 4000000 in
set_option maxRecDepth 100000 in
theorem c_X11_wayY (l : Launch) (D : va_G) (g : xG) (T : Nat × Nat × Nat) (h0 : Nat) (s0 : xS) (hσ : xRR s0) (w : Int) (rw : xR w) : Met l yX11_wayY (xws yX11_wayY cX11_wayY 1 (some .int)) { frames := 1, cells := 0, slots := 0, locals := 22 } (xP [.int (xJ w)] D g T h0 s0) (xQi D g h0 (fun r τ => s0 = τ ∧ (-1 ≤ r ∧ r ≤ 1))) 0 0 (xA h0) := by
  refine x_met hσ (by decide) (Nat.le_of_ble_eq_true rfl) ?_
  intro p e s m args below meth c hx hb hr hml hown hT hlk hnm hE hW ls hl
  have hl : lv_has ls 1 [(0, .int (xJ w))] := hl
  obtain ⟨Q, eQ⟩ : ∃ Q, Q = MQ below (xQi D g h0 (fun r τ => s0 = τ ∧ (-1 ≤ r ∧ r ≤ 1))) args s 0 0 (xA h0) := ⟨_, rfl⟩
  rw [← eQ]
  generalize hHe : ([] : List Loc) = locs at hW ⊢
  obtain ⟨H, eH⟩ : ∃ H, H = s.heap := ⟨_, rfl⟩
  rw [← eH] at hW ⊢
  refine x_iload_n hx hb hl 0 rfl dX11_wayY_0 rfl ?_
  refine x_iconst hx hb dX11_wayY_1 ?_
  refine x_icmp_eq (tgt := 11) hx hb rw (by decide) dX11_wayY_2 (by decide) (fun c1 => ?_) (fun c1 => ?_)
  · skip
    refine x_iconst hx hb dX11_wayY_11 ?_
    refine lv_goto (tgt := 29) hx hb dX11_wayY_12 (by decide) ?_
    rw [eQ]
    exact x_iret hx hb hr hlk hW (by decide) ⟨rfl, by omega⟩ dX11_wayY_29
  refine x_iload_n hx hb hl 0 rfl dX11_wayY_5 rfl ?_
  refine x_bipush hx hb dX11_wayY_6 (by decide) ?_
  refine x_icmp_ne (tgt := 15) hx hb rw (by decide) dX11_wayY_8 (by decide) (fun c2 => ?_) (fun c2 => ?_)
  · skip
    refine x_iload_n hx hb hl 0 rfl dX11_wayY_15 rfl ?_
    refine x_iconst hx hb dX11_wayY_16 ?_
    refine x_iconst hx hb dX11_wayY_17 ?_
    refine x_goi (x_runS (As := [.int (xJ w), .int (xJ 3), .int (xJ 5)]) hx hb hml hown hT hE hW hl.1 cf_X11_in wq1383 wq1382 (c_X11_in l D g T h0 s0 hW.2.1 w rw 3 (by decide) 5 (by decide)) ⟨rfl, rfl, ⟨by decide, by decide⟩, ⟨by decide, by decide⟩⟩ rfl rfl (Nat.le_of_ble_eq_true rfl) dX11_wayY_18) hW (fun x3 s4 H locs rx3 hp5 hW => ?_)
    obtain ⟨es4, hp5⟩ := hp5
    subst es4
    have ghp5 := hp5
    refine x_if_eq (tgt := 28) hx hb rx3 dX11_wayY_21 (by decide) (fun c6 => ?_) (fun c6 => ?_)
    · skip
      refine x_iconst hx hb dX11_wayY_28 ?_
      rw [eQ]
      exact x_iret hx hb hr hlk hW (by decide) ⟨rfl, by omega⟩ dX11_wayY_29
    refine x_iconst hx hb dX11_wayY_24 ?_
    refine lv_goto (tgt := 29) hx hb dX11_wayY_25 (by decide) ?_
    rw [eQ]
    exact x_iret hx hb hr hlk hW (by decide) ⟨rfl, by omega⟩ dX11_wayY_29
  refine x_iconst hx hb dX11_wayY_11 ?_
  refine lv_goto (tgt := 29) hx hb dX11_wayY_12 (by decide) ?_
  rw [eQ]
  exact x_iret hx hb hr hlk hW (by decide) ⟨rfl, by omega⟩ dX11_wayY_29
set_option maxHeartbeats 4000000 in
set_option maxRecDepth 100000 in
theorem c_X11_beside (l : Launch) (D : va_G) (g : xG) (T : Nat × Nat × Nat) (h0 : Nat) (s0 : xS) (hσ : xRR s0) (x : Int) (rx : xR x) (w : Int) (rw : xR w) (hx0 : 0 ≤ x ∧ x ≤ 99) : Met l yX11_beside (xws yX11_beside cX11_beside 4 (some .int)) { frames := 2, cells := 0, slots := 0, locals := 43 } (xP [.int (xJ x), .int (xJ w)] D g T h0 s0) (xQi D g h0 (fun r τ => s0 = τ ∧ (r = -1 ∨ (0 ≤ r ∧ r ≤ 99)))) 0 0 (xA h0) := by
  refine x_met hσ (by decide) (Nat.le_of_ble_eq_true rfl) ?_
  intro p e s m args below meth c hx hb hr hml hown hT hlk hnm hE hW ls hl
  have hl : lv_has ls 4 [(0, .int (xJ x)), (1, .int (xJ w))] := hl
  obtain ⟨Q, eQ⟩ : ∃ Q, Q = MQ below (xQi D g h0 (fun r τ => s0 = τ ∧ (r = -1 ∨ (0 ≤ r ∧ r ≤ 99)))) args s 0 0 (xA h0) := ⟨_, rfl⟩
  rw [← eQ]
  generalize hHe : ([] : List Loc) = locs at hW ⊢
  obtain ⟨H, eH⟩ : ∃ H, H = s.heap := ⟨_, rfl⟩
  rw [← eH] at hW ⊢
  refine x_iload_n hx hb hl 0 rfl dX11_beside_0 rfl ?_
  refine x_bipush hx hb dX11_beside_1 (by decide) ?_
  refine x_irem hx hb rx (by decide) (by omega) (by decide) dX11_beside_3 ?_
  refine x_iload_n hx hb hl 1 rfl dX11_beside_4 rfl ?_
  refine x_goi (x_runS (As := [.int (xJ w)]) hx hb hml hown hT hE hW hl.1 cf_X11_wayX wq1557 wq1556 (c_X11_wayX l D g T h0 s0 hW.2.1 w rw) ⟨rfl, rfl, ⟨by decide, by decide⟩, ⟨by decide, by decide⟩⟩ rfl rfl (Nat.le_of_ble_eq_true rfl) dX11_beside_5) hW (fun x1 s2 H locs rx1 hp3 hW => ?_)
  obtain ⟨es2, hp3⟩ := hp3
  subst es2
  have ghp3 := hp3
  refine x_iadd hx hb dX11_beside_8 ?_
  refine x_nm (fun x4 ex4 => ?_)
  refine lv_istore_n (lv' := [(2, .int (xJ x4)), (0, .int (xJ x)), (1, .int (xJ w))]) hx hb dX11_beside_9 rfl hl (by decide) rfl (fun ls hl => ?_)
  refine x_iload_n hx hb hl 1 rfl dX11_beside_10 rfl ?_
  refine x_bipush hx hb dX11_beside_11 (by decide) ?_
  refine x_idiv hx hb rx (by decide) (by omega) (by decide) dX11_beside_13 ?_
  refine x_iload_n hx hb hl 2 rfl dX11_beside_14 rfl ?_
  refine x_goi (x_runS (As := [.int (xJ w)]) hx hb hml hown hT hE hW hl.1 cf_X11_wayY wq1560 wq1559 (c_X11_wayY l D g T h0 s0 hW.2.1 w rw) ⟨rfl, rfl, ⟨by decide, by decide⟩, ⟨by decide, by decide⟩⟩ rfl rfl (Nat.le_of_ble_eq_true rfl) dX11_beside_15) hW (fun x5 s6 H locs rx5 hp7 hW => ?_)
  obtain ⟨es6, hp7⟩ := hp7
  subst es6
  have ghp7 := hp7
  refine x_iadd hx hb dX11_beside_18 ?_
  refine x_nm (fun x8 ex8 => ?_)
  refine lv_istore_n (lv' := [(3, .int (xJ x8)), (2, .int (xJ x4)), (0, .int (xJ x)), (1, .int (xJ w))]) hx hb dX11_beside_19 rfl hl (by decide) rfl (fun ls hl => ?_)
  refine x_iload_n hx hb hl 1 rfl dX11_beside_20 rfl ?_
  refine x_iload_n hx hb hl 0 rfl dX11_beside_21 rfl ?_
  refine x_goi (x_runS (As := [.int (xJ x4), .int (xJ x8)]) hx hb hml hown hT hE hW hl.1 cf_X11_isOn wq1430 wq1429 (c_X11_isOn l D g T h0 s0 hW.2.1 x4 (by omega) x8 (by omega)) ⟨rfl, rfl, ⟨by decide, by decide⟩, ⟨by decide, by decide⟩⟩ rfl rfl (Nat.le_of_ble_eq_true rfl) dX11_beside_22) hW (fun x9 s10 H locs rx9 hp11 hW => ?_)
  obtain ⟨es10, hp11⟩ := hp11
  subst es10
  have ghp11 := hp11
  refine x_if_eq (tgt := 37) hx hb rx9 dX11_beside_25 (by decide) (fun c12 => ?_) (fun c12 => ?_)
  · skip
    refine x_iconst hx hb dX11_beside_37 ?_
    rw [eQ]
    exact x_iret hx hb hr hlk hW (by decide) ⟨rfl, by omega⟩ dX11_beside_38
  refine x_bipush hx hb dX11_beside_28 (by decide) ?_
  refine x_iload_n hx hb hl 0 rfl dX11_beside_30 rfl ?_
  refine x_imul hx hb dX11_beside_31 ?_
  refine x_iload_n hx hb hl 1 rfl dX11_beside_32 rfl ?_
  refine x_iadd hx hb dX11_beside_33 ?_
  refine lv_goto (tgt := 38) hx hb dX11_beside_34 (by decide) ?_
  rw [eQ]
  exact x_iret hx hb hr hlk hW (by omega) ⟨rfl, by omega⟩ dX11_beside_38
set_option maxHeartbeats 4000000 in
set_option maxRecDepth 100000 in
theorem c_X11_feels (l : Launch) (D : va_G) (g : xG) (T : Nat × Nat × Nat) (h0 : Nat) (s0 : xS) (hσ : xRR s0) (t : Int) (rt : xR t) (p0 : IMn s0) (p1 : IMk s0) (p2 : IMo s0) : Met l yX11_feels (xws yX11_feels cX11_feels 3 none) { frames := 0, cells := 0, slots := 0, locals := 0 } (xP [.ref (h0 + 268), .int (xJ t)] D g T h0 s0) (xQv D g h0 (fun τ => xFr (fun k => k = 294) s0 τ ∧ (((IMn τ) ∧ (IMk τ) ∧ (IMo τ) ∧ True) ∧ (True)))) 0 0 (xA h0) := by
  refine x_met hσ (by decide) (Nat.le_of_ble_eq_true rfl) ?_
  intro p e s m args below meth c hx hb hr hml hown hT hlk hnm hE hW ls hl
  have hl : lv_has ls 3 [(0, .ref (h0 + 268)), (1, .int (xJ t))] := hl
  obtain ⟨Q, eQ⟩ : ∃ Q, Q = MQ below (xQv D g h0 (fun τ => xFr (fun k => k = 294) s0 τ ∧ (((IMn τ) ∧ (IMk τ) ∧ (IMo τ) ∧ True) ∧ (True)))) args s 0 0 (xA h0) := ⟨_, rfl⟩
  rw [← eQ]
  generalize hHe : ([] : List Loc) = locs at hW ⊢
  obtain ⟨H, eH⟩ : ∃ H, H = s.heap := ⟨_, rfl⟩
  rw [← eH] at hW ⊢
  have hF : xFr (fun k => k = 294) s0 s0 := xFr.rf
  have k268_8 : s0 268 8 = s0 268 8 := rfl
  have k268_58 : s0 268 58 = s0 268 58 := rfl
  refine x_iconst hx hb dX11_feels_0 ?_
  refine lv_istore_n (lv' := [(2, .int (xJ 0)), (0, .ref (h0 + 268)), (1, .int (xJ t))]) hx hb dX11_feels_1 rfl hl (by decide) rfl (fun ls hl => ?_)
  have L2 : ∀ (fu : Nat) (i2_2 : Int) (s_2 : xS) (H : Heap) (locs : List Loc) (ls : Array Slot), (xR i2_2) → (xFr (fun k => k = 294) s0 s_2) → (IMn s_2) → (IMk s_2) → (IMo s_2) → (s_2 268 8 = s0 268 8) → (s_2 268 58 = s0 268 58) → (0 ≤ i2_2) → (i2_2 ≤ 7) → (7 + 1 - i2_2).toNat < fu → xW D g h0 s H locs s_2 → lv_has ls 3 [(0, .ref (h0 + 268)), (1, .int (xJ t)), (2, .int (xJ i2_2))] → W p l e { frames := 0, cells := 0, slots := 0, locals := 0 } s m args below meth c H locs 0 0 Q (F0 m 2 ls []) := by
    intro fu
    induction fu with
    | zero => intro i2_2 s_2 H locs ls ri2_2 hF_2 q2_0 q2_1 q2_2 q2_3 q2_4 v2_0 v2_1 hm; exact absurd hm (Nat.not_lt_zero _)
    | succ fu ih2 =>
      intro i2_2 s_2 H locs ls ri2_2 hF_2 q2_0 q2_1 q2_2 q2_3 q2_4 v2_0 v2_1 hm hW hl
      refine x_iload_n hx hb hl 2 rfl dX11_feels_2 rfl ?_
      refine x_bipush hx hb dX11_feels_3 (by decide) ?_
      refine x_icmp_ge (tgt := 21) hx hb ri2_2 (by decide) dX11_feels_5 (by decide) (fun c1 => ?_) (fun c1 => ?_)
      · skip
        refine x_aload_n hx hb hl 0 rfl dX11_feels_21 rfl ?_
        refine x_get (j := 39) (v := .ref (h0 + 294)) hx hb hown hT hE hW cls_X11 (Or.inl (by decide)) (so_268 h0 g _) (by decide) rfl wq1224 dX11_feels_22 ?_
        refine x_iconst hx hb dX11_feels_25 ?_
        refine x_iload_n hx hb hl 1 rfl dX11_feels_26 rfl ?_
        refine x_iast hx hb hE hW (by decide) (fun σ => sa_294 h0 g σ) ⟨by decide, by decide⟩ (by decide) rt dX11_feels_27 (fun H locs s2 es2 hW => ?_)
        have q3 : IMn s2 := by rw [es2]; exact IMn_o (by unfold suIMn; omega) q2_0
        have q4 : IMk s2 := by rw [es2]; exact IMk_o (by unfold suIMk; omega) q2_1
        have q5 : IMo s2 := by rw [es2]; exact IMo_o (by unfold suIMo; omega) q2_2
        have q6 : s2 268 8 = s0 268 8 := (show s2 268 8 = s_2 268 8 from by rw [es2, xU_k _ _ _ (by omega)]).trans q2_3
        have q7 : s2 268 58 = s0 268 58 := (show s2 268 58 = s_2 268 58 from by rw [es2, xU_k _ _ _ (by omega)]).trans q2_4
        have hF8 := hF_2.put es2 (by omega)
        refine x_aload_n hx hb hl 0 rfl dX11_feels_28 rfl ?_
        refine x_get (j := 39) (v := .ref (h0 + 294)) hx hb hown hT hE hW cls_X11 (Or.inl (by decide)) (so_268 h0 g _) (by decide) rfl wq1224 dX11_feels_29 ?_
        refine x_iconst hx hb dX11_feels_32 ?_
        refine x_iload_n hx hb hl 1 rfl dX11_feels_33 rfl ?_
        refine x_bipush hx hb dX11_feels_34 (by decide) ?_
        refine x_idivQ hx hb (by decide) (by omega) dX11_feels_36 (fun x9 rx9 => ?_)
        refine x_bipush hx hb dX11_feels_37 (by decide) ?_
        refine x_iremQ hx hb (by decide) (by omega) dX11_feels_39 (fun x10 rx10 => ?_)
        refine x_iast hx hb hE hW (by decide) (fun σ => sa_294 h0 g σ) ⟨by decide, by decide⟩ (by decide) rx10 dX11_feels_40 (fun H locs s11 es11 hW => ?_)
        have q12 : IMn s11 := by rw [es11]; exact IMn_o (by unfold suIMn; omega) q3
        have q13 : IMk s11 := by rw [es11]; exact IMk_o (by unfold suIMk; omega) q4
        have q14 : IMo s11 := by rw [es11]; exact IMo_o (by unfold suIMo; omega) q5
        have q15 : s11 268 8 = s0 268 8 := (show s11 268 8 = s2 268 8 from by rw [es11, xU_k _ _ _ (by omega)]).trans q6
        have q16 : s11 268 58 = s0 268 58 := (show s11 268 58 = s2 268 58 from by rw [es11, xU_k _ _ _ (by omega)]).trans q7
        have hF17 := hF8.put es11 (by omega)
        rw [eQ]
        exact x_vret hx hb hr hlk hW ⟨hF17, ⟨q12, q13, q14, trivial⟩, trivial⟩ dX11_feels_41
      refine x_aload_n hx hb hl 0 rfl dX11_feels_8 rfl ?_
      refine x_get (j := 39) (v := .ref (h0 + 294)) hx hb hown hT hE hW cls_X11 (Or.inl (by decide)) (so_268 h0 g _) (by decide) rfl wq1224 dX11_feels_9 ?_
      refine x_iload_n hx hb hl 2 rfl dX11_feels_12 rfl ?_
      refine x_iconst hx hb dX11_feels_13 ?_
      refine x_iast hx hb hE hW (by decide) (fun σ => sa_294 h0 g σ) (by omega) (by decide) (by decide) dX11_feels_14 (fun H locs s18 es18 hW => ?_)
      have q19 : IMn s18 := by rw [es18]; exact IMn_o (by unfold suIMn; omega) q2_0
      have q20 : IMk s18 := by rw [es18]; exact IMk_o (by unfold suIMk; omega) q2_1
      have q21 : IMo s18 := by rw [es18]; exact IMo_o (by unfold suIMo; omega) q2_2
      have q22 : s18 268 8 = s0 268 8 := (show s18 268 8 = s_2 268 8 from by rw [es18, xU_k _ _ _ (by omega)]).trans q2_3
      have q23 : s18 268 58 = s0 268 58 := (show s18 268 58 = s_2 268 58 from by rw [es18, xU_k _ _ _ (by omega)]).trans q2_4
      have hF24 := hF_2.put es18 (by omega)
      refine x_iinc (lv' := [(2, .int (xJ (i2_2 + 1))), (0, .ref (h0 + 268)), (1, .int (xJ t))]) hx hb hl 2 rfl dX11_feels_15 (by decide) rfl (fun ls hl => ?_)
      refine lv_goto (tgt := 2) hx hb dX11_feels_18 (by decide) ?_
      exact ih2 (i2_2 + 1) s18 H locs ls (by omega) hF24 q19 q20 q21 q22 q23 (by omega) (by omega) (by omega) hW (lv_sub hl [1, 2, 0] rfl)
  exact L2 ((7 + 1 - 0 : Int).toNat + 1) 0 s0 H locs ls (by decide) hF p0 p1 p2 k268_8 k268_58 (by omega) (by omega) (Nat.lt_succ_self _) hW (lv_sub hl [1, 2, 0] rfl)
set_option maxHeartbeats 4000000 in
set_option maxRecDepth 100000 in
theorem c_X11_bares (l : Launch) (D : va_G) (g : xG) (T : Nat × Nat × Nat) (h0 : Nat) (s0 : xS) (hσ : xRR s0) (p0 : IMn s0) (p1 : IMk s0) (p2 : IMo s0) : Met l yX11_bares (xws yX11_bares cX11_bares 2 none) { frames := 0, cells := 0, slots := 0, locals := 0 } (xP [.ref (h0 + 268)] D g T h0 s0) (xQv D g h0 (fun τ => xFr (fun k => k = 295) s0 τ ∧ (((IMn τ) ∧ (IMk τ) ∧ (IMo τ) ∧ True) ∧ (True)))) 0 0 (xA h0) := by
  refine x_met hσ (by decide) (Nat.le_of_ble_eq_true rfl) ?_
  intro p e s m args below meth c hx hb hr hml hown hT hlk hnm hE hW ls hl
  have hl : lv_has ls 2 [(0, .ref (h0 + 268))] := hl
  obtain ⟨Q, eQ⟩ : ∃ Q, Q = MQ below (xQv D g h0 (fun τ => xFr (fun k => k = 295) s0 τ ∧ (((IMn τ) ∧ (IMk τ) ∧ (IMo τ) ∧ True) ∧ (True)))) args s 0 0 (xA h0) := ⟨_, rfl⟩
  rw [← eQ]
  generalize hHe : ([] : List Loc) = locs at hW ⊢
  obtain ⟨H, eH⟩ : ∃ H, H = s.heap := ⟨_, rfl⟩
  rw [← eH] at hW ⊢
  have hF : xFr (fun k => k = 295) s0 s0 := xFr.rf
  have k268_8 : s0 268 8 = s0 268 8 := rfl
  have k268_58 : s0 268 58 = s0 268 58 := rfl
  refine x_iconst hx hb dX11_bares_0 ?_
  refine lv_istore_n (lv' := [(1, .int (xJ 0)), (0, .ref (h0 + 268))]) hx hb dX11_bares_1 rfl hl (by decide) rfl (fun ls hl => ?_)
  have L2 : ∀ (fu : Nat) (i1_2 : Int) (s_2 : xS) (H : Heap) (locs : List Loc) (ls : Array Slot), (xR i1_2) → (xFr (fun k => k = 295) s0 s_2) → (IMn s_2) → (IMk s_2) → (IMo s_2) → (s_2 268 8 = s0 268 8) → (s_2 268 58 = s0 268 58) → (0 ≤ i1_2) → (i1_2 ≤ 100) → (100 + 1 - i1_2).toNat < fu → xW D g h0 s H locs s_2 → lv_has ls 2 [(0, .ref (h0 + 268)), (1, .int (xJ i1_2))] → W p l e { frames := 0, cells := 0, slots := 0, locals := 0 } s m args below meth c H locs 0 0 Q (F0 m 2 ls []) := by
    intro fu
    induction fu with
    | zero => intro i1_2 s_2 H locs ls ri1_2 hF_2 q2_0 q2_1 q2_2 q2_3 q2_4 v2_0 v2_1 hm; exact absurd hm (Nat.not_lt_zero _)
    | succ fu ih2 =>
      intro i1_2 s_2 H locs ls ri1_2 hF_2 q2_0 q2_1 q2_2 q2_3 q2_4 v2_0 v2_1 hm hW hl
      refine x_iload_n hx hb hl 1 rfl dX11_bares_2 rfl ?_
      refine x_bipush hx hb dX11_bares_3 (by decide) ?_
      refine x_icmp_ge (tgt := 21) hx hb ri1_2 (by decide) dX11_bares_5 (by decide) (fun c1 => ?_) (fun c1 => ?_)
      · skip
        rw [eQ]
        exact x_vret hx hb hr hlk hW ⟨hF_2, ⟨q2_0, q2_1, q2_2, trivial⟩, trivial⟩ dX11_bares_21
      refine x_aload_n hx hb hl 0 rfl dX11_bares_8 rfl ?_
      refine x_get (j := 40) (v := .ref (h0 + 295)) hx hb hown hT hE hW cls_X11 (Or.inl (by decide)) (so_268 h0 g _) (by decide) rfl wq1225 dX11_bares_9 ?_
      refine x_iload_n hx hb hl 1 rfl dX11_bares_12 rfl ?_
      refine x_iconst hx hb dX11_bares_13 ?_
      refine x_iast hx hb hE hW (by decide) (fun σ => sa_295 h0 g σ) (by omega) (by decide) (by decide) dX11_bares_14 (fun H locs s2 es2 hW => ?_)
      have q3 : IMn s2 := by rw [es2]; exact IMn_o (by unfold suIMn; omega) q2_0
      have q4 : IMk s2 := by rw [es2]; exact IMk_o (by unfold suIMk; omega) q2_1
      have q5 : IMo s2 := by rw [es2]; exact IMo_o (by unfold suIMo; omega) q2_2
      have q6 : s2 268 8 = s0 268 8 := (show s2 268 8 = s_2 268 8 from by rw [es2, xU_k _ _ _ (by omega)]).trans q2_3
      have q7 : s2 268 58 = s0 268 58 := (show s2 268 58 = s_2 268 58 from by rw [es2, xU_k _ _ _ (by omega)]).trans q2_4
      have hF8 := hF_2.put es2 (by omega)
      refine x_iinc (lv' := [(1, .int (xJ (i1_2 + 1))), (0, .ref (h0 + 268))]) hx hb hl 1 rfl dX11_bares_15 (by decide) rfl (fun ls hl => ?_)
      refine lv_goto (tgt := 2) hx hb dX11_bares_18 (by decide) ?_
      exact ih2 (i1_2 + 1) s2 H locs ls (by omega) hF8 q3 q4 q5 q6 q7 (by omega) (by omega) (by omega) hW (lv_sub hl [1, 0] rfl)
  exact L2 ((100 + 1 - 0 : Int).toNat + 1) 0 s0 H locs ls (by decide) hF p0 p1 p2 k268_8 k268_58 (by omega) (by omega) (Nat.lt_succ_self _) hW (lv_sub hl [1, 0] rfl)
set_option maxHeartbeats 4000000 in
set_option maxRecDepth 100000 in
theorem c_X11_falls (l : Launch) (D : va_G) (g : xG) (T : Nat × Nat × Nat) (h0 : Nat) (s0 : xS) (hσ : xRR s0) (x : Int) (rx : xR x) (w : Int) (rw : xR w) (n : Int) (rn : xR n) (hx0 : 0 ≤ x ∧ x ≤ 99) (p0 : IMn s0) (p1 : IMk s0) (p2 : IMo s0) : Met l yX11_falls (xws yX11_falls cX11_falls 6 none) { frames := 3, cells := 0, slots := 0, locals := 66 } (xP [.ref (h0 + 268), .int (xJ x), .int (xJ w), .int (xJ n)] D g T h0 s0) (xQv D g h0 (fun τ => xFr (fun k => k = 295) s0 τ ∧ (((IMn τ) ∧ (IMk τ) ∧ (IMo τ) ∧ True) ∧ (True)))) 0 0 (xA h0) := by
  refine x_met hσ (by decide) (Nat.le_of_ble_eq_true rfl) ?_
  intro p e s m args below meth c hx hb hr hml hown hT hlk hnm hE hW ls hl
  have hl : lv_has ls 6 [(0, .ref (h0 + 268)), (1, .int (xJ x)), (2, .int (xJ w)), (3, .int (xJ n))] := hl
  obtain ⟨Q, eQ⟩ : ∃ Q, Q = MQ below (xQv D g h0 (fun τ => xFr (fun k => k = 295) s0 τ ∧ (((IMn τ) ∧ (IMk τ) ∧ (IMo τ) ∧ True) ∧ (True)))) args s 0 0 (xA h0) := ⟨_, rfl⟩
  rw [← eQ]
  generalize hHe : ([] : List Loc) = locs at hW ⊢
  obtain ⟨H, eH⟩ : ∃ H, H = s.heap := ⟨_, rfl⟩
  rw [← eH] at hW ⊢
  have hF : xFr (fun k => k = 295) s0 s0 := xFr.rf
  have k268_8 : s0 268 8 = s0 268 8 := rfl
  have k268_58 : s0 268 58 = s0 268 58 := rfl
  refine x_iload_n hx hb hl 1 rfl dX11_falls_0 rfl ?_
  refine x_iload_n hx hb hl 2 rfl dX11_falls_1 rfl ?_
  refine x_goi (x_runS (As := [.int (xJ x), .int (xJ w)]) hx hb hml hown hT hE hW hl.1 cf_X11_beside wq1554 wq1553 (c_X11_beside l D g T h0 s0 hW.2.1 x rx w rw (by omega)) ⟨rfl, rfl, ⟨by decide, by decide⟩, ⟨by decide, by decide⟩⟩ rfl rfl (Nat.le_of_ble_eq_true rfl) dX11_falls_2) hW (fun x1 s2 H locs rx1 hp3 hW => ?_)
  obtain ⟨es2, hp3⟩ := hp3
  subst es2
  have ghp3 := hp3
  refine lv_istore (lv' := [(4, .int (xJ x1)), (0, .ref (h0 + 268)), (1, .int (xJ x)), (2, .int (xJ w)), (3, .int (xJ n))]) hx hb dX11_falls_5 hl (by decide) rfl (fun ls hl => ?_)
  refine x_iconst hx hb dX11_falls_7 ?_
  refine lv_istore (lv' := [(5, .int (xJ 0)), (4, .int (xJ x1)), (0, .ref (h0 + 268)), (1, .int (xJ x)), (2, .int (xJ w)), (3, .int (xJ n))]) hx hb dX11_falls_8 hl (by decide) rfl (fun ls hl => ?_)
  have L10 : ∀ (fu : Nat) (i4_10 : Int) (i5_10 : Int) (s_10 : xS) (H : Heap) (locs : List Loc) (ls : Array Slot), (xR i4_10) → (xR i5_10) → (xFr (fun k => k = 295) s0 s_10) → (IMn s_10) → (IMk s_10) → (IMo s_10) → (s_10 268 8 = s0 268 8) → (s_10 268 58 = s0 268 58) → (0 ≤ i5_10) → (i4_10 = -1 ∨ (0 ≤ i4_10 ∧ i4_10 ≤ 99)) → (n + 1 - i5_10).toNat < fu → xW D g h0 s H locs s_10 → lv_has ls 6 [(0, .ref (h0 + 268)), (2, .int (xJ w)), (3, .int (xJ n)), (4, .int (xJ i4_10)), (5, .int (xJ i5_10))] → W p l e { frames := 3, cells := 0, slots := 0, locals := 66 } s m args below meth c H locs 0 0 Q (F0 m 10 ls []) := by
    intro fu
    induction fu with
    | zero => intro i4_10 i5_10 s_10 H locs ls ri4_10 ri5_10 hF_10 q10_0 q10_1 q10_2 q10_3 q10_4 v10_0 v10_1 hm; exact absurd hm (Nat.not_lt_zero _)
    | succ fu ih10 =>
      intro i4_10 i5_10 s_10 H locs ls ri4_10 ri5_10 hF_10 q10_0 q10_1 q10_2 q10_3 q10_4 v10_0 v10_1 hm hW hl
      refine x_iload hx hb hl 4 rfl dX11_falls_10 ?_
      refine x_iload_n hx hb hl 2 rfl dX11_falls_12 rfl ?_
      refine x_icmp_ge (tgt := 63) hx hb ri5_10 rn dX11_falls_13 (by decide) (fun c4 => ?_) (fun c4 => ?_)
      · skip
        rw [eQ]
        exact x_vret hx hb hr hlk hW ⟨hF_10, ⟨q10_0, q10_1, q10_2, trivial⟩, trivial⟩ dX11_falls_63
      refine x_iload hx hb hl 3 rfl dX11_falls_16 ?_
      refine x_iconst hx hb dX11_falls_18 ?_
      refine x_icmp_eq (tgt := 63) hx hb ri4_10 (by decide) dX11_falls_19 (by decide) (fun c5 => ?_) (fun c5 => ?_)
      · skip
        rw [eQ]
        exact x_vret hx hb hr hlk hW ⟨hF_10, ⟨q10_0, q10_1, q10_2, trivial⟩, trivial⟩ dX11_falls_63
      refine x_aload_n hx hb hl 0 rfl dX11_falls_22 rfl ?_
      refine x_get (j := 3) (v := .ref (h0 + 272)) hx hb hown hT hE hW cls_X11 (Or.inl (by decide)) (so_268 h0 g _) (by decide) rfl wq1188 dX11_falls_23 ?_
      refine x_iload hx hb hl 3 rfl dX11_falls_26 ?_
      refine x_iald hx hb hE hW (Or.inl (by decide)) (sa_272 h0 g _) (by omega) (by decide) dX11_falls_28 ?_
      refine x_rd hW (fun x6 ex6 rx6 => ?_)
      refine x_iconst hx hb dX11_falls_29 ?_
      refine x_icmp_eq (tgt := 63) hx hb rx6 (by decide) dX11_falls_30 (by decide) (fun c7 => ?_) (fun c7 => ?_)
      · skip
        rw [eQ]
        exact x_vret hx hb hr hlk hW ⟨hF_10, ⟨q10_0, q10_1, q10_2, trivial⟩, trivial⟩ dX11_falls_63
      refine x_aload_n hx hb hl 0 rfl dX11_falls_33 rfl ?_
      refine x_get (j := 40) (v := .ref (h0 + 295)) hx hb hown hT hE hW cls_X11 (Or.inl (by decide)) (so_268 h0 g _) (by decide) rfl wq1225 dX11_falls_34 ?_
      refine x_iload hx hb hl 3 rfl dX11_falls_37 ?_
      refine x_aload_n hx hb hl 0 rfl dX11_falls_39 rfl ?_
      refine x_get (j := 40) (v := .ref (h0 + 295)) hx hb hown hT hE hW cls_X11 (Or.inl (by decide)) (so_268 h0 g _) (by decide) rfl wq1225 dX11_falls_40 ?_
      refine x_iload hx hb hl 3 rfl dX11_falls_43 ?_
      refine x_iald hx hb hE hW (Or.inl (by decide)) (sa_295 h0 g _) (by omega) (by decide) dX11_falls_45 ?_
      refine x_rd hW (fun x8 ex8 rx8 => ?_)
      refine x_iconst hx hb dX11_falls_46 ?_
      refine x_iadd hx hb dX11_falls_47 ?_
      refine x_any (fun x9 rx9 => ?_)
      refine x_iast hx hb hE hW (by decide) (fun σ => sa_295 h0 g σ) (by omega) (by decide) rx9 dX11_falls_48 (fun H locs s10 es10 hW => ?_)
      have q11 : IMn s10 := by rw [es10]; exact IMn_o (by unfold suIMn; omega) q10_0
      have q12 : IMk s10 := by rw [es10]; exact IMk_o (by unfold suIMk; omega) q10_1
      have q13 : IMo s10 := by rw [es10]; exact IMo_o (by unfold suIMo; omega) q10_2
      have q14 : s10 268 8 = s0 268 8 := (show s10 268 8 = s_10 268 8 from by rw [es10, xU_k _ _ _ (by omega)]).trans q10_3
      have q15 : s10 268 58 = s0 268 58 := (show s10 268 58 = s_10 268 58 from by rw [es10, xU_k _ _ _ (by omega)]).trans q10_4
      have hF16 := hF_10.put es10 (by omega)
      refine x_iload hx hb hl 3 rfl dX11_falls_49 ?_
      refine x_iload_n hx hb hl 1 rfl dX11_falls_51 rfl ?_
      refine x_goi (x_runS (As := [.int (xJ i4_10), .int (xJ w)]) hx hb hml hown hT hE hW hl.1 cf_X11_beside wq1554 wq1553 (c_X11_beside l D g T h0 s10 hW.2.1 i4_10 ri4_10 w rw (by omega)) ⟨rfl, rfl, ⟨by decide, by decide⟩, ⟨by decide, by decide⟩⟩ rfl rfl (Nat.le_of_ble_eq_true rfl) dX11_falls_52) hW (fun x17 s18 H locs rx17 hp19 hW => ?_)
      obtain ⟨es18, hp19⟩ := hp19
      subst es18
      have ghp19 := hp19
      refine lv_istore (lv' := [(4, .int (xJ x17)), (0, .ref (h0 + 268)), (2, .int (xJ w)), (3, .int (xJ n)), (5, .int (xJ i5_10))]) hx hb dX11_falls_55 hl (by decide) rfl (fun ls hl => ?_)
      refine x_iinc (lv' := [(5, .int (xJ (i5_10 + 1))), (4, .int (xJ x17)), (0, .ref (h0 + 268)), (2, .int (xJ w)), (3, .int (xJ n))]) hx hb hl 4 rfl dX11_falls_57 (by decide) rfl (fun ls hl => ?_)
      refine lv_goto (tgt := 10) hx hb dX11_falls_60 (by decide) ?_
      exact ih10 x17 (i5_10 + 1) s10 H locs ls rx17 (by omega) hF16 q11 q12 q13 q14 q15 (by omega) (by omega) (by omega) hW (lv_sub hl [2, 3, 4, 1, 0] rfl)
  exact L10 ((n + 1 - 0 : Int).toNat + 1) x1 0 s0 H locs ls rx1 (by decide) hF p0 p1 p2 k268_8 k268_58 (by omega) (by omega) (Nat.lt_succ_self _) hW (lv_sub hl [2, 4, 5, 1, 0] rfl)
set_option maxHeartbeats 4000000 in
set_option maxRecDepth 100000 in
theorem c_X11_fallsBehind (l : Launch) (D : va_G) (g : xG) (T : Nat × Nat × Nat) (h0 : Nat) (s0 : xS) (hσ : xRR s0) (x : Int) (rx : xR x) (j : Int) (rj : xR j) (hx0 : 0 ≤ x ∧ x ≤ 99) (hj : 0 ≤ j ∧ j < 2) (p0 : IMn s0) (p1 : IMk s0) (p2 : IMo s0) : Met l yX11_fallsBehind (xws yX11_fallsBehind cX11_fallsBehind 7 none) { frames := 4, cells := 0, slots := 0, locals := 91 } (xP [.ref (h0 + 268), .int (xJ x), .int (xJ j)] D g T h0 s0) (xQv D g h0 (fun τ => xFr (fun k => k = 295) s0 τ ∧ (((IMn τ) ∧ (IMk τ) ∧ (IMo τ) ∧ True) ∧ (True)))) 0 0 (xA h0) := by
  refine x_met hσ (by decide) (Nat.le_of_ble_eq_true rfl) ?_
  intro p e s m args below meth c hx hb hr hml hown hT hlk hnm hE hW ls hl
  have hl : lv_has ls 7 [(0, .ref (h0 + 268)), (1, .int (xJ x)), (2, .int (xJ j))] := hl
  obtain ⟨Q, eQ⟩ : ∃ Q, Q = MQ below (xQv D g h0 (fun τ => xFr (fun k => k = 295) s0 τ ∧ (((IMn τ) ∧ (IMk τ) ∧ (IMo τ) ∧ True) ∧ (True)))) args s 0 0 (xA h0) := ⟨_, rfl⟩
  rw [← eQ]
  generalize hHe : ([] : List Loc) = locs at hW ⊢
  obtain ⟨H, eH⟩ : ∃ H, H = s.heap := ⟨_, rfl⟩
  rw [← eH] at hW ⊢
  have hF : xFr (fun k => k = 295) s0 s0 := xFr.rf
  have k268_8 : s0 268 8 = s0 268 8 := rfl
  have k268_58 : s0 268 58 = s0 268 58 := rfl
  refine x_aload_n hx hb hl 0 rfl dX11_fallsBehind_0 rfl ?_
  refine x_get (j := 0) (v := .ref (h0 + 269)) hx hb hown hT hE hW cls_X11 (Or.inl (by decide)) (so_268 h0 g _) (by decide) rfl wq1185 dX11_fallsBehind_1 ?_
  refine x_iconst hx hb dX11_fallsBehind_4 ?_
  refine x_iload_n hx hb hl 2 rfl dX11_fallsBehind_5 rfl ?_
  refine x_iadd hx hb dX11_fallsBehind_6 ?_
  refine x_iald hx hb hE hW (Or.inl (by decide)) (sa_269 h0 g _) (by omega) (by decide) dX11_fallsBehind_7 ?_
  refine x_rd hW (fun x1 ex1 rx1 => ?_)
  have bx1 : 0 ≤ x1 ∧ x1 ≤ 99 := by rw [ex1]; exact (IMn.n1 p0).1 _ (by omega) (by omega)
  refine lv_istore_n (lv' := [(3, .int (xJ x1)), (0, .ref (h0 + 268)), (1, .int (xJ x)), (2, .int (xJ j))]) hx hb dX11_fallsBehind_8 rfl hl (by decide) rfl (fun ls hl => ?_)
  refine x_iconst hx hb dX11_fallsBehind_9 ?_
  refine lv_istore (lv' := [(4, .int (xJ 0)), (3, .int (xJ x1)), (0, .ref (h0 + 268)), (1, .int (xJ x)), (2, .int (xJ j))]) hx hb dX11_fallsBehind_10 hl (by decide) rfl (fun ls hl => ?_)
  have L12 : ∀ (fu : Nat) (i4_12 : Int) (s_12 : xS) (H : Heap) (locs : List Loc) (ls : Array Slot), (xR i4_12) → (xFr (fun k => k = 295) s0 s_12) → (IMn s_12) → (IMk s_12) → (IMo s_12) → (s_12 268 8 = s0 268 8) → (s_12 268 58 = s0 268 58) → (0 ≤ i4_12) → (i4_12 ≤ 8) → (8 + 1 - i4_12).toNat < fu → xW D g h0 s H locs s_12 → lv_has ls 7 [(0, .ref (h0 + 268)), (1, .int (xJ x)), (3, .int (xJ x1)), (4, .int (xJ i4_12))] → W p l e { frames := 4, cells := 0, slots := 0, locals := 91 } s m args below meth c H locs 0 0 Q (F0 m 12 ls []) := by
    intro fu
    induction fu with
    | zero => intro i4_12 s_12 H locs ls ri4_12 hF_12 q12_0 q12_1 q12_2 q12_3 q12_4 v12_0 v12_1 hm; exact absurd hm (Nat.not_lt_zero _)
    | succ fu ih12 =>
      intro i4_12 s_12 H locs ls ri4_12 hF_12 q12_0 q12_1 q12_2 q12_3 q12_4 v12_0 v12_1 hm hW hl
      refine x_iload hx hb hl 3 rfl dX11_fallsBehind_12 ?_
      refine x_bipush hx hb dX11_fallsBehind_14 (by decide) ?_
      refine x_icmp_ge (tgt := 102) hx hb ri4_12 (by decide) dX11_fallsBehind_16 (by decide) (fun c2 => ?_) (fun c2 => ?_)
      · skip
        rw [eQ]
        exact x_vret hx hb hr hlk hW ⟨hF_12, ⟨q12_0, q12_1, q12_2, trivial⟩, trivial⟩ dX11_fallsBehind_102
      refine x_iload_n hx hb hl 1 rfl dX11_fallsBehind_19 rfl ?_
      refine x_iload hx hb hl 3 rfl dX11_fallsBehind_20 ?_
      refine x_goi (x_runS (As := [.int (xJ x), .int (xJ i4_12)]) hx hb hml hown hT hE hW hl.1 cf_X11_beside wq1554 wq1553 (c_X11_beside l D g T h0 s_12 hW.2.1 x rx i4_12 ri4_12 (by omega)) ⟨rfl, rfl, ⟨by decide, by decide⟩, ⟨by decide, by decide⟩⟩ rfl rfl (Nat.le_of_ble_eq_true rfl) dX11_fallsBehind_22) hW (fun x3 s4 H locs rx3 hp5 hW => ?_)
      obtain ⟨es4, hp5⟩ := hp5
      subst es4
      have ghp5 := hp5
      refine lv_istore (lv' := [(5, .int (xJ x3)), (0, .ref (h0 + 268)), (1, .int (xJ x)), (3, .int (xJ x1)), (4, .int (xJ i4_12))]) hx hb dX11_fallsBehind_25 hl (by decide) rfl (fun ls hl => ?_)
      refine x_iconst hx hb dX11_fallsBehind_27 ?_
      refine lv_istore (lv' := [(6, .int (xJ 1)), (5, .int (xJ x3)), (0, .ref (h0 + 268)), (1, .int (xJ x)), (3, .int (xJ x1)), (4, .int (xJ i4_12))]) hx hb dX11_fallsBehind_28 hl (by decide) rfl (fun ls hl => ?_)
      have L30 : ∀ (fu : Nat) (i5_30 : Int) (i6_30 : Int) (H : Heap) (locs : List Loc) (ls : Array Slot), (xR i5_30) → (xR i6_30) → (0 ≤ i6_30) → (i6_30 ≤ 4) → (i5_30 = -1 ∨ (0 ≤ i5_30 ∧ i5_30 ≤ 99)) → (4 + 1 - i6_30).toNat < fu → xW D g h0 s H locs s_12 → lv_has ls 7 [(0, .ref (h0 + 268)), (1, .int (xJ x)), (3, .int (xJ x1)), (4, .int (xJ i4_12)), (5, .int (xJ i5_30)), (6, .int (xJ i6_30))] → W p l e { frames := 4, cells := 0, slots := 0, locals := 91 } s m args below meth c H locs 0 0 Q (F0 m 30 ls []) := by
        intro fu
        induction fu with
        | zero => intro i5_30 i6_30 H locs ls ri5_30 ri6_30 v30_0 v30_1 v30_2 hm; exact absurd hm (Nat.not_lt_zero _)
        | succ fu ih30 =>
          intro i5_30 i6_30 H locs ls ri5_30 ri6_30 v30_0 v30_1 v30_2 hm hW hl
          refine x_iload hx hb hl 5 rfl dX11_fallsBehind_30 ?_
          refine x_iconst hx hb dX11_fallsBehind_32 ?_
          have J77 : ∀ (ls : Array Slot), (i5_30 = -1 ∨ (0 ≤ i5_30 ∧ i5_30 ≤ 99)) → lv_has ls 7 [(0, .ref (h0 + 268)), (1, .int (xJ x)), (3, .int (xJ x1)), (4, .int (xJ i4_12)), (5, .int (xJ i5_30))] → W p l e { frames := 4, cells := 0, slots := 0, locals := 91 } s m args below meth c H locs 0 0 Q (F0 m 77 ls []) := by
            intro ls v77_0  hl
            refine x_iload hx hb hl 4 rfl dX11_fallsBehind_77 ?_
            refine x_iload_n hx hb hl 2 rfl dX11_fallsBehind_79 rfl ?_
            refine x_icmp_ne (tgt := 96) hx hb ri5_30 rx1 dX11_fallsBehind_80 (by decide) (fun c6 => ?_) (fun c6 => ?_)
            · skip
              refine x_iinc (lv' := [(4, .int (xJ (i4_12 + 1))), (0, .ref (h0 + 268)), (1, .int (xJ x)), (3, .int (xJ x1)), (5, .int (xJ i5_30))]) hx hb hl 3 rfl dX11_fallsBehind_96 (by decide) rfl (fun ls hl => ?_)
              refine lv_goto (tgt := 12) hx hb dX11_fallsBehind_99 (by decide) ?_
              exact ih12 (i4_12 + 1) s_12 H locs ls (by omega) hF_12 q12_0 q12_1 q12_2 q12_3 q12_4 (by omega) (by omega) (by omega) hW (lv_sub hl [1, 2, 3, 0] rfl)
            refine x_iload_n hx hb hl 1 rfl dX11_fallsBehind_83 rfl ?_
            refine x_iload_n hx hb hl 2 rfl dX11_fallsBehind_84 rfl ?_
            refine x_icmp_eq (tgt := 96) hx hb rx rx1 dX11_fallsBehind_85 (by decide) (fun c7 => ?_) (fun c7 => ?_)
            · skip
              refine x_iinc (lv' := [(4, .int (xJ (i4_12 + 1))), (0, .ref (h0 + 268)), (1, .int (xJ x)), (3, .int (xJ x1)), (5, .int (xJ i5_30))]) hx hb hl 3 rfl dX11_fallsBehind_96 (by decide) rfl (fun ls hl => ?_)
              refine lv_goto (tgt := 12) hx hb dX11_fallsBehind_99 (by decide) ?_
              exact ih12 (i4_12 + 1) s_12 H locs ls (by omega) hF_12 q12_0 q12_1 q12_2 q12_3 q12_4 (by omega) (by omega) (by omega) hW (lv_sub hl [1, 2, 3, 0] rfl)
            refine x_aload_n hx hb hl 0 rfl dX11_fallsBehind_88 rfl ?_
            refine x_iload_n hx hb hl 2 rfl dX11_fallsBehind_89 rfl ?_
            refine x_iload hx hb hl 3 rfl dX11_fallsBehind_90 ?_
            refine x_iconst hx hb dX11_fallsBehind_92 ?_
            refine x_gov (x_runV (As := [.int (xJ x1), .int (xJ i4_12), .int (xJ 2)]) hx hb hml hown hT hE hW hl.1 (Or.inl (by decide)) (so_268 h0 g _) rfl cf_X11_falls wq1600 wq142 wq1598 (c_X11_falls l D g T h0 s_12 hW.2.1 x1 rx1 i4_12 ri4_12 2 (by decide) (by omega) q12_0 q12_1 q12_2) ⟨rfl, rfl, ⟨by decide, by decide⟩, ⟨by decide, by decide⟩⟩ rfl rfl (Nat.le_of_ble_eq_true rfl) dX11_fallsBehind_93) hW (fun s9 H locs hp10 hW => ?_)
            obtain ⟨fs9, hp10⟩ := hp10
            have hF11 := hF_12.call fs9 (fun k h => by omega)
            have q12 : s9 268 8 = s0 268 8 := (congrFun (fs9 _ (by omega)) _).trans q12_3
            have q13 : s9 268 58 = s0 268 58 := (congrFun (fs9 _ (by omega)) _).trans q12_4
            have ghp10 := hp10.2
            refine x_iinc (lv' := [(4, .int (xJ (i4_12 + 1))), (0, .ref (h0 + 268)), (1, .int (xJ x)), (3, .int (xJ x1)), (5, .int (xJ i5_30))]) hx hb hl 3 rfl dX11_fallsBehind_96 (by decide) rfl (fun ls hl => ?_)
            refine lv_goto (tgt := 12) hx hb dX11_fallsBehind_99 (by decide) ?_
            exact ih12 (i4_12 + 1) s9 H locs ls (by omega) hF11 hp10.1.1 hp10.1.2.1 hp10.1.2.2.1 q12 q13 (by omega) (by omega) (by omega) hW (lv_sub hl [1, 2, 3, 0] rfl)
          refine x_icmp_ge (tgt := 77) hx hb ri6_30 (by decide) dX11_fallsBehind_33 (by decide) (fun c14 => ?_) (fun c14 => ?_)
          · skip
            exact J77 ls (by omega)  (lv_sub hl [0, 1, 2, 3, 4] rfl)
          refine x_iload hx hb hl 4 rfl dX11_fallsBehind_36 ?_
          refine x_iconst hx hb dX11_fallsBehind_38 ?_
          refine x_icmp_eq (tgt := 77) hx hb ri5_30 (by decide) dX11_fallsBehind_39 (by decide) (fun c15 => ?_) (fun c15 => ?_)
          · skip
            exact J77 ls (by omega)  (lv_sub hl [0, 1, 2, 3, 4] rfl)
          refine x_iload hx hb hl 4 rfl dX11_fallsBehind_42 ?_
          refine x_iload_n hx hb hl 2 rfl dX11_fallsBehind_44 rfl ?_
          refine x_icmp_eq (tgt := 77) hx hb ri5_30 rx1 dX11_fallsBehind_45 (by decide) (fun c16 => ?_) (fun c16 => ?_)
          · skip
            exact J77 ls (by omega)  (lv_sub hl [0, 1, 2, 3, 4] rfl)
          refine x_aload_n hx hb hl 0 rfl dX11_fallsBehind_48 rfl ?_
          refine x_get (j := 3) (v := .ref (h0 + 272)) hx hb hown hT hE hW cls_X11 (Or.inl (by decide)) (so_268 h0 g _) (by decide) rfl wq1188 dX11_fallsBehind_49 ?_
          refine x_iload hx hb hl 4 rfl dX11_fallsBehind_52 ?_
          refine x_iald hx hb hE hW (Or.inl (by decide)) (sa_272 h0 g _) (by omega) (by decide) dX11_fallsBehind_54 ?_
          refine x_rd hW (fun x17 ex17 rx17 => ?_)
          refine x_iconst hx hb dX11_fallsBehind_55 ?_
          refine x_icmp_eq (tgt := 77) hx hb rx17 (by decide) dX11_fallsBehind_56 (by decide) (fun c18 => ?_) (fun c18 => ?_)
          · skip
            exact J77 ls (by omega)  (lv_sub hl [0, 1, 2, 3, 4] rfl)
          refine x_iload hx hb hl 4 rfl dX11_fallsBehind_59 ?_
          refine x_iload hx hb hl 3 rfl dX11_fallsBehind_61 ?_
          refine x_goi (x_runS (As := [.int (xJ i5_30), .int (xJ i4_12)]) hx hb hml hown hT hE hW hl.1 cf_X11_beside wq1554 wq1553 (c_X11_beside l D g T h0 s_12 hW.2.1 i5_30 ri5_30 i4_12 ri4_12 (by omega)) ⟨rfl, rfl, ⟨by decide, by decide⟩, ⟨by decide, by decide⟩⟩ rfl rfl (Nat.le_of_ble_eq_true rfl) dX11_fallsBehind_63) hW (fun x19 s20 H locs rx19 hp21 hW => ?_)
          obtain ⟨es20, hp21⟩ := hp21
          subst es20
          have ghp21 := hp21
          refine lv_istore (lv' := [(5, .int (xJ x19)), (0, .ref (h0 + 268)), (1, .int (xJ x)), (3, .int (xJ x1)), (4, .int (xJ i4_12)), (6, .int (xJ i6_30))]) hx hb dX11_fallsBehind_66 hl (by decide) rfl (fun ls hl => ?_)
          refine x_iload hx hb hl 5 rfl dX11_fallsBehind_68 ?_
          refine x_iconst hx hb dX11_fallsBehind_70 ?_
          refine x_iadd hx hb dX11_fallsBehind_71 ?_
          refine x_nm (fun x22 ex22 => ?_)
          refine lv_istore (lv' := [(6, .int (xJ x22)), (5, .int (xJ x19)), (0, .ref (h0 + 268)), (1, .int (xJ x)), (3, .int (xJ x1)), (4, .int (xJ i4_12))]) hx hb dX11_fallsBehind_72 hl (by decide) rfl (fun ls hl => ?_)
          refine lv_goto (tgt := 30) hx hb dX11_fallsBehind_74 (by decide) ?_
          exact ih30 x19 x22 H locs ls rx19 (by omega) (by omega) (by omega) (by omega) (by omega) hW (lv_sub hl [2, 3, 4, 5, 1, 0] rfl)
      exact L30 ((4 + 1 - 1 : Int).toNat + 1) x3 1 H locs ls rx3 (by decide) (by omega) (by omega) (by omega) (Nat.lt_succ_self _) hW (lv_sub hl [2, 3, 4, 5, 1, 0] rfl)
  exact L12 ((8 + 1 - 0 : Int).toNat + 1) 0 s0 H locs ls (by decide) hF p0 p1 p2 k268_8 k268_58 (by omega) (by omega) (Nat.lt_succ_self _) hW (lv_sub hl [2, 3, 1, 0] rfl)
set_option maxHeartbeats 4000000 in
set_option maxRecDepth 100000 in
theorem c_X11_fallsByLamps (l : Launch) (D : va_G) (g : xG) (T : Nat × Nat × Nat) (h0 : Nat) (s0 : xS) (hσ : xRR s0) (p0 : IMn s0) (p1 : IMk s0) (p2 : IMo s0) : Met l yX11_fallsByLamps (xws yX11_fallsByLamps cX11_fallsByLamps 3 none) { frames := 5, cells := 0, slots := 0, locals := 117 } (xP [.ref (h0 + 268)] D g T h0 s0) (xQv D g h0 (fun τ => xFr (fun k => k = 295) s0 τ ∧ (((IMn τ) ∧ (IMk τ) ∧ (IMo τ) ∧ True) ∧ (True)))) 0 0 (xA h0) := by
  refine x_met hσ (by decide) (Nat.le_of_ble_eq_true rfl) ?_
  intro p e s m args below meth c hx hb hr hml hown hT hlk hnm hE hW ls hl
  have hl : lv_has ls 3 [(0, .ref (h0 + 268))] := hl
  obtain ⟨Q, eQ⟩ : ∃ Q, Q = MQ below (xQv D g h0 (fun τ => xFr (fun k => k = 295) s0 τ ∧ (((IMn τ) ∧ (IMk τ) ∧ (IMo τ) ∧ True) ∧ (True)))) args s 0 0 (xA h0) := ⟨_, rfl⟩
  rw [← eQ]
  generalize hHe : ([] : List Loc) = locs at hW ⊢
  obtain ⟨H, eH⟩ : ∃ H, H = s.heap := ⟨_, rfl⟩
  rw [← eH] at hW ⊢
  have hF : xFr (fun k => k = 295) s0 s0 := xFr.rf
  have k268_8 : s0 268 8 = s0 268 8 := rfl
  have k268_58 : s0 268 58 = s0 268 58 := rfl
  refine x_iconst hx hb dX11_fallsByLamps_0 ?_
  refine lv_istore_n (lv' := [(1, .int (xJ 0)), (0, .ref (h0 + 268))]) hx hb dX11_fallsByLamps_1 rfl hl (by decide) rfl (fun ls hl => ?_)
  have L2 : ∀ (fu : Nat) (i1_2 : Int) (s_2 : xS) (H : Heap) (locs : List Loc) (ls : Array Slot), (xR i1_2) → (xFr (fun k => k = 295) s0 s_2) → (IMn s_2) → (IMk s_2) → (IMo s_2) → (s_2 268 8 = s0 268 8) → (s_2 268 58 = s0 268 58) → (0 ≤ i1_2) → (i1_2 ≤ 4) → (4 + 1 - i1_2).toNat < fu → xW D g h0 s H locs s_2 → lv_has ls 3 [(0, .ref (h0 + 268)), (1, .int (xJ i1_2))] → W p l e { frames := 5, cells := 0, slots := 0, locals := 117 } s m args below meth c H locs 0 0 Q (F0 m 2 ls []) := by
    intro fu
    induction fu with
    | zero => intro i1_2 s_2 H locs ls ri1_2 hF_2 q2_0 q2_1 q2_2 q2_3 q2_4 v2_0 v2_1 hm; exact absurd hm (Nat.not_lt_zero _)
    | succ fu ih2 =>
      intro i1_2 s_2 H locs ls ri1_2 hF_2 q2_0 q2_1 q2_2 q2_3 q2_4 v2_0 v2_1 hm hW hl
      refine x_iload_n hx hb hl 1 rfl dX11_fallsByLamps_2 rfl ?_
      refine x_iconst hx hb dX11_fallsByLamps_3 ?_
      refine x_icmp_ge (tgt := 55) hx hb ri1_2 (by decide) dX11_fallsByLamps_4 (by decide) (fun c1 => ?_) (fun c1 => ?_)
      · skip
        rw [eQ]
        exact x_vret hx hb hr hlk hW ⟨hF_2, ⟨q2_0, q2_1, q2_2, trivial⟩, trivial⟩ dX11_fallsByLamps_55
      refine x_iconst hx hb dX11_fallsByLamps_7 ?_
      refine lv_istore_n (lv' := [(2, .int (xJ 0)), (0, .ref (h0 + 268)), (1, .int (xJ i1_2))]) hx hb dX11_fallsByLamps_8 rfl hl (by decide) rfl (fun ls hl => ?_)
      have L9 : ∀ (fu : Nat) (i2_9 : Int) (s_9 : xS) (H : Heap) (locs : List Loc) (ls : Array Slot), (xR i2_9) → (xFr (fun k => k = 295) s0 s_9) → (IMn s_9) → (IMk s_9) → (IMo s_9) → (s_9 268 8 = s0 268 8) → (s_9 268 58 = s0 268 58) → (0 ≤ i2_9) → (i2_9 ≤ 2) → (2 + 1 - i2_9).toNat < fu → xW D g h0 s H locs s_9 → lv_has ls 3 [(0, .ref (h0 + 268)), (1, .int (xJ i1_2)), (2, .int (xJ i2_9))] → W p l e { frames := 5, cells := 0, slots := 0, locals := 117 } s m args below meth c H locs 0 0 Q (F0 m 9 ls []) := by
        intro fu
        induction fu with
        | zero => intro i2_9 s_9 H locs ls ri2_9 hF_9 q9_0 q9_1 q9_2 q9_3 q9_4 v9_0 v9_1 hm; exact absurd hm (Nat.not_lt_zero _)
        | succ fu ih9 =>
          intro i2_9 s_9 H locs ls ri2_9 hF_9 q9_0 q9_1 q9_2 q9_3 q9_4 v9_0 v9_1 hm hW hl
          refine x_iload_n hx hb hl 2 rfl dX11_fallsByLamps_9 rfl ?_
          refine x_iconst hx hb dX11_fallsByLamps_10 ?_
          refine x_icmp_ge (tgt := 49) hx hb ri2_9 (by decide) dX11_fallsByLamps_11 (by decide) (fun c2 => ?_) (fun c2 => ?_)
          · skip
            refine x_iinc (lv' := [(1, .int (xJ (i1_2 + 1))), (0, .ref (h0 + 268)), (2, .int (xJ i2_9))]) hx hb hl 1 rfl dX11_fallsByLamps_49 (by decide) rfl (fun ls hl => ?_)
            refine lv_goto (tgt := 2) hx hb dX11_fallsByLamps_52 (by decide) ?_
            exact ih2 (i1_2 + 1) s_9 H locs ls (by omega) hF_9 q9_0 q9_1 q9_2 q9_3 q9_4 (by omega) (by omega) (by omega) hW (lv_sub hl [1, 0] rfl)
          refine x_aload_n hx hb hl 0 rfl dX11_fallsByLamps_14 rfl ?_
          refine x_get (j := 4) (v := .ref (h0 + 273)) hx hb hown hT hE hW cls_X11 (Or.inl (by decide)) (so_268 h0 g _) (by decide) rfl wq1189 dX11_fallsByLamps_15 ?_
          refine x_iload_n hx hb hl 1 rfl dX11_fallsByLamps_18 rfl ?_
          refine x_iald hx hb hE hW (Or.inl (by decide)) (sa_273 h0 g _) (by omega) (by decide) dX11_fallsByLamps_19 ?_
          refine x_rd hW (fun x3 ex3 rx3 => ?_)
          have bx3 : -1 ≤ x3 ∧ x3 ≤ 99 := by rw [ex3]; exact IMn.l q9_0 _ (by omega) (by omega)
          refine x_iconst hx hb dX11_fallsByLamps_20 ?_
          refine x_icmp_eq (tgt := 43) hx hb rx3 (by decide) dX11_fallsByLamps_21 (by decide) (fun c4 => ?_) (fun c4 => ?_)
          · skip
            refine x_iinc (lv' := [(2, .int (xJ (i2_9 + 1))), (0, .ref (h0 + 268)), (1, .int (xJ i1_2))]) hx hb hl 2 rfl dX11_fallsByLamps_43 (by decide) rfl (fun ls hl => ?_)
            refine lv_goto (tgt := 9) hx hb dX11_fallsByLamps_46 (by decide) ?_
            exact ih9 (i2_9 + 1) s_9 H locs ls (by omega) hF_9 q9_0 q9_1 q9_2 q9_3 q9_4 (by omega) (by omega) (by omega) hW (lv_sub hl [1, 2, 0] rfl)
          refine x_aload_n hx hb hl 0 rfl dX11_fallsByLamps_24 rfl ?_
          refine x_iload_n hx hb hl 2 rfl dX11_fallsByLamps_25 rfl ?_
          refine x_goi (x_runV (As := [.int (xJ i2_9)]) hx hb hml hown hT hE hW hl.1 (Or.inl (by decide)) (so_268 h0 g _) rfl cf_X11_isJudge wq1409 wq109 wq1407 (c_X11_isJudge l D g T h0 s_9 hW.2.1 i2_9 ri2_9 q9_0 q9_1 q9_2) ⟨rfl, rfl, ⟨by decide, by decide⟩, ⟨by decide, by decide⟩⟩ rfl rfl (Nat.le_of_ble_eq_true rfl) dX11_fallsByLamps_26) hW (fun x5 s6 H locs rx5 hp7 hW => ?_)
          obtain ⟨es6, hp7⟩ := hp7
          subst es6
          have ghp7 := hp7
          refine x_if_eq (tgt := 43) hx hb rx5 dX11_fallsByLamps_29 (by decide) (fun c8 => ?_) (fun c8 => ?_)
          · skip
            refine x_iinc (lv' := [(2, .int (xJ (i2_9 + 1))), (0, .ref (h0 + 268)), (1, .int (xJ i1_2))]) hx hb hl 2 rfl dX11_fallsByLamps_43 (by decide) rfl (fun ls hl => ?_)
            refine lv_goto (tgt := 9) hx hb dX11_fallsByLamps_46 (by decide) ?_
            exact ih9 (i2_9 + 1) s_9 H locs ls (by omega) hF_9 q9_0 q9_1 q9_2 q9_3 q9_4 (by omega) (by omega) (by omega) hW (lv_sub hl [1, 2, 0] rfl)
          refine x_aload_n hx hb hl 0 rfl dX11_fallsByLamps_32 rfl ?_
          refine x_aload_n hx hb hl 0 rfl dX11_fallsByLamps_33 rfl ?_
          refine x_get (j := 4) (v := .ref (h0 + 273)) hx hb hown hT hE hW cls_X11 (Or.inl (by decide)) (so_268 h0 g _) (by decide) rfl wq1189 dX11_fallsByLamps_34 ?_
          refine x_iload_n hx hb hl 1 rfl dX11_fallsByLamps_37 rfl ?_
          refine x_iald hx hb hE hW (Or.inl (by decide)) (sa_273 h0 g _) (by omega) (by decide) dX11_fallsByLamps_38 ?_
          refine x_rd hW (fun x9 ex9 rx9 => ?_)
          have bx9 : -1 ≤ x9 ∧ x9 ≤ 99 := by rw [ex9]; exact IMn.l q9_0 _ (by omega) (by omega)
          refine x_iload_n hx hb hl 2 rfl dX11_fallsByLamps_39 rfl ?_
          refine x_gov (x_runV (As := [.int (xJ x9), .int (xJ i2_9)]) hx hb hml hown hT hE hW hl.1 (Or.inl (by decide)) (so_268 h0 g _) rfl cf_X11_fallsBehind wq1612 wq145 wq1610 (c_X11_fallsBehind l D g T h0 s_9 hW.2.1 x9 rx9 i2_9 ri2_9 (by omega) (by omega) q9_0 q9_1 q9_2) ⟨rfl, rfl, ⟨by decide, by decide⟩, ⟨by decide, by decide⟩⟩ rfl rfl (Nat.le_of_ble_eq_true rfl) dX11_fallsByLamps_40) hW (fun s11 H locs hp12 hW => ?_)
          obtain ⟨fs11, hp12⟩ := hp12
          have hF13 := hF_9.call fs11 (fun k h => by omega)
          have q14 : s11 268 8 = s0 268 8 := (congrFun (fs11 _ (by omega)) _).trans q9_3
          have q15 : s11 268 58 = s0 268 58 := (congrFun (fs11 _ (by omega)) _).trans q9_4
          have ghp12 := hp12.2
          refine x_iinc (lv' := [(2, .int (xJ (i2_9 + 1))), (0, .ref (h0 + 268)), (1, .int (xJ i1_2))]) hx hb hl 2 rfl dX11_fallsByLamps_43 (by decide) rfl (fun ls hl => ?_)
          refine lv_goto (tgt := 9) hx hb dX11_fallsByLamps_46 (by decide) ?_
          exact ih9 (i2_9 + 1) s11 H locs ls (by omega) hF13 hp12.1.1 hp12.1.2.1 hp12.1.2.2.1 q14 q15 (by omega) (by omega) (by omega) hW (lv_sub hl [1, 2, 0] rfl)
      exact L9 ((2 + 1 - 0 : Int).toNat + 1) 0 s_2 H locs ls (by decide) hF_2 q2_0 q2_1 q2_2 q2_3 q2_4 (by omega) (by omega) (Nat.lt_succ_self _) hW (lv_sub hl [1, 2, 0] rfl)
  exact L2 ((4 + 1 - 0 : Int).toNat + 1) 0 s0 H locs ls (by decide) hF p0 p1 p2 k268_8 k268_58 (by omega) (by omega) (Nat.lt_succ_self _) hW (lv_sub hl [1, 0] rfl)
set_option maxHeartbeats 4000000 in
set_option maxRecDepth 100000 in
theorem c_X11_steps (l : Launch) (D : va_G) (g : xG) (T : Nat × Nat × Nat) (h0 : Nat) (s0 : xS) (hσ : xRR s0) (j : Int) (rj : xR j) (w : Int) (rw : xR w) (hj : 0 ≤ j ∧ j < 2) (p0 : IMn s0) (p1 : IMk s0) (p2 : IMo s0) : Met l yX11_steps (xws yX11_steps cX11_steps 4 none) { frames := 3, cells := 0, slots := 0, locals := 66 } (xP [.ref (h0 + 268), .int (xJ j), .int (xJ w)] D g T h0 s0) (xQv D g h0 (fun τ => xFr (fun k => k = 269) s0 τ ∧ (((IMn τ) ∧ (IMk τ) ∧ (IMo τ) ∧ (τ 269 37 = s0 269 37) ∧ True) ∧ (True)))) 0 0 (xA h0) := by
  refine x_met hσ (by decide) (Nat.le_of_ble_eq_true rfl) ?_
  intro p e s m args below meth c hx hb hr hml hown hT hlk hnm hE hW ls hl
  have hl : lv_has ls 4 [(0, .ref (h0 + 268)), (1, .int (xJ j)), (2, .int (xJ w))] := hl
  obtain ⟨Q, eQ⟩ : ∃ Q, Q = MQ below (xQv D g h0 (fun τ => xFr (fun k => k = 269) s0 τ ∧ (((IMn τ) ∧ (IMk τ) ∧ (IMo τ) ∧ (τ 269 37 = s0 269 37) ∧ True) ∧ (True)))) args s 0 0 (xA h0) := ⟨_, rfl⟩
  rw [← eQ]
  generalize hHe : ([] : List Loc) = locs at hW ⊢
  obtain ⟨H, eH⟩ : ∃ H, H = s.heap := ⟨_, rfl⟩
  rw [← eH] at hW ⊢
  have hF : xFr (fun k => k = 269) s0 s0 := xFr.rf
  have k268_8 : s0 268 8 = s0 268 8 := rfl
  have k268_58 : s0 268 58 = s0 268 58 := rfl
  have k269_37 : s0 269 37 = s0 269 37 := rfl
  refine x_iload_n hx hb hl 2 rfl dX11_steps_0 rfl ?_
  refine x_bipush hx hb dX11_steps_1 (by decide) ?_
  have J22 : ∀ (t0_22 : Int) (H : Heap) (locs : List Loc) (ls : Array Slot), (xR t0_22) → (t0_22 = -1 ∨ (0 ≤ t0_22 ∧ t0_22 ≤ 99)) → xW D g h0 s H locs s0 → lv_has ls 4 [(0, .ref (h0 + 268)), (1, .int (xJ j))] → W p l e { frames := 3, cells := 0, slots := 0, locals := 66 } s m args below meth c H locs 0 0 Q (F0 m 22 ls [.int (xJ t0_22)]) := by
    intro t0_22 H locs ls rt0_22 v22_0 hW hl
    refine lv_istore_n (lv' := [(3, .int (xJ t0_22)), (0, .ref (h0 + 268)), (1, .int (xJ j))]) hx hb dX11_steps_22 rfl hl (by decide) rfl (fun ls hl => ?_)
    refine x_iload_n hx hb hl 0 rfl dX11_steps_23 rfl ?_
    refine x_iconst hx hb dX11_steps_24 ?_
    refine x_icmp_eq (tgt := 58) hx hb rt0_22 (by decide) dX11_steps_25 (by decide) (fun c1 => ?_) (fun c1 => ?_)
    · skip
      rw [eQ]
      exact x_vret hx hb hr hlk hW ⟨hF, ⟨p0, p1, p2, k269_37, trivial⟩, trivial⟩ dX11_steps_58
    refine x_aload_n hx hb hl 1 rfl dX11_steps_28 rfl ?_
    refine x_iload_n hx hb hl 0 rfl dX11_steps_29 rfl ?_
    refine x_goi (x_runV (As := [.int (xJ t0_22)]) hx hb hml hown hT hE hW hl.1 (Or.inl (by decide)) (so_268 h0 g _) rfl cf_X11_isGround wq1419 wq110 wq1417 (c_X11_isGround l D g T h0 s0 hW.2.1 t0_22 rt0_22 (by omega) p0 p1 p2) ⟨rfl, rfl, ⟨by decide, by decide⟩, ⟨by decide, by decide⟩⟩ rfl rfl (Nat.le_of_ble_eq_true rfl) dX11_steps_30) hW (fun x2 s3 H locs rx2 hp4 hW => ?_)
    obtain ⟨es3, hp4⟩ := hp4
    subst es3
    have ghp4 := hp4
    refine x_if_eq (tgt := 58) hx hb rx2 dX11_steps_33 (by decide) (fun c5 => ?_) (fun c5 => ?_)
    · skip
      rw [eQ]
      exact x_vret hx hb hr hlk hW ⟨hF, ⟨p0, p1, p2, k269_37, trivial⟩, trivial⟩ dX11_steps_58
    refine x_aload_n hx hb hl 1 rfl dX11_steps_36 rfl ?_
    refine x_iconst hx hb dX11_steps_37 ?_
    refine x_iload_n hx hb hl 2 rfl dX11_steps_38 rfl ?_
    refine x_isub hx hb dX11_steps_39 ?_
    refine x_goi (x_runV (As := [.int (xJ (1 - j))]) hx hb hml hown hT hE hW hl.1 (Or.inl (by decide)) (so_268 h0 g _) rfl cf_X11_isJudge wq1409 wq109 wq1407 (c_X11_isJudge l D g T h0 s0 hW.2.1 (1 - j) (by omega) p0 p1 p2) ⟨rfl, rfl, ⟨by decide, by decide⟩, ⟨by decide, by decide⟩⟩ rfl rfl (Nat.le_of_ble_eq_true rfl) dX11_steps_40) hW (fun x6 s7 H locs rx6 hp8 hW => ?_)
    obtain ⟨es7, hp8⟩ := hp8
    subst es7
    have ghp8 := hp8
    refine x_if_eq (tgt := 59) hx hb rx6 dX11_steps_43 (by decide) (fun c9 => ?_) (fun c9 => ?_)
    · skip
      refine x_aload_n hx hb hl 1 rfl dX11_steps_59 rfl ?_
      refine x_get (j := 0) (v := .ref (h0 + 269)) hx hb hown hT hE hW cls_X11 (Or.inl (by decide)) (so_268 h0 g _) (by decide) rfl wq1185 dX11_steps_60 ?_
      refine x_iconst hx hb dX11_steps_63 ?_
      refine x_iload_n hx hb hl 2 rfl dX11_steps_64 rfl ?_
      refine x_iadd hx hb dX11_steps_65 ?_
      refine x_iload_n hx hb hl 0 rfl dX11_steps_66 rfl ?_
      refine x_iast hx hb hE hW (by decide) (fun σ => sa_269 h0 g σ) (by omega) (by decide) rt0_22 dX11_steps_67 (fun H locs s10 es10 hW => ?_)
      have q11 : IMn s10 := by rw [es10]; exact IMn_N269 p0 (by omega)
      have q12 : IMk s10 := by rw [es10]; exact IMk_o (by unfold suIMk; omega) p1
      have q13 : IMo s10 := by rw [es10]; exact IMo_o (by unfold suIMo; omega) p2
      have q14 : s10 268 8 = s0 268 8 := (show s10 268 8 = s0 268 8 from by rw [es10, xU_k _ _ _ (by omega)]).trans k268_8
      have q15 : s10 268 58 = s0 268 58 := (show s10 268 58 = s0 268 58 from by rw [es10, xU_k _ _ _ (by omega)]).trans k268_58
      have q16 : s10 269 37 = s0 269 37 := (show s10 269 37 = s0 269 37 from by rw [es10, xU_j _ _ (by omega)]).trans k269_37
      have hF17 := hF.put es10 (by omega)
      rw [eQ]
      exact x_vret hx hb hr hlk hW ⟨hF17, ⟨q11, q12, q13, q16, trivial⟩, trivial⟩ dX11_steps_68
    refine x_aload_n hx hb hl 1 rfl dX11_steps_46 rfl ?_
    refine x_get (j := 0) (v := .ref (h0 + 269)) hx hb hown hT hE hW cls_X11 (Or.inl (by decide)) (so_268 h0 g _) (by decide) rfl wq1185 dX11_steps_47 ?_
    refine x_iconst hx hb dX11_steps_50 ?_
    refine x_iload_n hx hb hl 2 rfl dX11_steps_51 rfl ?_
    refine x_isub hx hb dX11_steps_52 ?_
    refine x_iald hx hb hE hW (Or.inl (by decide)) (sa_269 h0 g _) (by omega) (by decide) dX11_steps_53 ?_
    refine x_rd hW (fun x18 ex18 rx18 => ?_)
    have bx18 : 0 ≤ x18 ∧ x18 ≤ 99 := by rw [ex18]; exact (IMn.n1 p0).1 _ (by omega) (by omega)
    refine x_iload_n hx hb hl 0 rfl dX11_steps_54 rfl ?_
    refine x_icmp_ne (tgt := 59) hx hb rx18 rt0_22 dX11_steps_55 (by decide) (fun c19 => ?_) (fun c19 => ?_)
    · skip
      refine x_aload_n hx hb hl 1 rfl dX11_steps_59 rfl ?_
      refine x_get (j := 0) (v := .ref (h0 + 269)) hx hb hown hT hE hW cls_X11 (Or.inl (by decide)) (so_268 h0 g _) (by decide) rfl wq1185 dX11_steps_60 ?_
      refine x_iconst hx hb dX11_steps_63 ?_
      refine x_iload_n hx hb hl 2 rfl dX11_steps_64 rfl ?_
      refine x_iadd hx hb dX11_steps_65 ?_
      refine x_iload_n hx hb hl 0 rfl dX11_steps_66 rfl ?_
      refine x_iast hx hb hE hW (by decide) (fun σ => sa_269 h0 g σ) (by omega) (by decide) rt0_22 dX11_steps_67 (fun H locs s20 es20 hW => ?_)
      have q21 : IMn s20 := by rw [es20]; exact IMn_N269 p0 (by omega)
      have q22 : IMk s20 := by rw [es20]; exact IMk_o (by unfold suIMk; omega) p1
      have q23 : IMo s20 := by rw [es20]; exact IMo_o (by unfold suIMo; omega) p2
      have q24 : s20 268 8 = s0 268 8 := (show s20 268 8 = s0 268 8 from by rw [es20, xU_k _ _ _ (by omega)]).trans k268_8
      have q25 : s20 268 58 = s0 268 58 := (show s20 268 58 = s0 268 58 from by rw [es20, xU_k _ _ _ (by omega)]).trans k268_58
      have q26 : s20 269 37 = s0 269 37 := (show s20 269 37 = s0 269 37 from by rw [es20, xU_j _ _ (by omega)]).trans k269_37
      have hF27 := hF.put es20 (by omega)
      rw [eQ]
      exact x_vret hx hb hr hlk hW ⟨hF27, ⟨q21, q22, q23, q26, trivial⟩, trivial⟩ dX11_steps_68
    rw [eQ]
    exact x_vret hx hb hr hlk hW ⟨hF, ⟨p0, p1, p2, k269_37, trivial⟩, trivial⟩ dX11_steps_58
  refine x_icmp_ne (tgt := 10) hx hb rw (by decide) dX11_steps_3 (by decide) (fun c28 => ?_) (fun c28 => ?_)
  · skip
    refine x_aload_n hx hb hl 0 rfl dX11_steps_10 rfl ?_
    refine x_get (j := 0) (v := .ref (h0 + 269)) hx hb hown hT hE hW cls_X11 (Or.inl (by decide)) (so_268 h0 g _) (by decide) rfl wq1185 dX11_steps_11 ?_
    refine x_iconst hx hb dX11_steps_14 ?_
    refine x_iload_n hx hb hl 1 rfl dX11_steps_15 rfl ?_
    refine x_iadd hx hb dX11_steps_16 ?_
    refine x_iald hx hb hE hW (Or.inl (by decide)) (sa_269 h0 g _) (by omega) (by decide) dX11_steps_17 ?_
    refine x_rd hW (fun x29 ex29 rx29 => ?_)
    have bx29 : 0 ≤ x29 ∧ x29 ≤ 99 := by rw [ex29]; exact (IMn.n1 p0).1 _ (by omega) (by omega)
    refine x_iload_n hx hb hl 2 rfl dX11_steps_18 rfl ?_
    refine x_goi (x_runS (As := [.int (xJ x29), .int (xJ w)]) hx hb hml hown hT hE hW hl.1 cf_X11_beside wq1554 wq1553 (c_X11_beside l D g T h0 s0 hW.2.1 x29 rx29 w rw (by omega)) ⟨rfl, rfl, ⟨by decide, by decide⟩, ⟨by decide, by decide⟩⟩ rfl rfl (Nat.le_of_ble_eq_true rfl) dX11_steps_19) hW (fun x30 s31 H locs rx30 hp32 hW => ?_)
    obtain ⟨es31, hp32⟩ := hp32
    subst es31
    have ghp32 := hp32
    exact J22 x30 H locs ls rx30 (by omega) hW (lv_sub hl [0, 1] rfl)
  refine x_iconst hx hb dX11_steps_6 ?_
  refine lv_goto (tgt := 22) hx hb dX11_steps_7 (by decide) ?_
  exact J22 (-1) H locs ls (by decide) (by omega) hW (lv_sub hl [0, 1] rfl)
set_option maxHeartbeats 4000000 in
set_option maxRecDepth 100000 in
theorem c_X11_walksOn (l : Launch) (D : va_G) (g : xG) (T : Nat × Nat × Nat) (h0 : Nat) (s0 : xS) (hσ : xRR s0) (j : Int) (rj : xR j) (hj : 0 ≤ j ∧ j < 2) (p0 : IMn s0) (p1 : IMk s0) (p2 : IMo s0) : Met l yX11_walksOn (xws yX11_walksOn cX11_walksOn 3 none) { frames := 4, cells := 0, slots := 0, locals := 89 } (xP [.ref (h0 + 268), .int (xJ j)] D g T h0 s0) (xQv D g h0 (fun τ => xFr (fun k => k = 269) s0 τ ∧ (((IMn τ) ∧ (IMk τ) ∧ (IMo τ) ∧ (τ 269 37 = s0 269 37) ∧ True) ∧ (True)))) 0 0 (xA h0) := by
  refine x_met hσ (by decide) (Nat.le_of_ble_eq_true rfl) ?_
  intro p e s m args below meth c hx hb hr hml hown hT hlk hnm hE hW ls hl
  have hl : lv_has ls 3 [(0, .ref (h0 + 268)), (1, .int (xJ j))] := hl
  obtain ⟨Q, eQ⟩ : ∃ Q, Q = MQ below (xQv D g h0 (fun τ => xFr (fun k => k = 269) s0 τ ∧ (((IMn τ) ∧ (IMk τ) ∧ (IMo τ) ∧ (τ 269 37 = s0 269 37) ∧ True) ∧ (True)))) args s 0 0 (xA h0) := ⟨_, rfl⟩
  rw [← eQ]
  generalize hHe : ([] : List Loc) = locs at hW ⊢
  obtain ⟨H, eH⟩ : ∃ H, H = s.heap := ⟨_, rfl⟩
  rw [← eH] at hW ⊢
  have hF : xFr (fun k => k = 269) s0 s0 := xFr.rf
  have k268_8 : s0 268 8 = s0 268 8 := rfl
  have k268_58 : s0 268 58 = s0 268 58 := rfl
  have k269_37 : s0 269 37 = s0 269 37 := rfl
  refine x_aload_n hx hb hl 0 rfl dX11_walksOn_0 rfl ?_
  refine x_iload_n hx hb hl 1 rfl dX11_walksOn_1 rfl ?_
  refine x_goi (x_runV (As := [.int (xJ j)]) hx hb hml hown hT hE hW hl.1 (Or.inl (by decide)) (so_268 h0 g _) rfl cf_X11_isJudge wq1409 wq109 wq1407 (c_X11_isJudge l D g T h0 s0 hW.2.1 j rj p0 p1 p2) ⟨rfl, rfl, ⟨by decide, by decide⟩, ⟨by decide, by decide⟩⟩ rfl rfl (Nat.le_of_ble_eq_true rfl) dX11_walksOn_2) hW (fun x1 s2 H locs rx1 hp3 hW => ?_)
  obtain ⟨es2, hp3⟩ := hp3
  subst es2
  have ghp3 := hp3
  refine x_if_eq (tgt := 25) hx hb rx1 dX11_walksOn_5 (by decide) (fun c4 => ?_) (fun c4 => ?_)
  · skip
    rw [eQ]
    exact x_vret hx hb hr hlk hW ⟨hF, ⟨p0, p1, p2, k269_37, trivial⟩, trivial⟩ dX11_walksOn_25
  refine x_aload_n hx hb hl 0 rfl dX11_walksOn_8 rfl ?_
  refine x_get (j := 0) (v := .ref (h0 + 269)) hx hb hown hT hE hW cls_X11 (Or.inl (by decide)) (so_268 h0 g _) (by decide) rfl wq1185 dX11_walksOn_9 ?_
  refine x_iconst hx hb dX11_walksOn_12 ?_
  refine x_iload_n hx hb hl 1 rfl dX11_walksOn_13 rfl ?_
  refine x_iadd hx hb dX11_walksOn_14 ?_
  refine x_iald hx hb hE hW (Or.inl (by decide)) (sa_269 h0 g _) (by omega) (by decide) dX11_walksOn_15 ?_
  refine x_rd hW (fun x5 ex5 rx5 => ?_)
  have bx5 : 0 ≤ x5 := by rw [ex5]; exact (IMn.n1 p0).2.1 _ (by omega) (by omega)
  refine x_aload_n hx hb hl 0 rfl dX11_walksOn_16 rfl ?_
  refine x_get (j := 5) (v := .ref (h0 + 274)) hx hb hown hT hE hW cls_X11 (Or.inl (by decide)) (so_268 h0 g _) (by decide) rfl wq1190 dX11_walksOn_17 ?_
  refine x_iload_n hx hb hl 1 rfl dX11_walksOn_20 rfl ?_
  refine x_iald hx hb hE hW (Or.inl (by decide)) (sa_274 h0 g _) (by omega) (by decide) dX11_walksOn_21 ?_
  refine x_rd hW (fun x6 ex6 rx6 => ?_)
  have bx6 : 0 ≤ x6 ∧ x6 ≤ 60 := by rw [ex6]; exact IMn.w p0 _ (by omega) (by omega)
  refine x_icmp_lt (tgt := 26) hx hb rx5 rx6 dX11_walksOn_22 (by decide) (fun c7 => ?_) (fun c7 => ?_)
  · skip
    refine x_aload_n hx hb hl 0 rfl dX11_walksOn_26 rfl ?_
    refine x_get (j := 6) (v := .ref (h0 + 275)) hx hb hown hT hE hW cls_X11 (Or.inl (by decide)) (so_268 h0 g _) (by decide) rfl wq1191 dX11_walksOn_27 ?_
    refine x_bipush hx hb dX11_walksOn_30 (by decide) ?_
    refine x_iload_n hx hb hl 1 rfl dX11_walksOn_32 rfl ?_
    refine x_imul hx hb dX11_walksOn_33 ?_
    refine x_aload_n hx hb hl 0 rfl dX11_walksOn_34 rfl ?_
    refine x_get (j := 0) (v := .ref (h0 + 269)) hx hb hown hT hE hW cls_X11 (Or.inl (by decide)) (so_268 h0 g _) (by decide) rfl wq1185 dX11_walksOn_35 ?_
    refine x_iconst hx hb dX11_walksOn_38 ?_
    refine x_iload_n hx hb hl 1 rfl dX11_walksOn_39 rfl ?_
    refine x_iadd hx hb dX11_walksOn_40 ?_
    refine x_iald hx hb hE hW (Or.inl (by decide)) (sa_269 h0 g _) (by omega) (by decide) dX11_walksOn_41 ?_
    refine x_rd hW (fun x8 ex8 rx8 => ?_)
    have bx8 : 0 ≤ x8 := by rw [ex8]; exact (IMn.n1 p0).2.1 _ (by omega) (by omega)
    refine x_iadd hx hb dX11_walksOn_42 ?_
    refine x_bald hx hb hE hW (Or.inl (by decide)) (sa_275 h0 g _) (by omega) (by decide) dX11_walksOn_43 ?_
    refine x_rd hW (fun x9 ex9 rx9 => ?_)
    refine lv_istore_n (lv' := [(2, .int (xJ x9)), (0, .ref (h0 + 268)), (1, .int (xJ j))]) hx hb dX11_walksOn_44 rfl hl (by decide) rfl (fun ls hl => ?_)
    refine x_aload_n hx hb hl 1 rfl dX11_walksOn_45 rfl ?_
    refine x_get (j := 0) (v := .ref (h0 + 269)) hx hb hown hT hE hW cls_X11 (Or.inl (by decide)) (so_268 h0 g _) (by decide) rfl wq1185 dX11_walksOn_46 ?_
    refine x_iconst hx hb dX11_walksOn_49 ?_
    refine x_iload_n hx hb hl 2 rfl dX11_walksOn_50 rfl ?_
    refine x_iadd hx hb dX11_walksOn_51 ?_
    refine x_aload_n hx hb hl 1 rfl dX11_walksOn_52 rfl ?_
    refine x_get (j := 0) (v := .ref (h0 + 269)) hx hb hown hT hE hW cls_X11 (Or.inl (by decide)) (so_268 h0 g _) (by decide) rfl wq1185 dX11_walksOn_53 ?_
    refine x_iconst hx hb dX11_walksOn_56 ?_
    refine x_iload_n hx hb hl 2 rfl dX11_walksOn_57 rfl ?_
    refine x_iadd hx hb dX11_walksOn_58 ?_
    refine x_iald hx hb hE hW (Or.inl (by decide)) (sa_269 h0 g _) (by omega) (by decide) dX11_walksOn_59 ?_
    refine x_rd hW (fun x10 ex10 rx10 => ?_)
    have bx10 : 0 ≤ x10 := by rw [ex10]; exact (IMn.n1 p0).2.1 _ (by omega) (by omega)
    refine x_iconst hx hb dX11_walksOn_60 ?_
    refine x_iadd hx hb dX11_walksOn_61 ?_
    refine x_iast hx hb hE hW (by decide) (fun σ => sa_269 h0 g σ) (by omega) (by decide) (by omega) dX11_walksOn_62 (fun H locs s11 es11 hW => ?_)
    have q12 : IMn s11 := by rw [es11]; exact IMn_N269 p0 (by omega)
    have q13 : IMk s11 := by rw [es11]; exact IMk_o (by unfold suIMk; omega) p1
    have q14 : IMo s11 := by rw [es11]; exact IMo_o (by unfold suIMo; omega) p2
    have q15 : s11 268 8 = s0 268 8 := (show s11 268 8 = s0 268 8 from by rw [es11, xU_k _ _ _ (by omega)]).trans k268_8
    have q16 : s11 268 58 = s0 268 58 := (show s11 268 58 = s0 268 58 from by rw [es11, xU_k _ _ _ (by omega)]).trans k268_58
    have q17 : s11 269 37 = s0 269 37 := (show s11 269 37 = s0 269 37 from by rw [es11, xU_j _ _ (by omega)]).trans k269_37
    have hF18 := hF.put es11 (by omega)
    refine x_aload_n hx hb hl 1 rfl dX11_walksOn_63 rfl ?_
    refine x_iload_n hx hb hl 2 rfl dX11_walksOn_64 rfl ?_
    refine x_iload_n hx hb hl 0 rfl dX11_walksOn_65 rfl ?_
    refine x_gov (x_runV (As := [.int (xJ j), .int (xJ x9)]) hx hb hml hown hT hE hW hl.1 (Or.inl (by decide)) (so_268 h0 g _) rfl cf_X11_steps wq1551 wq133 wq1549 (c_X11_steps l D g T h0 s11 hW.2.1 j rj x9 rx9 (by omega) q12 q13 q14) ⟨rfl, rfl, ⟨by decide, by decide⟩, ⟨by decide, by decide⟩⟩ rfl rfl (Nat.le_of_ble_eq_true rfl) dX11_walksOn_66) hW (fun s20 H locs hp21 hW => ?_)
    obtain ⟨fs20, hp21⟩ := hp21
    have hF22 := hF18.call fs20 (fun k h => by omega)
    have q23 : s20 268 8 = s0 268 8 := (congrFun (fs20 _ (by omega)) _).trans q15
    have q24 : s20 268 58 = s0 268 58 := (congrFun (fs20 _ (by omega)) _).trans q16
    have ghp21 := hp21.2
    rw [eQ]
    exact x_vret hx hb hr hlk hW ⟨hF22, ⟨hp21.1.1, hp21.1.2.1, hp21.1.2.2.1, (hp21.1.2.2.2.1.trans q17), trivial⟩, trivial⟩ dX11_walksOn_69
  rw [eQ]
  exact x_vret hx hb hr hlk hW ⟨hF, ⟨p0, p1, p2, k269_37, trivial⟩, trivial⟩ dX11_walksOn_25
set_option maxHeartbeats 4000000 in
set_option maxRecDepth 100000 in
theorem c_X11_laysCosts (l : Launch) (D : va_G) (g : xG) (T : Nat × Nat × Nat) (h0 : Nat) (s0 : xS) (hσ : xRR s0) (a : Int) (ra : xR a) (n : Int) (rn : xR n) (b : Int) (rb : xR b) (p0 : IMn s0) (p1 : IMk s0) (p2 : IMo s0) : Met l yX11_laysCosts (xws yX11_laysCosts cX11_laysCosts 8 none) { frames := 3, cells := 0, slots := 0, locals := 66 } (xP [.ref (h0 + 268), .int (xJ a), .int (xJ n), .int (xJ b)] D g T h0 s0) (xQv D g h0 (fun τ => xFr (fun k => k = 296) s0 τ ∧ (((IMn τ) ∧ (IMk τ) ∧ (IMo τ) ∧ True) ∧ (True)))) 0 0 (xA h0) := by
  refine x_met hσ (by decide) (Nat.le_of_ble_eq_true rfl) ?_
  intro p e s m args below meth c hx hb hr hml hown hT hlk hnm hE hW ls hl
  have hl : lv_has ls 8 [(0, .ref (h0 + 268)), (1, .int (xJ a)), (2, .int (xJ n)), (3, .int (xJ b))] := hl
  obtain ⟨Q, eQ⟩ : ∃ Q, Q = MQ below (xQv D g h0 (fun τ => xFr (fun k => k = 296) s0 τ ∧ (((IMn τ) ∧ (IMk τ) ∧ (IMo τ) ∧ True) ∧ (True)))) args s 0 0 (xA h0) := ⟨_, rfl⟩
  rw [← eQ]
  generalize hHe : ([] : List Loc) = locs at hW ⊢
  obtain ⟨H, eH⟩ : ∃ H, H = s.heap := ⟨_, rfl⟩
  rw [← eH] at hW ⊢
  have hF : xFr (fun k => k = 296) s0 s0 := xFr.rf
  have k268_8 : s0 268 8 = s0 268 8 := rfl
  have k268_58 : s0 268 58 = s0 268 58 := rfl
  refine x_iconst hx hb dX11_laysCosts_0 ?_
  refine lv_istore (lv' := [(4, .int (xJ 0)), (0, .ref (h0 + 268)), (1, .int (xJ a)), (2, .int (xJ n)), (3, .int (xJ b))]) hx hb dX11_laysCosts_1 hl (by decide) rfl (fun ls hl => ?_)
  have L3 : ∀ (fu : Nat) (i4_3 : Int) (s_3 : xS) (H : Heap) (locs : List Loc) (ls : Array Slot), (xR i4_3) → (xFr (fun k => k = 296) s0 s_3) → (IMn s_3) → (IMk s_3) → (IMo s_3) → (s_3 268 8 = s0 268 8) → (s_3 268 58 = s0 268 58) → (0 ≤ i4_3) → (i4_3 ≤ 100) → (100 + 1 - i4_3).toNat < fu → xW D g h0 s H locs s_3 → lv_has ls 8 [(0, .ref (h0 + 268)), (1, .int (xJ a)), (2, .int (xJ n)), (3, .int (xJ b)), (4, .int (xJ i4_3))] → W p l e { frames := 3, cells := 0, slots := 0, locals := 66 } s m args below meth c H locs 0 0 Q (F0 m 3 ls []) := by
    intro fu
    induction fu with
    | zero => intro i4_3 s_3 H locs ls ri4_3 hF_3 q3_0 q3_1 q3_2 q3_3 q3_4 v3_0 v3_1 hm; exact absurd hm (Nat.not_lt_zero _)
    | succ fu ih3 =>
      intro i4_3 s_3 H locs ls ri4_3 hF_3 q3_0 q3_1 q3_2 q3_3 q3_4 v3_0 v3_1 hm hW hl
      refine x_iload hx hb hl 4 rfl dX11_laysCosts_3 ?_
      refine x_bipush hx hb dX11_laysCosts_5 (by decide) ?_
      refine x_icmp_ge (tgt := 36) hx hb ri4_3 (by decide) dX11_laysCosts_7 (by decide) (fun c1 => ?_) (fun c1 => ?_)
      · skip
        refine x_iconst hx hb dX11_laysCosts_36 ?_
        refine lv_istore (lv' := [(4, .int (xJ 0)), (0, .ref (h0 + 268)), (1, .int (xJ a)), (2, .int (xJ n)), (3, .int (xJ b))]) hx hb dX11_laysCosts_37 hl (by decide) rfl (fun ls hl => ?_)
        have L39 : ∀ (fu : Nat) (i4_39 : Int) (s_39 : xS) (H : Heap) (locs : List Loc) (ls : Array Slot), (xR i4_39) → (xFr (fun k => k = 296) s0 s_39) → (IMn s_39) → (IMk s_39) → (IMo s_39) → (s_39 268 8 = s0 268 8) → (s_39 268 58 = s0 268 58) → (0 ≤ i4_39) → (n + 1 - i4_39).toNat < fu → xW D g h0 s H locs s_39 → lv_has ls 8 [(0, .ref (h0 + 268)), (2, .int (xJ n)), (3, .int (xJ b)), (4, .int (xJ i4_39))] → W p l e { frames := 3, cells := 0, slots := 0, locals := 66 } s m args below meth c H locs 0 0 Q (F0 m 39 ls []) := by
          intro fu
          induction fu with
          | zero => intro i4_39 s_39 H locs ls ri4_39 hF_39 q39_0 q39_1 q39_2 q39_3 q39_4 v39_0 hm; exact absurd hm (Nat.not_lt_zero _)
          | succ fu ih39 =>
            intro i4_39 s_39 H locs ls ri4_39 hF_39 q39_0 q39_1 q39_2 q39_3 q39_4 v39_0 hm hW hl
            refine x_iload hx hb hl 3 rfl dX11_laysCosts_39 ?_
            refine x_iload_n hx hb hl 1 rfl dX11_laysCosts_41 rfl ?_
            refine x_icmp_ge (tgt := 166) hx hb ri4_39 rn dX11_laysCosts_42 (by decide) (fun c2 => ?_) (fun c2 => ?_)
            · skip
              rw [eQ]
              exact x_vret hx hb hr hlk hW ⟨hF_39, ⟨q39_0, q39_1, q39_2, trivial⟩, trivial⟩ dX11_laysCosts_166
            refine x_iconst hx hb dX11_laysCosts_45 ?_
            refine lv_istore (lv' := [(5, .int (xJ 0)), (0, .ref (h0 + 268)), (2, .int (xJ n)), (3, .int (xJ b)), (4, .int (xJ i4_39))]) hx hb dX11_laysCosts_46 hl (by decide) rfl (fun ls hl => ?_)
            have L48 : ∀ (fu : Nat) (i5_48 : Int) (s_48 : xS) (H : Heap) (locs : List Loc) (ls : Array Slot), (xR i5_48) → (xFr (fun k => k = 296) s0 s_48) → (IMn s_48) → (IMk s_48) → (IMo s_48) → (s_48 268 8 = s0 268 8) → (s_48 268 58 = s0 268 58) → (0 ≤ i5_48) → (i5_48 ≤ 100) → (100 + 1 - i5_48).toNat < fu → xW D g h0 s H locs s_48 → lv_has ls 8 [(0, .ref (h0 + 268)), (2, .int (xJ n)), (3, .int (xJ b)), (4, .int (xJ i4_39)), (5, .int (xJ i5_48))] → W p l e { frames := 3, cells := 0, slots := 0, locals := 66 } s m args below meth c H locs 0 0 Q (F0 m 48 ls []) := by
              intro fu
              induction fu with
              | zero => intro i5_48 s_48 H locs ls ri5_48 hF_48 q48_0 q48_1 q48_2 q48_3 q48_4 v48_0 v48_1 hm; exact absurd hm (Nat.not_lt_zero _)
              | succ fu ih48 =>
                intro i5_48 s_48 H locs ls ri5_48 hF_48 q48_0 q48_1 q48_2 q48_3 q48_4 v48_0 v48_1 hm hW hl
                refine x_iload hx hb hl 4 rfl dX11_laysCosts_48 ?_
                refine x_bipush hx hb dX11_laysCosts_50 (by decide) ?_
                refine x_icmp_ge (tgt := 160) hx hb ri5_48 (by decide) dX11_laysCosts_52 (by decide) (fun c3 => ?_) (fun c3 => ?_)
                · skip
                  refine x_iinc (lv' := [(4, .int (xJ (i4_39 + 1))), (0, .ref (h0 + 268)), (2, .int (xJ n)), (3, .int (xJ b)), (5, .int (xJ i5_48))]) hx hb hl 3 rfl dX11_laysCosts_160 (by decide) rfl (fun ls hl => ?_)
                  refine lv_goto (tgt := 39) hx hb dX11_laysCosts_163 (by decide) ?_
                  exact ih39 (i4_39 + 1) s_48 H locs ls (by omega) hF_48 q48_0 q48_1 q48_2 q48_3 q48_4 (by omega) (by omega) hW (lv_sub hl [1, 2, 3, 0] rfl)
                refine x_aload_n hx hb hl 0 rfl dX11_laysCosts_55 rfl ?_
                refine x_get (j := 45) (v := .ref (h0 + 296)) hx hb hown hT hE hW cls_X11 (Or.inl (by decide)) (so_268 h0 g _) (by decide) rfl wq1230 dX11_laysCosts_56 ?_
                refine x_iload hx hb hl 4 rfl dX11_laysCosts_59 ?_
                refine x_iald hx hb hE hW (Or.inl (by decide)) (sa_296 h0 g _) (by omega) (by decide) dX11_laysCosts_61 ?_
                refine x_rd hW (fun x4 ex4 rx4 => ?_)
                refine x_iload hx hb hl 3 rfl dX11_laysCosts_62 ?_
                refine x_icmp_eq (tgt := 70) hx hb rx4 ri4_39 dX11_laysCosts_64 (by decide) (fun c5 => ?_) (fun c5 => ?_)
                · skip
                  refine x_iconst hx hb dX11_laysCosts_70 ?_
                  refine lv_istore (lv' := [(6, .int (xJ 0)), (0, .ref (h0 + 268)), (2, .int (xJ n)), (3, .int (xJ b)), (4, .int (xJ i4_39)), (5, .int (xJ i5_48))]) hx hb dX11_laysCosts_71 hl (by decide) rfl (fun ls hl => ?_)
                  have L73 : ∀ (fu : Nat) (i6_73 : Int) (s_73 : xS) (H : Heap) (locs : List Loc) (ls : Array Slot), (xR i6_73) → (xFr (fun k => k = 296) s0 s_73) → (IMn s_73) → (IMk s_73) → (IMo s_73) → (s_73 268 8 = s0 268 8) → (s_73 268 58 = s0 268 58) → (0 ≤ i6_73) → (8 - i6_73).toNat < fu → xW D g h0 s H locs s_73 → lv_has ls 8 [(0, .ref (h0 + 268)), (2, .int (xJ n)), (3, .int (xJ b)), (4, .int (xJ i4_39)), (5, .int (xJ i5_48)), (6, .int (xJ i6_73))] → W p l e { frames := 3, cells := 0, slots := 0, locals := 66 } s m args below meth c H locs 0 0 Q (F0 m 73 ls []) := by
                    intro fu
                    induction fu with
                    | zero => intro i6_73 s_73 H locs ls ri6_73 hF_73 q73_0 q73_1 q73_2 q73_3 q73_4 v73_0 hm; exact absurd hm (Nat.not_lt_zero _)
                    | succ fu ih73 =>
                      intro i6_73 s_73 H locs ls ri6_73 hF_73 q73_0 q73_1 q73_2 q73_3 q73_4 v73_0 hm hW hl
                      refine x_iload hx hb hl 5 rfl dX11_laysCosts_73 ?_
                      refine x_bipush hx hb dX11_laysCosts_75 (by decide) ?_
                      refine x_icmp_ge (tgt := 154) hx hb ri6_73 (by decide) dX11_laysCosts_77 (by decide) (fun c6 => ?_) (fun c6 => ?_)
                      · skip
                        refine x_iinc (lv' := [(5, .int (xJ (i5_48 + 1))), (0, .ref (h0 + 268)), (2, .int (xJ n)), (3, .int (xJ b)), (4, .int (xJ i4_39)), (6, .int (xJ i6_73))]) hx hb hl 4 rfl dX11_laysCosts_154 (by decide) rfl (fun ls hl => ?_)
                        refine lv_goto (tgt := 48) hx hb dX11_laysCosts_157 (by decide) ?_
                        exact ih48 (i5_48 + 1) s_73 H locs ls (by omega) hF_73 q73_0 q73_1 q73_2 q73_3 q73_4 (by omega) (by omega) (by omega) hW (lv_sub hl [1, 2, 3, 4, 0] rfl)
                      refine x_iload hx hb hl 4 rfl dX11_laysCosts_80 ?_
                      refine x_iload hx hb hl 5 rfl dX11_laysCosts_82 ?_
                      refine x_goi (x_runS (As := [.int (xJ i5_48), .int (xJ i6_73)]) hx hb hml hown hT hE hW hl.1 cf_X11_beside wq1554 wq1553 (c_X11_beside l D g T h0 s_73 hW.2.1 i5_48 ri5_48 i6_73 ri6_73 (by omega)) ⟨rfl, rfl, ⟨by decide, by decide⟩, ⟨by decide, by decide⟩⟩ rfl rfl (Nat.le_of_ble_eq_true rfl) dX11_laysCosts_84) hW (fun x7 s8 H locs rx7 hp9 hW => ?_)
                      obtain ⟨es8, hp9⟩ := hp9
                      subst es8
                      have ghp9 := hp9
                      refine lv_istore (lv' := [(7, .int (xJ x7)), (0, .ref (h0 + 268)), (2, .int (xJ n)), (3, .int (xJ b)), (4, .int (xJ i4_39)), (5, .int (xJ i5_48)), (6, .int (xJ i6_73))]) hx hb dX11_laysCosts_87 hl (by decide) rfl (fun ls hl => ?_)
                      refine x_iload hx hb hl 0 rfl dX11_laysCosts_89 ?_
                      refine x_iconst hx hb dX11_laysCosts_91 ?_
                      refine x_icmp_eq (tgt := 145) hx hb rx7 (by decide) dX11_laysCosts_92 (by decide) (fun c10 => ?_) (fun c10 => ?_)
                      · skip
                        refine x_iload hx hb hl 6 rfl dX11_laysCosts_145 ?_
                        refine x_iconst hx hb dX11_laysCosts_147 ?_
                        refine x_iadd hx hb dX11_laysCosts_148 ?_
                        refine x_nm (fun x11 ex11 => ?_)
                        refine lv_istore (lv' := [(6, .int (xJ x11)), (7, .int (xJ x7)), (0, .ref (h0 + 268)), (2, .int (xJ n)), (3, .int (xJ b)), (4, .int (xJ i4_39)), (5, .int (xJ i5_48))]) hx hb dX11_laysCosts_149 hl (by decide) rfl (fun ls hl => ?_)
                        refine lv_goto (tgt := 73) hx hb dX11_laysCosts_151 (by decide) ?_
                        exact ih73 x11 s_73 H locs ls (by omega) hF_73 q73_0 q73_1 q73_2 q73_3 q73_4 (by omega) (by omega) hW (lv_sub hl [2, 3, 4, 5, 6, 0] rfl)
                      refine x_aload_n hx hb hl 1 rfl dX11_laysCosts_95 rfl ?_
                      refine x_get (j := 45) (v := .ref (h0 + 296)) hx hb hown hT hE hW cls_X11 (Or.inl (by decide)) (so_268 h0 g _) (by decide) rfl wq1230 dX11_laysCosts_96 ?_
                      refine x_iload hx hb hl 0 rfl dX11_laysCosts_99 ?_
                      refine x_iald hx hb hE hW (Or.inl (by decide)) (sa_296 h0 g _) (by omega) (by decide) dX11_laysCosts_101 ?_
                      refine x_rd hW (fun x12 ex12 rx12 => ?_)
                      refine lv_ldcw (v := xJ 1000000000) hx hb hown (hT _ wq1622) dX11_laysCosts_102 ?_
                      refine x_icmp_ne (tgt := 145) hx hb rx12 (by decide) dX11_laysCosts_105 (by decide) (fun c13 => ?_) (fun c13 => ?_)
                      · skip
                        refine x_iload hx hb hl 6 rfl dX11_laysCosts_145 ?_
                        refine x_iconst hx hb dX11_laysCosts_147 ?_
                        refine x_iadd hx hb dX11_laysCosts_148 ?_
                        refine x_nm (fun x14 ex14 => ?_)
                        refine lv_istore (lv' := [(6, .int (xJ x14)), (7, .int (xJ x7)), (0, .ref (h0 + 268)), (2, .int (xJ n)), (3, .int (xJ b)), (4, .int (xJ i4_39)), (5, .int (xJ i5_48))]) hx hb dX11_laysCosts_149 hl (by decide) rfl (fun ls hl => ?_)
                        refine lv_goto (tgt := 73) hx hb dX11_laysCosts_151 (by decide) ?_
                        exact ih73 x14 s_73 H locs ls (by omega) hF_73 q73_0 q73_1 q73_2 q73_3 q73_4 (by omega) (by omega) hW (lv_sub hl [2, 3, 4, 5, 6, 0] rfl)
                      refine x_aload_n hx hb hl 1 rfl dX11_laysCosts_108 rfl ?_
                      refine x_get (j := 3) (v := .ref (h0 + 272)) hx hb hown hT hE hW cls_X11 (Or.inl (by decide)) (so_268 h0 g _) (by decide) rfl wq1188 dX11_laysCosts_109 ?_
                      refine x_iload hx hb hl 0 rfl dX11_laysCosts_112 ?_
                      refine x_iald hx hb hE hW (Or.inl (by decide)) (sa_272 h0 g _) (by omega) (by decide) dX11_laysCosts_114 ?_
                      refine x_rd hW (fun x15 ex15 rx15 => ?_)
                      refine x_iconst hx hb dX11_laysCosts_115 ?_
                      refine x_icmp_eq (tgt := 145) hx hb rx15 (by decide) dX11_laysCosts_116 (by decide) (fun c16 => ?_) (fun c16 => ?_)
                      · skip
                        refine x_iload hx hb hl 6 rfl dX11_laysCosts_145 ?_
                        refine x_iconst hx hb dX11_laysCosts_147 ?_
                        refine x_iadd hx hb dX11_laysCosts_148 ?_
                        refine x_nm (fun x17 ex17 => ?_)
                        refine lv_istore (lv' := [(6, .int (xJ x17)), (7, .int (xJ x7)), (0, .ref (h0 + 268)), (2, .int (xJ n)), (3, .int (xJ b)), (4, .int (xJ i4_39)), (5, .int (xJ i5_48))]) hx hb dX11_laysCosts_149 hl (by decide) rfl (fun ls hl => ?_)
                        refine lv_goto (tgt := 73) hx hb dX11_laysCosts_151 (by decide) ?_
                        exact ih73 x17 s_73 H locs ls (by omega) hF_73 q73_0 q73_1 q73_2 q73_3 q73_4 (by omega) (by omega) hW (lv_sub hl [2, 3, 4, 5, 6, 0] rfl)
                      refine x_iload_n hx hb hl 3 rfl dX11_laysCosts_119 rfl ?_
                      have J134 : ∀ (ls : Array Slot), lv_has ls 8 [(0, .ref (h0 + 268)), (2, .int (xJ n)), (3, .int (xJ b)), (4, .int (xJ i4_39)), (5, .int (xJ i5_48)), (6, .int (xJ i6_73)), (7, .int (xJ x7))] → W p l e { frames := 3, cells := 0, slots := 0, locals := 66 } s m args below meth c H locs 0 0 Q (F0 m 134 ls []) := by
                        intro ls   hl
                        refine x_aload_n hx hb hl 0 rfl dX11_laysCosts_134 rfl ?_
                        refine x_get (j := 45) (v := .ref (h0 + 296)) hx hb hown hT hE hW cls_X11 (Or.inl (by decide)) (so_268 h0 g _) (by decide) rfl wq1230 dX11_laysCosts_135 ?_
                        refine x_iload hx hb hl 6 rfl dX11_laysCosts_138 ?_
                        refine x_iload hx hb hl 3 rfl dX11_laysCosts_140 ?_
                        refine x_iconst hx hb dX11_laysCosts_142 ?_
                        refine x_iadd hx hb dX11_laysCosts_143 ?_
                        refine x_iast hx hb hE hW (by decide) (fun σ => sa_296 h0 g σ) (by omega) (by decide) (by omega) dX11_laysCosts_144 (fun H locs s18 es18 hW => ?_)
                        have q19 : IMn s18 := by rw [es18]; exact IMn_o (by unfold suIMn; omega) q73_0
                        have q20 : IMk s18 := by rw [es18]; exact IMk_o (by unfold suIMk; omega) q73_1
                        have q21 : IMo s18 := by rw [es18]; exact IMo_o (by unfold suIMo; omega) q73_2
                        have q22 : s18 268 8 = s0 268 8 := (show s18 268 8 = s_73 268 8 from by rw [es18, xU_k _ _ _ (by omega)]).trans q73_3
                        have q23 : s18 268 58 = s0 268 58 := (show s18 268 58 = s_73 268 58 from by rw [es18, xU_k _ _ _ (by omega)]).trans q73_4
                        have hF24 := hF_73.put es18 (by omega)
                        refine x_iload hx hb hl 5 rfl dX11_laysCosts_145 ?_
                        refine x_iconst hx hb dX11_laysCosts_147 ?_
                        refine x_iadd hx hb dX11_laysCosts_148 ?_
                        refine x_nm (fun x25 ex25 => ?_)
                        refine lv_istore (lv' := [(6, .int (xJ x25)), (0, .ref (h0 + 268)), (2, .int (xJ n)), (3, .int (xJ b)), (4, .int (xJ i4_39)), (5, .int (xJ i5_48)), (7, .int (xJ x7))]) hx hb dX11_laysCosts_149 hl (by decide) rfl (fun ls hl => ?_)
                        refine lv_goto (tgt := 73) hx hb dX11_laysCosts_151 (by decide) ?_
                        exact ih73 x25 s18 H locs ls (by omega) hF24 q19 q20 q21 q22 q23 (by omega) (by omega) hW (lv_sub hl [1, 2, 3, 4, 5, 0] rfl)
                      refine x_if_eq (tgt := 134) hx hb rb dX11_laysCosts_120 (by decide) (fun c26 => ?_) (fun c26 => ?_)
                      · skip
                        exact J134 ls   (lv_sub hl [1, 2, 3, 4, 5, 6, 0] rfl)
                      refine x_aload_n hx hb hl 1 rfl dX11_laysCosts_123 rfl ?_
                      refine x_get (j := 3) (v := .ref (h0 + 272)) hx hb hown hT hE hW cls_X11 (Or.inl (by decide)) (so_268 h0 g _) (by decide) rfl wq1188 dX11_laysCosts_124 ?_
                      refine x_iload hx hb hl 0 rfl dX11_laysCosts_127 ?_
                      refine x_iald hx hb hE hW (Or.inl (by decide)) (sa_272 h0 g _) (by omega) (by decide) dX11_laysCosts_129 ?_
                      refine x_rd hW (fun x27 ex27 rx27 => ?_)
                      refine x_iconst hx hb dX11_laysCosts_130 ?_
                      refine x_icmp_eq (tgt := 145) hx hb rx27 (by decide) dX11_laysCosts_131 (by decide) (fun c28 => ?_) (fun c28 => ?_)
                      · skip
                        refine x_iload hx hb hl 6 rfl dX11_laysCosts_145 ?_
                        refine x_iconst hx hb dX11_laysCosts_147 ?_
                        refine x_iadd hx hb dX11_laysCosts_148 ?_
                        refine x_nm (fun x29 ex29 => ?_)
                        refine lv_istore (lv' := [(6, .int (xJ x29)), (7, .int (xJ x7)), (0, .ref (h0 + 268)), (2, .int (xJ n)), (3, .int (xJ b)), (4, .int (xJ i4_39)), (5, .int (xJ i5_48))]) hx hb dX11_laysCosts_149 hl (by decide) rfl (fun ls hl => ?_)
                        refine lv_goto (tgt := 73) hx hb dX11_laysCosts_151 (by decide) ?_
                        exact ih73 x29 s_73 H locs ls (by omega) hF_73 q73_0 q73_1 q73_2 q73_3 q73_4 (by omega) (by omega) hW (lv_sub hl [2, 3, 4, 5, 6, 0] rfl)
                      exact J134 ls   (lv_sub hl [1, 2, 3, 4, 5, 6, 0] rfl)
                  exact L73 ((8 - 0 : Int).toNat + 1) 0 s_48 H locs ls (by decide) hF_48 q48_0 q48_1 q48_2 q48_3 q48_4 (by omega) (Nat.lt_succ_self _) hW (lv_sub hl [1, 2, 3, 4, 5, 0] rfl)
                refine lv_goto (tgt := 154) hx hb dX11_laysCosts_67 (by decide) ?_
                refine x_iinc (lv' := [(5, .int (xJ (i5_48 + 1))), (0, .ref (h0 + 268)), (2, .int (xJ n)), (3, .int (xJ b)), (4, .int (xJ i4_39))]) hx hb hl 4 rfl dX11_laysCosts_154 (by decide) rfl (fun ls hl => ?_)
                refine lv_goto (tgt := 48) hx hb dX11_laysCosts_157 (by decide) ?_
                exact ih48 (i5_48 + 1) s_48 H locs ls (by omega) hF_48 q48_0 q48_1 q48_2 q48_3 q48_4 (by omega) (by omega) (by omega) hW (lv_sub hl [1, 2, 3, 4, 0] rfl)
            exact L48 ((100 + 1 - 0 : Int).toNat + 1) 0 s_39 H locs ls (by decide) hF_39 q39_0 q39_1 q39_2 q39_3 q39_4 (by omega) (by omega) (Nat.lt_succ_self _) hW (lv_sub hl [1, 2, 3, 4, 0] rfl)
        exact L39 ((n + 1 - 0 : Int).toNat + 1) 0 s_3 H locs ls (by decide) hF_3 q3_0 q3_1 q3_2 q3_3 q3_4 (by omega) (Nat.lt_succ_self _) hW (lv_sub hl [1, 3, 4, 0] rfl)
      refine x_aload_n hx hb hl 0 rfl dX11_laysCosts_10 rfl ?_
      refine x_get (j := 45) (v := .ref (h0 + 296)) hx hb hown hT hE hW cls_X11 (Or.inl (by decide)) (so_268 h0 g _) (by decide) rfl wq1230 dX11_laysCosts_11 ?_
      refine x_iload hx hb hl 4 rfl dX11_laysCosts_14 ?_
      refine x_iload hx hb hl 4 rfl dX11_laysCosts_16 ?_
      refine x_iload_n hx hb hl 1 rfl dX11_laysCosts_18 rfl ?_
      refine x_icmp_ne (tgt := 26) hx hb ri4_3 ra dX11_laysCosts_19 (by decide) (fun c30 => ?_) (fun c30 => ?_)
      · skip
        refine lv_ldcw (v := xJ 1000000000) hx hb hown (hT _ wq1622) dX11_laysCosts_26 ?_
        refine x_iast hx hb hE hW (by decide) (fun σ => sa_296 h0 g σ) (by omega) (by decide) (by decide) dX11_laysCosts_29 (fun H locs s31 es31 hW => ?_)
        have q32 : IMn s31 := by rw [es31]; exact IMn_o (by unfold suIMn; omega) q3_0
        have q33 : IMk s31 := by rw [es31]; exact IMk_o (by unfold suIMk; omega) q3_1
        have q34 : IMo s31 := by rw [es31]; exact IMo_o (by unfold suIMo; omega) q3_2
        have q35 : s31 268 8 = s0 268 8 := (show s31 268 8 = s_3 268 8 from by rw [es31, xU_k _ _ _ (by omega)]).trans q3_3
        have q36 : s31 268 58 = s0 268 58 := (show s31 268 58 = s_3 268 58 from by rw [es31, xU_k _ _ _ (by omega)]).trans q3_4
        have hF37 := hF_3.put es31 (by omega)
        refine x_iinc (lv' := [(4, .int (xJ (i4_3 + 1))), (0, .ref (h0 + 268)), (1, .int (xJ a)), (2, .int (xJ n)), (3, .int (xJ b))]) hx hb hl 4 rfl dX11_laysCosts_30 (by decide) rfl (fun ls hl => ?_)
        refine lv_goto (tgt := 3) hx hb dX11_laysCosts_33 (by decide) ?_
        exact ih3 (i4_3 + 1) s31 H locs ls (by omega) hF37 q32 q33 q34 q35 q36 (by omega) (by omega) (by omega) hW (lv_sub hl [1, 2, 3, 4, 0] rfl)
      refine x_iconst hx hb dX11_laysCosts_22 ?_
      refine lv_goto (tgt := 29) hx hb dX11_laysCosts_23 (by decide) ?_
      refine x_iast hx hb hE hW (by decide) (fun σ => sa_296 h0 g σ) (by omega) (by decide) (by decide) dX11_laysCosts_29 (fun H locs s38 es38 hW => ?_)
      have q39 : IMn s38 := by rw [es38]; exact IMn_o (by unfold suIMn; omega) q3_0
      have q40 : IMk s38 := by rw [es38]; exact IMk_o (by unfold suIMk; omega) q3_1
      have q41 : IMo s38 := by rw [es38]; exact IMo_o (by unfold suIMo; omega) q3_2
      have q42 : s38 268 8 = s0 268 8 := (show s38 268 8 = s_3 268 8 from by rw [es38, xU_k _ _ _ (by omega)]).trans q3_3
      have q43 : s38 268 58 = s0 268 58 := (show s38 268 58 = s_3 268 58 from by rw [es38, xU_k _ _ _ (by omega)]).trans q3_4
      have hF44 := hF_3.put es38 (by omega)
      refine x_iinc (lv' := [(4, .int (xJ (i4_3 + 1))), (0, .ref (h0 + 268)), (1, .int (xJ a)), (2, .int (xJ n)), (3, .int (xJ b))]) hx hb hl 4 rfl dX11_laysCosts_30 (by decide) rfl (fun ls hl => ?_)
      refine lv_goto (tgt := 3) hx hb dX11_laysCosts_33 (by decide) ?_
      exact ih3 (i4_3 + 1) s38 H locs ls (by omega) hF44 q39 q40 q41 q42 q43 (by omega) (by omega) (by omega) hW (lv_sub hl [1, 2, 3, 4, 0] rfl)
  exact L3 ((100 + 1 - 0 : Int).toNat + 1) 0 s0 H locs ls (by decide) hF p0 p1 p2 k268_8 k268_58 (by omega) (by omega) (Nat.lt_succ_self _) hW (lv_sub hl [1, 2, 3, 4, 0] rfl)
set_option maxHeartbeats 4000000 in
set_option maxRecDepth 100000 in
theorem c_X11_reckon (l : Launch) (D : va_G) (g : xG) (T : Nat × Nat × Nat) (h0 : Nat) (s0 : xS) (hσ : xRR s0) (q : Int) (rq : xR q) (a : Int) (ra : xR a) (b : Int) (rb : xR b) (hb : b ≠ 0 ∨ (q ≠ 5 ∧ q ≠ 6)) : Met l yX11_reckon (xws yX11_reckon cX11_reckon 3 (some .int)) { frames := 0, cells := 0, slots := 0, locals := 0 } (xP [.int (xJ q), .int (xJ a), .int (xJ b)] D g T h0 s0) (xQi D g h0 (fun r τ => s0 = τ ∧ (True))) 0 0 (xA h0) := by
  refine x_met hσ (by decide) (Nat.le_of_ble_eq_true rfl) ?_
  intro p e s m args below meth c hx hb hr hml hown hT hlk hnm hE hW ls hl
  have hl : lv_has ls 3 [(0, .int (xJ q)), (1, .int (xJ a)), (2, .int (xJ b))] := hl
  obtain ⟨Q, eQ⟩ : ∃ Q, Q = MQ below (xQi D g h0 (fun r τ => s0 = τ ∧ (True))) args s 0 0 (xA h0) := ⟨_, rfl⟩
  rw [← eQ]
  generalize hHe : ([] : List Loc) = locs at hW ⊢
  obtain ⟨H, eH⟩ : ∃ H, H = s.heap := ⟨_, rfl⟩
  rw [← eH] at hW ⊢
  refine x_iload_n hx hb hl 0 rfl dX11_reckon_0 rfl ?_
  rcases (show (q < 2 ∨ 8 < q) ∨ q = 2 ∨ q = 3 ∨ q = 4 ∨ q = 5 ∨ q = 6 ∨ q = 7 ∨ q = 8 from by omega) with c1 | c1 | c1 | c1 | c1 | c1 | c1 | c1
  · refine x_tabOut (tgt := 86) hx hb rq dX11_reckon_1 c1 (by decide) ?_
    refine x_iload_n hx hb hl 1 rfl dX11_reckon_86 rfl ?_
    refine x_iload_n hx hb hl 2 rfl dX11_reckon_87 rfl ?_
    refine x_icmp_ne (tgt := 95) hx hb ra rb dX11_reckon_88 (by decide) (fun c2 => ?_) (fun c2 => ?_)
    · skip
      refine x_iconst hx hb dX11_reckon_95 ?_
      rw [eQ]
      exact x_iret hx hb hr hlk hW (by decide) ⟨rfl, trivial⟩ dX11_reckon_96
    refine x_iconst hx hb dX11_reckon_91 ?_
    refine lv_goto (tgt := 96) hx hb dX11_reckon_92 (by decide) ?_
    rw [eQ]
    exact x_iret hx hb hr hlk hW (by decide) ⟨rfl, trivial⟩ dX11_reckon_96
  · refine x_tabIn (v := 2) (tgt := 44) hx hb rq c1 dX11_reckon_1 (by decide) rfl (by decide) ?_
    refine x_iload_n hx hb hl 1 rfl dX11_reckon_44 rfl ?_
    refine x_iload_n hx hb hl 2 rfl dX11_reckon_45 rfl ?_
    refine x_iadd hx hb dX11_reckon_46 ?_
    refine x_any (fun x3 rx3 => ?_)
    rw [eQ]
    exact x_iret hx hb hr hlk hW rx3 ⟨rfl, trivial⟩ dX11_reckon_47
  · refine x_tabIn (v := 3) (tgt := 48) hx hb rq c1 dX11_reckon_1 (by decide) rfl (by decide) ?_
    refine x_iload_n hx hb hl 1 rfl dX11_reckon_48 rfl ?_
    refine x_iload_n hx hb hl 2 rfl dX11_reckon_49 rfl ?_
    refine x_isub hx hb dX11_reckon_50 ?_
    refine x_any (fun x4 rx4 => ?_)
    rw [eQ]
    exact x_iret hx hb hr hlk hW rx4 ⟨rfl, trivial⟩ dX11_reckon_51
  · refine x_tabIn (v := 4) (tgt := 52) hx hb rq c1 dX11_reckon_1 (by decide) rfl (by decide) ?_
    refine x_iload_n hx hb hl 1 rfl dX11_reckon_52 rfl ?_
    refine x_iload_n hx hb hl 2 rfl dX11_reckon_53 rfl ?_
    refine x_imul hx hb dX11_reckon_54 ?_
    refine x_any (fun x5 rx5 => ?_)
    rw [eQ]
    exact x_iret hx hb hr hlk hW rx5 ⟨rfl, trivial⟩ dX11_reckon_55
  · refine x_tabIn (v := 5) (tgt := 56) hx hb rq c1 dX11_reckon_1 (by decide) rfl (by decide) ?_
    refine x_iload_n hx hb hl 1 rfl dX11_reckon_56 rfl ?_
    refine x_iload_n hx hb hl 2 rfl dX11_reckon_57 rfl ?_
    refine x_idivQ hx hb rb (by omega) dX11_reckon_58 (fun x6 rx6 => ?_)
    rw [eQ]
    exact x_iret hx hb hr hlk hW rx6 ⟨rfl, trivial⟩ dX11_reckon_59
  · refine x_tabIn (v := 6) (tgt := 60) hx hb rq c1 dX11_reckon_1 (by decide) rfl (by decide) ?_
    refine x_iload_n hx hb hl 1 rfl dX11_reckon_60 rfl ?_
    refine x_iload_n hx hb hl 2 rfl dX11_reckon_61 rfl ?_
    refine x_iremQ hx hb rb (by omega) dX11_reckon_62 (fun x7 rx7 => ?_)
    rw [eQ]
    exact x_iret hx hb hr hlk hW rx7 ⟨rfl, trivial⟩ dX11_reckon_63
  · refine x_tabIn (v := 7) (tgt := 64) hx hb rq c1 dX11_reckon_1 (by decide) rfl (by decide) ?_
    refine x_iload_n hx hb hl 1 rfl dX11_reckon_64 rfl ?_
    refine x_iload_n hx hb hl 2 rfl dX11_reckon_65 rfl ?_
    refine x_icmp_ge (tgt := 73) hx hb ra rb dX11_reckon_66 (by decide) (fun c8 => ?_) (fun c8 => ?_)
    · skip
      refine x_iconst hx hb dX11_reckon_73 ?_
      rw [eQ]
      exact x_iret hx hb hr hlk hW (by decide) ⟨rfl, trivial⟩ dX11_reckon_74
    refine x_iconst hx hb dX11_reckon_69 ?_
    refine lv_goto (tgt := 74) hx hb dX11_reckon_70 (by decide) ?_
    rw [eQ]
    exact x_iret hx hb hr hlk hW (by decide) ⟨rfl, trivial⟩ dX11_reckon_74
  · refine x_tabIn (v := 8) (tgt := 75) hx hb rq c1 dX11_reckon_1 (by decide) rfl (by decide) ?_
    refine x_iload_n hx hb hl 1 rfl dX11_reckon_75 rfl ?_
    refine x_iload_n hx hb hl 2 rfl dX11_reckon_76 rfl ?_
    refine x_icmp_le (tgt := 84) hx hb ra rb dX11_reckon_77 (by decide) (fun c9 => ?_) (fun c9 => ?_)
    · skip
      refine x_iconst hx hb dX11_reckon_84 ?_
      rw [eQ]
      exact x_iret hx hb hr hlk hW (by decide) ⟨rfl, trivial⟩ dX11_reckon_85
    refine x_iconst hx hb dX11_reckon_80 ?_
    refine lv_goto (tgt := 85) hx hb dX11_reckon_81 (by decide) ?_
    rw [eQ]
    exact x_iret hx hb hr hlk hW (by decide) ⟨rfl, trivial⟩ dX11_reckon_85


theorem cf_X11_bares : xCF yX11_bares cX11_bares 2 none 0 := ⟨xq 1593 (by decide +kernel) rfl, xq 179 (by decide +kernel) rfl, by decide +kernel⟩
theorem cf_X11_byFelon : xCF yX11_byFelon cX11_byFelon 4 (some .int) 3 := ⟨xq 1626 (by decide +kernel) rfl, xq 179 (by decide +kernel) rfl, by decide +kernel⟩
theorem cf_X11_byLaw : xCF yX11_byLaw cX11_byLaw 5 (some .int) 2 := ⟨xq 1578 (by decide +kernel) rfl, xq 179 (by decide +kernel) rfl, by decide +kernel⟩
theorem cf_X11_comesTo : xCF yX11_comesTo cX11_comesTo 8 (some .int) 2 := ⟨xq 1582 (by decide +kernel) rfl, xq 179 (by decide +kernel) rfl, by decide +kernel⟩
theorem cf_X11_fallsByLamps : xCF yX11_fallsByLamps cX11_fallsByLamps 3 none 0 := ⟨xq 1609 (by decide +kernel) rfl, xq 179 (by decide +kernel) rfl, by decide +kernel⟩
theorem cf_X11_fallsOf : xCF yX11_fallsOf cX11_fallsOf 4 none 2 := ⟨xq 1597 (by decide +kernel) rfl, xq 179 (by decide +kernel) rfl, by decide +kernel⟩
theorem cf_X11_feels : xCF yX11_feels cX11_feels 3 none 1 := ⟨xq 1574 (by decide +kernel) rfl, xq 179 (by decide +kernel) rfl, by decide +kernel⟩
theorem cf_X11_findsFor : xCF yX11_findsFor cX11_findsFor 4 (some .int) 1 := ⟨xq 1634 (by decide +kernel) rfl, xq 179 (by decide +kernel) rfl, by decide +kernel⟩
theorem cf_X11_isNight : xCF yX11_isNight cX11_isNight 3 (some .boolean) 1 := ⟨xq 1605 (by decide +kernel) rfl, xq 179 (by decide +kernel) rfl, by decide +kernel⟩
theorem cf_X11_laysCosts : xCF yX11_laysCosts cX11_laysCosts 8 none 3 := ⟨xq 1638 (by decide +kernel) rfl, xq 179 (by decide +kernel) rfl, by decide +kernel⟩
theorem cf_X11_min : xCF yX11_min cX11_min 2 (some .int) 2 := ⟨xq 1641 (by decide +kernel) rfl, xq 179 (by decide +kernel) rfl, by decide +kernel⟩
theorem cf_X11_owes : xCF yX11_owes cX11_owes 2 (some .boolean) 1 := ⟨xq 1621 (by decide +kernel) rfl, xq 179 (by decide +kernel) rfl, by decide +kernel⟩
theorem cf_X11_reckon : xCF yX11_reckon cX11_reckon 3 (some .int) 3 := ⟨xq 1585 (by decide +kernel) rfl, xq 179 (by decide +kernel) rfl, by decide +kernel⟩
theorem wq136 : Cond.selects yX11_feels.cls yX11_feels yX11_feels ∈ xTB := xq 136 (by decide +kernel) rfl
theorem wq137 : Cond.selects yX11_byLaw.cls yX11_byLaw yX11_byLaw ∈ xTB := xq 137 (by decide +kernel) rfl
theorem wq138 : Cond.selects yX11_comesTo.cls yX11_comesTo yX11_comesTo ∈ xTB := xq 138 (by decide +kernel) rfl
theorem wq140 : Cond.selects yX11_bares.cls yX11_bares yX11_bares ∈ xTB := xq 140 (by decide +kernel) rfl
theorem wq141 : Cond.selects yX11_fallsOf.cls yX11_fallsOf yX11_fallsOf ∈ xTB := xq 141 (by decide +kernel) rfl
theorem wq143 : Cond.selects yX11_isNight.cls yX11_isNight yX11_isNight ∈ xTB := xq 143 (by decide +kernel) rfl
theorem wq144 : Cond.selects yX11_fallsByLamps.cls yX11_fallsByLamps yX11_fallsByLamps ∈ xTB := xq 144 (by decide +kernel) rfl
theorem wq147 : Cond.selects yX11_owes.cls yX11_owes yX11_owes ∈ xTB := xq 147 (by decide +kernel) rfl
theorem wq148 : Cond.selects yX11_byFelon.cls yX11_byFelon yX11_byFelon ∈ xTB := xq 148 (by decide +kernel) rfl
theorem wq150 : Cond.selects yX11_findsFor.cls yX11_findsFor yX11_findsFor ∈ xTB := xq 150 (by decide +kernel) rfl
theorem wq151 : Cond.selects yX11_laysCosts.cls yX11_laysCosts yX11_laysCosts ∈ xTB := xq 151 (by decide +kernel) rfl
theorem wq1202 : Cond.fieldLink "ShadowCourtModel" (306) "ShadowCourtModel" "clauses" "I" ∈ xTB := xq 1202 (by decide +kernel) rfl
theorem wq1209 : Cond.fieldLink "ShadowCourtModel" (53) "ShadowCourtModel" "codes" "[I" ∈ xTB := xq 1209 (by decide +kernel) rfl
theorem wq1210 : Cond.fieldLink "ShadowCourtModel" (56) "ShadowCourtModel" "clauseOf" "[I" ∈ xTB := xq 1210 (by decide +kernel) rfl
theorem wq1211 : Cond.fieldLink "ShadowCourtModel" (59) "ShadowCourtModel" "codeFrom" "[I" ∈ xTB := xq 1211 (by decide +kernel) rfl
theorem wq1212 : Cond.fieldLink "ShadowCourtModel" (62) "ShadowCourtModel" "codeHalf" "[I" ∈ xTB := xq 1212 (by decide +kernel) rfl
theorem wq1213 : Cond.fieldLink "ShadowCourtModel" (65) "ShadowCourtModel" "codeTo" "[I" ∈ xTB := xq 1213 (by decide +kernel) rfl
theorem wq1223 : Cond.fieldLink "ShadowCourtModel" (83) "ShadowCourtModel" "stack" "[I" ∈ xTB := xq 1223 (by decide +kernel) rfl
theorem wq1231 : Cond.fieldLink "ShadowCourtModel" (95) "ShadowCourtModel" "orderOf" "[I" ∈ xTB := xq 1231 (by decide +kernel) rfl
theorem wq1232 : Cond.fieldLink "ShadowCourtModel" (98) "ShadowCourtModel" "rankOf" "[I" ∈ xTB := xq 1232 (by decide +kernel) rfl
theorem wq1233 : Cond.fieldLink "ShadowCourtModel" (135) "ShadowCourtModel" "goesFirst" "I" ∈ xTB := xq 1233 (by decide +kernel) rfl
theorem wq1234 : Cond.fieldLink "ShadowCourtModel" (101) "ShadowCourtModel" "isTaken" "[Z" ∈ xTB := xq 1234 (by decide +kernel) rfl
theorem wq1482 : Cond.constant "ShadowCourtModel" (197) (1048576) ∈ xTB := xq 1482 (by decide +kernel) rfl
theorem wq1571 : Cond.methodLink "ShadowCourtModel" (317) yX11_feels ∈ xTB := xq 1571 (by decide +kernel) rfl
theorem wq1573 : Cond.instanceMethod yX11_feels ∈ xTB := xq 1573 (by decide +kernel) rfl
theorem wq1575 : Cond.methodLink "ShadowCourtModel" (320) yX11_byLaw ∈ xTB := xq 1575 (by decide +kernel) rfl
theorem wq1577 : Cond.instanceMethod yX11_byLaw ∈ xTB := xq 1577 (by decide +kernel) rfl
theorem wq1579 : Cond.methodLink "ShadowCourtModel" (313) yX11_comesTo ∈ xTB := xq 1579 (by decide +kernel) rfl
theorem wq1581 : Cond.instanceMethod yX11_comesTo ∈ xTB := xq 1581 (by decide +kernel) rfl
theorem wq1583 : Cond.methodLink "ShadowCourtModel" (309) yX11_reckon ∈ xTB := xq 1583 (by decide +kernel) rfl
theorem wq1584 : Cond.static yX11_reckon ∈ xTB := xq 1584 (by decide +kernel) rfl
theorem wq1590 : Cond.methodLink "ShadowCourtModel" (333) yX11_bares ∈ xTB := xq 1590 (by decide +kernel) rfl
theorem wq1592 : Cond.instanceMethod yX11_bares ∈ xTB := xq 1592 (by decide +kernel) rfl
theorem wq1594 : Cond.methodLink "ShadowCourtModel" (336) yX11_fallsOf ∈ xTB := xq 1594 (by decide +kernel) rfl
theorem wq1596 : Cond.instanceMethod yX11_fallsOf ∈ xTB := xq 1596 (by decide +kernel) rfl
theorem wq1602 : Cond.methodLink "ShadowCourtModel" (339) yX11_isNight ∈ xTB := xq 1602 (by decide +kernel) rfl
theorem wq1604 : Cond.instanceMethod yX11_isNight ∈ xTB := xq 1604 (by decide +kernel) rfl
theorem wq1606 : Cond.methodLink "ShadowCourtModel" (342) yX11_fallsByLamps ∈ xTB := xq 1606 (by decide +kernel) rfl
theorem wq1608 : Cond.instanceMethod yX11_fallsByLamps ∈ xTB := xq 1608 (by decide +kernel) rfl
theorem wq1618 : Cond.methodLink "ShadowCourtModel" (349) yX11_owes ∈ xTB := xq 1618 (by decide +kernel) rfl
theorem wq1620 : Cond.instanceMethod yX11_owes ∈ xTB := xq 1620 (by decide +kernel) rfl
theorem wq1623 : Cond.methodLink "ShadowCourtModel" (352) yX11_byFelon ∈ xTB := xq 1623 (by decide +kernel) rfl
theorem wq1625 : Cond.instanceMethod yX11_byFelon ∈ xTB := xq 1625 (by decide +kernel) rfl
theorem wq1631 : Cond.methodLink "ShadowCourtModel" (359) yX11_findsFor ∈ xTB := xq 1631 (by decide +kernel) rfl
theorem wq1633 : Cond.instanceMethod yX11_findsFor ∈ xTB := xq 1633 (by decide +kernel) rfl
theorem wq1635 : Cond.methodLink "ShadowCourtModel" (355) yX11_laysCosts ∈ xTB := xq 1635 (by decide +kernel) rfl
theorem wq1637 : Cond.instanceMethod yX11_laysCosts ∈ xTB := xq 1637 (by decide +kernel) rfl
theorem wq1639 : Cond.methodLink "ShadowCourtModel" (362) yX11_min ∈ xTB := xq 1639 (by decide +kernel) rfl
theorem wq1640 : Cond.static yX11_min ∈ xTB := xq 1640 (by decide +kernel) rfl
theorem dX11_byFelon_0 : decode cX11_byFelon 0 = .ok (.aload_n 0, 1) := by decide +kernel
theorem dX11_byFelon_1 : decode cX11_byFelon 1 = .ok (.aload_n 0, 1) := by decide +kernel
theorem dX11_byFelon_2 : decode cX11_byFelon 2 = .ok (.getfield 7, 3) := by decide +kernel
theorem dX11_byFelon_5 : decode cX11_byFelon 5 = .ok (.bipush 37, 2) := by decide +kernel
theorem dX11_byFelon_7 : decode cX11_byFelon 7 = .ok (.iaload, 1) := by decide +kernel
theorem dX11_byFelon_8 : decode cX11_byFelon 8 = .ok (.invokevirtual 317, 3) := by decide +kernel
theorem dX11_byFelon_11 : decode cX11_byFelon 11 = .ok (.aload_n 0, 1) := by decide +kernel
theorem dX11_byFelon_12 : decode cX11_byFelon 12 = .ok (.getfield 86, 3) := by decide +kernel
theorem dX11_byFelon_15 : decode cX11_byFelon 15 = .ok (.iconst 3, 1) := by decide +kernel
theorem dX11_byFelon_16 : decode cX11_byFelon 16 = .ok (.iload_n 3, 1) := by decide +kernel
theorem dX11_byFelon_17 : decode cX11_byFelon 17 = .ok (.iastore, 1) := by decide +kernel
theorem dX11_byFelon_18 : decode cX11_byFelon 18 = .ok (.aload_n 0, 1) := by decide +kernel
theorem dX11_byFelon_19 : decode cX11_byFelon 19 = .ok (.getfield 86, 3) := by decide +kernel
theorem dX11_byFelon_22 : decode cX11_byFelon 22 = .ok (.iconst 4, 1) := by decide +kernel
theorem dX11_byFelon_23 : decode cX11_byFelon 23 = .ok (.aload_n 0, 1) := by decide +kernel
theorem dX11_byFelon_24 : decode cX11_byFelon 24 = .ok (.getfield 7, 3) := by decide +kernel
theorem dX11_byFelon_27 : decode cX11_byFelon 27 = .ok (.bipush 14, 2) := by decide +kernel
theorem dX11_byFelon_29 : decode cX11_byFelon 29 = .ok (.iload_n 3, 1) := by decide +kernel
theorem dX11_byFelon_30 : decode cX11_byFelon 30 = .ok (.iadd, 1) := by decide +kernel
theorem dX11_byFelon_31 : decode cX11_byFelon 31 = .ok (.iaload, 1) := by decide +kernel
theorem dX11_byFelon_32 : decode cX11_byFelon 32 = .ok (.iastore, 1) := by decide +kernel
theorem dX11_byFelon_33 : decode cX11_byFelon 33 = .ok (.aload_n 0, 1) := by decide +kernel
theorem dX11_byFelon_34 : decode cX11_byFelon 34 = .ok (.getfield 86, 3) := by decide +kernel
theorem dX11_byFelon_37 : decode cX11_byFelon 37 = .ok (.iconst 5, 1) := by decide +kernel
theorem dX11_byFelon_38 : decode cX11_byFelon 38 = .ok (.aload_n 0, 1) := by decide +kernel
theorem dX11_byFelon_39 : decode cX11_byFelon 39 = .ok (.getfield 7, 3) := by decide +kernel
theorem dX11_byFelon_42 : decode cX11_byFelon 42 = .ok (.bipush 24, 2) := by decide +kernel
theorem dX11_byFelon_44 : decode cX11_byFelon 44 = .ok (.iload_n 3, 1) := by decide +kernel
theorem dX11_byFelon_45 : decode cX11_byFelon 45 = .ok (.iadd, 1) := by decide +kernel
theorem dX11_byFelon_46 : decode cX11_byFelon 46 = .ok (.iaload, 1) := by decide +kernel
theorem dX11_byFelon_47 : decode cX11_byFelon 47 = .ok (.iastore, 1) := by decide +kernel
theorem dX11_byFelon_48 : decode cX11_byFelon 48 = .ok (.aload_n 0, 1) := by decide +kernel
theorem dX11_byFelon_49 : decode cX11_byFelon 49 = .ok (.getfield 86, 3) := by decide +kernel
theorem dX11_byFelon_52 : decode cX11_byFelon 52 = .ok (.bipush 6, 2) := by decide +kernel
theorem dX11_byFelon_54 : decode cX11_byFelon 54 = .ok (.aload_n 0, 1) := by decide +kernel
theorem dX11_byFelon_55 : decode cX11_byFelon 55 = .ok (.getfield 19, 3) := by decide +kernel
theorem dX11_byFelon_58 : decode cX11_byFelon 58 = .ok (.aload_n 0, 1) := by decide +kernel
theorem dX11_byFelon_59 : decode cX11_byFelon 59 = .ok (.getfield 7, 3) := by decide +kernel
theorem dX11_byFelon_62 : decode cX11_byFelon 62 = .ok (.iconst 4, 1) := by decide +kernel
theorem dX11_byFelon_63 : decode cX11_byFelon 63 = .ok (.iload_n 3, 1) := by decide +kernel
theorem dX11_byFelon_64 : decode cX11_byFelon 64 = .ok (.iadd, 1) := by decide +kernel
theorem dX11_byFelon_65 : decode cX11_byFelon 65 = .ok (.iaload, 1) := by decide +kernel
theorem dX11_byFelon_66 : decode cX11_byFelon 66 = .ok (.iaload, 1) := by decide +kernel
theorem dX11_byFelon_67 : decode cX11_byFelon 67 = .ok (.iconst 2, 1) := by decide +kernel
theorem dX11_byFelon_68 : decode cX11_byFelon 68 = .ok (.if_icmp .ne 7, 3) := by decide +kernel
theorem dX11_byFelon_71 : decode cX11_byFelon 71 = .ok (.iconst 1, 1) := by decide +kernel
theorem dX11_byFelon_72 : decode cX11_byFelon 72 = .ok (.goto 4, 3) := by decide +kernel
theorem dX11_byFelon_75 : decode cX11_byFelon 75 = .ok (.iconst 0, 1) := by decide +kernel
theorem dX11_byFelon_76 : decode cX11_byFelon 76 = .ok (.iastore, 1) := by decide +kernel
theorem dX11_byFelon_77 : decode cX11_byFelon 77 = .ok (.aload_n 0, 1) := by decide +kernel
theorem dX11_byFelon_78 : decode cX11_byFelon 78 = .ok (.iload_n 1, 1) := by decide +kernel
theorem dX11_byFelon_79 : decode cX11_byFelon 79 = .ok (.iload_n 2, 1) := by decide +kernel
theorem dX11_byFelon_80 : decode cX11_byFelon 80 = .ok (.invokevirtual 320, 3) := by decide +kernel
theorem dX11_byFelon_83 : decode cX11_byFelon 83 = .ok (.ireturn, 1) := by decide +kernel
theorem dX11_byLaw_0 : decode cX11_byLaw 0 = .ok (.iconst 0, 1) := by decide +kernel
theorem dX11_byLaw_1 : decode cX11_byLaw 1 = .ok (.istore_n 3, 1) := by decide +kernel
theorem dX11_byLaw_2 : decode cX11_byLaw 2 = .ok (.iload_n 3, 1) := by decide +kernel
theorem dX11_byLaw_3 : decode cX11_byLaw 3 = .ok (.aload_n 0, 1) := by decide +kernel
theorem dX11_byLaw_4 : decode cX11_byLaw 4 = .ok (.getfield 306, 3) := by decide +kernel
theorem dX11_byLaw_7 : decode cX11_byLaw 7 = .ok (.if_icmp .ge 82, 3) := by decide +kernel
theorem dX11_byLaw_10 : decode cX11_byLaw 10 = .ok (.aload_n 0, 1) := by decide +kernel
theorem dX11_byLaw_11 : decode cX11_byLaw 11 = .ok (.getfield 56, 3) := by decide +kernel
theorem dX11_byLaw_14 : decode cX11_byLaw 14 = .ok (.iload_n 3, 1) := by decide +kernel
theorem dX11_byLaw_15 : decode cX11_byLaw 15 = .ok (.iaload, 1) := by decide +kernel
theorem dX11_byLaw_16 : decode cX11_byLaw 16 = .ok (.iload_n 1, 1) := by decide +kernel
theorem dX11_byLaw_17 : decode cX11_byLaw 17 = .ok (.if_icmp .ne 66, 3) := by decide +kernel
theorem dX11_byLaw_20 : decode cX11_byLaw 20 = .ok (.aload_n 0, 1) := by decide +kernel
theorem dX11_byLaw_21 : decode cX11_byLaw 21 = .ok (.aload_n 0, 1) := by decide +kernel
theorem dX11_byLaw_22 : decode cX11_byLaw 22 = .ok (.getfield 62, 3) := by decide +kernel
theorem dX11_byLaw_25 : decode cX11_byLaw 25 = .ok (.iload_n 3, 1) := by decide +kernel
theorem dX11_byLaw_26 : decode cX11_byLaw 26 = .ok (.iaload, 1) := by decide +kernel
theorem dX11_byLaw_27 : decode cX11_byLaw 27 = .ok (.aload_n 0, 1) := by decide +kernel
theorem dX11_byLaw_28 : decode cX11_byLaw 28 = .ok (.getfield 65, 3) := by decide +kernel
theorem dX11_byLaw_31 : decode cX11_byLaw 31 = .ok (.iload_n 3, 1) := by decide +kernel
theorem dX11_byLaw_32 : decode cX11_byLaw 32 = .ok (.iaload, 1) := by decide +kernel
theorem dX11_byLaw_33 : decode cX11_byLaw 33 = .ok (.invokevirtual 313, 3) := by decide +kernel
theorem dX11_byLaw_36 : decode cX11_byLaw 36 = .ok (.iconst 1, 1) := by decide +kernel
theorem dX11_byLaw_37 : decode cX11_byLaw 37 = .ok (.if_icmp .eq 6, 3) := by decide +kernel
theorem dX11_byLaw_40 : decode cX11_byLaw 40 = .ok (.goto 43, 3) := by decide +kernel
theorem dX11_byLaw_43 : decode cX11_byLaw 43 = .ok (.aload_n 0, 1) := by decide +kernel
theorem dX11_byLaw_44 : decode cX11_byLaw 44 = .ok (.aload_n 0, 1) := by decide +kernel
theorem dX11_byLaw_45 : decode cX11_byLaw 45 = .ok (.getfield 59, 3) := by decide +kernel
theorem dX11_byLaw_48 : decode cX11_byLaw 48 = .ok (.iload_n 3, 1) := by decide +kernel
theorem dX11_byLaw_49 : decode cX11_byLaw 49 = .ok (.iaload, 1) := by decide +kernel
theorem dX11_byLaw_50 : decode cX11_byLaw 50 = .ok (.aload_n 0, 1) := by decide +kernel
theorem dX11_byLaw_51 : decode cX11_byLaw 51 = .ok (.getfield 62, 3) := by decide +kernel
theorem dX11_byLaw_54 : decode cX11_byLaw 54 = .ok (.iload_n 3, 1) := by decide +kernel
theorem dX11_byLaw_55 : decode cX11_byLaw 55 = .ok (.iaload, 1) := by decide +kernel
theorem dX11_byLaw_56 : decode cX11_byLaw 56 = .ok (.invokevirtual 313, 3) := by decide +kernel
theorem dX11_byLaw_59 : decode cX11_byLaw 59 = .ok (.istore 4, 2) := by decide +kernel
theorem dX11_byLaw_61 : decode cX11_byLaw 61 = .ok (.iload 4, 2) := by decide +kernel
theorem dX11_byLaw_63 : decode cX11_byLaw 63 = .ok (.ifCond .ge 7, 3) := by decide +kernel
theorem dX11_byLaw_66 : decode cX11_byLaw 66 = .ok (.iconst 0, 1) := by decide +kernel
theorem dX11_byLaw_67 : decode cX11_byLaw 67 = .ok (.goto 15, 3) := by decide +kernel
theorem dX11_byLaw_70 : decode cX11_byLaw 70 = .ok (.iload 4, 2) := by decide +kernel
theorem dX11_byLaw_72 : decode cX11_byLaw 72 = .ok (.iload_n 2, 1) := by decide +kernel
theorem dX11_byLaw_73 : decode cX11_byLaw 73 = .ok (.if_icmp .le 7, 3) := by decide +kernel
theorem dX11_byLaw_76 : decode cX11_byLaw 76 = .ok (.iload_n 2, 1) := by decide +kernel
theorem dX11_byLaw_77 : decode cX11_byLaw 77 = .ok (.goto 5, 3) := by decide +kernel
theorem dX11_byLaw_80 : decode cX11_byLaw 80 = .ok (.iload 4, 2) := by decide +kernel
theorem dX11_byLaw_82 : decode cX11_byLaw 82 = .ok (.ireturn, 1) := by decide +kernel
theorem dX11_byLaw_83 : decode cX11_byLaw 83 = .ok (.iinc 3 1, 3) := by decide +kernel
theorem dX11_byLaw_86 : decode cX11_byLaw 86 = .ok (.goto (-84), 3) := by decide +kernel
theorem dX11_byLaw_89 : decode cX11_byLaw 89 = .ok (.iconst 0, 1) := by decide +kernel
theorem dX11_byLaw_90 : decode cX11_byLaw 90 = .ok (.ireturn, 1) := by decide +kernel
theorem dX11_comesTo_0 : decode cX11_comesTo 0 = .ok (.iconst 0, 1) := by decide +kernel
theorem dX11_comesTo_1 : decode cX11_comesTo 1 = .ok (.istore_n 3, 1) := by decide +kernel
theorem dX11_comesTo_2 : decode cX11_comesTo 2 = .ok (.sipush 260, 3) := by decide +kernel
theorem dX11_comesTo_5 : decode cX11_comesTo 5 = .ok (.iload_n 1, 1) := by decide +kernel
theorem dX11_comesTo_6 : decode cX11_comesTo 6 = .ok (.sipush 260, 3) := by decide +kernel
theorem dX11_comesTo_9 : decode cX11_comesTo 9 = .ok (.idiv, 1) := by decide +kernel
theorem dX11_comesTo_10 : decode cX11_comesTo 10 = .ok (.imul, 1) := by decide +kernel
theorem dX11_comesTo_11 : decode cX11_comesTo 11 = .ok (.istore 4, 2) := by decide +kernel
theorem dX11_comesTo_13 : decode cX11_comesTo 13 = .ok (.iload_n 1, 1) := by decide +kernel
theorem dX11_comesTo_14 : decode cX11_comesTo 14 = .ok (.istore 5, 2) := by decide +kernel
theorem dX11_comesTo_16 : decode cX11_comesTo 16 = .ok (.iload 5, 2) := by decide +kernel
theorem dX11_comesTo_18 : decode cX11_comesTo 18 = .ok (.iload_n 2, 1) := by decide +kernel
theorem dX11_comesTo_19 : decode cX11_comesTo 19 = .ok (.if_icmp .ge 214, 3) := by decide +kernel
theorem dX11_comesTo_22 : decode cX11_comesTo 22 = .ok (.aload_n 0, 1) := by decide +kernel
theorem dX11_comesTo_23 : decode cX11_comesTo 23 = .ok (.getfield 53, 3) := by decide +kernel
theorem dX11_comesTo_26 : decode cX11_comesTo 26 = .ok (.iload 5, 2) := by decide +kernel
theorem dX11_comesTo_28 : decode cX11_comesTo 28 = .ok (.iaload, 1) := by decide +kernel
theorem dX11_comesTo_29 : decode cX11_comesTo 29 = .ok (.ldc 197, 2) := by decide +kernel
theorem dX11_comesTo_31 : decode cX11_comesTo 31 = .ok (.idiv, 1) := by decide +kernel
theorem dX11_comesTo_32 : decode cX11_comesTo 32 = .ok (.istore 6, 2) := by decide +kernel
theorem dX11_comesTo_34 : decode cX11_comesTo 34 = .ok (.aload_n 0, 1) := by decide +kernel
theorem dX11_comesTo_35 : decode cX11_comesTo 35 = .ok (.getfield 53, 3) := by decide +kernel
theorem dX11_comesTo_38 : decode cX11_comesTo 38 = .ok (.iload 5, 2) := by decide +kernel
theorem dX11_comesTo_40 : decode cX11_comesTo 40 = .ok (.iaload, 1) := by decide +kernel
theorem dX11_comesTo_41 : decode cX11_comesTo 41 = .ok (.ldc 197, 2) := by decide +kernel
theorem dX11_comesTo_43 : decode cX11_comesTo 43 = .ok (.irem, 1) := by decide +kernel
theorem dX11_comesTo_44 : decode cX11_comesTo 44 = .ok (.istore 7, 2) := by decide +kernel
theorem dX11_comesTo_46 : decode cX11_comesTo 46 = .ok (.iload 5, 2) := by decide +kernel
theorem dX11_comesTo_48 : decode cX11_comesTo 48 = .ok (.iconst 1, 1) := by decide +kernel
theorem dX11_comesTo_49 : decode cX11_comesTo 49 = .ok (.iadd, 1) := by decide +kernel
theorem dX11_comesTo_50 : decode cX11_comesTo 50 = .ok (.istore 5, 2) := by decide +kernel
theorem dX11_comesTo_52 : decode cX11_comesTo 52 = .ok (.iload 6, 2) := by decide +kernel
theorem dX11_comesTo_54 : decode cX11_comesTo 54 = .ok (.ifCond .eq 9, 3) := by decide +kernel
theorem dX11_comesTo_57 : decode cX11_comesTo 57 = .ok (.iload 6, 2) := by decide +kernel
theorem dX11_comesTo_59 : decode cX11_comesTo 59 = .ok (.iconst 1, 1) := by decide +kernel
theorem dX11_comesTo_60 : decode cX11_comesTo 60 = .ok (.if_icmp .ne 33, 3) := by decide +kernel
theorem dX11_comesTo_63 : decode cX11_comesTo 63 = .ok (.aload_n 0, 1) := by decide +kernel
theorem dX11_comesTo_64 : decode cX11_comesTo 64 = .ok (.getfield 83, 3) := by decide +kernel
theorem dX11_comesTo_67 : decode cX11_comesTo 67 = .ok (.iload_n 3, 1) := by decide +kernel
theorem dX11_comesTo_68 : decode cX11_comesTo 68 = .ok (.iload 6, 2) := by decide +kernel
theorem dX11_comesTo_70 : decode cX11_comesTo 70 = .ok (.ifCond .ne 8, 3) := by decide +kernel
theorem dX11_comesTo_73 : decode cX11_comesTo 73 = .ok (.iload 7, 2) := by decide +kernel
theorem dX11_comesTo_75 : decode cX11_comesTo 75 = .ok (.goto 10, 3) := by decide +kernel
theorem dX11_comesTo_78 : decode cX11_comesTo 78 = .ok (.aload_n 0, 1) := by decide +kernel
theorem dX11_comesTo_79 : decode cX11_comesTo 79 = .ok (.getfield 86, 3) := by decide +kernel
theorem dX11_comesTo_82 : decode cX11_comesTo 82 = .ok (.iload 7, 2) := by decide +kernel
theorem dX11_comesTo_84 : decode cX11_comesTo 84 = .ok (.iaload, 1) := by decide +kernel
theorem dX11_comesTo_85 : decode cX11_comesTo 85 = .ok (.iastore, 1) := by decide +kernel
theorem dX11_comesTo_86 : decode cX11_comesTo 86 = .ok (.iload_n 3, 1) := by decide +kernel
theorem dX11_comesTo_87 : decode cX11_comesTo 87 = .ok (.iconst 1, 1) := by decide +kernel
theorem dX11_comesTo_88 : decode cX11_comesTo 88 = .ok (.iadd, 1) := by decide +kernel
theorem dX11_comesTo_89 : decode cX11_comesTo 89 = .ok (.istore_n 3, 1) := by decide +kernel
theorem dX11_comesTo_90 : decode cX11_comesTo 90 = .ok (.goto 140, 3) := by decide +kernel
theorem dX11_comesTo_93 : decode cX11_comesTo 93 = .ok (.iload 6, 2) := by decide +kernel
theorem dX11_comesTo_95 : decode cX11_comesTo 95 = .ok (.bipush 10, 2) := by decide +kernel
theorem dX11_comesTo_97 : decode cX11_comesTo 97 = .ok (.if_icmp .ne 24, 3) := by decide +kernel
theorem dX11_comesTo_100 : decode cX11_comesTo 100 = .ok (.aload_n 0, 1) := by decide +kernel
theorem dX11_comesTo_101 : decode cX11_comesTo 101 = .ok (.getfield 83, 3) := by decide +kernel
theorem dX11_comesTo_104 : decode cX11_comesTo 104 = .ok (.iload_n 3, 1) := by decide +kernel
theorem dX11_comesTo_105 : decode cX11_comesTo 105 = .ok (.iconst 1, 1) := by decide +kernel
theorem dX11_comesTo_106 : decode cX11_comesTo 106 = .ok (.isub, 1) := by decide +kernel
theorem dX11_comesTo_107 : decode cX11_comesTo 107 = .ok (.iconst 1, 1) := by decide +kernel
theorem dX11_comesTo_108 : decode cX11_comesTo 108 = .ok (.aload_n 0, 1) := by decide +kernel
theorem dX11_comesTo_109 : decode cX11_comesTo 109 = .ok (.getfield 83, 3) := by decide +kernel
theorem dX11_comesTo_112 : decode cX11_comesTo 112 = .ok (.iload_n 3, 1) := by decide +kernel
theorem dX11_comesTo_113 : decode cX11_comesTo 113 = .ok (.iconst 1, 1) := by decide +kernel
theorem dX11_comesTo_114 : decode cX11_comesTo 114 = .ok (.isub, 1) := by decide +kernel
theorem dX11_comesTo_115 : decode cX11_comesTo 115 = .ok (.iaload, 1) := by decide +kernel
theorem dX11_comesTo_116 : decode cX11_comesTo 116 = .ok (.isub, 1) := by decide +kernel
theorem dX11_comesTo_117 : decode cX11_comesTo 117 = .ok (.iastore, 1) := by decide +kernel
theorem dX11_comesTo_118 : decode cX11_comesTo 118 = .ok (.goto 112, 3) := by decide +kernel
theorem dX11_comesTo_121 : decode cX11_comesTo 121 = .ok (.iload 6, 2) := by decide +kernel
theorem dX11_comesTo_123 : decode cX11_comesTo 123 = .ok (.bipush 11, 2) := by decide +kernel
theorem dX11_comesTo_125 : decode cX11_comesTo 125 = .ok (.if_icmp .eq 10, 3) := by decide +kernel
theorem dX11_comesTo_128 : decode cX11_comesTo 128 = .ok (.iload 6, 2) := by decide +kernel
theorem dX11_comesTo_130 : decode cX11_comesTo 130 = .ok (.bipush 12, 2) := by decide +kernel
theorem dX11_comesTo_132 : decode cX11_comesTo 132 = .ok (.if_icmp .ne 43, 3) := by decide +kernel
theorem dX11_comesTo_135 : decode cX11_comesTo 135 = .ok (.aload_n 0, 1) := by decide +kernel
theorem dX11_comesTo_136 : decode cX11_comesTo 136 = .ok (.getfield 83, 3) := by decide +kernel
theorem dX11_comesTo_139 : decode cX11_comesTo 139 = .ok (.iload_n 3, 1) := by decide +kernel
theorem dX11_comesTo_140 : decode cX11_comesTo 140 = .ok (.iconst 1, 1) := by decide +kernel
theorem dX11_comesTo_141 : decode cX11_comesTo 141 = .ok (.isub, 1) := by decide +kernel
theorem dX11_comesTo_142 : decode cX11_comesTo 142 = .ok (.iaload, 1) := by decide +kernel
theorem dX11_comesTo_143 : decode cX11_comesTo 143 = .ok (.iload 6, 2) := by decide +kernel
theorem dX11_comesTo_145 : decode cX11_comesTo 145 = .ok (.bipush 12, 2) := by decide +kernel
theorem dX11_comesTo_147 : decode cX11_comesTo 147 = .ok (.if_icmp .ne 7, 3) := by decide +kernel
theorem dX11_comesTo_150 : decode cX11_comesTo 150 = .ok (.iconst 1, 1) := by decide +kernel
theorem dX11_comesTo_151 : decode cX11_comesTo 151 = .ok (.goto 4, 3) := by decide +kernel
theorem dX11_comesTo_154 : decode cX11_comesTo 154 = .ok (.iconst 0, 1) := by decide +kernel
theorem dX11_comesTo_155 : decode cX11_comesTo 155 = .ok (.if_icmp .ne 13, 3) := by decide +kernel
theorem dX11_comesTo_158 : decode cX11_comesTo 158 = .ok (.iload 4, 2) := by decide +kernel
theorem dX11_comesTo_160 : decode cX11_comesTo 160 = .ok (.iload 7, 2) := by decide +kernel
theorem dX11_comesTo_162 : decode cX11_comesTo 162 = .ok (.iadd, 1) := by decide +kernel
theorem dX11_comesTo_163 : decode cX11_comesTo 163 = .ok (.istore 5, 2) := by decide +kernel
theorem dX11_comesTo_165 : decode cX11_comesTo 165 = .ok (.goto 65, 3) := by decide +kernel
theorem dX11_comesTo_168 : decode cX11_comesTo 168 = .ok (.iload_n 3, 1) := by decide +kernel
theorem dX11_comesTo_169 : decode cX11_comesTo 169 = .ok (.iconst 1, 1) := by decide +kernel
theorem dX11_comesTo_170 : decode cX11_comesTo 170 = .ok (.isub, 1) := by decide +kernel
theorem dX11_comesTo_171 : decode cX11_comesTo 171 = .ok (.istore_n 3, 1) := by decide +kernel
theorem dX11_comesTo_172 : decode cX11_comesTo 172 = .ok (.goto 58, 3) := by decide +kernel
theorem dX11_comesTo_175 : decode cX11_comesTo 175 = .ok (.iload_n 3, 1) := by decide +kernel
theorem dX11_comesTo_176 : decode cX11_comesTo 176 = .ok (.iconst 1, 1) := by decide +kernel
theorem dX11_comesTo_177 : decode cX11_comesTo 177 = .ok (.isub, 1) := by decide +kernel
theorem dX11_comesTo_178 : decode cX11_comesTo 178 = .ok (.istore_n 3, 1) := by decide +kernel
theorem dX11_comesTo_179 : decode cX11_comesTo 179 = .ok (.iload 6, 2) := by decide +kernel
theorem dX11_comesTo_181 : decode cX11_comesTo 181 = .ok (.iconst 5, 1) := by decide +kernel
theorem dX11_comesTo_182 : decode cX11_comesTo 182 = .ok (.if_icmp .eq 10, 3) := by decide +kernel
theorem dX11_comesTo_185 : decode cX11_comesTo 185 = .ok (.iload 6, 2) := by decide +kernel
theorem dX11_comesTo_187 : decode cX11_comesTo 187 = .ok (.bipush 6, 2) := by decide +kernel
theorem dX11_comesTo_189 : decode cX11_comesTo 189 = .ok (.if_icmp .ne 14, 3) := by decide +kernel
theorem dX11_comesTo_192 : decode cX11_comesTo 192 = .ok (.aload_n 0, 1) := by decide +kernel
theorem dX11_comesTo_193 : decode cX11_comesTo 193 = .ok (.getfield 83, 3) := by decide +kernel
theorem dX11_comesTo_196 : decode cX11_comesTo 196 = .ok (.iload_n 3, 1) := by decide +kernel
theorem dX11_comesTo_197 : decode cX11_comesTo 197 = .ok (.iaload, 1) := by decide +kernel
theorem dX11_comesTo_198 : decode cX11_comesTo 198 = .ok (.ifCond .ne 5, 3) := by decide +kernel
theorem dX11_comesTo_201 : decode cX11_comesTo 201 = .ok (.iconst 0, 1) := by decide +kernel
theorem dX11_comesTo_202 : decode cX11_comesTo 202 = .ok (.ireturn, 1) := by decide +kernel
theorem dX11_comesTo_203 : decode cX11_comesTo 203 = .ok (.aload_n 0, 1) := by decide +kernel
theorem dX11_comesTo_204 : decode cX11_comesTo 204 = .ok (.getfield 83, 3) := by decide +kernel
theorem dX11_comesTo_207 : decode cX11_comesTo 207 = .ok (.iload_n 3, 1) := by decide +kernel
theorem dX11_comesTo_208 : decode cX11_comesTo 208 = .ok (.iconst 1, 1) := by decide +kernel
theorem dX11_comesTo_209 : decode cX11_comesTo 209 = .ok (.isub, 1) := by decide +kernel
theorem dX11_comesTo_210 : decode cX11_comesTo 210 = .ok (.iload 6, 2) := by decide +kernel
theorem dX11_comesTo_212 : decode cX11_comesTo 212 = .ok (.aload_n 0, 1) := by decide +kernel
theorem dX11_comesTo_213 : decode cX11_comesTo 213 = .ok (.getfield 83, 3) := by decide +kernel
theorem dX11_comesTo_216 : decode cX11_comesTo 216 = .ok (.iload_n 3, 1) := by decide +kernel
theorem dX11_comesTo_217 : decode cX11_comesTo 217 = .ok (.iconst 1, 1) := by decide +kernel
theorem dX11_comesTo_218 : decode cX11_comesTo 218 = .ok (.isub, 1) := by decide +kernel
theorem dX11_comesTo_219 : decode cX11_comesTo 219 = .ok (.iaload, 1) := by decide +kernel
theorem dX11_comesTo_220 : decode cX11_comesTo 220 = .ok (.aload_n 0, 1) := by decide +kernel
theorem dX11_comesTo_221 : decode cX11_comesTo 221 = .ok (.getfield 83, 3) := by decide +kernel
theorem dX11_comesTo_224 : decode cX11_comesTo 224 = .ok (.iload_n 3, 1) := by decide +kernel
theorem dX11_comesTo_225 : decode cX11_comesTo 225 = .ok (.iaload, 1) := by decide +kernel
theorem dX11_comesTo_226 : decode cX11_comesTo 226 = .ok (.invokestatic 309, 3) := by decide +kernel
theorem dX11_comesTo_229 : decode cX11_comesTo 229 = .ok (.iastore, 1) := by decide +kernel
theorem dX11_comesTo_230 : decode cX11_comesTo 230 = .ok (.goto (-214), 3) := by decide +kernel
theorem dX11_comesTo_233 : decode cX11_comesTo 233 = .ok (.aload_n 0, 1) := by decide +kernel
theorem dX11_comesTo_234 : decode cX11_comesTo 234 = .ok (.getfield 83, 3) := by decide +kernel
theorem dX11_comesTo_237 : decode cX11_comesTo 237 = .ok (.iconst 0, 1) := by decide +kernel
theorem dX11_comesTo_238 : decode cX11_comesTo 238 = .ok (.iaload, 1) := by decide +kernel
theorem dX11_comesTo_239 : decode cX11_comesTo 239 = .ok (.ireturn, 1) := by decide +kernel
theorem dX11_fallsOf_0 : decode cX11_fallsOf 0 = .ok (.aload_n 0, 1) := by decide +kernel
theorem dX11_fallsOf_1 : decode cX11_fallsOf 1 = .ok (.iload_n 2, 1) := by decide +kernel
theorem dX11_fallsOf_2 : decode cX11_fallsOf 2 = .ok (.invokevirtual 317, 3) := by decide +kernel
theorem dX11_fallsOf_5 : decode cX11_fallsOf 5 = .ok (.aload_n 0, 1) := by decide +kernel
theorem dX11_fallsOf_6 : decode cX11_fallsOf 6 = .ok (.getfield 86, 3) := by decide +kernel
theorem dX11_fallsOf_9 : decode cX11_fallsOf 9 = .ok (.iconst 2, 1) := by decide +kernel
theorem dX11_fallsOf_10 : decode cX11_fallsOf 10 = .ok (.iload_n 1, 1) := by decide +kernel
theorem dX11_fallsOf_11 : decode cX11_fallsOf 11 = .ok (.iastore, 1) := by decide +kernel
theorem dX11_fallsOf_12 : decode cX11_fallsOf 12 = .ok (.aload_n 0, 1) := by decide +kernel
theorem dX11_fallsOf_13 : decode cX11_fallsOf 13 = .ok (.bipush 97, 2) := by decide +kernel
theorem dX11_fallsOf_15 : decode cX11_fallsOf 15 = .ok (.bipush 7, 2) := by decide +kernel
theorem dX11_fallsOf_17 : decode cX11_fallsOf 17 = .ok (.invokevirtual 320, 3) := by decide +kernel
theorem dX11_fallsOf_20 : decode cX11_fallsOf 20 = .ok (.istore_n 3, 1) := by decide +kernel
theorem dX11_fallsOf_21 : decode cX11_fallsOf 21 = .ok (.aload_n 0, 1) := by decide +kernel
theorem dX11_fallsOf_22 : decode cX11_fallsOf 22 = .ok (.aload_n 0, 1) := by decide +kernel
theorem dX11_fallsOf_23 : decode cX11_fallsOf 23 = .ok (.getfield 7, 3) := by decide +kernel
theorem dX11_fallsOf_26 : decode cX11_fallsOf 26 = .ok (.iconst 0, 1) := by decide +kernel
theorem dX11_fallsOf_27 : decode cX11_fallsOf 27 = .ok (.iload_n 1, 1) := by decide +kernel
theorem dX11_fallsOf_28 : decode cX11_fallsOf 28 = .ok (.iadd, 1) := by decide +kernel
theorem dX11_fallsOf_29 : decode cX11_fallsOf 29 = .ok (.iaload, 1) := by decide +kernel
theorem dX11_fallsOf_30 : decode cX11_fallsOf 30 = .ok (.iload_n 3, 1) := by decide +kernel
theorem dX11_fallsOf_31 : decode cX11_fallsOf 31 = .ok (.aload_n 0, 1) := by decide +kernel
theorem dX11_fallsOf_32 : decode cX11_fallsOf 32 = .ok (.bipush 108, 2) := by decide +kernel
theorem dX11_fallsOf_34 : decode cX11_fallsOf 34 = .ok (.bipush 9, 2) := by decide +kernel
theorem dX11_fallsOf_36 : decode cX11_fallsOf 36 = .ok (.invokevirtual 320, 3) := by decide +kernel
theorem dX11_fallsOf_39 : decode cX11_fallsOf 39 = .ok (.invokevirtual 326, 3) := by decide +kernel
theorem dX11_fallsOf_42 : decode cX11_fallsOf 42 = .ok (.return_, 1) := by decide +kernel
theorem dX11_findsFor_0 : decode cX11_findsFor 0 = .ok (.aload_n 0, 1) := by decide +kernel
theorem dX11_findsFor_1 : decode cX11_findsFor 1 = .ok (.aload_n 0, 1) := by decide +kernel
theorem dX11_findsFor_2 : decode cX11_findsFor 2 = .ok (.getfield 7, 3) := by decide +kernel
theorem dX11_findsFor_5 : decode cX11_findsFor 5 = .ok (.iconst 4, 1) := by decide +kernel
theorem dX11_findsFor_6 : decode cX11_findsFor 6 = .ok (.iload_n 1, 1) := by decide +kernel
theorem dX11_findsFor_7 : decode cX11_findsFor 7 = .ok (.iadd, 1) := by decide +kernel
theorem dX11_findsFor_8 : decode cX11_findsFor 8 = .ok (.iaload, 1) := by decide +kernel
theorem dX11_findsFor_9 : decode cX11_findsFor 9 = .ok (.aload_n 0, 1) := by decide +kernel
theorem dX11_findsFor_10 : decode cX11_findsFor 10 = .ok (.bipush 118, 2) := by decide +kernel
theorem dX11_findsFor_12 : decode cX11_findsFor 12 = .ok (.iconst 3, 1) := by decide +kernel
theorem dX11_findsFor_13 : decode cX11_findsFor 13 = .ok (.iload_n 1, 1) := by decide +kernel
theorem dX11_findsFor_14 : decode cX11_findsFor 14 = .ok (.invokevirtual 352, 3) := by decide +kernel
theorem dX11_findsFor_17 : decode cX11_findsFor 17 = .ok (.iconst 0, 1) := by decide +kernel
theorem dX11_findsFor_18 : decode cX11_findsFor 18 = .ok (.invokevirtual 355, 3) := by decide +kernel
theorem dX11_findsFor_21 : decode cX11_findsFor 21 = .ok (.iconst (-1), 1) := by decide +kernel
theorem dX11_findsFor_22 : decode cX11_findsFor 22 = .ok (.istore_n 2, 1) := by decide +kernel
theorem dX11_findsFor_23 : decode cX11_findsFor 23 = .ok (.iconst 0, 1) := by decide +kernel
theorem dX11_findsFor_24 : decode cX11_findsFor 24 = .ok (.istore_n 3, 1) := by decide +kernel
theorem dX11_findsFor_25 : decode cX11_findsFor 25 = .ok (.iload_n 3, 1) := by decide +kernel
theorem dX11_findsFor_26 : decode cX11_findsFor 26 = .ok (.bipush 100, 2) := by decide +kernel
theorem dX11_findsFor_28 : decode cX11_findsFor 28 = .ok (.if_icmp .ge 61, 3) := by decide +kernel
theorem dX11_findsFor_31 : decode cX11_findsFor 31 = .ok (.aload_n 0, 1) := by decide +kernel
theorem dX11_findsFor_32 : decode cX11_findsFor 32 = .ok (.getfield 89, 3) := by decide +kernel
theorem dX11_findsFor_35 : decode cX11_findsFor 35 = .ok (.iload_n 3, 1) := by decide +kernel
theorem dX11_findsFor_36 : decode cX11_findsFor 36 = .ok (.iaload, 1) := by decide +kernel
theorem dX11_findsFor_37 : decode cX11_findsFor 37 = .ok (.ifCond .le 46, 3) := by decide +kernel
theorem dX11_findsFor_40 : decode cX11_findsFor 40 = .ok (.aload_n 0, 1) := by decide +kernel
theorem dX11_findsFor_41 : decode cX11_findsFor 41 = .ok (.getfield 101, 3) := by decide +kernel
theorem dX11_findsFor_44 : decode cX11_findsFor 44 = .ok (.iload_n 3, 1) := by decide +kernel
theorem dX11_findsFor_45 : decode cX11_findsFor 45 = .ok (.baload, 1) := by decide +kernel
theorem dX11_findsFor_46 : decode cX11_findsFor 46 = .ok (.ifCond .ne 37, 3) := by decide +kernel
theorem dX11_findsFor_49 : decode cX11_findsFor 49 = .ok (.aload_n 0, 1) := by decide +kernel
theorem dX11_findsFor_50 : decode cX11_findsFor 50 = .ok (.getfield 92, 3) := by decide +kernel
theorem dX11_findsFor_53 : decode cX11_findsFor 53 = .ok (.iload_n 3, 1) := by decide +kernel
theorem dX11_findsFor_54 : decode cX11_findsFor 54 = .ok (.iaload, 1) := by decide +kernel
theorem dX11_findsFor_55 : decode cX11_findsFor 55 = .ok (.ldc_w 348, 3) := by decide +kernel
theorem dX11_findsFor_58 : decode cX11_findsFor 58 = .ok (.if_icmp .ge 25, 3) := by decide +kernel
theorem dX11_findsFor_61 : decode cX11_findsFor 61 = .ok (.iload_n 2, 1) := by decide +kernel
theorem dX11_findsFor_62 : decode cX11_findsFor 62 = .ok (.iconst (-1), 1) := by decide +kernel
theorem dX11_findsFor_63 : decode cX11_findsFor 63 = .ok (.if_icmp .eq 18, 3) := by decide +kernel
theorem dX11_findsFor_66 : decode cX11_findsFor 66 = .ok (.aload_n 0, 1) := by decide +kernel
theorem dX11_findsFor_67 : decode cX11_findsFor 67 = .ok (.getfield 92, 3) := by decide +kernel
theorem dX11_findsFor_70 : decode cX11_findsFor 70 = .ok (.iload_n 3, 1) := by decide +kernel
theorem dX11_findsFor_71 : decode cX11_findsFor 71 = .ok (.iaload, 1) := by decide +kernel
theorem dX11_findsFor_72 : decode cX11_findsFor 72 = .ok (.aload_n 0, 1) := by decide +kernel
theorem dX11_findsFor_73 : decode cX11_findsFor 73 = .ok (.getfield 92, 3) := by decide +kernel
theorem dX11_findsFor_76 : decode cX11_findsFor 76 = .ok (.iload_n 2, 1) := by decide +kernel
theorem dX11_findsFor_77 : decode cX11_findsFor 77 = .ok (.iaload, 1) := by decide +kernel
theorem dX11_findsFor_78 : decode cX11_findsFor 78 = .ok (.if_icmp .ge 5, 3) := by decide +kernel
theorem dX11_findsFor_81 : decode cX11_findsFor 81 = .ok (.iload_n 3, 1) := by decide +kernel
theorem dX11_findsFor_82 : decode cX11_findsFor 82 = .ok (.istore_n 2, 1) := by decide +kernel
theorem dX11_findsFor_83 : decode cX11_findsFor 83 = .ok (.iinc 3 1, 3) := by decide +kernel
theorem dX11_findsFor_86 : decode cX11_findsFor 86 = .ok (.goto (-61), 3) := by decide +kernel
theorem dX11_findsFor_89 : decode cX11_findsFor 89 = .ok (.iload_n 2, 1) := by decide +kernel
theorem dX11_findsFor_90 : decode cX11_findsFor 90 = .ok (.ireturn, 1) := by decide +kernel
theorem dX11_isNight_0 : decode cX11_isNight 0 = .ok (.aload_n 0, 1) := by decide +kernel
theorem dX11_isNight_1 : decode cX11_isNight 1 = .ok (.iload_n 1, 1) := by decide +kernel
theorem dX11_isNight_2 : decode cX11_isNight 2 = .ok (.invokevirtual 317, 3) := by decide +kernel
theorem dX11_isNight_5 : decode cX11_isNight 5 = .ok (.iconst 0, 1) := by decide +kernel
theorem dX11_isNight_6 : decode cX11_isNight 6 = .ok (.istore_n 2, 1) := by decide +kernel
theorem dX11_isNight_7 : decode cX11_isNight 7 = .ok (.iload_n 2, 1) := by decide +kernel
theorem dX11_isNight_8 : decode cX11_isNight 8 = .ok (.aload_n 0, 1) := by decide +kernel
theorem dX11_isNight_9 : decode cX11_isNight 9 = .ok (.getfield 306, 3) := by decide +kernel
theorem dX11_isNight_12 : decode cX11_isNight 12 = .ok (.if_icmp .ge 42, 3) := by decide +kernel
theorem dX11_isNight_15 : decode cX11_isNight 15 = .ok (.aload_n 0, 1) := by decide +kernel
theorem dX11_isNight_16 : decode cX11_isNight 16 = .ok (.getfield 56, 3) := by decide +kernel
theorem dX11_isNight_19 : decode cX11_isNight 19 = .ok (.iload_n 2, 1) := by decide +kernel
theorem dX11_isNight_20 : decode cX11_isNight 20 = .ok (.iaload, 1) := by decide +kernel
theorem dX11_isNight_21 : decode cX11_isNight 21 = .ok (.bipush 110, 2) := by decide +kernel
theorem dX11_isNight_23 : decode cX11_isNight 23 = .ok (.if_icmp .ne 25, 3) := by decide +kernel
theorem dX11_isNight_26 : decode cX11_isNight 26 = .ok (.aload_n 0, 1) := by decide +kernel
theorem dX11_isNight_27 : decode cX11_isNight 27 = .ok (.aload_n 0, 1) := by decide +kernel
theorem dX11_isNight_28 : decode cX11_isNight 28 = .ok (.getfield 62, 3) := by decide +kernel
theorem dX11_isNight_31 : decode cX11_isNight 31 = .ok (.iload_n 2, 1) := by decide +kernel
theorem dX11_isNight_32 : decode cX11_isNight 32 = .ok (.iaload, 1) := by decide +kernel
theorem dX11_isNight_33 : decode cX11_isNight 33 = .ok (.aload_n 0, 1) := by decide +kernel
theorem dX11_isNight_34 : decode cX11_isNight 34 = .ok (.getfield 65, 3) := by decide +kernel
theorem dX11_isNight_37 : decode cX11_isNight 37 = .ok (.iload_n 2, 1) := by decide +kernel
theorem dX11_isNight_38 : decode cX11_isNight 38 = .ok (.iaload, 1) := by decide +kernel
theorem dX11_isNight_39 : decode cX11_isNight 39 = .ok (.invokevirtual 313, 3) := by decide +kernel
theorem dX11_isNight_42 : decode cX11_isNight 42 = .ok (.iconst 1, 1) := by decide +kernel
theorem dX11_isNight_43 : decode cX11_isNight 43 = .ok (.if_icmp .ne 5, 3) := by decide +kernel
theorem dX11_isNight_46 : decode cX11_isNight 46 = .ok (.iconst 1, 1) := by decide +kernel
theorem dX11_isNight_47 : decode cX11_isNight 47 = .ok (.ireturn, 1) := by decide +kernel
theorem dX11_isNight_48 : decode cX11_isNight 48 = .ok (.iinc 2 1, 3) := by decide +kernel
theorem dX11_isNight_51 : decode cX11_isNight 51 = .ok (.goto (-44), 3) := by decide +kernel
theorem dX11_isNight_54 : decode cX11_isNight 54 = .ok (.iconst 0, 1) := by decide +kernel
theorem dX11_isNight_55 : decode cX11_isNight 55 = .ok (.ireturn, 1) := by decide +kernel
theorem dX11_laysOrder_0 : decode cX11_laysOrder 0 = .ok (.iconst 0, 1) := by decide +kernel
theorem dX11_laysOrder_1 : decode cX11_laysOrder 1 = .ok (.istore_n 1, 1) := by decide +kernel
theorem dX11_laysOrder_2 : decode cX11_laysOrder 2 = .ok (.iconst 0, 1) := by decide +kernel
theorem dX11_laysOrder_3 : decode cX11_laysOrder 3 = .ok (.istore_n 2, 1) := by decide +kernel
theorem dX11_laysOrder_4 : decode cX11_laysOrder 4 = .ok (.iload_n 2, 1) := by decide +kernel
theorem dX11_laysOrder_5 : decode cX11_laysOrder 5 = .ok (.bipush 10, 2) := by decide +kernel
theorem dX11_laysOrder_7 : decode cX11_laysOrder 7 = .ok (.if_icmp .ge 110, 3) := by decide +kernel
theorem dX11_laysOrder_10 : decode cX11_laysOrder 10 = .ok (.aload_n 0, 1) := by decide +kernel
theorem dX11_laysOrder_11 : decode cX11_laysOrder 11 = .ok (.iload_n 2, 1) := by decide +kernel
theorem dX11_laysOrder_12 : decode cX11_laysOrder 12 = .ok (.invokevirtual 349, 3) := by decide +kernel
theorem dX11_laysOrder_15 : decode cX11_laysOrder 15 = .ok (.ifCond .ne 6, 3) := by decide +kernel
theorem dX11_laysOrder_18 : decode cX11_laysOrder 18 = .ok (.goto 93, 3) := by decide +kernel
theorem dX11_laysOrder_21 : decode cX11_laysOrder 21 = .ok (.aload_n 0, 1) := by decide +kernel
theorem dX11_laysOrder_22 : decode cX11_laysOrder 22 = .ok (.getfield 98, 3) := by decide +kernel
theorem dX11_laysOrder_25 : decode cX11_laysOrder 25 = .ok (.iload_n 2, 1) := by decide +kernel
theorem dX11_laysOrder_26 : decode cX11_laysOrder 26 = .ok (.iload_n 2, 1) := by decide +kernel
theorem dX11_laysOrder_27 : decode cX11_laysOrder 27 = .ok (.aload_n 0, 1) := by decide +kernel
theorem dX11_laysOrder_28 : decode cX11_laysOrder 28 = .ok (.getfield 135, 3) := by decide +kernel
theorem dX11_laysOrder_31 : decode cX11_laysOrder 31 = .ok (.if_icmp .ne 9, 3) := by decide +kernel
theorem dX11_laysOrder_34 : decode cX11_laysOrder 34 = .ok (.ldc_w 348, 3) := by decide +kernel
theorem dX11_laysOrder_37 : decode cX11_laysOrder 37 = .ok (.goto 13, 3) := by decide +kernel
theorem dX11_laysOrder_40 : decode cX11_laysOrder 40 = .ok (.aload_n 0, 1) := by decide +kernel
theorem dX11_laysOrder_41 : decode cX11_laysOrder 41 = .ok (.bipush 111, 2) := by decide +kernel
theorem dX11_laysOrder_43 : decode cX11_laysOrder 43 = .ok (.sipush 999, 3) := by decide +kernel
theorem dX11_laysOrder_46 : decode cX11_laysOrder 46 = .ok (.iload_n 2, 1) := by decide +kernel
theorem dX11_laysOrder_47 : decode cX11_laysOrder 47 = .ok (.invokevirtual 352, 3) := by decide +kernel
theorem dX11_laysOrder_50 : decode cX11_laysOrder 50 = .ok (.iastore, 1) := by decide +kernel
theorem dX11_laysOrder_51 : decode cX11_laysOrder 51 = .ok (.iload_n 1, 1) := by decide +kernel
theorem dX11_laysOrder_52 : decode cX11_laysOrder 52 = .ok (.istore_n 3, 1) := by decide +kernel
theorem dX11_laysOrder_53 : decode cX11_laysOrder 53 = .ok (.iload_n 3, 1) := by decide +kernel
theorem dX11_laysOrder_54 : decode cX11_laysOrder 54 = .ok (.ifCond .le 46, 3) := by decide +kernel
theorem dX11_laysOrder_57 : decode cX11_laysOrder 57 = .ok (.aload_n 0, 1) := by decide +kernel
theorem dX11_laysOrder_58 : decode cX11_laysOrder 58 = .ok (.getfield 98, 3) := by decide +kernel
theorem dX11_laysOrder_61 : decode cX11_laysOrder 61 = .ok (.aload_n 0, 1) := by decide +kernel
theorem dX11_laysOrder_62 : decode cX11_laysOrder 62 = .ok (.getfield 95, 3) := by decide +kernel
theorem dX11_laysOrder_65 : decode cX11_laysOrder 65 = .ok (.iload_n 3, 1) := by decide +kernel
theorem dX11_laysOrder_66 : decode cX11_laysOrder 66 = .ok (.iconst 1, 1) := by decide +kernel
theorem dX11_laysOrder_67 : decode cX11_laysOrder 67 = .ok (.isub, 1) := by decide +kernel
theorem dX11_laysOrder_68 : decode cX11_laysOrder 68 = .ok (.iaload, 1) := by decide +kernel
theorem dX11_laysOrder_69 : decode cX11_laysOrder 69 = .ok (.iaload, 1) := by decide +kernel
theorem dX11_laysOrder_70 : decode cX11_laysOrder 70 = .ok (.aload_n 0, 1) := by decide +kernel
theorem dX11_laysOrder_71 : decode cX11_laysOrder 71 = .ok (.getfield 98, 3) := by decide +kernel
theorem dX11_laysOrder_74 : decode cX11_laysOrder 74 = .ok (.iload_n 2, 1) := by decide +kernel
theorem dX11_laysOrder_75 : decode cX11_laysOrder 75 = .ok (.iaload, 1) := by decide +kernel
theorem dX11_laysOrder_76 : decode cX11_laysOrder 76 = .ok (.if_icmp .ge 24, 3) := by decide +kernel
theorem dX11_laysOrder_79 : decode cX11_laysOrder 79 = .ok (.aload_n 0, 1) := by decide +kernel
theorem dX11_laysOrder_80 : decode cX11_laysOrder 80 = .ok (.getfield 95, 3) := by decide +kernel
theorem dX11_laysOrder_83 : decode cX11_laysOrder 83 = .ok (.iload_n 3, 1) := by decide +kernel
theorem dX11_laysOrder_84 : decode cX11_laysOrder 84 = .ok (.aload_n 0, 1) := by decide +kernel
theorem dX11_laysOrder_85 : decode cX11_laysOrder 85 = .ok (.getfield 95, 3) := by decide +kernel
theorem dX11_laysOrder_88 : decode cX11_laysOrder 88 = .ok (.iload_n 3, 1) := by decide +kernel
theorem dX11_laysOrder_89 : decode cX11_laysOrder 89 = .ok (.iconst 1, 1) := by decide +kernel
theorem dX11_laysOrder_90 : decode cX11_laysOrder 90 = .ok (.isub, 1) := by decide +kernel
theorem dX11_laysOrder_91 : decode cX11_laysOrder 91 = .ok (.iaload, 1) := by decide +kernel
theorem dX11_laysOrder_92 : decode cX11_laysOrder 92 = .ok (.iastore, 1) := by decide +kernel
theorem dX11_laysOrder_93 : decode cX11_laysOrder 93 = .ok (.iload_n 3, 1) := by decide +kernel
theorem dX11_laysOrder_94 : decode cX11_laysOrder 94 = .ok (.iconst 1, 1) := by decide +kernel
theorem dX11_laysOrder_95 : decode cX11_laysOrder 95 = .ok (.isub, 1) := by decide +kernel
theorem dX11_laysOrder_96 : decode cX11_laysOrder 96 = .ok (.istore_n 3, 1) := by decide +kernel
theorem dX11_laysOrder_97 : decode cX11_laysOrder 97 = .ok (.goto (-44), 3) := by decide +kernel
theorem dX11_laysOrder_100 : decode cX11_laysOrder 100 = .ok (.aload_n 0, 1) := by decide +kernel
theorem dX11_laysOrder_101 : decode cX11_laysOrder 101 = .ok (.getfield 95, 3) := by decide +kernel
theorem dX11_laysOrder_104 : decode cX11_laysOrder 104 = .ok (.iload_n 3, 1) := by decide +kernel
theorem dX11_laysOrder_105 : decode cX11_laysOrder 105 = .ok (.iload_n 2, 1) := by decide +kernel
theorem dX11_laysOrder_106 : decode cX11_laysOrder 106 = .ok (.iastore, 1) := by decide +kernel
theorem dX11_laysOrder_107 : decode cX11_laysOrder 107 = .ok (.iload_n 1, 1) := by decide +kernel
theorem dX11_laysOrder_108 : decode cX11_laysOrder 108 = .ok (.iconst 1, 1) := by decide +kernel
theorem dX11_laysOrder_109 : decode cX11_laysOrder 109 = .ok (.iadd, 1) := by decide +kernel
theorem dX11_laysOrder_110 : decode cX11_laysOrder 110 = .ok (.istore_n 1, 1) := by decide +kernel
theorem dX11_laysOrder_111 : decode cX11_laysOrder 111 = .ok (.iinc 2 1, 3) := by decide +kernel
theorem dX11_laysOrder_114 : decode cX11_laysOrder 114 = .ok (.goto (-110), 3) := by decide +kernel
theorem dX11_laysOrder_117 : decode cX11_laysOrder 117 = .ok (.iload_n 1, 1) := by decide +kernel
theorem dX11_laysOrder_118 : decode cX11_laysOrder 118 = .ok (.ireturn, 1) := by decide +kernel
theorem dX11_laysShades_0 : decode cX11_laysShades 0 = .ok (.aload_n 0, 1) := by decide +kernel
theorem dX11_laysShades_1 : decode cX11_laysShades 1 = .ok (.invokevirtual 333, 3) := by decide +kernel
theorem dX11_laysShades_4 : decode cX11_laysShades 4 = .ok (.iconst 0, 1) := by decide +kernel
theorem dX11_laysShades_5 : decode cX11_laysShades 5 = .ok (.istore_n 3, 1) := by decide +kernel
theorem dX11_laysShades_6 : decode cX11_laysShades 6 = .ok (.iload_n 3, 1) := by decide +kernel
theorem dX11_laysShades_7 : decode cX11_laysShades 7 = .ok (.iconst 2, 1) := by decide +kernel
theorem dX11_laysShades_8 : decode cX11_laysShades 8 = .ok (.if_icmp .ge 27, 3) := by decide +kernel
theorem dX11_laysShades_11 : decode cX11_laysShades 11 = .ok (.aload_n 0, 1) := by decide +kernel
theorem dX11_laysShades_12 : decode cX11_laysShades 12 = .ok (.iload_n 3, 1) := by decide +kernel
theorem dX11_laysShades_13 : decode cX11_laysShades 13 = .ok (.invokevirtual 260, 3) := by decide +kernel
theorem dX11_laysShades_16 : decode cX11_laysShades 16 = .ok (.ifCond .eq 13, 3) := by decide +kernel
theorem dX11_laysShades_19 : decode cX11_laysShades 19 = .ok (.iload_n 2, 1) := by decide +kernel
theorem dX11_laysShades_20 : decode cX11_laysShades 20 = .ok (.ifCond .ne 9, 3) := by decide +kernel
theorem dX11_laysShades_23 : decode cX11_laysShades 23 = .ok (.aload_n 0, 1) := by decide +kernel
theorem dX11_laysShades_24 : decode cX11_laysShades 24 = .ok (.iload_n 3, 1) := by decide +kernel
theorem dX11_laysShades_25 : decode cX11_laysShades 25 = .ok (.iload_n 1, 1) := by decide +kernel
theorem dX11_laysShades_26 : decode cX11_laysShades 26 = .ok (.invokevirtual 336, 3) := by decide +kernel
theorem dX11_laysShades_29 : decode cX11_laysShades 29 = .ok (.iinc 3 1, 3) := by decide +kernel
theorem dX11_laysShades_32 : decode cX11_laysShades 32 = .ok (.goto (-26), 3) := by decide +kernel
theorem dX11_laysShades_35 : decode cX11_laysShades 35 = .ok (.aload_n 0, 1) := by decide +kernel
theorem dX11_laysShades_36 : decode cX11_laysShades 36 = .ok (.iload_n 1, 1) := by decide +kernel
theorem dX11_laysShades_37 : decode cX11_laysShades 37 = .ok (.invokevirtual 339, 3) := by decide +kernel
theorem dX11_laysShades_40 : decode cX11_laysShades 40 = .ok (.ifCond .eq 7, 3) := by decide +kernel
theorem dX11_laysShades_43 : decode cX11_laysShades 43 = .ok (.aload_n 0, 1) := by decide +kernel
theorem dX11_laysShades_44 : decode cX11_laysShades 44 = .ok (.invokevirtual 342, 3) := by decide +kernel
theorem dX11_laysShades_47 : decode cX11_laysShades 47 = .ok (.return_, 1) := by decide +kernel
theorem dX11_servesOf_0 : decode cX11_servesOf 0 = .ok (.aload_n 0, 1) := by decide +kernel
theorem dX11_servesOf_1 : decode cX11_servesOf 1 = .ok (.iload_n 1, 1) := by decide +kernel
theorem dX11_servesOf_2 : decode cX11_servesOf 2 = .ok (.invokevirtual 359, 3) := by decide +kernel
theorem dX11_servesOf_5 : decode cX11_servesOf 5 = .ok (.istore_n 3, 1) := by decide +kernel
theorem dX11_servesOf_6 : decode cX11_servesOf 6 = .ok (.iload_n 3, 1) := by decide +kernel
theorem dX11_servesOf_7 : decode cX11_servesOf 7 = .ok (.iconst (-1), 1) := by decide +kernel
theorem dX11_servesOf_8 : decode cX11_servesOf 8 = .ok (.if_icmp .ne 40, 3) := by decide +kernel
theorem dX11_servesOf_11 : decode cX11_servesOf 11 = .ok (.aload_n 0, 1) := by decide +kernel
theorem dX11_servesOf_12 : decode cX11_servesOf 12 = .ok (.getfield 7, 3) := by decide +kernel
theorem dX11_servesOf_15 : decode cX11_servesOf 15 = .ok (.bipush 24, 2) := by decide +kernel
theorem dX11_servesOf_17 : decode cX11_servesOf 17 = .ok (.iload_n 1, 1) := by decide +kernel
theorem dX11_servesOf_18 : decode cX11_servesOf 18 = .ok (.iadd, 1) := by decide +kernel
theorem dX11_servesOf_19 : decode cX11_servesOf 19 = .ok (.sipush 999, 3) := by decide +kernel
theorem dX11_servesOf_22 : decode cX11_servesOf 22 = .ok (.aload_n 0, 1) := by decide +kernel
theorem dX11_servesOf_23 : decode cX11_servesOf 23 = .ok (.getfield 7, 3) := by decide +kernel
theorem dX11_servesOf_26 : decode cX11_servesOf 26 = .ok (.bipush 24, 2) := by decide +kernel
theorem dX11_servesOf_28 : decode cX11_servesOf 28 = .ok (.iload_n 1, 1) := by decide +kernel
theorem dX11_servesOf_29 : decode cX11_servesOf 29 = .ok (.iadd, 1) := by decide +kernel
theorem dX11_servesOf_30 : decode cX11_servesOf 30 = .ok (.iaload, 1) := by decide +kernel
theorem dX11_servesOf_31 : decode cX11_servesOf 31 = .ok (.iconst 1, 1) := by decide +kernel
theorem dX11_servesOf_32 : decode cX11_servesOf 32 = .ok (.iadd, 1) := by decide +kernel
theorem dX11_servesOf_33 : decode cX11_servesOf 33 = .ok (.invokestatic 362, 3) := by decide +kernel
theorem dX11_servesOf_36 : decode cX11_servesOf 36 = .ok (.iastore, 1) := by decide +kernel
theorem dX11_servesOf_37 : decode cX11_servesOf 37 = .ok (.aload_n 0, 1) := by decide +kernel
theorem dX11_servesOf_38 : decode cX11_servesOf 38 = .ok (.aload_n 0, 1) := by decide +kernel
theorem dX11_servesOf_39 : decode cX11_servesOf 39 = .ok (.getfield 365, 3) := by decide +kernel
theorem dX11_servesOf_42 : decode cX11_servesOf 42 = .ok (.iconst 1, 1) := by decide +kernel
theorem dX11_servesOf_43 : decode cX11_servesOf 43 = .ok (.iadd, 1) := by decide +kernel
theorem dX11_servesOf_44 : decode cX11_servesOf 44 = .ok (.putfield 365, 3) := by decide +kernel
theorem dX11_servesOf_47 : decode cX11_servesOf 47 = .ok (.return_, 1) := by decide +kernel
theorem dX11_servesOf_48 : decode cX11_servesOf 48 = .ok (.aload_n 0, 1) := by decide +kernel
theorem dX11_servesOf_49 : decode cX11_servesOf 49 = .ok (.getfield 101, 3) := by decide +kernel
theorem dX11_servesOf_52 : decode cX11_servesOf 52 = .ok (.iload_n 3, 1) := by decide +kernel
theorem dX11_servesOf_53 : decode cX11_servesOf 53 = .ok (.iconst 1, 1) := by decide +kernel
theorem dX11_servesOf_54 : decode cX11_servesOf 54 = .ok (.bastore, 1) := by decide +kernel
theorem dX11_servesOf_55 : decode cX11_servesOf 55 = .ok (.aload_n 0, 1) := by decide +kernel
theorem dX11_servesOf_56 : decode cX11_servesOf 56 = .ok (.aload_n 0, 1) := by decide +kernel
theorem dX11_servesOf_57 : decode cX11_servesOf 57 = .ok (.getfield 368, 3) := by decide +kernel
theorem dX11_servesOf_60 : decode cX11_servesOf 60 = .ok (.aload_n 0, 1) := by decide +kernel
theorem dX11_servesOf_61 : decode cX11_servesOf 61 = .ok (.getfield 92, 3) := by decide +kernel
theorem dX11_servesOf_64 : decode cX11_servesOf 64 = .ok (.iload_n 3, 1) := by decide +kernel
theorem dX11_servesOf_65 : decode cX11_servesOf 65 = .ok (.iaload, 1) := by decide +kernel
theorem dX11_servesOf_66 : decode cX11_servesOf 66 = .ok (.iadd, 1) := by decide +kernel
theorem dX11_servesOf_67 : decode cX11_servesOf 67 = .ok (.putfield 368, 3) := by decide +kernel
theorem dX11_servesOf_70 : decode cX11_servesOf 70 = .ok (.aload_n 0, 1) := by decide +kernel
theorem dX11_servesOf_71 : decode cX11_servesOf 71 = .ok (.getfield 7, 3) := by decide +kernel
theorem dX11_servesOf_74 : decode cX11_servesOf 74 = .ok (.iconst 4, 1) := by decide +kernel
theorem dX11_servesOf_75 : decode cX11_servesOf 75 = .ok (.iload_n 1, 1) := by decide +kernel
theorem dX11_servesOf_76 : decode cX11_servesOf 76 = .ok (.iadd, 1) := by decide +kernel
theorem dX11_servesOf_77 : decode cX11_servesOf 77 = .ok (.iload_n 3, 1) := by decide +kernel
theorem dX11_servesOf_78 : decode cX11_servesOf 78 = .ok (.iastore, 1) := by decide +kernel
theorem dX11_servesOf_79 : decode cX11_servesOf 79 = .ok (.aload_n 0, 1) := by decide +kernel
theorem dX11_servesOf_80 : decode cX11_servesOf 80 = .ok (.getfield 7, 3) := by decide +kernel
theorem dX11_servesOf_83 : decode cX11_servesOf 83 = .ok (.bipush 14, 2) := by decide +kernel
theorem dX11_servesOf_85 : decode cX11_servesOf 85 = .ok (.iload_n 1, 1) := by decide +kernel
theorem dX11_servesOf_86 : decode cX11_servesOf 86 = .ok (.iadd, 1) := by decide +kernel
theorem dX11_servesOf_87 : decode cX11_servesOf 87 = .ok (.iaload, 1) := by decide +kernel
theorem dX11_servesOf_88 : decode cX11_servesOf 88 = .ok (.iload_n 2, 1) := by decide +kernel
theorem dX11_servesOf_89 : decode cX11_servesOf 89 = .ok (.ifCond .eq 23, 3) := by decide +kernel
theorem dX11_servesOf_92 : decode cX11_servesOf 92 = .ok (.aload_n 0, 1) := by decide +kernel
theorem dX11_servesOf_93 : decode cX11_servesOf 93 = .ok (.getfield 7, 3) := by decide +kernel
theorem dX11_servesOf_96 : decode cX11_servesOf 96 = .ok (.bipush 37, 2) := by decide +kernel
theorem dX11_servesOf_98 : decode cX11_servesOf 98 = .ok (.iaload, 1) := by decide +kernel
theorem dX11_servesOf_99 : decode cX11_servesOf 99 = .ok (.iconst 3, 1) := by decide +kernel
theorem dX11_servesOf_100 : decode cX11_servesOf 100 = .ok (.irem, 1) := by decide +kernel
theorem dX11_servesOf_101 : decode cX11_servesOf 101 = .ok (.ifCond .ne 7, 3) := by decide +kernel
theorem dX11_servesOf_104 : decode cX11_servesOf 104 = .ok (.iconst 1, 1) := by decide +kernel
theorem dX11_servesOf_105 : decode cX11_servesOf 105 = .ok (.goto 13, 3) := by decide +kernel
theorem dX11_servesOf_108 : decode cX11_servesOf 108 = .ok (.iconst 0, 1) := by decide +kernel
theorem dX11_servesOf_109 : decode cX11_servesOf 109 = .ok (.goto 9, 3) := by decide +kernel
theorem dX11_servesOf_112 : decode cX11_servesOf 112 = .ok (.aload_n 0, 1) := by decide +kernel
theorem dX11_servesOf_113 : decode cX11_servesOf 113 = .ok (.getfield 89, 3) := by decide +kernel
theorem dX11_servesOf_116 : decode cX11_servesOf 116 = .ok (.iload_n 3, 1) := by decide +kernel
theorem dX11_servesOf_117 : decode cX11_servesOf 117 = .ok (.iaload, 1) := by decide +kernel
theorem dX11_servesOf_118 : decode cX11_servesOf 118 = .ok (.invokestatic 362, 3) := by decide +kernel
theorem dX11_servesOf_121 : decode cX11_servesOf 121 = .ok (.istore 4, 2) := by decide +kernel
theorem dX11_servesOf_123 : decode cX11_servesOf 123 = .ok (.aload_n 0, 1) := by decide +kernel
theorem dX11_servesOf_124 : decode cX11_servesOf 124 = .ok (.getfield 7, 3) := by decide +kernel
theorem dX11_servesOf_127 : decode cX11_servesOf 127 = .ok (.bipush 14, 2) := by decide +kernel
theorem dX11_servesOf_129 : decode cX11_servesOf 129 = .ok (.iload_n 1, 1) := by decide +kernel
theorem dX11_servesOf_130 : decode cX11_servesOf 130 = .ok (.iadd, 1) := by decide +kernel
theorem dX11_servesOf_131 : decode cX11_servesOf 131 = .ok (.aload_n 0, 1) := by decide +kernel
theorem dX11_servesOf_132 : decode cX11_servesOf 132 = .ok (.getfield 7, 3) := by decide +kernel
theorem dX11_servesOf_135 : decode cX11_servesOf 135 = .ok (.bipush 14, 2) := by decide +kernel
theorem dX11_servesOf_137 : decode cX11_servesOf 137 = .ok (.iload_n 1, 1) := by decide +kernel
theorem dX11_servesOf_138 : decode cX11_servesOf 138 = .ok (.iadd, 1) := by decide +kernel
theorem dX11_servesOf_139 : decode cX11_servesOf 139 = .ok (.iaload, 1) := by decide +kernel
theorem dX11_servesOf_140 : decode cX11_servesOf 140 = .ok (.iload 4, 2) := by decide +kernel
theorem dX11_servesOf_142 : decode cX11_servesOf 142 = .ok (.isub, 1) := by decide +kernel
theorem dX11_servesOf_143 : decode cX11_servesOf 143 = .ok (.iastore, 1) := by decide +kernel
theorem dX11_servesOf_144 : decode cX11_servesOf 144 = .ok (.aload_n 0, 1) := by decide +kernel
theorem dX11_servesOf_145 : decode cX11_servesOf 145 = .ok (.aload_n 0, 1) := by decide +kernel
theorem dX11_servesOf_146 : decode cX11_servesOf 146 = .ok (.getfield 371, 3) := by decide +kernel
theorem dX11_servesOf_149 : decode cX11_servesOf 149 = .ok (.iload 4, 2) := by decide +kernel
theorem dX11_servesOf_151 : decode cX11_servesOf 151 = .ok (.iadd, 1) := by decide +kernel
theorem dX11_servesOf_152 : decode cX11_servesOf 152 = .ok (.putfield 371, 3) := by decide +kernel
theorem dX11_servesOf_155 : decode cX11_servesOf 155 = .ok (.aload_n 0, 1) := by decide +kernel
theorem dX11_servesOf_156 : decode cX11_servesOf 156 = .ok (.getfield 19, 3) := by decide +kernel
theorem dX11_servesOf_159 : decode cX11_servesOf 159 = .ok (.iload_n 3, 1) := by decide +kernel
theorem dX11_servesOf_160 : decode cX11_servesOf 160 = .ok (.iaload, 1) := by decide +kernel
theorem dX11_servesOf_161 : decode cX11_servesOf 161 = .ok (.iconst 3, 1) := by decide +kernel
theorem dX11_servesOf_162 : decode cX11_servesOf 162 = .ok (.if_icmp .ne 21, 3) := by decide +kernel
theorem dX11_servesOf_165 : decode cX11_servesOf 165 = .ok (.aload_n 0, 1) := by decide +kernel
theorem dX11_servesOf_166 : decode cX11_servesOf 166 = .ok (.getfield 7, 3) := by decide +kernel
theorem dX11_servesOf_169 : decode cX11_servesOf 169 = .ok (.bipush 36, 2) := by decide +kernel
theorem dX11_servesOf_171 : decode cX11_servesOf 171 = .ok (.aload_n 0, 1) := by decide +kernel
theorem dX11_servesOf_172 : decode cX11_servesOf 172 = .ok (.getfield 7, 3) := by decide +kernel
theorem dX11_servesOf_175 : decode cX11_servesOf 175 = .ok (.bipush 36, 2) := by decide +kernel
theorem dX11_servesOf_177 : decode cX11_servesOf 177 = .ok (.iaload, 1) := by decide +kernel
theorem dX11_servesOf_178 : decode cX11_servesOf 178 = .ok (.iconst 1, 1) := by decide +kernel
theorem dX11_servesOf_179 : decode cX11_servesOf 179 = .ok (.iload_n 1, 1) := by decide +kernel
theorem dX11_servesOf_180 : decode cX11_servesOf 180 = .ok (.ishl, 1) := by decide +kernel
theorem dX11_servesOf_181 : decode cX11_servesOf 181 = .ok (.ior, 1) := by decide +kernel
theorem dX11_servesOf_182 : decode cX11_servesOf 182 = .ok (.iastore, 1) := by decide +kernel
theorem dX11_servesOf_183 : decode cX11_servesOf 183 = .ok (.return_, 1) := by decide +kernel


theorem gS_go {c : Int → Int} {to f k n : Nat} (h : gS c to f k n) (hk : k < to) : ∃ f2, f = f2 + 1 ∧ 0 ≤ c k ∧
      ((gO (c k) = 0 ∧ n ≤ 258 ∧ gS c to f2 (k + 1) (n + 1)) ∨
       (gO (c k) = 1 ∧ gV (c k) < 7 ∧ n ≤ 258 ∧ gS c to f2 (k + 1) (n + 1)) ∨
       (gO (c k) = 10 ∧ 1 ≤ n ∧ gS c to f2 (k + 1) n) ∨
       ((gO (c k) = 11 ∨ gO (c k) = 12) ∧ 1 ≤ n ∧ (∃ v : Nat, gV (c k) = (v : Int) ∧ k < v ∧ v ≤ to ∧ gS c to f2 v n) ∧ gS c to f2 (k + 1) (n - 1)) ∨
       (2 ≤ gO (c k) ∧ gO (c k) ≤ 9 ∧ 2 ≤ n ∧ gS c to f2 (k + 1) (n - 1))) := by
  cases f with
  | zero => have h : k = to := h
            omega
  | succ f => rcases h with h | h
              · omega
              · exact ⟨f, rfl, h.2⟩
def gDD (v : Int) (c : Int → Int) (to f2 k n : Nat) : Prop :=
      ((gO v = 0 ∧ n ≤ 258 ∧ gS c to f2 (k + 1) (n + 1)) ∨
       (gO v = 1 ∧ gV v < 7 ∧ n ≤ 258 ∧ gS c to f2 (k + 1) (n + 1)) ∨
       (gO v = 10 ∧ 1 ≤ n ∧ gS c to f2 (k + 1) n) ∨
       ((gO v = 11 ∨ gO v = 12) ∧ 1 ≤ n ∧ (∃ w : Nat, gV v = (w : Int) ∧ k < w ∧ w ≤ to ∧ gS c to f2 w n) ∧ gS c to f2 (k + 1) (n - 1)) ∨
       (2 ≤ gO v ∧ gO v ≤ 9 ∧ 2 ≤ n ∧ gS c to f2 (k + 1) (n - 1)))
theorem gS_go2 {c : Int → Int} {to f n : Nat} {k v : Int} (h : gS c to f k.toNat n) (hk : k.toNat < to) (h0 : 0 ≤ k) (hv : c k = v) : ∃ f2, 0 ≤ v ∧ gDD v c to f2 k.toNat n ∧
      ((v / 1048576 = 0 ∧ n ≤ 258) ∨ (v / 1048576 = 1 ∧ v % 1048576 < 7 ∧ n ≤ 258) ∨ (v / 1048576 = 10 ∧ 1 ≤ n) ∨ ((v / 1048576 = 11 ∨ v / 1048576 = 12) ∧ 1 ≤ n ∧ k < v % 1048576 ∧ v % 1048576 ≤ to) ∨ (2 ≤ v / 1048576 ∧ v / 1048576 ≤ 9 ∧ 2 ≤ n)) := by
  obtain ⟨f2, -, g0, gg⟩ := gS_go h hk
  have ek : ((k.toNat : Nat) : Int) = k := Int.toNat_of_nonneg h0
  rw [ek, hv] at g0 gg
  refine ⟨f2, g0, gg, ?_⟩
  unfold gO gV at gg
  rcases gg with ⟨a, b, -⟩ | ⟨a, b, b2, -⟩ | ⟨a, b, -⟩ | ⟨a, b, ⟨w, w1, w2, w3, -⟩, -⟩ | ⟨a, a2, b, -⟩
  · exact Or.inl ⟨a, b⟩
  · exact Or.inr (Or.inl ⟨a, b, b2⟩)
  · exact Or.inr (Or.inr (Or.inl ⟨a, b⟩))
  · exact Or.inr (Or.inr (Or.inr (Or.inl ⟨a, b, by omega, by omega⟩)))
  · exact Or.inr (Or.inr (Or.inr (Or.inr ⟨a, a2, b⟩)))
theorem gS_eq {c : Int → Int} {to f k n k2 n2 : Nat} (h : gS c to f k n) (e1 : k = k2) (e2 : n = n2) : gS c to f k2 n2 := by
  subst e1; subst e2; exact h
set_option maxHeartbeats 4000000 in
set_option maxRecDepth 100000 in
theorem c_X11_comesTo (l : Launch) (D : va_G) (g : xG) (T : Nat × Nat × Nat) (h0 : Nat) (s0 : xS) (hσ : xRR s0) (a : Int) (ra : xR a) (b : Int) (rb : xR b) (hs : segOK (s0 283) a b) (p0 : IMn s0) (p1 : IMk s0) (p2 : IMo s0) : Met l yX11_comesTo (xws yX11_comesTo cX11_comesTo 8 (some .int)) { frames := 1, cells := 0, slots := 0, locals := 22 } (xP [.ref (h0 + 268), .int (xJ a), .int (xJ b)] D g T h0 s0) (xQi D g h0 (fun r τ => xFr (fun k => k = 293) s0 τ ∧ (((IMn τ) ∧ (IMk τ) ∧ (IMo τ) ∧ True) ∧ (True)))) 0 0 (xA h0) := by
  refine x_met hσ (by decide) (Nat.le_of_ble_eq_true rfl) ?_
  intro p e s m args below meth c hx hb hr hml hown hT hlk hnm hE hW ls hl
  have hl : lv_has ls 8 [(0, .ref (h0 + 268)), (1, .int (xJ a)), (2, .int (xJ b))] := hl
  obtain ⟨Q, eQ⟩ : ∃ Q, Q = MQ below (xQi D g h0 (fun r τ => xFr (fun k => k = 293) s0 τ ∧ (((IMn τ) ∧ (IMk τ) ∧ (IMo τ) ∧ True) ∧ (True)))) args s 0 0 (xA h0) := ⟨_, rfl⟩
  rw [← eQ]
  generalize hHe : ([] : List Loc) = locs at hW ⊢
  obtain ⟨H, eH⟩ : ∃ H, H = s.heap := ⟨_, rfl⟩
  rw [← eH] at hW ⊢
  have hF : xFr (fun k => k = 293) s0 s0 := xFr.rf
  have k268_8 : s0 268 8 = s0 268 8 := rfl
  have k268_58 : s0 268 58 = s0 268 58 := rfl
  have hs1 := hs.1
  have hs2 := hs.2.1
  have hs3 := hs.2.2.1
  refine x_iconst hx hb dX11_comesTo_0 ?_
  refine lv_istore_n (lv' := [(3, .int (xJ 0)), (0, .ref (h0 + 268)), (1, .int (xJ a)), (2, .int (xJ b))]) hx hb dX11_comesTo_1 rfl hl (by decide) rfl (fun ls hl => ?_)
  refine x_sipush hx hb dX11_comesTo_2 (by decide) ?_
  refine x_iload_n hx hb hl 2 rfl dX11_comesTo_5 rfl ?_
  refine x_sipush hx hb dX11_comesTo_6 (by decide) ?_
  refine x_idiv hx hb ra (by decide) (by omega) (by decide) dX11_comesTo_9 ?_
  refine x_imul hx hb dX11_comesTo_10 ?_
  refine x_nm (fun x1 ex1 => ?_)
  refine lv_istore (lv' := [(4, .int (xJ x1)), (3, .int (xJ 0)), (0, .ref (h0 + 268)), (1, .int (xJ a)), (2, .int (xJ b))]) hx hb dX11_comesTo_11 hl (by decide) rfl (fun ls hl => ?_)
  refine x_iload_n hx hb hl 3 rfl dX11_comesTo_13 rfl ?_
  refine lv_istore (lv' := [(5, .int (xJ a)), (4, .int (xJ x1)), (3, .int (xJ 0)), (0, .ref (h0 + 268)), (1, .int (xJ a)), (2, .int (xJ b))]) hx hb dX11_comesTo_14 hl (by decide) rfl (fun ls hl => ?_)
  have L16 : ∀ (fu : Nat) (i3_16 : Int) (i5_16 : Int) (s_16 : xS) (H : Heap) (locs : List Loc) (ls : Array Slot), (xR i3_16) → (xR i5_16) → (xFr (fun k => k = 293) s0 s_16) → (IMn s_16) → (IMk s_16) → (IMo s_16) → (s_16 268 8 = s0 268 8) → (s_16 268 58 = s0 268 58) → (0 ≤ i5_16 ∧ i5_16 ≤ b) → (0 ≤ i3_16 ∧ i3_16 ≤ 259) → (∃ f : Nat, gS (s0 283) b.toNat f (i5_16).toNat (i3_16).toNat) → (b - i5_16).toNat < fu → xW D g h0 s H locs s_16 → lv_has ls 8 [(0, .ref (h0 + 268)), (2, .int (xJ b)), (3, .int (xJ i3_16)), (4, .int (xJ x1)), (5, .int (xJ i5_16))] → W p l e { frames := 1, cells := 0, slots := 0, locals := 22 } s m args below meth c H locs 0 0 Q (F0 m 16 ls []) := by
    intro fu
    induction fu with
    | zero => intro i3_16 i5_16 s_16 H locs ls ri3_16 ri5_16 hF_16 q16_0 q16_1 q16_2 q16_3 q16_4 v16_0 v16_1 v16_2 hm; exact absurd hm (Nat.not_lt_zero _)
    | succ fu ih16 =>
      intro i3_16 i5_16 s_16 H locs ls ri3_16 ri5_16 hF_16 q16_0 q16_1 q16_2 q16_3 q16_4 v16_0 v16_1 v16_2 hm hW hl
      refine x_iload hx hb hl 4 rfl dX11_comesTo_16 ?_
      refine x_iload_n hx hb hl 1 rfl dX11_comesTo_18 rfl ?_
      refine x_icmp_ge (tgt := 233) hx hb ri5_16 rb dX11_comesTo_19 (by decide) (fun c2 => ?_) (fun c2 => ?_)
      · skip
        refine x_aload_n hx hb hl 0 rfl dX11_comesTo_233 rfl ?_
        refine x_get (j := 38) (v := .ref (h0 + 293)) hx hb hown hT hE hW cls_X11 (Or.inl (by decide)) (so_268 h0 g _) (by decide) rfl wq1223 dX11_comesTo_234 ?_
        refine x_iconst hx hb dX11_comesTo_237 ?_
        refine x_iald hx hb hE hW (Or.inl (by decide)) (sa_293 h0 g _) ⟨by decide, by decide⟩ (by decide) dX11_comesTo_238 ?_
        refine x_rd hW (fun x3 ex3 rx3 => ?_)
        rw [eQ]
        exact x_iret hx hb hr hlk hW rx3 ⟨hF_16, ⟨q16_0, q16_1, q16_2, trivial⟩, trivial⟩ dX11_comesTo_239
      refine x_aload_n hx hb hl 0 rfl dX11_comesTo_22 rfl ?_
      refine x_get (j := 24) (v := .ref (h0 + 283)) hx hb hown hT hE hW cls_X11 (Or.inl (by decide)) (so_268 h0 g _) (by decide) rfl wq1209 dX11_comesTo_23 ?_
      refine x_iload hx hb hl 4 rfl dX11_comesTo_26 ?_
      refine x_iald hx hb hE hW (Or.inl (by decide)) (sa_283 h0 g _) (by omega) (by decide) dX11_comesTo_28 ?_
      refine x_rd hW (fun x4 ex4 rx4 => ?_)
      obtain ⟨f9, hg⟩ := v16_2
      obtain ⟨f2, g0, gg, ga⟩ := gS_go2 (v := x4) hg (by omega) (by omega) (by rw [ex4, hF_16 283 (by omega)])
      refine lv_ldc (v := xJ 1048576) hx hb hown (hT _ wq1482) dX11_comesTo_29 ?_
      refine x_idiv hx hb rx4 (by decide) (by omega) (by decide) dX11_comesTo_31 ?_
      refine x_nm (fun x5 ex5 => ?_)
      refine lv_istore (lv' := [(6, .int (xJ x5)), (0, .ref (h0 + 268)), (2, .int (xJ b)), (3, .int (xJ i3_16)), (4, .int (xJ x1)), (5, .int (xJ i5_16))]) hx hb dX11_comesTo_32 hl (by decide) rfl (fun ls hl => ?_)
      refine x_aload_n hx hb hl 1 rfl dX11_comesTo_34 rfl ?_
      refine x_get (j := 24) (v := .ref (h0 + 283)) hx hb hown hT hE hW cls_X11 (Or.inl (by decide)) (so_268 h0 g _) (by decide) rfl wq1209 dX11_comesTo_35 ?_
      refine x_iload hx hb hl 5 rfl dX11_comesTo_38 ?_
      refine x_iald hx hb hE hW (Or.inl (by decide)) (sa_283 h0 g _) (by omega) (by decide) dX11_comesTo_40 ?_
      refine x_rd hW (fun x6 ex6 rx6 => ?_)
      refine lv_ldc (v := xJ 1048576) hx hb hown (hT _ wq1482) dX11_comesTo_41 ?_
      refine x_irem hx hb rx6 (by decide) (by omega) (by decide) dX11_comesTo_43 ?_
      refine x_nm (fun x7 ex7 => ?_)
      refine lv_istore (lv' := [(7, .int (xJ x7)), (6, .int (xJ x5)), (0, .ref (h0 + 268)), (2, .int (xJ b)), (3, .int (xJ i3_16)), (4, .int (xJ x1)), (5, .int (xJ i5_16))]) hx hb dX11_comesTo_44 hl (by decide) rfl (fun ls hl => ?_)
      refine x_iload hx hb hl 6 rfl dX11_comesTo_46 ?_
      refine x_iconst hx hb dX11_comesTo_48 ?_
      refine x_iadd hx hb dX11_comesTo_49 ?_
      refine x_nm (fun x8 ex8 => ?_)
      refine lv_istore (lv' := [(5, .int (xJ x8)), (7, .int (xJ x7)), (6, .int (xJ x5)), (0, .ref (h0 + 268)), (2, .int (xJ b)), (3, .int (xJ i3_16)), (4, .int (xJ x1))]) hx hb dX11_comesTo_50 hl (by decide) rfl (fun ls hl => ?_)
      refine x_iload hx hb hl 2 rfl dX11_comesTo_52 ?_
      have J63 : ∀ (ls : Array Slot), (x5 = 0 ∨ x5 = 1) → lv_has ls 8 [(0, .ref (h0 + 268)), (2, .int (xJ b)), (3, .int (xJ i3_16)), (4, .int (xJ x1)), (5, .int (xJ x8)), (6, .int (xJ x5)), (7, .int (xJ x7))] → W p l e { frames := 1, cells := 0, slots := 0, locals := 22 } s m args below meth c H locs 0 0 Q (F0 m 63 ls []) := by
        intro ls v63_0  hl
        refine x_aload_n hx hb hl 0 rfl dX11_comesTo_63 rfl ?_
        refine x_get (j := 38) (v := .ref (h0 + 293)) hx hb hown hT hE hW cls_X11 (Or.inl (by decide)) (so_268 h0 g _) (by decide) rfl wq1223 dX11_comesTo_64 ?_
        refine x_iload_n hx hb hl 2 rfl dX11_comesTo_67 rfl ?_
        refine x_iload hx hb hl 5 rfl dX11_comesTo_68 ?_
        refine x_if_ne (tgt := 78) hx hb (by omega) dX11_comesTo_70 (by decide) (fun c9 => ?_) (fun c9 => ?_)
        · skip
          refine x_aload_n hx hb hl 0 rfl dX11_comesTo_78 rfl ?_
          refine x_get (j := 39) (v := .ref (h0 + 294)) hx hb hown hT hE hW cls_X11 (Or.inl (by decide)) (so_268 h0 g _) (by decide) rfl wq1224 dX11_comesTo_79 ?_
          refine x_iload hx hb hl 6 rfl dX11_comesTo_82 ?_
          refine x_iald hx hb hE hW (Or.inl (by decide)) (sa_294 h0 g _) (by omega) (by decide) dX11_comesTo_84 ?_
          refine x_rd hW (fun x10 ex10 rx10 => ?_)
          refine x_iast hx hb hE hW (by decide) (fun σ => sa_293 h0 g σ) (by omega) (by decide) rx10 dX11_comesTo_85 (fun H locs s11 es11 hW => ?_)
          have q12 : IMn s11 := by rw [es11]; exact IMn_o (by unfold suIMn; omega) q16_0
          have q13 : IMk s11 := by rw [es11]; exact IMk_o (by unfold suIMk; omega) q16_1
          have q14 : IMo s11 := by rw [es11]; exact IMo_o (by unfold suIMo; omega) q16_2
          have q15 : s11 268 8 = s0 268 8 := (show s11 268 8 = s_16 268 8 from by rw [es11, xU_k _ _ _ (by omega)]).trans q16_3
          have q16 : s11 268 58 = s0 268 58 := (show s11 268 58 = s_16 268 58 from by rw [es11, xU_k _ _ _ (by omega)]).trans q16_4
          have hF17 := hF_16.put es11 (by omega)
          refine x_iload_n hx hb hl 2 rfl dX11_comesTo_86 rfl ?_
          refine x_iconst hx hb dX11_comesTo_87 ?_
          refine x_iadd hx hb dX11_comesTo_88 ?_
          refine x_nm (fun x18 ex18 => ?_)
          refine lv_istore_n (lv' := [(3, .int (xJ x18)), (0, .ref (h0 + 268)), (2, .int (xJ b)), (4, .int (xJ x1)), (5, .int (xJ x8)), (6, .int (xJ x5)), (7, .int (xJ x7))]) hx hb dX11_comesTo_89 rfl hl (by decide) rfl (fun ls hl => ?_)
          refine lv_goto (tgt := 230) hx hb dX11_comesTo_90 (by decide) ?_
          refine lv_goto (tgt := 16) hx hb dX11_comesTo_230 (by decide) ?_
          exact ih16 x18 x8 s11 H locs ls (by omega) (by omega) hF17 q12 q13 q14 q15 q16 (by omega) (by omega) (by unfold gDD gO gV at gg; rcases gg with ⟨a1, b1, h9⟩ | ⟨a1, b1, b2, h9⟩ | ⟨a1, b1, h9⟩ | ⟨a1, b1, ⟨w9, w1, w2, w3, w4⟩, h9⟩ | ⟨a1, a2, b1, h9⟩ <;> first | (exfalso; omega) | exact ⟨_, gS_eq h9 (by omega) (by omega)⟩ | exact ⟨_, gS_eq w4 (by omega) (by omega)⟩) (by omega) hW (lv_sub hl [1, 2, 0, 3, 4] rfl)
        refine x_iload hx hb hl 6 rfl dX11_comesTo_73 ?_
        refine lv_goto (tgt := 85) hx hb dX11_comesTo_75 (by decide) ?_
        refine x_iast hx hb hE hW (by decide) (fun σ => sa_293 h0 g σ) (by omega) (by decide) (by omega) dX11_comesTo_85 (fun H locs s19 es19 hW => ?_)
        have q20 : IMn s19 := by rw [es19]; exact IMn_o (by unfold suIMn; omega) q16_0
        have q21 : IMk s19 := by rw [es19]; exact IMk_o (by unfold suIMk; omega) q16_1
        have q22 : IMo s19 := by rw [es19]; exact IMo_o (by unfold suIMo; omega) q16_2
        have q23 : s19 268 8 = s0 268 8 := (show s19 268 8 = s_16 268 8 from by rw [es19, xU_k _ _ _ (by omega)]).trans q16_3
        have q24 : s19 268 58 = s0 268 58 := (show s19 268 58 = s_16 268 58 from by rw [es19, xU_k _ _ _ (by omega)]).trans q16_4
        have hF25 := hF_16.put es19 (by omega)
        refine x_iload_n hx hb hl 2 rfl dX11_comesTo_86 rfl ?_
        refine x_iconst hx hb dX11_comesTo_87 ?_
        refine x_iadd hx hb dX11_comesTo_88 ?_
        refine x_nm (fun x26 ex26 => ?_)
        refine lv_istore_n (lv' := [(3, .int (xJ x26)), (0, .ref (h0 + 268)), (2, .int (xJ b)), (4, .int (xJ x1)), (5, .int (xJ x8)), (6, .int (xJ x5)), (7, .int (xJ x7))]) hx hb dX11_comesTo_89 rfl hl (by decide) rfl (fun ls hl => ?_)
        refine lv_goto (tgt := 230) hx hb dX11_comesTo_90 (by decide) ?_
        refine lv_goto (tgt := 16) hx hb dX11_comesTo_230 (by decide) ?_
        exact ih16 x26 x8 s19 H locs ls (by omega) (by omega) hF25 q20 q21 q22 q23 q24 (by omega) (by omega) (by unfold gDD gO gV at gg; rcases gg with ⟨a1, b1, h9⟩ | ⟨a1, b1, b2, h9⟩ | ⟨a1, b1, h9⟩ | ⟨a1, b1, ⟨w9, w1, w2, w3, w4⟩, h9⟩ | ⟨a1, a2, b1, h9⟩ <;> first | (exfalso; omega) | exact ⟨_, gS_eq h9 (by omega) (by omega)⟩ | exact ⟨_, gS_eq w4 (by omega) (by omega)⟩) (by omega) hW (lv_sub hl [1, 2, 0, 3, 4] rfl)
      refine x_if_eq (tgt := 63) hx hb (by omega) dX11_comesTo_54 (by decide) (fun c27 => ?_) (fun c27 => ?_)
      · skip
        exact J63 ls (by omega)  (lv_sub hl [3, 4, 5, 6, 0, 2, 1] rfl)
      refine x_iload hx hb hl 2 rfl dX11_comesTo_57 ?_
      refine x_iconst hx hb dX11_comesTo_59 ?_
      refine x_icmp_ne (tgt := 93) hx hb (by omega) (by decide) dX11_comesTo_60 (by decide) (fun c28 => ?_) (fun c28 => ?_)
      · skip
        refine x_iload hx hb hl 2 rfl dX11_comesTo_93 ?_
        refine x_bipush hx hb dX11_comesTo_95 (by decide) ?_
        refine x_icmp_ne (tgt := 121) hx hb (by omega) (by decide) dX11_comesTo_97 (by decide) (fun c29 => ?_) (fun c29 => ?_)
        · skip
          refine x_iload hx hb hl 2 rfl dX11_comesTo_121 ?_
          refine x_bipush hx hb dX11_comesTo_123 (by decide) ?_
          have J135 : ∀ (ls : Array Slot), (x5 = 11 ∨ x5 = 12) → lv_has ls 8 [(0, .ref (h0 + 268)), (2, .int (xJ b)), (3, .int (xJ i3_16)), (4, .int (xJ x1)), (5, .int (xJ x8)), (6, .int (xJ x5)), (7, .int (xJ x7))] → W p l e { frames := 1, cells := 0, slots := 0, locals := 22 } s m args below meth c H locs 0 0 Q (F0 m 135 ls []) := by
            intro ls v135_0  hl
            refine x_aload_n hx hb hl 0 rfl dX11_comesTo_135 rfl ?_
            refine x_get (j := 38) (v := .ref (h0 + 293)) hx hb hown hT hE hW cls_X11 (Or.inl (by decide)) (so_268 h0 g _) (by decide) rfl wq1223 dX11_comesTo_136 ?_
            refine x_iload_n hx hb hl 2 rfl dX11_comesTo_139 rfl ?_
            refine x_iconst hx hb dX11_comesTo_140 ?_
            refine x_isub hx hb dX11_comesTo_141 ?_
            refine x_iald hx hb hE hW (Or.inl (by decide)) (sa_293 h0 g _) (by omega) (by decide) dX11_comesTo_142 ?_
            refine x_rd hW (fun x30 ex30 rx30 => ?_)
            refine x_iload hx hb hl 5 rfl dX11_comesTo_143 ?_
            refine x_bipush hx hb dX11_comesTo_145 (by decide) ?_
            have J155 : ∀ (t0_155 : Int) (ls : Array Slot), (xR t0_155) → lv_has ls 8 [(0, .ref (h0 + 268)), (2, .int (xJ b)), (3, .int (xJ i3_16)), (4, .int (xJ x1)), (5, .int (xJ x8)), (7, .int (xJ x7))] → W p l e { frames := 1, cells := 0, slots := 0, locals := 22 } s m args below meth c H locs 0 0 Q (F0 m 155 ls [.int (xJ t0_155), .int (xJ x30)]) := by
              intro t0_155 ls rt0_155  hl
              refine x_icmp_ne (tgt := 168) hx hb rx30 rt0_155 dX11_comesTo_155 (by decide) (fun c31 => ?_) (fun c31 => ?_)
              · skip
                refine x_iload_n hx hb hl 2 rfl dX11_comesTo_168 rfl ?_
                refine x_iconst hx hb dX11_comesTo_169 ?_
                refine x_isub hx hb dX11_comesTo_170 ?_
                refine x_nm (fun x32 ex32 => ?_)
                refine lv_istore_n (lv' := [(3, .int (xJ x32)), (0, .ref (h0 + 268)), (2, .int (xJ b)), (4, .int (xJ x1)), (5, .int (xJ x8)), (7, .int (xJ x7))]) hx hb dX11_comesTo_171 rfl hl (by decide) rfl (fun ls hl => ?_)
                refine lv_goto (tgt := 230) hx hb dX11_comesTo_172 (by decide) ?_
                refine lv_goto (tgt := 16) hx hb dX11_comesTo_230 (by decide) ?_
                exact ih16 x32 x8 s_16 H locs ls (by omega) (by omega) hF_16 q16_0 q16_1 q16_2 q16_3 q16_4 (by omega) (by omega) (by unfold gDD gO gV at gg; rcases gg with ⟨a1, b1, h9⟩ | ⟨a1, b1, b2, h9⟩ | ⟨a1, b1, h9⟩ | ⟨a1, b1, ⟨w9, w1, w2, w3, w4⟩, h9⟩ | ⟨a1, a2, b1, h9⟩ <;> first | (exfalso; omega) | exact ⟨_, gS_eq h9 (by omega) (by omega)⟩ | exact ⟨_, gS_eq w4 (by omega) (by omega)⟩) (by omega) hW (lv_sub hl [1, 2, 0, 3, 4] rfl)
              refine x_iload hx hb hl 3 rfl dX11_comesTo_158 ?_
              refine x_iload hx hb hl 5 rfl dX11_comesTo_160 ?_
              refine x_iadd hx hb dX11_comesTo_162 ?_
              refine x_nm (fun x33 ex33 => ?_)
              refine lv_istore (lv' := [(5, .int (xJ x33)), (0, .ref (h0 + 268)), (2, .int (xJ b)), (3, .int (xJ i3_16)), (4, .int (xJ x1)), (7, .int (xJ x7))]) hx hb dX11_comesTo_163 hl (by decide) rfl (fun ls hl => ?_)
              refine lv_goto (tgt := 230) hx hb dX11_comesTo_165 (by decide) ?_
              refine lv_goto (tgt := 16) hx hb dX11_comesTo_230 (by decide) ?_
              exact ih16 i3_16 x33 s_16 H locs ls ri3_16 (by omega) hF_16 q16_0 q16_1 q16_2 q16_3 q16_4 (by omega) (by omega) (by unfold gDD gO gV at gg; rcases gg with ⟨a1, b1, h9⟩ | ⟨a1, b1, b2, h9⟩ | ⟨a1, b1, h9⟩ | ⟨a1, b1, ⟨w9, w1, w2, w3, w4⟩, h9⟩ | ⟨a1, a2, b1, h9⟩ <;> first | (exfalso; omega) | exact ⟨_, gS_eq h9 (by omega) (by omega)⟩ | exact ⟨_, gS_eq w4 (by omega) (by omega)⟩) (by omega) hW (lv_sub hl [1, 2, 3, 4, 0] rfl)
            refine x_icmp_ne (tgt := 154) hx hb (by omega) (by decide) dX11_comesTo_147 (by decide) (fun c34 => ?_) (fun c34 => ?_)
            · skip
              refine x_iconst hx hb dX11_comesTo_154 ?_
              exact J155 0 ls (by decide)  (lv_sub hl [0, 1, 2, 3, 4, 6] rfl)
            refine x_iconst hx hb dX11_comesTo_150 ?_
            refine lv_goto (tgt := 155) hx hb dX11_comesTo_151 (by decide) ?_
            exact J155 1 ls (by decide)  (lv_sub hl [0, 1, 2, 3, 4, 6] rfl)
          refine x_icmp_eq (tgt := 135) hx hb (by omega) (by decide) dX11_comesTo_125 (by decide) (fun c35 => ?_) (fun c35 => ?_)
          · skip
            exact J135 ls (by omega)  (lv_sub hl [3, 4, 5, 6, 0, 2, 1] rfl)
          refine x_iload hx hb hl 2 rfl dX11_comesTo_128 ?_
          refine x_bipush hx hb dX11_comesTo_130 (by decide) ?_
          refine x_icmp_ne (tgt := 175) hx hb (by omega) (by decide) dX11_comesTo_132 (by decide) (fun c36 => ?_) (fun c36 => ?_)
          · skip
            refine x_iload_n hx hb hl 5 rfl dX11_comesTo_175 rfl ?_
            refine x_iconst hx hb dX11_comesTo_176 ?_
            refine x_isub hx hb dX11_comesTo_177 ?_
            refine x_nm (fun x37 ex37 => ?_)
            refine lv_istore_n (lv' := [(3, .int (xJ x37)), (5, .int (xJ x8)), (7, .int (xJ x7)), (6, .int (xJ x5)), (0, .ref (h0 + 268)), (2, .int (xJ b)), (4, .int (xJ x1))]) hx hb dX11_comesTo_178 rfl hl (by decide) rfl (fun ls hl => ?_)
            refine x_iload hx hb hl 3 rfl dX11_comesTo_179 ?_
            refine x_iconst hx hb dX11_comesTo_181 ?_
            have J203 : ∀ (ls : Array Slot), (s_16 293 x37 ≠ 0 ∨ (x5 ≠ 5 ∧ x5 ≠ 6)) → lv_has ls 8 [(0, .ref (h0 + 268)), (2, .int (xJ b)), (3, .int (xJ x37)), (4, .int (xJ x1)), (5, .int (xJ x8)), (6, .int (xJ x5))] → W p l e { frames := 1, cells := 0, slots := 0, locals := 22 } s m args below meth c H locs 0 0 Q (F0 m 203 ls []) := by
              intro ls v203_0  hl
              refine x_aload_n hx hb hl 0 rfl dX11_comesTo_203 rfl ?_
              refine x_get (j := 38) (v := .ref (h0 + 293)) hx hb hown hT hE hW cls_X11 (Or.inl (by decide)) (so_268 h0 g _) (by decide) rfl wq1223 dX11_comesTo_204 ?_
              refine x_iload_n hx hb hl 2 rfl dX11_comesTo_207 rfl ?_
              refine x_iconst hx hb dX11_comesTo_208 ?_
              refine x_isub hx hb dX11_comesTo_209 ?_
              refine x_iload hx hb hl 5 rfl dX11_comesTo_210 ?_
              refine x_aload_n hx hb hl 0 rfl dX11_comesTo_212 rfl ?_
              refine x_get (j := 38) (v := .ref (h0 + 293)) hx hb hown hT hE hW cls_X11 (Or.inl (by decide)) (so_268 h0 g _) (by decide) rfl wq1223 dX11_comesTo_213 ?_
              refine x_iload_n hx hb hl 2 rfl dX11_comesTo_216 rfl ?_
              refine x_iconst hx hb dX11_comesTo_217 ?_
              refine x_isub hx hb dX11_comesTo_218 ?_
              refine x_iald hx hb hE hW (Or.inl (by decide)) (sa_293 h0 g _) (by omega) (by decide) dX11_comesTo_219 ?_
              refine x_rd hW (fun x38 ex38 rx38 => ?_)
              refine x_aload_n hx hb hl 0 rfl dX11_comesTo_220 rfl ?_
              refine x_get (j := 38) (v := .ref (h0 + 293)) hx hb hown hT hE hW cls_X11 (Or.inl (by decide)) (so_268 h0 g _) (by decide) rfl wq1223 dX11_comesTo_221 ?_
              refine x_iload_n hx hb hl 2 rfl dX11_comesTo_224 rfl ?_
              refine x_iald hx hb hE hW (Or.inl (by decide)) (sa_293 h0 g _) (by omega) (by decide) dX11_comesTo_225 ?_
              refine x_rd hW (fun x39 ex39 rx39 => ?_)
              refine x_goi (x_runS (As := [.int (xJ x5), .int (xJ x38), .int (xJ x39)]) hx hb hml hown hT hE hW hl.1 cf_X11_reckon wq1584 wq1583 (c_X11_reckon l D g T h0 s_16 hW.2.1 x5 (by omega) x38 rx38 x39 rx39 (by omega)) ⟨rfl, rfl, ⟨by decide, by decide⟩, ⟨by decide, by decide⟩⟩ rfl rfl (Nat.le_of_ble_eq_true rfl) dX11_comesTo_226) hW (fun x40 s41 H locs rx40 hp42 hW => ?_)
              obtain ⟨es41, hp42⟩ := hp42
              subst es41
              have ghp42 := hp42
              refine x_iast hx hb hE hW (by decide) (fun σ => sa_293 h0 g σ) (by omega) (by decide) rx40 dX11_comesTo_229 (fun H locs s43 es43 hW => ?_)
              have q44 : IMn s43 := by rw [es43]; exact IMn_o (by unfold suIMn; omega) q16_0
              have q45 : IMk s43 := by rw [es43]; exact IMk_o (by unfold suIMk; omega) q16_1
              have q46 : IMo s43 := by rw [es43]; exact IMo_o (by unfold suIMo; omega) q16_2
              have q47 : s43 268 8 = s0 268 8 := (show s43 268 8 = s_16 268 8 from by rw [es43, xU_k _ _ _ (by omega)]).trans q16_3
              have q48 : s43 268 58 = s0 268 58 := (show s43 268 58 = s_16 268 58 from by rw [es43, xU_k _ _ _ (by omega)]).trans q16_4
              have hF49 := hF_16.put es43 (by omega)
              refine lv_goto (tgt := 16) hx hb dX11_comesTo_230 (by decide) ?_
              exact ih16 x37 x8 s43 H locs ls (by omega) (by omega) hF49 q44 q45 q46 q47 q48 (by omega) (by omega) (by unfold gDD gO gV at gg; rcases gg with ⟨a1, b1, h9⟩ | ⟨a1, b1, b2, h9⟩ | ⟨a1, b1, h9⟩ | ⟨a1, b1, ⟨w9, w1, w2, w3, w4⟩, h9⟩ | ⟨a1, a2, b1, h9⟩ <;> first | (exfalso; omega) | exact ⟨_, gS_eq h9 (by omega) (by omega)⟩ | exact ⟨_, gS_eq w4 (by omega) (by omega)⟩) (by omega) hW (lv_sub hl [0, 1, 2, 3, 4] rfl)
            have J192 : ∀ (ls : Array Slot), lv_has ls 8 [(0, .ref (h0 + 268)), (2, .int (xJ b)), (3, .int (xJ x37)), (4, .int (xJ x1)), (5, .int (xJ x8)), (6, .int (xJ x5))] → W p l e { frames := 1, cells := 0, slots := 0, locals := 22 } s m args below meth c H locs 0 0 Q (F0 m 192 ls []) := by
              intro ls   hl
              refine x_aload_n hx hb hl 0 rfl dX11_comesTo_192 rfl ?_
              refine x_get (j := 38) (v := .ref (h0 + 293)) hx hb hown hT hE hW cls_X11 (Or.inl (by decide)) (so_268 h0 g _) (by decide) rfl wq1223 dX11_comesTo_193 ?_
              refine x_iload_n hx hb hl 2 rfl dX11_comesTo_196 rfl ?_
              refine x_iald hx hb hE hW (Or.inl (by decide)) (sa_293 h0 g _) (by omega) (by decide) dX11_comesTo_197 ?_
              refine x_rd hW (fun x50 ex50 rx50 => ?_)
              refine x_if_ne (tgt := 203) hx hb rx50 dX11_comesTo_198 (by decide) (fun c51 => ?_) (fun c51 => ?_)
              · skip
                exact J203 ls (by omega)  (lv_sub hl [0, 1, 2, 3, 4, 5] rfl)
              refine x_iconst hx hb dX11_comesTo_201 ?_
              rw [eQ]
              exact x_iret hx hb hr hlk hW (by decide) ⟨hF_16, ⟨q16_0, q16_1, q16_2, trivial⟩, trivial⟩ dX11_comesTo_202
            refine x_icmp_eq (tgt := 192) hx hb (by omega) (by decide) dX11_comesTo_182 (by decide) (fun c52 => ?_) (fun c52 => ?_)
            · skip
              exact J192 ls   (lv_sub hl [4, 5, 0, 6, 1, 3] rfl)
            refine x_iload hx hb hl 3 rfl dX11_comesTo_185 ?_
            refine x_bipush hx hb dX11_comesTo_187 (by decide) ?_
            refine x_icmp_ne (tgt := 203) hx hb (by omega) (by decide) dX11_comesTo_189 (by decide) (fun c53 => ?_) (fun c53 => ?_)
            · skip
              exact J203 ls (by omega)  (lv_sub hl [4, 5, 0, 6, 1, 3] rfl)
            exact J192 ls   (lv_sub hl [4, 5, 0, 6, 1, 3] rfl)
          exact J135 ls (by omega)  (lv_sub hl [3, 4, 5, 6, 0, 2, 1] rfl)
        refine x_aload_n hx hb hl 3 rfl dX11_comesTo_100 rfl ?_
        refine x_get (j := 38) (v := .ref (h0 + 293)) hx hb hown hT hE hW cls_X11 (Or.inl (by decide)) (so_268 h0 g _) (by decide) rfl wq1223 dX11_comesTo_101 ?_
        refine x_iload_n hx hb hl 5 rfl dX11_comesTo_104 rfl ?_
        refine x_iconst hx hb dX11_comesTo_105 ?_
        refine x_isub hx hb dX11_comesTo_106 ?_
        refine x_iconst hx hb dX11_comesTo_107 ?_
        refine x_aload_n hx hb hl 3 rfl dX11_comesTo_108 rfl ?_
        refine x_get (j := 38) (v := .ref (h0 + 293)) hx hb hown hT hE hW cls_X11 (Or.inl (by decide)) (so_268 h0 g _) (by decide) rfl wq1223 dX11_comesTo_109 ?_
        refine x_iload_n hx hb hl 5 rfl dX11_comesTo_112 rfl ?_
        refine x_iconst hx hb dX11_comesTo_113 ?_
        refine x_isub hx hb dX11_comesTo_114 ?_
        refine x_iald hx hb hE hW (Or.inl (by decide)) (sa_293 h0 g _) (by omega) (by decide) dX11_comesTo_115 ?_
        refine x_rd hW (fun x54 ex54 rx54 => ?_)
        refine x_isub hx hb dX11_comesTo_116 ?_
        refine x_any (fun x55 rx55 => ?_)
        refine x_iast hx hb hE hW (by decide) (fun σ => sa_293 h0 g σ) (by omega) (by decide) rx55 dX11_comesTo_117 (fun H locs s56 es56 hW => ?_)
        have q57 : IMn s56 := by rw [es56]; exact IMn_o (by unfold suIMn; omega) q16_0
        have q58 : IMk s56 := by rw [es56]; exact IMk_o (by unfold suIMk; omega) q16_1
        have q59 : IMo s56 := by rw [es56]; exact IMo_o (by unfold suIMo; omega) q16_2
        have q60 : s56 268 8 = s0 268 8 := (show s56 268 8 = s_16 268 8 from by rw [es56, xU_k _ _ _ (by omega)]).trans q16_3
        have q61 : s56 268 58 = s0 268 58 := (show s56 268 58 = s_16 268 58 from by rw [es56, xU_k _ _ _ (by omega)]).trans q16_4
        have hF62 := hF_16.put es56 (by omega)
        refine lv_goto (tgt := 230) hx hb dX11_comesTo_118 (by decide) ?_
        refine lv_goto (tgt := 16) hx hb dX11_comesTo_230 (by decide) ?_
        exact ih16 i3_16 x8 s56 H locs ls ri3_16 (by omega) hF62 q57 q58 q59 q60 q61 (by omega) (by omega) (by unfold gDD gO gV at gg; rcases gg with ⟨a1, b1, h9⟩ | ⟨a1, b1, b2, h9⟩ | ⟨a1, b1, h9⟩ | ⟨a1, b1, ⟨w9, w1, w2, w3, w4⟩, h9⟩ | ⟨a1, a2, b1, h9⟩ <;> first | (exfalso; omega) | exact ⟨_, gS_eq h9 (by omega) (by omega)⟩ | exact ⟨_, gS_eq w4 (by omega) (by omega)⟩) (by omega) hW (lv_sub hl [3, 4, 5, 6, 0] rfl)
      exact J63 ls (by omega)  (lv_sub hl [3, 4, 5, 6, 0, 2, 1] rfl)
  exact L16 ((b - a : Int).toNat + 1) 0 a s0 H locs ls (by decide) ra hF p0 p1 p2 k268_8 k268_58 (by omega) (by omega) (⟨_, gS_eq hs.2.2.2 (by omega) (by omega)⟩) (Nat.lt_succ_self _) hW (lv_sub hl [3, 5, 2, 1, 0] rfl)
set_option maxHeartbeats 4000000 in
set_option maxRecDepth 100000 in
theorem c_X11_byLaw (l : Launch) (D : va_G) (g : xG) (T : Nat × Nat × Nat) (h0 : Nat) (s0 : xS) (hσ : xRR s0) (q : Int) (rq : xR q) (w : Int) (rw : xR w) (p0 : IMn s0) (p1 : IMk s0) (p2 : IMo s0) : Met l yX11_byLaw (xws yX11_byLaw cX11_byLaw 5 (some .int)) { frames := 2, cells := 0, slots := 0, locals := 49 } (xP [.ref (h0 + 268), .int (xJ q), .int (xJ w)] D g T h0 s0) (xQi D g h0 (fun r τ => xFr (fun k => k = 293) s0 τ ∧ (((IMn τ) ∧ (IMk τ) ∧ (IMo τ) ∧ True) ∧ (w < 0 ∨ (0 ≤ r ∧ r ≤ w))))) 0 0 (xA h0) := by
  refine x_met hσ (by decide) (Nat.le_of_ble_eq_true rfl) ?_
  intro p e s m args below meth c hx hb hr hml hown hT hlk hnm hE hW ls hl
  have hl : lv_has ls 5 [(0, .ref (h0 + 268)), (1, .int (xJ q)), (2, .int (xJ w))] := hl
  obtain ⟨Q, eQ⟩ : ∃ Q, Q = MQ below (xQi D g h0 (fun r τ => xFr (fun k => k = 293) s0 τ ∧ (((IMn τ) ∧ (IMk τ) ∧ (IMo τ) ∧ True) ∧ (w < 0 ∨ (0 ≤ r ∧ r ≤ w))))) args s 0 0 (xA h0) := ⟨_, rfl⟩
  rw [← eQ]
  generalize hHe : ([] : List Loc) = locs at hW ⊢
  obtain ⟨H, eH⟩ : ∃ H, H = s.heap := ⟨_, rfl⟩
  rw [← eH] at hW ⊢
  have hF : xFr (fun k => k = 293) s0 s0 := xFr.rf
  have k268_8 : s0 268 8 = s0 268 8 := rfl
  have k268_58 : s0 268 58 = s0 268 58 := rfl
  refine x_iconst hx hb dX11_byLaw_0 ?_
  refine lv_istore_n (lv' := [(3, .int (xJ 0)), (0, .ref (h0 + 268)), (1, .int (xJ q)), (2, .int (xJ w))]) hx hb dX11_byLaw_1 rfl hl (by decide) rfl (fun ls hl => ?_)
  have L2 : ∀ (fu : Nat) (i3_2 : Int) (s_2 : xS) (H : Heap) (locs : List Loc) (ls : Array Slot), (xR i3_2) → (xFr (fun k => k = 293) s0 s_2) → (IMn s_2) → (IMk s_2) → (IMo s_2) → (s_2 268 8 = s0 268 8) → (s_2 268 58 = s0 268 58) → (0 ≤ i3_2) → (16 - i3_2).toNat < fu → xW D g h0 s H locs s_2 → lv_has ls 5 [(0, .ref (h0 + 268)), (1, .int (xJ q)), (2, .int (xJ w)), (3, .int (xJ i3_2))] → W p l e { frames := 2, cells := 0, slots := 0, locals := 49 } s m args below meth c H locs 0 0 Q (F0 m 2 ls []) := by
    intro fu
    induction fu with
    | zero => intro i3_2 s_2 H locs ls ri3_2 hF_2 q2_0 q2_1 q2_2 q2_3 q2_4 v2_0 hm; exact absurd hm (Nat.not_lt_zero _)
    | succ fu ih2 =>
      intro i3_2 s_2 H locs ls ri3_2 hF_2 q2_0 q2_1 q2_2 q2_3 q2_4 v2_0 hm hW hl
      refine x_iload_n hx hb hl 3 rfl dX11_byLaw_2 rfl ?_
      refine x_aload_n hx hb hl 0 rfl dX11_byLaw_3 rfl ?_
      refine x_get (j := 17) (v := .int (xJ (s_2 268 17))) hx hb hown hT hE hW cls_X11 (Or.inl (by decide)) (so_268 h0 g _) (by decide) rfl wq1202 dX11_byLaw_4 ?_
      refine x_rd hW (fun x1 ex1 rx1 => ?_)
      have bx1 : 0 ≤ x1 ∧ x1 ≤ 16 := by rw [ex1]; exact IMk.c q2_1
      have q2 : s_2 268 17 = x1 := ex1.symm
      refine x_icmp_ge (tgt := 89) hx hb ri3_2 rx1 dX11_byLaw_7 (by decide) (fun c3 => ?_) (fun c3 => ?_)
      · skip
        refine x_iconst hx hb dX11_byLaw_89 ?_
        rw [eQ]
        exact x_iret hx hb hr hlk hW (by decide) ⟨hF_2, ⟨q2_0, q2_1, q2_2, trivial⟩, by omega⟩ dX11_byLaw_90
      refine x_aload_n hx hb hl 0 rfl dX11_byLaw_10 rfl ?_
      refine x_get (j := 25) (v := .ref (h0 + 284)) hx hb hown hT hE hW cls_X11 (Or.inl (by decide)) (so_268 h0 g _) (by decide) rfl wq1210 dX11_byLaw_11 ?_
      refine x_iload_n hx hb hl 3 rfl dX11_byLaw_14 rfl ?_
      refine x_iald hx hb hE hW (Or.inl (by decide)) (sa_284 h0 g _) (by omega) (by decide) dX11_byLaw_15 ?_
      refine x_rd hW (fun x4 ex4 rx4 => ?_)
      refine x_iload_n hx hb hl 1 rfl dX11_byLaw_16 rfl ?_
      refine x_icmp_ne (tgt := 83) hx hb rx4 rq dX11_byLaw_17 (by decide) (fun c5 => ?_) (fun c5 => ?_)
      · skip
        refine x_iinc (lv' := [(3, .int (xJ (i3_2 + 1))), (0, .ref (h0 + 268)), (1, .int (xJ q)), (2, .int (xJ w))]) hx hb hl 3 rfl dX11_byLaw_83 (by decide) rfl (fun ls hl => ?_)
        refine lv_goto (tgt := 2) hx hb dX11_byLaw_86 (by decide) ?_
        exact ih2 (i3_2 + 1) s_2 H locs ls (by omega) hF_2 q2_0 q2_1 q2_2 q2_3 q2_4 (by omega) (by omega) hW (lv_sub hl [1, 2, 3, 0] rfl)
      refine x_aload_n hx hb hl 0 rfl dX11_byLaw_20 rfl ?_
      refine x_aload_n hx hb hl 0 rfl dX11_byLaw_21 rfl ?_
      refine x_get (j := 27) (v := .ref (h0 + 286)) hx hb hown hT hE hW cls_X11 (Or.inl (by decide)) (so_268 h0 g _) (by decide) rfl wq1212 dX11_byLaw_22 ?_
      refine x_iload_n hx hb hl 3 rfl dX11_byLaw_25 rfl ?_
      refine x_iald hx hb hE hW (Or.inl (by decide)) (sa_286 h0 g _) (by omega) (by decide) dX11_byLaw_26 ?_
      refine x_rd hW (fun x6 ex6 rx6 => ?_)
      refine x_aload_n hx hb hl 0 rfl dX11_byLaw_27 rfl ?_
      refine x_get (j := 28) (v := .ref (h0 + 287)) hx hb hown hT hE hW cls_X11 (Or.inl (by decide)) (so_268 h0 g _) (by decide) rfl wq1213 dX11_byLaw_28 ?_
      refine x_iload_n hx hb hl 3 rfl dX11_byLaw_31 rfl ?_
      refine x_iald hx hb hE hW (Or.inl (by decide)) (sa_287 h0 g _) (by omega) (by decide) dX11_byLaw_32 ?_
      refine x_rd hW (fun x7 ex7 rx7 => ?_)
      refine x_goi (x_runV (As := [.int (xJ x6), .int (xJ x7)]) hx hb hml hown hT hE hW hl.1 (Or.inl (by decide)) (so_268 h0 g _) rfl cf_X11_comesTo wq1581 wq138 wq1579 (c_X11_comesTo l D g T h0 s_2 hW.2.1 x6 rx6 x7 rx7 (by rw [ex6, ex7]; exact (q2_1.2 _ (by omega) (by omega)).2) q2_0 q2_1 q2_2) ⟨rfl, rfl, ⟨by decide, by decide⟩, ⟨by decide, by decide⟩⟩ rfl rfl (Nat.le_of_ble_eq_true rfl) dX11_byLaw_33) hW (fun x8 s9 H locs rx8 hp10 hW => ?_)
      obtain ⟨fs9, hp10⟩ := hp10
      have hF11 := hF_2.call fs9 (fun k h => by omega)
      have q12 : s9 268 8 = s0 268 8 := (congrFun (fs9 _ (by omega)) _).trans q2_3
      have q13 : s9 268 58 = s0 268 58 := (congrFun (fs9 _ (by omega)) _).trans q2_4
      have q14 : s9 268 17 = x1 := (congrFun (fs9 _ (by omega)) _).trans q2
      have ghp10 := hp10.2
      refine x_iconst hx hb dX11_byLaw_36 ?_
      refine x_icmp_eq (tgt := 43) hx hb rx8 (by decide) dX11_byLaw_37 (by decide) (fun c15 => ?_) (fun c15 => ?_)
      · skip
        refine x_aload_n hx hb hl 0 rfl dX11_byLaw_43 rfl ?_
        refine x_aload_n hx hb hl 0 rfl dX11_byLaw_44 rfl ?_
        refine x_get (j := 26) (v := .ref (h0 + 285)) hx hb hown hT hE hW cls_X11 (Or.inl (by decide)) (so_268 h0 g _) (by decide) rfl wq1211 dX11_byLaw_45 ?_
        refine x_iload_n hx hb hl 3 rfl dX11_byLaw_48 rfl ?_
        refine x_iald hx hb hE hW (Or.inl (by decide)) (sa_285 h0 g _) (by omega) (by decide) dX11_byLaw_49 ?_
        refine x_rd hW (fun x16 ex16 rx16 => ?_)
        refine x_aload_n hx hb hl 0 rfl dX11_byLaw_50 rfl ?_
        refine x_get (j := 27) (v := .ref (h0 + 286)) hx hb hown hT hE hW cls_X11 (Or.inl (by decide)) (so_268 h0 g _) (by decide) rfl wq1212 dX11_byLaw_51 ?_
        refine x_iload_n hx hb hl 3 rfl dX11_byLaw_54 rfl ?_
        refine x_iald hx hb hE hW (Or.inl (by decide)) (sa_286 h0 g _) (by omega) (by decide) dX11_byLaw_55 ?_
        refine x_rd hW (fun x17 ex17 rx17 => ?_)
        refine x_goi (x_runV (As := [.int (xJ x16), .int (xJ x17)]) hx hb hml hown hT hE hW hl.1 (Or.inl (by decide)) (so_268 h0 g _) rfl cf_X11_comesTo wq1581 wq138 wq1579 (c_X11_comesTo l D g T h0 s9 hW.2.1 x16 rx16 x17 rx17 (by rw [ex16, ex17]; exact (hp10.1.2.1.2 _ (by omega) (by omega)).1) hp10.1.1 hp10.1.2.1 hp10.1.2.2.1) ⟨rfl, rfl, ⟨by decide, by decide⟩, ⟨by decide, by decide⟩⟩ rfl rfl (Nat.le_of_ble_eq_true rfl) dX11_byLaw_56) hW (fun x18 s19 H locs rx18 hp20 hW => ?_)
        obtain ⟨fs19, hp20⟩ := hp20
        have hF21 := hF11.call fs19 (fun k h => by omega)
        have q22 : s19 268 8 = s0 268 8 := (congrFun (fs19 _ (by omega)) _).trans q12
        have q23 : s19 268 58 = s0 268 58 := (congrFun (fs19 _ (by omega)) _).trans q13
        have q24 : s19 268 17 = x1 := (congrFun (fs19 _ (by omega)) _).trans q14
        have ghp20 := hp20.2
        refine lv_istore (lv' := [(4, .int (xJ x18)), (0, .ref (h0 + 268)), (1, .int (xJ q)), (2, .int (xJ w)), (3, .int (xJ i3_2))]) hx hb dX11_byLaw_59 hl (by decide) rfl (fun ls hl => ?_)
        refine x_iload hx hb hl 0 rfl dX11_byLaw_61 ?_
        refine x_if_ge (tgt := 70) hx hb rx18 dX11_byLaw_63 (by decide) (fun c25 => ?_) (fun c25 => ?_)
        · skip
          refine x_iload hx hb hl 0 rfl dX11_byLaw_70 ?_
          refine x_iload_n hx hb hl 3 rfl dX11_byLaw_72 rfl ?_
          refine x_icmp_le (tgt := 80) hx hb rx18 rw dX11_byLaw_73 (by decide) (fun c26 => ?_) (fun c26 => ?_)
          · skip
            refine x_iload hx hb hl 0 rfl dX11_byLaw_80 ?_
            rw [eQ]
            exact x_iret hx hb hr hlk hW rx18 ⟨hF21, ⟨hp20.1.1, hp20.1.2.1, hp20.1.2.2.1, trivial⟩, by omega⟩ dX11_byLaw_82
          refine x_iload_n hx hb hl 3 rfl dX11_byLaw_76 rfl ?_
          refine lv_goto (tgt := 82) hx hb dX11_byLaw_77 (by decide) ?_
          rw [eQ]
          exact x_iret hx hb hr hlk hW rw ⟨hF21, ⟨hp20.1.1, hp20.1.2.1, hp20.1.2.2.1, trivial⟩, by omega⟩ dX11_byLaw_82
        refine x_iconst hx hb dX11_byLaw_66 ?_
        refine lv_goto (tgt := 82) hx hb dX11_byLaw_67 (by decide) ?_
        rw [eQ]
        exact x_iret hx hb hr hlk hW (by decide) ⟨hF21, ⟨hp20.1.1, hp20.1.2.1, hp20.1.2.2.1, trivial⟩, by omega⟩ dX11_byLaw_82
      refine lv_goto (tgt := 83) hx hb dX11_byLaw_40 (by decide) ?_
      refine x_iinc (lv' := [(3, .int (xJ (i3_2 + 1))), (0, .ref (h0 + 268)), (1, .int (xJ q)), (2, .int (xJ w))]) hx hb hl 3 rfl dX11_byLaw_83 (by decide) rfl (fun ls hl => ?_)
      refine lv_goto (tgt := 2) hx hb dX11_byLaw_86 (by decide) ?_
      exact ih2 (i3_2 + 1) s9 H locs ls (by omega) hF11 hp10.1.1 hp10.1.2.1 hp10.1.2.2.1 q12 q13 (by omega) (by omega) hW (lv_sub hl [1, 2, 3, 0] rfl)
  exact L2 ((16 - 0 : Int).toNat + 1) 0 s0 H locs ls (by decide) hF p0 p1 p2 k268_8 k268_58 (by omega) (Nat.lt_succ_self _) hW (lv_sub hl [1, 2, 3, 0] rfl)
set_option maxHeartbeats 4000000 in
set_option maxRecDepth 100000 in
theorem c_X11_byFelon (l : Launch) (D : va_G) (g : xG) (T : Nat × Nat × Nat) (h0 : Nat) (s0 : xS) (hσ : xRR s0) (q : Int) (rq : xR q) (w : Int) (rw : xR w) (f : Int) (rf : xR f) (hf : 0 ≤ f ∧ f ≤ 9) (p0 : IMn s0) (p1 : IMk s0) (p2 : IMo s0) : Met l yX11_byFelon (xws yX11_byFelon cX11_byFelon 4 (some .int)) { frames := 3, cells := 0, slots := 0, locals := 73 } (xP [.ref (h0 + 268), .int (xJ q), .int (xJ w), .int (xJ f)] D g T h0 s0) (xQi D g h0 (fun r τ => xFr (fun k => k = 293 ∨ k = 294) s0 τ ∧ (((IMn τ) ∧ (IMk τ) ∧ (IMo τ) ∧ True) ∧ (w < 0 ∨ (0 ≤ r ∧ r ≤ w))))) 0 0 (xA h0) := by
  refine x_met hσ (by decide) (Nat.le_of_ble_eq_true rfl) ?_
  intro p e s m args below meth c hx hb hr hml hown hT hlk hnm hE hW ls hl
  have hl : lv_has ls 4 [(0, .ref (h0 + 268)), (1, .int (xJ q)), (2, .int (xJ w)), (3, .int (xJ f))] := hl
  obtain ⟨Q, eQ⟩ : ∃ Q, Q = MQ below (xQi D g h0 (fun r τ => xFr (fun k => k = 293 ∨ k = 294) s0 τ ∧ (((IMn τ) ∧ (IMk τ) ∧ (IMo τ) ∧ True) ∧ (w < 0 ∨ (0 ≤ r ∧ r ≤ w))))) args s 0 0 (xA h0) := ⟨_, rfl⟩
  rw [← eQ]
  generalize hHe : ([] : List Loc) = locs at hW ⊢
  obtain ⟨H, eH⟩ : ∃ H, H = s.heap := ⟨_, rfl⟩
  rw [← eH] at hW ⊢
  have hF : xFr (fun k => k = 293 ∨ k = 294) s0 s0 := xFr.rf
  have k268_8 : s0 268 8 = s0 268 8 := rfl
  have k268_58 : s0 268 58 = s0 268 58 := rfl
  refine x_aload_n hx hb hl 0 rfl dX11_byFelon_0 rfl ?_
  refine x_aload_n hx hb hl 0 rfl dX11_byFelon_1 rfl ?_
  refine x_get (j := 0) (v := .ref (h0 + 269)) hx hb hown hT hE hW cls_X11 (Or.inl (by decide)) (so_268 h0 g _) (by decide) rfl wq1185 dX11_byFelon_2 ?_
  refine x_bipush hx hb dX11_byFelon_5 (by decide) ?_
  refine x_iald hx hb hE hW (Or.inl (by decide)) (sa_269 h0 g _) ⟨by decide, by decide⟩ (by decide) dX11_byFelon_7 ?_
  refine x_rd hW (fun x1 ex1 rx1 => ?_)
  have bx1 : 0 ≤ x1 ∧ x1 ≤ 9999 := by rw [ex1]; exact (IMn.n1 p0).2.2.2.1
  refine x_gov (x_runV (As := [.int (xJ x1)]) hx hb hml hown hT hE hW hl.1 (Or.inl (by decide)) (so_268 h0 g _) rfl cf_X11_feels wq1573 wq136 wq1571 (c_X11_feels l D g T h0 s0 hW.2.1 x1 rx1 p0 p1 p2) ⟨rfl, rfl, ⟨by decide, by decide⟩, ⟨by decide, by decide⟩⟩ rfl rfl (Nat.le_of_ble_eq_true rfl) dX11_byFelon_8) hW (fun s3 H locs hp4 hW => ?_)
  obtain ⟨fs3, hp4⟩ := hp4
  have hF5 := hF.call fs3 (fun k h => by omega)
  have q6 : s3 268 8 = s0 268 8 := (congrFun (fs3 _ (by omega)) _).trans k268_8
  have q7 : s3 268 58 = s0 268 58 := (congrFun (fs3 _ (by omega)) _).trans k268_58
  have ghp4 := hp4.2
  refine x_aload_n hx hb hl 0 rfl dX11_byFelon_11 rfl ?_
  refine x_get (j := 39) (v := .ref (h0 + 294)) hx hb hown hT hE hW cls_X11 (Or.inl (by decide)) (so_268 h0 g _) (by decide) rfl wq1224 dX11_byFelon_12 ?_
  refine x_iconst hx hb dX11_byFelon_15 ?_
  refine x_iload_n hx hb hl 3 rfl dX11_byFelon_16 rfl ?_
  refine x_iast hx hb hE hW (by decide) (fun σ => sa_294 h0 g σ) ⟨by decide, by decide⟩ (by decide) rf dX11_byFelon_17 (fun H locs s8 es8 hW => ?_)
  have q9 : s8 268 8 = s0 268 8 := (show s8 268 8 = s3 268 8 from by rw [es8, xU_k _ _ _ (by omega)]).trans q6
  have q10 : s8 268 58 = s0 268 58 := (show s8 268 58 = s3 268 58 from by rw [es8, xU_k _ _ _ (by omega)]).trans q7
  have q11 : IMn s8 := by rw [es8]; exact IMn_o (by unfold suIMn; omega) hp4.1.1
  have q12 : IMk s8 := by rw [es8]; exact IMk_o (by unfold suIMk; omega) hp4.1.2.1
  have q13 : IMo s8 := by rw [es8]; exact IMo_o (by unfold suIMo; omega) hp4.1.2.2.1
  have hF14 := hF5.put es8 (by omega)
  refine x_aload_n hx hb hl 0 rfl dX11_byFelon_18 rfl ?_
  refine x_get (j := 39) (v := .ref (h0 + 294)) hx hb hown hT hE hW cls_X11 (Or.inl (by decide)) (so_268 h0 g _) (by decide) rfl wq1224 dX11_byFelon_19 ?_
  refine x_iconst hx hb dX11_byFelon_22 ?_
  refine x_aload_n hx hb hl 0 rfl dX11_byFelon_23 rfl ?_
  refine x_get (j := 0) (v := .ref (h0 + 269)) hx hb hown hT hE hW cls_X11 (Or.inl (by decide)) (so_268 h0 g _) (by decide) rfl wq1185 dX11_byFelon_24 ?_
  refine x_bipush hx hb dX11_byFelon_27 (by decide) ?_
  refine x_iload_n hx hb hl 3 rfl dX11_byFelon_29 rfl ?_
  refine x_iadd hx hb dX11_byFelon_30 ?_
  refine x_iald hx hb hE hW (Or.inl (by decide)) (sa_269 h0 g _) (by omega) (by decide) dX11_byFelon_31 ?_
  refine x_rd hW (fun x15 ex15 rx15 => ?_)
  refine x_iast hx hb hE hW (by decide) (fun σ => sa_294 h0 g σ) ⟨by decide, by decide⟩ (by decide) rx15 dX11_byFelon_32 (fun H locs s16 es16 hW => ?_)
  have q17 : s16 268 8 = s0 268 8 := (show s16 268 8 = s8 268 8 from by rw [es16, xU_k _ _ _ (by omega)]).trans q9
  have q18 : s16 268 58 = s0 268 58 := (show s16 268 58 = s8 268 58 from by rw [es16, xU_k _ _ _ (by omega)]).trans q10
  have q19 : IMn s16 := by rw [es16]; exact IMn_o (by unfold suIMn; omega) q11
  have q20 : IMk s16 := by rw [es16]; exact IMk_o (by unfold suIMk; omega) q12
  have q21 : IMo s16 := by rw [es16]; exact IMo_o (by unfold suIMo; omega) q13
  have hF22 := hF14.put es16 (by omega)
  refine x_aload_n hx hb hl 0 rfl dX11_byFelon_33 rfl ?_
  refine x_get (j := 39) (v := .ref (h0 + 294)) hx hb hown hT hE hW cls_X11 (Or.inl (by decide)) (so_268 h0 g _) (by decide) rfl wq1224 dX11_byFelon_34 ?_
  refine x_iconst hx hb dX11_byFelon_37 ?_
  refine x_aload_n hx hb hl 0 rfl dX11_byFelon_38 rfl ?_
  refine x_get (j := 0) (v := .ref (h0 + 269)) hx hb hown hT hE hW cls_X11 (Or.inl (by decide)) (so_268 h0 g _) (by decide) rfl wq1185 dX11_byFelon_39 ?_
  refine x_bipush hx hb dX11_byFelon_42 (by decide) ?_
  refine x_iload_n hx hb hl 3 rfl dX11_byFelon_44 rfl ?_
  refine x_iadd hx hb dX11_byFelon_45 ?_
  refine x_iald hx hb hE hW (Or.inl (by decide)) (sa_269 h0 g _) (by omega) (by decide) dX11_byFelon_46 ?_
  refine x_rd hW (fun x23 ex23 rx23 => ?_)
  refine x_iast hx hb hE hW (by decide) (fun σ => sa_294 h0 g σ) ⟨by decide, by decide⟩ (by decide) rx23 dX11_byFelon_47 (fun H locs s24 es24 hW => ?_)
  have q25 : s24 268 8 = s0 268 8 := (show s24 268 8 = s16 268 8 from by rw [es24, xU_k _ _ _ (by omega)]).trans q17
  have q26 : s24 268 58 = s0 268 58 := (show s24 268 58 = s16 268 58 from by rw [es24, xU_k _ _ _ (by omega)]).trans q18
  have q27 : IMn s24 := by rw [es24]; exact IMn_o (by unfold suIMn; omega) q19
  have q28 : IMk s24 := by rw [es24]; exact IMk_o (by unfold suIMk; omega) q20
  have q29 : IMo s24 := by rw [es24]; exact IMo_o (by unfold suIMo; omega) q21
  have hF30 := hF22.put es24 (by omega)
  refine x_aload_n hx hb hl 0 rfl dX11_byFelon_48 rfl ?_
  refine x_get (j := 39) (v := .ref (h0 + 294)) hx hb hown hT hE hW cls_X11 (Or.inl (by decide)) (so_268 h0 g _) (by decide) rfl wq1224 dX11_byFelon_49 ?_
  refine x_bipush hx hb dX11_byFelon_52 (by decide) ?_
  refine x_aload_n hx hb hl 0 rfl dX11_byFelon_54 rfl ?_
  refine x_get (j := 3) (v := .ref (h0 + 272)) hx hb hown hT hE hW cls_X11 (Or.inl (by decide)) (so_268 h0 g _) (by decide) rfl wq1188 dX11_byFelon_55 ?_
  refine x_aload_n hx hb hl 0 rfl dX11_byFelon_58 rfl ?_
  refine x_get (j := 0) (v := .ref (h0 + 269)) hx hb hown hT hE hW cls_X11 (Or.inl (by decide)) (so_268 h0 g _) (by decide) rfl wq1185 dX11_byFelon_59 ?_
  refine x_iconst hx hb dX11_byFelon_62 ?_
  refine x_iload_n hx hb hl 3 rfl dX11_byFelon_63 rfl ?_
  refine x_iadd hx hb dX11_byFelon_64 ?_
  refine x_iald hx hb hE hW (Or.inl (by decide)) (sa_269 h0 g _) (by omega) (by decide) dX11_byFelon_65 ?_
  refine x_rd hW (fun x31 ex31 rx31 => ?_)
  have bx31 : 0 ≤ x31 ∧ x31 ≤ 99 := by rw [ex31]; exact (IMn.n1 q27).2.2.1 _ (by omega) (by omega)
  refine x_iald hx hb hE hW (Or.inl (by decide)) (sa_272 h0 g _) (by omega) (by decide) dX11_byFelon_66 ?_
  refine x_rd hW (fun x32 ex32 rx32 => ?_)
  refine x_iconst hx hb dX11_byFelon_67 ?_
  refine x_icmp_ne (tgt := 75) hx hb rx32 (by decide) dX11_byFelon_68 (by decide) (fun c33 => ?_) (fun c33 => ?_)
  · skip
    refine x_iconst hx hb dX11_byFelon_75 ?_
    refine x_iast hx hb hE hW (by decide) (fun σ => sa_294 h0 g σ) ⟨by decide, by decide⟩ (by decide) (by decide) dX11_byFelon_76 (fun H locs s34 es34 hW => ?_)
    have q35 : s34 268 8 = s0 268 8 := (show s34 268 8 = s24 268 8 from by rw [es34, xU_k _ _ _ (by omega)]).trans q25
    have q36 : s34 268 58 = s0 268 58 := (show s34 268 58 = s24 268 58 from by rw [es34, xU_k _ _ _ (by omega)]).trans q26
    have q37 : IMn s34 := by rw [es34]; exact IMn_o (by unfold suIMn; omega) q27
    have q38 : IMk s34 := by rw [es34]; exact IMk_o (by unfold suIMk; omega) q28
    have q39 : IMo s34 := by rw [es34]; exact IMo_o (by unfold suIMo; omega) q29
    have hF40 := hF30.put es34 (by omega)
    refine x_aload_n hx hb hl 0 rfl dX11_byFelon_77 rfl ?_
    refine x_iload_n hx hb hl 1 rfl dX11_byFelon_78 rfl ?_
    refine x_iload_n hx hb hl 2 rfl dX11_byFelon_79 rfl ?_
    refine x_goi (x_runV (As := [.int (xJ q), .int (xJ w)]) hx hb hml hown hT hE hW hl.1 (Or.inl (by decide)) (so_268 h0 g _) rfl cf_X11_byLaw wq1577 wq137 wq1575 (c_X11_byLaw l D g T h0 s34 hW.2.1 q rq w rw q37 q38 q39) ⟨rfl, rfl, ⟨by decide, by decide⟩, ⟨by decide, by decide⟩⟩ rfl rfl (Nat.le_of_ble_eq_true rfl) dX11_byFelon_80) hW (fun x41 s42 H locs rx41 hp43 hW => ?_)
    obtain ⟨fs42, hp43⟩ := hp43
    have hF44 := hF40.call fs42 (fun k h => by omega)
    have q45 : s42 268 8 = s0 268 8 := (congrFun (fs42 _ (by omega)) _).trans q35
    have q46 : s42 268 58 = s0 268 58 := (congrFun (fs42 _ (by omega)) _).trans q36
    have ghp43 := hp43.2
    rw [eQ]
    exact x_iret hx hb hr hlk hW rx41 ⟨hF44, ⟨hp43.1.1, hp43.1.2.1, hp43.1.2.2.1, trivial⟩, by omega⟩ dX11_byFelon_83
  refine x_iconst hx hb dX11_byFelon_71 ?_
  refine lv_goto (tgt := 76) hx hb dX11_byFelon_72 (by decide) ?_
  refine x_iast hx hb hE hW (by decide) (fun σ => sa_294 h0 g σ) ⟨by decide, by decide⟩ (by decide) (by decide) dX11_byFelon_76 (fun H locs s47 es47 hW => ?_)
  have q48 : s47 268 8 = s0 268 8 := (show s47 268 8 = s24 268 8 from by rw [es47, xU_k _ _ _ (by omega)]).trans q25
  have q49 : s47 268 58 = s0 268 58 := (show s47 268 58 = s24 268 58 from by rw [es47, xU_k _ _ _ (by omega)]).trans q26
  have q50 : IMn s47 := by rw [es47]; exact IMn_o (by unfold suIMn; omega) q27
  have q51 : IMk s47 := by rw [es47]; exact IMk_o (by unfold suIMk; omega) q28
  have q52 : IMo s47 := by rw [es47]; exact IMo_o (by unfold suIMo; omega) q29
  have hF53 := hF30.put es47 (by omega)
  refine x_aload_n hx hb hl 0 rfl dX11_byFelon_77 rfl ?_
  refine x_iload_n hx hb hl 1 rfl dX11_byFelon_78 rfl ?_
  refine x_iload_n hx hb hl 2 rfl dX11_byFelon_79 rfl ?_
  refine x_goi (x_runV (As := [.int (xJ q), .int (xJ w)]) hx hb hml hown hT hE hW hl.1 (Or.inl (by decide)) (so_268 h0 g _) rfl cf_X11_byLaw wq1577 wq137 wq1575 (c_X11_byLaw l D g T h0 s47 hW.2.1 q rq w rw q50 q51 q52) ⟨rfl, rfl, ⟨by decide, by decide⟩, ⟨by decide, by decide⟩⟩ rfl rfl (Nat.le_of_ble_eq_true rfl) dX11_byFelon_80) hW (fun x54 s55 H locs rx54 hp56 hW => ?_)
  obtain ⟨fs55, hp56⟩ := hp56
  have hF57 := hF53.call fs55 (fun k h => by omega)
  have q58 : s55 268 8 = s0 268 8 := (congrFun (fs55 _ (by omega)) _).trans q48
  have q59 : s55 268 58 = s0 268 58 := (congrFun (fs55 _ (by omega)) _).trans q49
  have ghp56 := hp56.2
  rw [eQ]
  exact x_iret hx hb hr hlk hW rx54 ⟨hF57, ⟨hp56.1.1, hp56.1.2.1, hp56.1.2.2.1, trivial⟩, by omega⟩ dX11_byFelon_83
set_option maxHeartbeats 4000000 in
set_option maxRecDepth 100000 in
theorem c_X11_fallsOf (l : Launch) (D : va_G) (g : xG) (T : Nat × Nat × Nat) (h0 : Nat) (s0 : xS) (hσ : xRR s0) (j : Int) (rj : xR j) (t : Int) (rt : xR t) (hj : 0 ≤ j ∧ j < 2) (p0 : IMn s0) (p1 : IMk s0) (p2 : IMo s0) : Met l yX11_fallsOf (xws yX11_fallsOf cX11_fallsOf 4 none) { frames := 4, cells := 0, slots := 0, locals := 91 } (xP [.ref (h0 + 268), .int (xJ j), .int (xJ t)] D g T h0 s0) (xQv D g h0 (fun τ => xFr (fun k => k = 293 ∨ k = 294 ∨ k = 295) s0 τ ∧ (((IMn τ) ∧ (IMk τ) ∧ (IMo τ) ∧ True) ∧ (True)))) 0 0 (xA h0) := by
  refine x_met hσ (by decide) (Nat.le_of_ble_eq_true rfl) ?_
  intro p e s m args below meth c hx hb hr hml hown hT hlk hnm hE hW ls hl
  have hl : lv_has ls 4 [(0, .ref (h0 + 268)), (1, .int (xJ j)), (2, .int (xJ t))] := hl
  obtain ⟨Q, eQ⟩ : ∃ Q, Q = MQ below (xQv D g h0 (fun τ => xFr (fun k => k = 293 ∨ k = 294 ∨ k = 295) s0 τ ∧ (((IMn τ) ∧ (IMk τ) ∧ (IMo τ) ∧ True) ∧ (True)))) args s 0 0 (xA h0) := ⟨_, rfl⟩
  rw [← eQ]
  generalize hHe : ([] : List Loc) = locs at hW ⊢
  obtain ⟨H, eH⟩ : ∃ H, H = s.heap := ⟨_, rfl⟩
  rw [← eH] at hW ⊢
  have hF : xFr (fun k => k = 293 ∨ k = 294 ∨ k = 295) s0 s0 := xFr.rf
  have k268_8 : s0 268 8 = s0 268 8 := rfl
  have k268_58 : s0 268 58 = s0 268 58 := rfl
  refine x_aload_n hx hb hl 0 rfl dX11_fallsOf_0 rfl ?_
  refine x_iload_n hx hb hl 2 rfl dX11_fallsOf_1 rfl ?_
  refine x_gov (x_runV (As := [.int (xJ t)]) hx hb hml hown hT hE hW hl.1 (Or.inl (by decide)) (so_268 h0 g _) rfl cf_X11_feels wq1573 wq136 wq1571 (c_X11_feels l D g T h0 s0 hW.2.1 t rt p0 p1 p2) ⟨rfl, rfl, ⟨by decide, by decide⟩, ⟨by decide, by decide⟩⟩ rfl rfl (Nat.le_of_ble_eq_true rfl) dX11_fallsOf_2) hW (fun s2 H locs hp3 hW => ?_)
  obtain ⟨fs2, hp3⟩ := hp3
  have hF4 := hF.call fs2 (fun k h => by omega)
  have q5 : s2 268 8 = s0 268 8 := (congrFun (fs2 _ (by omega)) _).trans k268_8
  have q6 : s2 268 58 = s0 268 58 := (congrFun (fs2 _ (by omega)) _).trans k268_58
  have ghp3 := hp3.2
  refine x_aload_n hx hb hl 0 rfl dX11_fallsOf_5 rfl ?_
  refine x_get (j := 39) (v := .ref (h0 + 294)) hx hb hown hT hE hW cls_X11 (Or.inl (by decide)) (so_268 h0 g _) (by decide) rfl wq1224 dX11_fallsOf_6 ?_
  refine x_iconst hx hb dX11_fallsOf_9 ?_
  refine x_iload_n hx hb hl 1 rfl dX11_fallsOf_10 rfl ?_
  refine x_iast hx hb hE hW (by decide) (fun σ => sa_294 h0 g σ) ⟨by decide, by decide⟩ (by decide) rj dX11_fallsOf_11 (fun H locs s7 es7 hW => ?_)
  have q8 : s7 268 8 = s0 268 8 := (show s7 268 8 = s2 268 8 from by rw [es7, xU_k _ _ _ (by omega)]).trans q5
  have q9 : s7 268 58 = s0 268 58 := (show s7 268 58 = s2 268 58 from by rw [es7, xU_k _ _ _ (by omega)]).trans q6
  have q10 : IMn s7 := by rw [es7]; exact IMn_o (by unfold suIMn; omega) hp3.1.1
  have q11 : IMk s7 := by rw [es7]; exact IMk_o (by unfold suIMk; omega) hp3.1.2.1
  have q12 : IMo s7 := by rw [es7]; exact IMo_o (by unfold suIMo; omega) hp3.1.2.2.1
  have hF13 := hF4.put es7 (by omega)
  refine x_aload_n hx hb hl 0 rfl dX11_fallsOf_12 rfl ?_
  refine x_bipush hx hb dX11_fallsOf_13 (by decide) ?_
  refine x_bipush hx hb dX11_fallsOf_15 (by decide) ?_
  refine x_goi (x_runV (As := [.int (xJ 97), .int (xJ 7)]) hx hb hml hown hT hE hW hl.1 (Or.inl (by decide)) (so_268 h0 g _) rfl cf_X11_byLaw wq1577 wq137 wq1575 (c_X11_byLaw l D g T h0 s7 hW.2.1 97 (by decide) 7 (by decide) q10 q11 q12) ⟨rfl, rfl, ⟨by decide, by decide⟩, ⟨by decide, by decide⟩⟩ rfl rfl (Nat.le_of_ble_eq_true rfl) dX11_fallsOf_17) hW (fun x14 s15 H locs rx14 hp16 hW => ?_)
  obtain ⟨fs15, hp16⟩ := hp16
  have hF17 := hF13.call fs15 (fun k h => by omega)
  have q18 : s15 268 8 = s0 268 8 := (congrFun (fs15 _ (by omega)) _).trans q8
  have q19 : s15 268 58 = s0 268 58 := (congrFun (fs15 _ (by omega)) _).trans q9
  have ghp16 := hp16.2
  refine lv_istore_n (lv' := [(3, .int (xJ x14)), (0, .ref (h0 + 268)), (1, .int (xJ j)), (2, .int (xJ t))]) hx hb dX11_fallsOf_20 rfl hl (by decide) rfl (fun ls hl => ?_)
  refine x_aload_n hx hb hl 1 rfl dX11_fallsOf_21 rfl ?_
  refine x_aload_n hx hb hl 1 rfl dX11_fallsOf_22 rfl ?_
  refine x_get (j := 0) (v := .ref (h0 + 269)) hx hb hown hT hE hW cls_X11 (Or.inl (by decide)) (so_268 h0 g _) (by decide) rfl wq1185 dX11_fallsOf_23 ?_
  refine x_iconst hx hb dX11_fallsOf_26 ?_
  refine x_iload_n hx hb hl 2 rfl dX11_fallsOf_27 rfl ?_
  refine x_iadd hx hb dX11_fallsOf_28 ?_
  refine x_iald hx hb hE hW (Or.inl (by decide)) (sa_269 h0 g _) (by omega) (by decide) dX11_fallsOf_29 ?_
  refine x_rd hW (fun x20 ex20 rx20 => ?_)
  have bx20 : 0 ≤ x20 ∧ x20 ≤ 99 := by rw [ex20]; exact (IMn.n1 hp16.1.1).1 _ (by omega) (by omega)
  refine x_iload_n hx hb hl 0 rfl dX11_fallsOf_30 rfl ?_
  refine x_aload_n hx hb hl 1 rfl dX11_fallsOf_31 rfl ?_
  refine x_bipush hx hb dX11_fallsOf_32 (by decide) ?_
  refine x_bipush hx hb dX11_fallsOf_34 (by decide) ?_
  refine x_goi (x_runV (As := [.int (xJ 108), .int (xJ 9)]) hx hb hml hown hT hE hW hl.1 (Or.inl (by decide)) (so_268 h0 g _) rfl cf_X11_byLaw wq1577 wq137 wq1575 (c_X11_byLaw l D g T h0 s15 hW.2.1 108 (by decide) 9 (by decide) hp16.1.1 hp16.1.2.1 hp16.1.2.2.1) ⟨rfl, rfl, ⟨by decide, by decide⟩, ⟨by decide, by decide⟩⟩ rfl rfl (Nat.le_of_ble_eq_true rfl) dX11_fallsOf_36) hW (fun x21 s22 H locs rx21 hp23 hW => ?_)
  obtain ⟨fs22, hp23⟩ := hp23
  have hF24 := hF17.call fs22 (fun k h => by omega)
  have q25 : s22 268 8 = s0 268 8 := (congrFun (fs22 _ (by omega)) _).trans q18
  have q26 : s22 268 58 = s0 268 58 := (congrFun (fs22 _ (by omega)) _).trans q19
  have ghp23 := hp23.2
  refine x_gov (x_runV (As := [.int (xJ x20), .int (xJ x14), .int (xJ x21)]) hx hb hml hown hT hE hW hl.1 (Or.inl (by decide)) (so_268 h0 g _) rfl cf_X11_falls wq1600 wq142 wq1598 (c_X11_falls l D g T h0 s22 hW.2.1 x20 rx20 x14 rx14 x21 rx21 (by omega) hp23.1.1 hp23.1.2.1 hp23.1.2.2.1) ⟨rfl, rfl, ⟨by decide, by decide⟩, ⟨by decide, by decide⟩⟩ rfl rfl (Nat.le_of_ble_eq_true rfl) dX11_fallsOf_39) hW (fun s28 H locs hp29 hW => ?_)
  obtain ⟨fs28, hp29⟩ := hp29
  have hF30 := hF24.call fs28 (fun k h => by omega)
  have q31 : s28 268 8 = s0 268 8 := (congrFun (fs28 _ (by omega)) _).trans q25
  have q32 : s28 268 58 = s0 268 58 := (congrFun (fs28 _ (by omega)) _).trans q26
  have ghp29 := hp29.2
  rw [eQ]
  exact x_vret hx hb hr hlk hW ⟨hF30, ⟨hp29.1.1, hp29.1.2.1, hp29.1.2.2.1, trivial⟩, trivial⟩ dX11_fallsOf_42

