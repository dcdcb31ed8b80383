/-! ===== the model: more of what holds ===== -/
def IMo (σ : xS) : Prop := (∀ j : Int, 0 ≤ j → j < 10 → 0 ≤ σ 297 j ∧ σ 297 j ≤ 9) ∧ ∀ j : Int, 0 ≤ j → j < 8 → 0 ≤ σ 306 j ∧ σ 306 j ≤ 7
def suIMo (k : Nat) : Prop := k = 297 ∨ k = 306
theorem IMo.a {σ : xS} (h : IMo σ) : ∀ j : Int, 0 ≤ j → j < 10 → 0 ≤ σ 297 j ∧ σ 297 j ≤ 9 := h.1
theorem IMo.b {σ : xS} (h : IMo σ) : ∀ j : Int, 0 ≤ j → j < 8 → 0 ≤ σ 306 j ∧ σ 306 j ≤ 7 := h.2
theorem IMo_f {σ τ : xS} (e : ∀ k, suIMo k → τ k = σ k) (h : IMo σ) : IMo τ := by
  unfold suIMo at e
  unfold IMo
  rw [e 297 (by decide), e 306 (by decide)]
  exact h
theorem IMo_o {σ : xS} {k : Nat} {j v : Int} (hk : ¬ suIMo k) (h : IMo σ) : IMo (xU σ k j v) := IMo_f (fun k2 h2 => xU_k σ j v (fun q => hk (q ▸ h2))) h
theorem IMo_297 {σ : xS} {j v : Int} (h : IMo σ) (c : 0 ≤ v ∧ v ≤ 9) : IMo (xU σ 297 j v) := by
  refine ⟨fun j2 a b => xU_v (fun z => 0 ≤ z ∧ z ≤ 9) (fun _ => c) (h.a j2 a b), ?_⟩
  rw [xU_k σ j v (by decide)]; exact h.b
theorem IMo_306 {σ : xS} {j v : Int} (h : IMo σ) (c : 0 ≤ v ∧ v ≤ 7) : IMo (xU σ 306 j v) := by
  refine ⟨?_, fun j2 a b => xU_v (fun z => 0 ≤ z ∧ z ≤ 7) (fun _ => c) (h.b j2 a b)⟩
  rw [xU_k σ j v (by decide)]; exact h.a
/-- the reader stands in its text -/
def IR (σ : xS) : Prop := 0 ≤ σ 268 9 ∧ σ 268 9 ≤ σ 268 10 ∧ σ 268 10 ≤ 240
def suIR (k : Nat) : Prop := k = 268
theorem IR_f {σ τ : xS} (e : ∀ k, suIR k → τ k = σ k) (h : IR σ) : IR τ := by unfold IR; rw [e 268 rfl]; exact h
theorem IR_o {σ : xS} {k : Nat} {j v : Int} (hk : ¬ suIR k) (h : IR σ) : IR (xU σ k j v) := IR_f (fun k2 h2 => xU_k σ j v (fun q => hk (q ▸ h2))) h
theorem IR_268 {σ : xS} {j v : Int} (h : IR σ) (c : (j ≠ 9 ∨ (0 ≤ v ∧ v ≤ σ 268 10)) ∧ j ≠ 10) : IR (xU σ 268 j v) := by
  unfold IR
  rw [xU_j σ v (Ne.symm c.2), xU_i]
  refine ⟨?_, ?_, h.2.2⟩
  · split
    · omega
    · exact h.1
  · split
    · omega
    · exact h.2.1
theorem p2_lt {b : Int} (h : 0 ≤ b ∧ b ≤ 9) : 0 ≤ (2 : Int) ^ b.toNat ∧ (2 : Int) ^ b.toNat < 1024 := by
  rcases (by omega : b = 0 ∨ b = 1 ∨ b = 2 ∨ b = 3 ∨ b = 4 ∨ b = 5 ∨ b = 6 ∨ b = 7 ∨ b = 8 ∨ b = 9) with rfl | rfl | rfl | rfl | rfl | rfl | rfl | rfl | rfl | rfl <;> decide
theorem xJ_tn {a : Int} (h : 0 ≤ a ∧ a < 2147483648) : (xJ a).toBitVec.toNat = a.toNat := by
  show (BitVec.ofInt 32 a).toNat = a.toNat
  rw [BitVec.toNat_ofInt]
  omega
theorem xJ_or10 {a b : Int} (ha : 0 ≤ a ∧ a < 1024) (hb : 0 ≤ b ∧ b < 1024) : xJ a ||| xJ b = xJ ((a.toNat ||| b.toNat : Nat) : Int) ∧ (a.toNat ||| b.toNat) < 1024 := by
  have h9 : (a.toNat ||| b.toNat) < 2 ^ 10 := Nat.or_lt_two_pow (by omega) (by omega)
  refine ⟨Int32.toBitVec_inj.mp (BitVec.eq_of_toNat_eq ?_), h9⟩
  rw [Int32.toBitVec_or, BitVec.toNat_or, xJ_tn (by omega), xJ_tn (by omega), xJ_tn (by omega)]
  rfl
theorem xJ_and255 {a : Int} (ha : xR a) : xJ a &&& xJ 255 = xJ (a % 256) := by
  refine Int32.toBitVec_inj.mp (BitVec.eq_of_toNat_eq ?_)
  rw [Int32.toBitVec_and, BitVec.toNat_and]
  have h1 : (xJ 255).toBitVec.toNat = 2 ^ 8 - 1 := by decide
  have h2 : (xJ a).toBitVec.toNat = (a % 4294967296).toNat := by
    show (BitVec.ofInt 32 a).toNat = _
    rw [BitVec.toNat_ofInt]
    rfl
  rw [h1, h2, Nat.and_two_pow_sub_one_eq_mod, xJ_tn (by omega)]
  omega
section X10
variable {p : Program} {l : Launch} {e : Env} {R : Room} {s : State} {m : MethodId} {args : Array Value} {below : List Frame} {meth : Method} {c : Code} {H : Heap} {locs : List Loc} {cells slots : Nat} {Q : State → Prop}
variable {cc : ByteArray} {pc : Nat} {ls : Array Slot} {rest st0 : List Value}
theorem x_ior10 (hx : p.tables.exec = Jvm.exec) (hb : c.code = cc) {a b : Int} (ha : 0 ≤ a ∧ a < 1024) (hb1 : 0 ≤ b ∧ b < 1024) (hdg : decode cc pc = .ok (.ior, 1)) (k : ∀ v : Int, (0 ≤ v ∧ v < 1024) → W p l e R s m args below meth c H locs cells slots Q (F0 m (pc + 1) ls (.int (xJ v) :: rest))) : W p l e R s m args below meth c H locs cells slots Q (F0 m pc ls (.int (xJ b) :: .int (xJ a) :: rest)) := by
  have h9 := xJ_or10 ha hb1
  exact lv_ior hx hb hdg (by rw [h9.1]; exact k _ (by omega))
theorem x_and255 (hx : p.tables.exec = Jvm.exec) (hb : c.code = cc) {a : Int} (ha : xR a) (hdg : decode cc pc = .ok (.iand, 1)) (k : W p l e R s m args below meth c H locs cells slots Q (F0 m (pc + 1) ls (.int (xJ (a % 256)) :: rest))) : W p l e R s m args below meth c H locs cells slots Q (F0 m pc ls (.int (xJ 255) :: .int (xJ a) :: rest)) :=
  lv_iand hx hb hdg (by rw [xJ_and255 ha]; exact k)
end X10
set_option maxHeartbeats 4000000 in
set_option maxRecDepth 100000 in
theorem c_X11_in (l : Launch) (D : va_G) (g : xG) (T : Nat × Nat × Nat) (h0 : Nat) (s0 : xS) (hσ : xRR s0) (x : Int) (rx : xR x) (lo : Int) (rlo : xR lo) (hi : Int) (rhi : xR hi) : Met l yX11_in (xws yX11_in cX11_in 3 (some .boolean)) { frames := 0, cells := 0, slots := 0, locals := 0 } (xP [.int (xJ x), .int (xJ lo), .int (xJ hi)] D g T h0 s0) (xQi D g h0 (fun r τ => s0 = τ ∧ ((r = 1 ∧ lo ≤ x ∧ x ≤ hi) ∨ (r = 0 ∧ (x < lo ∨ hi < x))))) 0 0 (xA h0) := by
  refine x_met hσ (by decide) (Nat.le_of_ble_eq_true rfl) ?_
  intro p e s m args below meth c hx hb hr hml hown hT hlk hnm hE hW ls hl
  have hl : lv_has ls 3 [(0, .int (xJ x)), (1, .int (xJ lo)), (2, .int (xJ hi))] := hl
  obtain ⟨Q, eQ⟩ : ∃ Q, Q = MQ below (xQi D g h0 (fun r τ => s0 = τ ∧ ((r = 1 ∧ lo ≤ x ∧ x ≤ hi) ∨ (r = 0 ∧ (x < lo ∨ hi < x))))) args s 0 0 (xA h0) := ⟨_, rfl⟩
  rw [← eQ]
  generalize hHe : ([] : List Loc) = locs at hW ⊢
  obtain ⟨H, eH⟩ : ∃ H, H = s.heap := ⟨_, rfl⟩
  rw [← eH] at hW ⊢
  refine x_iload_n hx hb hl 0 rfl dX11_in_0 rfl ?_
  refine x_iload_n hx hb hl 1 rfl dX11_in_1 rfl ?_
  refine x_icmp_lt (tgt := 14) hx hb rx rlo dX11_in_2 (by decide) (fun c1 => ?_) (fun c1 => ?_)
  · skip
    refine x_iconst hx hb dX11_in_14 ?_
    rw [eQ]
    exact x_zret hx hb hr hlk hW (by omega) ⟨rfl, by omega⟩ dX11_in_15
  refine x_iload_n hx hb hl 0 rfl dX11_in_5 rfl ?_
  refine x_iload_n hx hb hl 2 rfl dX11_in_6 rfl ?_
  refine x_icmp_gt (tgt := 14) hx hb rx rhi dX11_in_7 (by decide) (fun c2 => ?_) (fun c2 => ?_)
  · skip
    refine x_iconst hx hb dX11_in_14 ?_
    rw [eQ]
    exact x_zret hx hb hr hlk hW (by omega) ⟨rfl, by omega⟩ dX11_in_15
  refine x_iconst hx hb dX11_in_10 ?_
  refine lv_goto (tgt := 15) hx hb dX11_in_11 (by decide) ?_
  rw [eQ]
  exact x_zret hx hb hr hlk hW (by omega) ⟨rfl, by omega⟩ dX11_in_15
set_option maxHeartbeats 4000000 in
set_option maxRecDepth 100000 in
theorem c_X11_max (l : Launch) (D : va_G) (g : xG) (T : Nat × Nat × Nat) (h0 : Nat) (s0 : xS) (hσ : xRR s0) (a : Int) (ra : xR a) (b : Int) (rb : xR b) : Met l yX11_max (xws yX11_max cX11_max 2 (some .int)) { frames := 0, cells := 0, slots := 0, locals := 0 } (xP [.int (xJ a), .int (xJ b)] D g T h0 s0) (xQi D g h0 (fun r τ => s0 = τ ∧ ((r = a ∧ b < a) ∨ (r = b ∧ a ≤ b)))) 0 0 (xA h0) := by
  refine x_met hσ (by decide) (Nat.le_of_ble_eq_true rfl) ?_
  intro p e s m args below meth c hx hb hr hml hown hT hlk hnm hE hW ls hl
  have hl : lv_has ls 2 [(0, .int (xJ a)), (1, .int (xJ b))] := hl
  obtain ⟨Q, eQ⟩ : ∃ Q, Q = MQ below (xQi D g h0 (fun r τ => s0 = τ ∧ ((r = a ∧ b < a) ∨ (r = b ∧ a ≤ b)))) args s 0 0 (xA h0) := ⟨_, rfl⟩
  rw [← eQ]
  generalize hHe : ([] : List Loc) = locs at hW ⊢
  obtain ⟨H, eH⟩ : ∃ H, H = s.heap := ⟨_, rfl⟩
  rw [← eH] at hW ⊢
  refine x_iload_n hx hb hl 0 rfl dX11_max_0 rfl ?_
  refine x_iload_n hx hb hl 1 rfl dX11_max_1 rfl ?_
  refine x_icmp_le (tgt := 9) hx hb ra rb dX11_max_2 (by decide) (fun c1 => ?_) (fun c1 => ?_)
  · skip
    refine x_iload_n hx hb hl 1 rfl dX11_max_9 rfl ?_
    rw [eQ]
    exact x_iret hx hb hr hlk hW rb ⟨rfl, by omega⟩ dX11_max_10
  refine x_iload_n hx hb hl 0 rfl dX11_max_5 rfl ?_
  refine lv_goto (tgt := 10) hx hb dX11_max_6 (by decide) ?_
  rw [eQ]
  exact x_iret hx hb hr hlk hW ra ⟨rfl, by omega⟩ dX11_max_10
set_option maxHeartbeats 4000000 in
set_option maxRecDepth 100000 in
theorem c_X11_min (l : Launch) (D : va_G) (g : xG) (T : Nat × Nat × Nat) (h0 : Nat) (s0 : xS) (hσ : xRR s0) (a : Int) (ra : xR a) (b : Int) (rb : xR b) : Met l yX11_min (xws yX11_min cX11_min 2 (some .int)) { frames := 0, cells := 0, slots := 0, locals := 0 } (xP [.int (xJ a), .int (xJ b)] D g T h0 s0) (xQi D g h0 (fun r τ => s0 = τ ∧ ((r = a ∧ a < b) ∨ (r = b ∧ b ≤ a)))) 0 0 (xA h0) := by
  refine x_met hσ (by decide) (Nat.le_of_ble_eq_true rfl) ?_
  intro p e s m args below meth c hx hb hr hml hown hT hlk hnm hE hW ls hl
  have hl : lv_has ls 2 [(0, .int (xJ a)), (1, .int (xJ b))] := hl
  obtain ⟨Q, eQ⟩ : ∃ Q, Q = MQ below (xQi D g h0 (fun r τ => s0 = τ ∧ ((r = a ∧ a < b) ∨ (r = b ∧ b ≤ a)))) args s 0 0 (xA h0) := ⟨_, rfl⟩
  rw [← eQ]
  generalize hHe : ([] : List Loc) = locs at hW ⊢
  obtain ⟨H, eH⟩ : ∃ H, H = s.heap := ⟨_, rfl⟩
  rw [← eH] at hW ⊢
  refine x_iload_n hx hb hl 0 rfl dX11_min_0 rfl ?_
  refine x_iload_n hx hb hl 1 rfl dX11_min_1 rfl ?_
  refine x_icmp_ge (tgt := 9) hx hb ra rb dX11_min_2 (by decide) (fun c1 => ?_) (fun c1 => ?_)
  · skip
    refine x_iload_n hx hb hl 1 rfl dX11_min_9 rfl ?_
    rw [eQ]
    exact x_iret hx hb hr hlk hW rb ⟨rfl, by omega⟩ dX11_min_10
  refine x_iload_n hx hb hl 0 rfl dX11_min_5 rfl ?_
  refine lv_goto (tgt := 10) hx hb dX11_min_6 (by decide) ?_
  rw [eQ]
  exact x_iret hx hb hr hlk hW ra ⟨rfl, by omega⟩ dX11_min_10
set_option maxHeartbeats 4000000 in
set_option maxRecDepth 100000 in
theorem c_X11_has (l : Launch) (D : va_G) (g : xG) (T : Nat × Nat × Nat) (h0 : Nat) (s0 : xS) (hσ : xRR s0) (a : Int) (ra : xR a) (q : Int) (rq : xR q) : Met l yX11_has (xws yX11_has cX11_has 2 (some .boolean)) { frames := 0, cells := 0, slots := 0, locals := 0 } (xP [.int (xJ a), .int (xJ q)] D g T h0 s0) (xQi D g h0 (fun r τ => s0 = τ ∧ ((r = 0 ∨ r = 1) ∧ (0 ≤ q ∧ q ≤ 24 → r = xsh a q % 2)))) 0 0 (xA h0) := by
  refine x_met hσ (by decide) (Nat.le_of_ble_eq_true rfl) ?_
  intro p e s m args below meth c hx hb hr hml hown hT hlk hnm hE hW ls hl
  have hl : lv_has ls 2 [(0, .int (xJ a)), (1, .int (xJ q))] := hl
  obtain ⟨Q, eQ⟩ : ∃ Q, Q = MQ below (xQi D g h0 (fun r τ => s0 = τ ∧ ((r = 0 ∨ r = 1) ∧ (0 ≤ q ∧ q ≤ 24 → r = xsh a q % 2)))) args s 0 0 (xA h0) := ⟨_, rfl⟩
  rw [← eQ]
  generalize hHe : ([] : List Loc) = locs at hW ⊢
  obtain ⟨H, eH⟩ : ∃ H, H = s.heap := ⟨_, rfl⟩
  rw [← eH] at hW ⊢
  refine x_iload_n hx hb hl 0 rfl dX11_has_0 rfl ?_
  refine x_iload_n hx hb hl 1 rfl dX11_has_1 rfl ?_
  refine x_shrQ hx hb ra dX11_has_2 (fun x1 ex1 rx1 => ?_)
  refine x_iconst hx hb dX11_has_3 ?_
  refine x_and1 hx hb rx1 dX11_has_4 ?_
  refine x_nm (fun x2 ex2 => ?_)
  refine x_iconst hx hb dX11_has_5 ?_
  refine x_icmp_ne (tgt := 13) hx hb (by omega) (by decide) dX11_has_6 (by decide) (fun c3 => ?_) (fun c3 => ?_)
  · skip
    refine x_iconst hx hb dX11_has_13 ?_
    rw [eQ]
    exact x_zret hx hb hr hlk hW (by omega) ⟨rfl, by omega⟩ dX11_has_14
  refine x_iconst hx hb dX11_has_9 ?_
  refine lv_goto (tgt := 14) hx hb dX11_has_10 (by decide) ?_
  rw [eQ]
  exact x_zret hx hb hr hlk hW (by omega) ⟨rfl, by omega⟩ dX11_has_14
set_option maxHeartbeats 4000000 in
set_option maxRecDepth 100000 in
theorem c_X11_bits (l : Launch) (D : va_G) (g : xG) (T : Nat × Nat × Nat) (h0 : Nat) (s0 : xS) (hσ : xRR s0) (a : Int) (ra : xR a) : Met l yX11_bits (xws yX11_bits cX11_bits 3 (some .int)) { frames := 0, cells := 0, slots := 0, locals := 0 } (xP [.int (xJ a)] D g T h0 s0) (xQi D g h0 (fun r τ => s0 = τ ∧ (0 ≤ r ∧ r ≤ 10))) 0 0 (xA h0) := by
  refine x_met hσ (by decide) (Nat.le_of_ble_eq_true rfl) ?_
  intro p e s m args below meth c hx hb hr hml hown hT hlk hnm hE hW ls hl
  have hl : lv_has ls 3 [(0, .int (xJ a))] := hl
  obtain ⟨Q, eQ⟩ : ∃ Q, Q = MQ below (xQi D g h0 (fun r τ => s0 = τ ∧ (0 ≤ r ∧ r ≤ 10))) args s 0 0 (xA h0) := ⟨_, rfl⟩
  rw [← eQ]
  generalize hHe : ([] : List Loc) = locs at hW ⊢
  obtain ⟨H, eH⟩ : ∃ H, H = s.heap := ⟨_, rfl⟩
  rw [← eH] at hW ⊢
  refine x_iconst hx hb dX11_bits_0 ?_
  refine lv_istore_n (lv' := [(1, .int (xJ 0)), (0, .int (xJ a))]) hx hb dX11_bits_1 rfl hl (by decide) rfl (fun ls hl => ?_)
  refine x_iconst hx hb dX11_bits_2 ?_
  refine lv_istore_n (lv' := [(2, .int (xJ 0)), (1, .int (xJ 0)), (0, .int (xJ a))]) hx hb dX11_bits_3 rfl hl (by decide) rfl (fun ls hl => ?_)
  have L4 : ∀ (fu : Nat) (i1_4 : Int) (i2_4 : Int) (ls : Array Slot), (xR i1_4) → (xR i2_4) → (0 ≤ i2_4) → (i2_4 ≤ 10) → (0 ≤ i1_4 ∧ i1_4 ≤ i2_4) → (10 + 1 - i2_4).toNat < fu → lv_has ls 3 [(0, .int (xJ a)), (1, .int (xJ i1_4)), (2, .int (xJ i2_4))] → W p l e { frames := 0, cells := 0, slots := 0, locals := 0 } s m args below meth c H locs 0 0 Q (F0 m 4 ls []) := by
    intro fu
    induction fu with
    | zero => intro i1_4 i2_4 ls ri1_4 ri2_4 v4_0 v4_1 v4_2 hm; exact absurd hm (Nat.not_lt_zero _)
    | succ fu ih4 =>
      intro i1_4 i2_4 ls ri1_4 ri2_4 v4_0 v4_1 v4_2 hm  hl
      refine x_iload_n hx hb hl 2 rfl dX11_bits_4 rfl ?_
      refine x_bipush hx hb dX11_bits_5 (by decide) ?_
      refine x_icmp_ge (tgt := 24) hx hb ri2_4 (by decide) dX11_bits_7 (by decide) (fun c1 => ?_) (fun c1 => ?_)
      · skip
        refine x_iload_n hx hb hl 1 rfl dX11_bits_24 rfl ?_
        rw [eQ]
        exact x_iret hx hb hr hlk hW ri1_4 ⟨rfl, by omega⟩ dX11_bits_25
      refine x_iload_n hx hb hl 1 rfl dX11_bits_10 rfl ?_
      refine x_iload_n hx hb hl 0 rfl dX11_bits_11 rfl ?_
      refine x_iload_n hx hb hl 2 rfl dX11_bits_12 rfl ?_
      refine lv_ishr hx hb dX11_bits_13 ?_
      refine x_any (fun x2 rx2 => ?_)
      refine x_iconst hx hb dX11_bits_14 ?_
      refine lv_iand hx hb dX11_bits_15 ?_
      refine x_andM1 (fun x3 rx3 qx3 => ?_)
      refine x_iadd hx hb dX11_bits_16 ?_
      refine x_nm (fun x4 ex4 => ?_)
      refine lv_istore_n (lv' := [(1, .int (xJ x4)), (0, .int (xJ a)), (2, .int (xJ i2_4))]) hx hb dX11_bits_17 rfl hl (by decide) rfl (fun ls hl => ?_)
      refine x_iinc (lv' := [(2, .int (xJ (i2_4 + 1))), (1, .int (xJ x4)), (0, .int (xJ a))]) hx hb hl 2 rfl dX11_bits_18 (by decide) rfl (fun ls hl => ?_)
      refine lv_goto (tgt := 4) hx hb dX11_bits_21 (by decide) ?_
      exact ih4 x4 (i2_4 + 1) ls (by omega) (by omega) (by omega) (by omega) (by omega) (by omega)  (lv_sub hl [2, 1, 0] rfl)
  exact L4 ((10 + 1 - 0 : Int).toNat + 1) 0 0 ls (by decide) (by decide) (by omega) (by omega) (by omega) (Nat.lt_succ_self _)  (lv_sub hl [2, 1, 0] rfl)
set_option maxHeartbeats 4000000 in
set_option maxRecDepth 100000 in
theorem c_X11_isFive (l : Launch) (D : va_G) (g : xG) (T : Nat × Nat × Nat) (h0 : Nat) (s0 : xS) (hσ : xRR s0) (x : Int) (rx : xR x) (q : Int) (rq : xR q) : Met l yX11_isFive (xws yX11_isFive cX11_isFive 2 (some .boolean)) { frames := 0, cells := 0, slots := 0, locals := 0 } (xP [.int (xJ x), .int (xJ q)] D g T h0 s0) (xQi D g h0 (fun r τ => s0 = τ ∧ ((r = 1 ∧ 0 ≤ x ∧ x < q) ∨ (r = 0 ∧ (x < 0 ∨ q ≤ x))))) 0 0 (xA h0) := by
  refine x_met hσ (by decide) (Nat.le_of_ble_eq_true rfl) ?_
  intro p e s m args below meth c hx hb hr hml hown hT hlk hnm hE hW ls hl
  have hl : lv_has ls 2 [(0, .int (xJ x)), (1, .int (xJ q))] := hl
  obtain ⟨Q, eQ⟩ : ∃ Q, Q = MQ below (xQi D g h0 (fun r τ => s0 = τ ∧ ((r = 1 ∧ 0 ≤ x ∧ x < q) ∨ (r = 0 ∧ (x < 0 ∨ q ≤ x))))) args s 0 0 (xA h0) := ⟨_, rfl⟩
  rw [← eQ]
  generalize hHe : ([] : List Loc) = locs at hW ⊢
  obtain ⟨H, eH⟩ : ∃ H, H = s.heap := ⟨_, rfl⟩
  rw [← eH] at hW ⊢
  refine x_iload_n hx hb hl 0 rfl dX11_isFive_0 rfl ?_
  refine x_if_lt (tgt := 13) hx hb rx dX11_isFive_1 (by decide) (fun c1 => ?_) (fun c1 => ?_)
  · skip
    refine x_iconst hx hb dX11_isFive_13 ?_
    rw [eQ]
    exact x_zret hx hb hr hlk hW (by omega) ⟨rfl, by omega⟩ dX11_isFive_14
  refine x_iload_n hx hb hl 0 rfl dX11_isFive_4 rfl ?_
  refine x_iload_n hx hb hl 1 rfl dX11_isFive_5 rfl ?_
  refine x_icmp_ge (tgt := 13) hx hb rx rq dX11_isFive_6 (by decide) (fun c2 => ?_) (fun c2 => ?_)
  · skip
    refine x_iconst hx hb dX11_isFive_13 ?_
    rw [eQ]
    exact x_zret hx hb hr hlk hW (by omega) ⟨rfl, by omega⟩ dX11_isFive_14
  refine x_iconst hx hb dX11_isFive_9 ?_
  refine lv_goto (tgt := 14) hx hb dX11_isFive_10 (by decide) ?_
  rw [eQ]
  exact x_zret hx hb hr hlk hW (by omega) ⟨rfl, by omega⟩ dX11_isFive_14
set_option maxHeartbeats 4000000 in
set_option maxRecDepth 100000 in
theorem c_X11_isJudge (l : Launch) (D : va_G) (g : xG) (T : Nat × Nat × Nat) (h0 : Nat) (s0 : xS) (hσ : xRR s0) (j : Int) (rj : xR j) (p0 : IMn s0) (p1 : IMk s0) (p2 : IMo s0) : Met l yX11_isJudge (xws yX11_isJudge cX11_isJudge 2 (some .boolean)) { frames := 1, cells := 0, slots := 0, locals := 21 } (xP [.ref (h0 + 268), .int (xJ j)] D g T h0 s0) (xQi D g h0 (fun r τ => s0 = τ ∧ (r = 0 ∨ (r = 1 ∧ 0 ≤ j ∧ j < 2)))) 0 0 (xA h0) := by
  refine x_met hσ (by decide) (Nat.le_of_ble_eq_true rfl) ?_
  intro p e s m args below meth c hx hb hr hml hown hT hlk hnm hE hW ls hl
  have hl : lv_has ls 2 [(0, .ref (h0 + 268)), (1, .int (xJ j))] := hl
  obtain ⟨Q, eQ⟩ : ∃ Q, Q = MQ below (xQi D g h0 (fun r τ => s0 = τ ∧ (r = 0 ∨ (r = 1 ∧ 0 ≤ j ∧ j < 2)))) args s 0 0 (xA h0) := ⟨_, rfl⟩
  rw [← eQ]
  generalize hHe : ([] : List Loc) = locs at hW ⊢
  obtain ⟨H, eH⟩ : ∃ H, H = s.heap := ⟨_, rfl⟩
  rw [← eH] at hW ⊢
  have k268_8 : s0 268 8 = s0 268 8 := rfl
  have k268_58 : s0 268 58 = s0 268 58 := rfl
  refine x_iload_n hx hb hl 1 rfl dX11_isJudge_0 rfl ?_
  refine x_iconst hx hb dX11_isJudge_1 ?_
  refine x_goi (x_runS (As := [.int (xJ j), .int (xJ 2)]) hx hb hml hown hT hE hW hl.1 cf_X11_isFive wq1412 wq1411 (c_X11_isFive l D g T h0 s0 hW.2.1 j rj 2 (by decide)) ⟨rfl, rfl, ⟨by decide, by decide⟩, ⟨by decide, by decide⟩⟩ rfl rfl (Nat.le_of_ble_eq_true rfl) dX11_isJudge_2) hW (fun x1 s2 H locs rx1 hp3 hW => ?_)
  obtain ⟨es2, hp3⟩ := hp3
  subst es2
  have ghp3 := hp3
  refine x_if_eq (tgt := 26) hx hb rx1 dX11_isJudge_5 (by decide) (fun c4 => ?_) (fun c4 => ?_)
  · skip
    refine x_iconst hx hb dX11_isJudge_26 ?_
    rw [eQ]
    exact x_zret hx hb hr hlk hW (by omega) ⟨rfl, by omega⟩ dX11_isJudge_27
  refine x_aload_n hx hb hl 0 rfl dX11_isJudge_8 rfl ?_
  refine x_get (j := 0) (v := .ref (h0 + 269)) hx hb hown hT hE hW cls_X11 (Or.inl (by decide)) (so_268 h0 g _) (by decide) rfl wq1185 dX11_isJudge_9 ?_
  refine x_bipush hx hb dX11_isJudge_12 (by decide) ?_
  refine x_iald hx hb hE hW (Or.inl (by decide)) (sa_269 h0 g _) ⟨by decide, by decide⟩ (by decide) dX11_isJudge_14 ?_
  refine x_rd hW (fun x5 ex5 rx5 => ?_)
  refine x_iload_n hx hb hl 1 rfl dX11_isJudge_15 rfl ?_
  refine x_goi (x_runS (As := [.int (xJ x5), .int (xJ j)]) hx hb hml hown hT hE hW hl.1 cf_X11_has wq1415 wq1414 (c_X11_has l D g T h0 s0 hW.2.1 x5 rx5 j rj) ⟨rfl, rfl, ⟨by decide, by decide⟩, ⟨by decide, by decide⟩⟩ rfl rfl (Nat.le_of_ble_eq_true rfl) dX11_isJudge_16) hW (fun x6 s7 H locs rx6 hp8 hW => ?_)
  obtain ⟨es7, hp8⟩ := hp8
  subst es7
  have ghp8 := hp8
  refine x_if_eq (tgt := 26) hx hb rx6 dX11_isJudge_19 (by decide) (fun c9 => ?_) (fun c9 => ?_)
  · skip
    refine x_iconst hx hb dX11_isJudge_26 ?_
    rw [eQ]
    exact x_zret hx hb hr hlk hW (by omega) ⟨rfl, by omega⟩ dX11_isJudge_27
  refine x_iconst hx hb dX11_isJudge_22 ?_
  refine lv_goto (tgt := 27) hx hb dX11_isJudge_23 (by decide) ?_
  rw [eQ]
  exact x_zret hx hb hr hlk hW (by omega) ⟨rfl, by omega⟩ dX11_isJudge_27
set_option maxHeartbeats 4000000 in
set_option maxRecDepth 100000 in
theorem c_X11_isFelon (l : Launch) (D : va_G) (g : xG) (T : Nat × Nat × Nat) (h0 : Nat) (s0 : xS) (hσ : xRR s0) (f : Int) (rf : xR f) (p0 : IMn s0) (p1 : IMk s0) (p2 : IMo s0) : Met l yX11_isFelon (xws yX11_isFelon cX11_isFelon 2 (some .boolean)) { frames := 1, cells := 0, slots := 0, locals := 21 } (xP [.ref (h0 + 268), .int (xJ f)] D g T h0 s0) (xQi D g h0 (fun r τ => s0 = τ ∧ (r = 0 ∨ (r = 1 ∧ 0 ≤ f ∧ f < 10)))) 0 0 (xA h0) := by
  refine x_met hσ (by decide) (Nat.le_of_ble_eq_true rfl) ?_
  intro p e s m args below meth c hx hb hr hml hown hT hlk hnm hE hW ls hl
  have hl : lv_has ls 2 [(0, .ref (h0 + 268)), (1, .int (xJ f))] := hl
  obtain ⟨Q, eQ⟩ : ∃ Q, Q = MQ below (xQi D g h0 (fun r τ => s0 = τ ∧ (r = 0 ∨ (r = 1 ∧ 0 ≤ f ∧ f < 10)))) args s 0 0 (xA h0) := ⟨_, rfl⟩
  rw [← eQ]
  generalize hHe : ([] : List Loc) = locs at hW ⊢
  obtain ⟨H, eH⟩ : ∃ H, H = s.heap := ⟨_, rfl⟩
  rw [← eH] at hW ⊢
  have k268_8 : s0 268 8 = s0 268 8 := rfl
  have k268_58 : s0 268 58 = s0 268 58 := rfl
  refine x_iload_n hx hb hl 1 rfl dX11_isFelon_0 rfl ?_
  refine x_bipush hx hb dX11_isFelon_1 (by decide) ?_
  refine x_goi (x_runS (As := [.int (xJ f), .int (xJ 10)]) hx hb hml hown hT hE hW hl.1 cf_X11_isFive wq1412 wq1411 (c_X11_isFive l D g T h0 s0 hW.2.1 f rf 10 (by decide)) ⟨rfl, rfl, ⟨by decide, by decide⟩, ⟨by decide, by decide⟩⟩ rfl rfl (Nat.le_of_ble_eq_true rfl) dX11_isFelon_3) hW (fun x1 s2 H locs rx1 hp3 hW => ?_)
  obtain ⟨es2, hp3⟩ := hp3
  subst es2
  have ghp3 := hp3
  refine x_if_eq (tgt := 27) hx hb rx1 dX11_isFelon_6 (by decide) (fun c4 => ?_) (fun c4 => ?_)
  · skip
    refine x_iconst hx hb dX11_isFelon_27 ?_
    rw [eQ]
    exact x_zret hx hb hr hlk hW (by omega) ⟨rfl, by omega⟩ dX11_isFelon_28
  refine x_aload_n hx hb hl 0 rfl dX11_isFelon_9 rfl ?_
  refine x_get (j := 0) (v := .ref (h0 + 269)) hx hb hown hT hE hW cls_X11 (Or.inl (by decide)) (so_268 h0 g _) (by decide) rfl wq1185 dX11_isFelon_10 ?_
  refine x_bipush hx hb dX11_isFelon_13 (by decide) ?_
  refine x_iald hx hb hE hW (Or.inl (by decide)) (sa_269 h0 g _) ⟨by decide, by decide⟩ (by decide) dX11_isFelon_15 ?_
  refine x_rd hW (fun x5 ex5 rx5 => ?_)
  refine x_iload_n hx hb hl 1 rfl dX11_isFelon_16 rfl ?_
  refine x_goi (x_runS (As := [.int (xJ x5), .int (xJ f)]) hx hb hml hown hT hE hW hl.1 cf_X11_has wq1415 wq1414 (c_X11_has l D g T h0 s0 hW.2.1 x5 rx5 f rf) ⟨rfl, rfl, ⟨by decide, by decide⟩, ⟨by decide, by decide⟩⟩ rfl rfl (Nat.le_of_ble_eq_true rfl) dX11_isFelon_17) hW (fun x6 s7 H locs rx6 hp8 hW => ?_)
  obtain ⟨es7, hp8⟩ := hp8
  subst es7
  have ghp8 := hp8
  refine x_if_eq (tgt := 27) hx hb rx6 dX11_isFelon_20 (by decide) (fun c9 => ?_) (fun c9 => ?_)
  · skip
    refine x_iconst hx hb dX11_isFelon_27 ?_
    rw [eQ]
    exact x_zret hx hb hr hlk hW (by omega) ⟨rfl, by omega⟩ dX11_isFelon_28
  refine x_iconst hx hb dX11_isFelon_23 ?_
  refine lv_goto (tgt := 28) hx hb dX11_isFelon_24 (by decide) ?_
  rw [eQ]
  exact x_zret hx hb hr hlk hW (by omega) ⟨rfl, by omega⟩ dX11_isFelon_28
set_option maxHeartbeats 4000000 in
set_option maxRecDepth 100000 in
theorem c_X11_owes (l : Launch) (D : va_G) (g : xG) (T : Nat × Nat × Nat) (h0 : Nat) (s0 : xS) (hσ : xRR s0) (f : Int) (rf : xR f) (p0 : IMn s0) (p1 : IMk s0) (p2 : IMo s0) : Met l yX11_owes (xws yX11_owes cX11_owes 2 (some .boolean)) { frames := 2, cells := 0, slots := 0, locals := 42 } (xP [.ref (h0 + 268), .int (xJ f)] D g T h0 s0) (xQi D g h0 (fun r τ => s0 = τ ∧ (r = 0 ∨ (r = 1 ∧ 0 ≤ f ∧ f < 10)))) 0 0 (xA h0) := by
  refine x_met hσ (by decide) (Nat.le_of_ble_eq_true rfl) ?_
  intro p e s m args below meth c hx hb hr hml hown hT hlk hnm hE hW ls hl
  have hl : lv_has ls 2 [(0, .ref (h0 + 268)), (1, .int (xJ f))] := hl
  obtain ⟨Q, eQ⟩ : ∃ Q, Q = MQ below (xQi D g h0 (fun r τ => s0 = τ ∧ (r = 0 ∨ (r = 1 ∧ 0 ≤ f ∧ f < 10)))) args s 0 0 (xA h0) := ⟨_, rfl⟩
  rw [← eQ]
  generalize hHe : ([] : List Loc) = locs at hW ⊢
  obtain ⟨H, eH⟩ : ∃ H, H = s.heap := ⟨_, rfl⟩
  rw [← eH] at hW ⊢
  have k268_8 : s0 268 8 = s0 268 8 := rfl
  have k268_58 : s0 268 58 = s0 268 58 := rfl
  refine x_aload_n hx hb hl 0 rfl dX11_owes_0 rfl ?_
  refine x_iload_n hx hb hl 1 rfl dX11_owes_1 rfl ?_
  refine x_goi (x_runV (As := [.int (xJ f)]) hx hb hml hown hT hE hW hl.1 (Or.inl (by decide)) (so_268 h0 g _) rfl cf_X11_isFelon wq1423 wq111 wq1421 (c_X11_isFelon l D g T h0 s0 hW.2.1 f rf p0 p1 p2) ⟨rfl, rfl, ⟨by decide, by decide⟩, ⟨by decide, by decide⟩⟩ rfl rfl (Nat.le_of_ble_eq_true rfl) dX11_owes_2) hW (fun x1 s2 H locs rx1 hp3 hW => ?_)
  obtain ⟨es2, hp3⟩ := hp3
  subst es2
  have ghp3 := hp3
  refine x_if_eq (tgt := 38) hx hb rx1 dX11_owes_5 (by decide) (fun c4 => ?_) (fun c4 => ?_)
  · skip
    refine x_iconst hx hb dX11_owes_38 ?_
    rw [eQ]
    exact x_zret hx hb hr hlk hW (by omega) ⟨rfl, by omega⟩ dX11_owes_39
  refine x_aload_n hx hb hl 0 rfl dX11_owes_8 rfl ?_
  refine x_get (j := 0) (v := .ref (h0 + 269)) hx hb hown hT hE hW cls_X11 (Or.inl (by decide)) (so_268 h0 g _) (by decide) rfl wq1185 dX11_owes_9 ?_
  refine x_bipush hx hb dX11_owes_12 (by decide) ?_
  refine x_iload_n hx hb hl 1 rfl dX11_owes_14 rfl ?_
  refine x_iadd hx hb dX11_owes_15 ?_
  refine x_iald hx hb hE hW (Or.inl (by decide)) (sa_269 h0 g _) (by omega) (by decide) dX11_owes_16 ?_
  refine x_rd hW (fun x5 ex5 rx5 => ?_)
  refine x_if_le (tgt := 38) hx hb rx5 dX11_owes_17 (by decide) (fun c6 => ?_) (fun c6 => ?_)
  · skip
    refine x_iconst hx hb dX11_owes_38 ?_
    rw [eQ]
    exact x_zret hx hb hr hlk hW (by omega) ⟨rfl, by omega⟩ dX11_owes_39
  refine x_aload_n hx hb hl 0 rfl dX11_owes_20 rfl ?_
  refine x_get (j := 0) (v := .ref (h0 + 269)) hx hb hown hT hE hW cls_X11 (Or.inl (by decide)) (so_268 h0 g _) (by decide) rfl wq1185 dX11_owes_21 ?_
  refine x_bipush hx hb dX11_owes_24 (by decide) ?_
  refine x_iald hx hb hE hW (Or.inl (by decide)) (sa_269 h0 g _) ⟨by decide, by decide⟩ (by decide) dX11_owes_26 ?_
  refine x_rd hW (fun x7 ex7 rx7 => ?_)
  refine x_iload_n hx hb hl 1 rfl dX11_owes_27 rfl ?_
  refine x_goi (x_runS (As := [.int (xJ x7), .int (xJ f)]) hx hb hml hown hT hE hW hl.1 cf_X11_has wq1415 wq1414 (c_X11_has l D g T h0 s0 hW.2.1 x7 rx7 f rf) ⟨rfl, rfl, ⟨by decide, by decide⟩, ⟨by decide, by decide⟩⟩ rfl rfl (Nat.le_of_ble_eq_true rfl) dX11_owes_28) hW (fun x8 s9 H locs rx8 hp10 hW => ?_)
  obtain ⟨es9, hp10⟩ := hp10
  subst es9
  have ghp10 := hp10
  refine x_if_ne (tgt := 38) hx hb rx8 dX11_owes_31 (by decide) (fun c11 => ?_) (fun c11 => ?_)
  · skip
    refine x_iconst hx hb dX11_owes_38 ?_
    rw [eQ]
    exact x_zret hx hb hr hlk hW (by omega) ⟨rfl, by omega⟩ dX11_owes_39
  refine x_iconst hx hb dX11_owes_34 ?_
  refine lv_goto (tgt := 39) hx hb dX11_owes_35 (by decide) ?_
  rw [eQ]
  exact x_zret hx hb hr hlk hW (by omega) ⟨rfl, by omega⟩ dX11_owes_39
set_option maxHeartbeats 4000000 in
set_option maxRecDepth 100000 in
theorem c_X11_isOn (l : Launch) (D : va_G) (g : xG) (T : Nat × Nat × Nat) (h0 : Nat) (s0 : xS) (hσ : xRR s0) (x : Int) (rx : xR x) (y : Int) (ry : xR y) : Met l yX11_isOn (xws yX11_isOn cX11_isOn 2 (some .boolean)) { frames := 1, cells := 0, slots := 0, locals := 22 } (xP [.int (xJ x), .int (xJ y)] D g T h0 s0) (xQi D g h0 (fun r τ => s0 = τ ∧ ((r = 1 ∧ 0 ≤ x ∧ x < 10 ∧ 0 ≤ y ∧ y < 10) ∨ (r = 0 ∧ ¬ (0 ≤ x ∧ x < 10 ∧ 0 ≤ y ∧ y < 10))))) 0 0 (xA h0) := by
  refine x_met hσ (by decide) (Nat.le_of_ble_eq_true rfl) ?_
  intro p e s m args below meth c hx hb hr hml hown hT hlk hnm hE hW ls hl
  have hl : lv_has ls 2 [(0, .int (xJ x)), (1, .int (xJ y))] := hl
  obtain ⟨Q, eQ⟩ : ∃ Q, Q = MQ below (xQi D g h0 (fun r τ => s0 = τ ∧ ((r = 1 ∧ 0 ≤ x ∧ x < 10 ∧ 0 ≤ y ∧ y < 10) ∨ (r = 0 ∧ ¬ (0 ≤ x ∧ x < 10 ∧ 0 ≤ y ∧ y < 10))))) args s 0 0 (xA h0) := ⟨_, rfl⟩
  rw [← eQ]
  generalize hHe : ([] : List Loc) = locs at hW ⊢
  obtain ⟨H, eH⟩ : ∃ H, H = s.heap := ⟨_, rfl⟩
  rw [← eH] at hW ⊢
  refine x_iload_n hx hb hl 0 rfl dX11_isOn_0 rfl ?_
  refine x_iconst hx hb dX11_isOn_1 ?_
  refine x_bipush hx hb dX11_isOn_2 (by decide) ?_
  refine x_goi (x_runS (As := [.int (xJ x), .int (xJ 0), .int (xJ 9)]) hx hb hml hown hT hE hW hl.1 cf_X11_in wq1383 wq1382 (c_X11_in l D g T h0 s0 hW.2.1 x rx 0 (by decide) 9 (by decide)) ⟨rfl, rfl, ⟨by decide, by decide⟩, ⟨by decide, by decide⟩⟩ rfl rfl (Nat.le_of_ble_eq_true rfl) dX11_isOn_4) hW (fun x1 s2 H locs rx1 hp3 hW => ?_)
  obtain ⟨es2, hp3⟩ := hp3
  subst es2
  have ghp3 := hp3
  refine x_if_eq (tgt := 24) hx hb rx1 dX11_isOn_7 (by decide) (fun c4 => ?_) (fun c4 => ?_)
  · skip
    refine x_iconst hx hb dX11_isOn_24 ?_
    rw [eQ]
    exact x_zret hx hb hr hlk hW (by omega) ⟨rfl, by omega⟩ dX11_isOn_25
  refine x_iload_n hx hb hl 1 rfl dX11_isOn_10 rfl ?_
  refine x_iconst hx hb dX11_isOn_11 ?_
  refine x_bipush hx hb dX11_isOn_12 (by decide) ?_
  refine x_goi (x_runS (As := [.int (xJ y), .int (xJ 0), .int (xJ 9)]) hx hb hml hown hT hE hW hl.1 cf_X11_in wq1383 wq1382 (c_X11_in l D g T h0 s0 hW.2.1 y ry 0 (by decide) 9 (by decide)) ⟨rfl, rfl, ⟨by decide, by decide⟩, ⟨by decide, by decide⟩⟩ rfl rfl (Nat.le_of_ble_eq_true rfl) dX11_isOn_14) hW (fun x5 s6 H locs rx5 hp7 hW => ?_)
  obtain ⟨es6, hp7⟩ := hp7
  subst es6
  have ghp7 := hp7
  refine x_if_eq (tgt := 24) hx hb rx5 dX11_isOn_17 (by decide) (fun c8 => ?_) (fun c8 => ?_)
  · skip
    refine x_iconst hx hb dX11_isOn_24 ?_
    rw [eQ]
    exact x_zret hx hb hr hlk hW (by omega) ⟨rfl, by omega⟩ dX11_isOn_25
  refine x_iconst hx hb dX11_isOn_20 ?_
  refine lv_goto (tgt := 25) hx hb dX11_isOn_21 (by decide) ?_
  rw [eQ]
  exact x_zret hx hb hr hlk hW (by omega) ⟨rfl, by omega⟩ dX11_isOn_25
set_option maxHeartbeats 4000000 in
set_option maxRecDepth 100000 in
theorem c_X11_isGround (l : Launch) (D : va_G) (g : xG) (T : Nat × Nat × Nat) (h0 : Nat) (s0 : xS) (hσ : xRR s0) (x : Int) (rx : xR x) (hx0 : 0 ≤ x ∧ x ≤ 99) (p0 : IMn s0) (p1 : IMk s0) (p2 : IMo s0) : Met l yX11_isGround (xws yX11_isGround cX11_isGround 2 (some .boolean)) { frames := 0, cells := 0, slots := 0, locals := 0 } (xP [.ref (h0 + 268), .int (xJ x)] D g T h0 s0) (xQi D g h0 (fun r τ => s0 = τ ∧ (r = 0 ∨ r = 1))) 0 0 (xA h0) := by
  refine x_met hσ (by decide) (Nat.le_of_ble_eq_true rfl) ?_
  intro p e s m args below meth c hx hb hr hml hown hT hlk hnm hE hW ls hl
  have hl : lv_has ls 2 [(0, .ref (h0 + 268)), (1, .int (xJ x))] := hl
  obtain ⟨Q, eQ⟩ : ∃ Q, Q = MQ below (xQi D g h0 (fun r τ => s0 = τ ∧ (r = 0 ∨ r = 1))) args s 0 0 (xA h0) := ⟨_, rfl⟩
  rw [← eQ]
  generalize hHe : ([] : List Loc) = locs at hW ⊢
  obtain ⟨H, eH⟩ : ∃ H, H = s.heap := ⟨_, rfl⟩
  rw [← eH] at hW ⊢
  have k268_8 : s0 268 8 = s0 268 8 := rfl
  have k268_58 : s0 268 58 = s0 268 58 := rfl
  refine x_aload_n hx hb hl 0 rfl dX11_isGround_0 rfl ?_
  refine x_get (j := 3) (v := .ref (h0 + 272)) hx hb hown hT hE hW cls_X11 (Or.inl (by decide)) (so_268 h0 g _) (by decide) rfl wq1188 dX11_isGround_1 ?_
  refine x_iload_n hx hb hl 1 rfl dX11_isGround_4 rfl ?_
  refine x_iald hx hb hE hW (Or.inl (by decide)) (sa_272 h0 g _) (by omega) (by decide) dX11_isGround_5 ?_
  refine x_rd hW (fun x1 ex1 rx1 => ?_)
  refine x_if_eq (tgt := 19) hx hb rx1 dX11_isGround_6 (by decide) (fun c2 => ?_) (fun c2 => ?_)
  · skip
    refine x_iconst hx hb dX11_isGround_19 ?_
    refine lv_goto (tgt := 24) hx hb dX11_isGround_20 (by decide) ?_
    rw [eQ]
    exact x_zret hx hb hr hlk hW (by omega) ⟨rfl, by omega⟩ dX11_isGround_24
  refine x_aload_n hx hb hl 0 rfl dX11_isGround_9 rfl ?_
  refine x_get (j := 3) (v := .ref (h0 + 272)) hx hb hown hT hE hW cls_X11 (Or.inl (by decide)) (so_268 h0 g _) (by decide) rfl wq1188 dX11_isGround_10 ?_
  refine x_iload_n hx hb hl 1 rfl dX11_isGround_13 rfl ?_
  refine x_iald hx hb hE hW (Or.inl (by decide)) (sa_272 h0 g _) (by omega) (by decide) dX11_isGround_14 ?_
  refine x_rd hW (fun x3 ex3 rx3 => ?_)
  refine x_iconst hx hb dX11_isGround_15 ?_
  refine x_icmp_ne (tgt := 23) hx hb rx3 (by decide) dX11_isGround_16 (by decide) (fun c4 => ?_) (fun c4 => ?_)
  · skip
    refine x_iconst hx hb dX11_isGround_23 ?_
    rw [eQ]
    exact x_zret hx hb hr hlk hW (by omega) ⟨rfl, by omega⟩ dX11_isGround_24
  refine x_iconst hx hb dX11_isGround_19 ?_
  refine lv_goto (tgt := 24) hx hb dX11_isGround_20 (by decide) ?_
  rw [eQ]
  exact x_zret hx hb hr hlk hW (by omega) ⟨rfl, by omega⟩ dX11_isGround_24
set_option maxHeartbeats 4000000 in
set_option maxRecDepth 100000 in
theorem c_X11_wayX (l : Launch) (D : va_G) (g : xG) (T : Nat × Nat × Nat) (h0 : Nat) (s0 : xS) (hσ : xRR s0) (w : Int) (rw : xR w) : Met l yX11_wayX (xws yX11_wayX cX11_wayX 1 (some .int)) { frames := 0, cells := 0, slots := 0, locals := 0 } (xP [.int (xJ w)] D g T h0 s0) (xQi D g h0 (fun r τ => s0 = τ ∧ (-1 ≤ r ∧ r ≤ 1))) 0 0 (xA h0) := by
  refine x_met hσ (by decide) (Nat.le_of_ble_eq_true rfl) ?_
  intro p e s m args below meth c hx hb hr hml hown hT hlk hnm hE hW ls hl
  have hl : lv_has ls 1 [(0, .int (xJ w))] := hl
  obtain ⟨Q, eQ⟩ : ∃ Q, Q = MQ below (xQi D g h0 (fun r τ => s0 = τ ∧ (-1 ≤ r ∧ r ≤ 1))) args s 0 0 (xA h0) := ⟨_, rfl⟩
  rw [← eQ]
  generalize hHe : ([] : List Loc) = locs at hW ⊢
  obtain ⟨H, eH⟩ : ∃ H, H = s.heap := ⟨_, rfl⟩
  rw [← eH] at hW ⊢
  refine x_iload_n hx hb hl 0 rfl dX11_wayX_0 rfl ?_
  refine x_if_eq (tgt := 9) hx hb rw dX11_wayX_1 (by decide) (fun c1 => ?_) (fun c1 => ?_)
  · skip
    refine x_iconst hx hb dX11_wayX_9 ?_
    refine lv_goto (tgt := 23) hx hb dX11_wayX_10 (by decide) ?_
    rw [eQ]
    exact x_iret hx hb hr hlk hW (by decide) ⟨rfl, by omega⟩ dX11_wayX_23
  refine x_iload_n hx hb hl 0 rfl dX11_wayX_4 rfl ?_
  refine x_iconst hx hb dX11_wayX_5 ?_
  refine x_icmp_ne (tgt := 13) hx hb rw (by decide) dX11_wayX_6 (by decide) (fun c2 => ?_) (fun c2 => ?_)
  · skip
    refine x_iload_n hx hb hl 0 rfl dX11_wayX_13 rfl ?_
    refine x_iconst hx hb dX11_wayX_14 ?_
    refine x_icmp_ge (tgt := 22) hx hb rw (by decide) dX11_wayX_15 (by decide) (fun c3 => ?_) (fun c3 => ?_)
    · skip
      refine x_iconst hx hb dX11_wayX_22 ?_
      rw [eQ]
      exact x_iret hx hb hr hlk hW (by decide) ⟨rfl, by omega⟩ dX11_wayX_23
    refine x_iconst hx hb dX11_wayX_18 ?_
    refine lv_goto (tgt := 23) hx hb dX11_wayX_19 (by decide) ?_
    rw [eQ]
    exact x_iret hx hb hr hlk hW (by decide) ⟨rfl, by omega⟩ dX11_wayX_23
  refine x_iconst hx hb dX11_wayX_9 ?_
  refine lv_goto (tgt := 23) hx hb dX11_wayX_10 (by decide) ?_
  rw [eQ]
  exact x_iret hx hb hr hlk hW (by decide) ⟨rfl, by omega⟩ dX11_wayX_23
set_option maxHeartbeats 4000000 in
set_option maxRecDepth 100000 in
theorem c_X11_wayY (l : Launch) (D : va_G) (g : xG) (T : Nat × Nat × Nat) (h0 : Nat) (s0 : xS) (hσ : xRR s0) (w : Int) (rw : xR w) : Met l yX11_wayY (xws yX11_wayY cX11_wayY 1 (some .int)) { frames := 1, cells := 0, slots := 0, locals := 22 } (xP [.int (xJ w)] D g T h0 s0) (xQi D g h0 (fun r τ => s0 = τ ∧ (-1 ≤ r ∧ r ≤ 1))) 0 0 (xA h0) := by
  refine x_met hσ (by decide) (Nat.le_of_ble_eq_true rfl) ?_
  intro p e s m args below meth c hx hb hr hml hown hT hlk hnm hE hW ls hl
  have hl : lv_has ls 1 [(0, .int (xJ w))] := hl
  obtain ⟨Q, eQ⟩ : ∃ Q, Q = MQ below (xQi D g h0 (fun r τ => s0 = τ ∧ (-1 ≤ r ∧ r ≤ 1))) args s 0 0 (xA h0) := ⟨_, rfl⟩
  rw [← eQ]
  generalize hHe : ([] : List Loc) = locs at hW ⊢
  obtain ⟨H, eH⟩ : ∃ H, H = s.heap := ⟨_, rfl⟩
  rw [← eH] at hW ⊢
  refine x_iload_n hx hb hl 0 rfl dX11_wayY_0 rfl ?_
  refine x_iconst hx hb dX11_wayY_1 ?_
  refine x_icmp_eq (tgt := 11) hx hb rw (by decide) dX11_wayY_2 (by decide) (fun c1 => ?_) (fun c1 => ?_)
  · skip
    refine x_iconst hx hb dX11_wayY_11 ?_
    refine lv_goto (tgt := 29) hx hb dX11_wayY_12 (by decide) ?_
    rw [eQ]
    exact x_iret hx hb hr hlk hW (by decide) ⟨rfl, by omega⟩ dX11_wayY_29
  refine x_iload_n hx hb hl 0 rfl dX11_wayY_5 rfl ?_
  refine x_bipush hx hb dX11_wayY_6 (by decide) ?_
  refine x_icmp_ne (tgt := 15) hx hb rw (by decide) dX11_wayY_8 (by decide) (fun c2 => ?_) (fun c2 => ?_)
  · skip
    refine x_iload_n hx hb hl 0 rfl dX11_wayY_15 rfl ?_
    refine x_iconst hx hb dX11_wayY_16 ?_
    refine x_iconst hx hb dX11_wayY_17 ?_
    refine x_goi (x_runS (As := [.int (xJ w), .int (xJ 3), .int (xJ 5)]) hx hb hml hown hT hE hW hl.1 cf_X11_in wq1383 wq1382 (c_X11_in l D g T h0 s0 hW.2.1 w rw 3 (by decide) 5 (by decide)) ⟨rfl, rfl, ⟨by decide, by decide⟩, ⟨by decide, by decide⟩⟩ rfl rfl (Nat.le_of_ble_eq_true rfl) dX11_wayY_18) hW (fun x3 s4 H locs rx3 hp5 hW => ?_)
    obtain ⟨es4, hp5⟩ := hp5
    subst es4
    have ghp5 := hp5
    refine x_if_eq (tgt := 28) hx hb rx3 dX11_wayY_21 (by decide) (fun c6 => ?_) (fun c6 => ?_)
    · skip
      refine x_iconst hx hb dX11_wayY_28 ?_
      rw [eQ]
      exact x_iret hx hb hr hlk hW (by decide) ⟨rfl, by omega⟩ dX11_wayY_29
    refine x_iconst hx hb dX11_wayY_24 ?_
    refine lv_goto (tgt := 29) hx hb dX11_wayY_25 (by decide) ?_
    rw [eQ]
    exact x_iret hx hb hr hlk hW (by decide) ⟨rfl, by omega⟩ dX11_wayY_29
  refine x_iconst hx hb dX11_wayY_11 ?_
  refine lv_goto (tgt := 29) hx hb dX11_wayY_12 (by decide) ?_
  rw [eQ]
  exact x_iret hx hb hr hlk hW (by decide) ⟨rfl, by omega⟩ dX11_wayY_29
set_option maxHeartbeats 4000000 in
set_option maxRecDepth 100000 in
theorem c_X11_beside (l : Launch) (D : va_G) (g : xG) (T : Nat × Nat × Nat) (h0 : Nat) (s0 : xS) (hσ : xRR s0) (x : Int) (rx : xR x) (w : Int) (rw : xR w) (hx0 : 0 ≤ x ∧ x ≤ 99) : Met l yX11_beside (xws yX11_beside cX11_beside 4 (some .int)) { frames := 2, cells := 0, slots := 0, locals := 43 } (xP [.int (xJ x), .int (xJ w)] D g T h0 s0) (xQi D g h0 (fun r τ => s0 = τ ∧ (r = -1 ∨ (0 ≤ r ∧ r ≤ 99)))) 0 0 (xA h0) := by
  refine x_met hσ (by decide) (Nat.le_of_ble_eq_true rfl) ?_
  intro p e s m args below meth c hx hb hr hml hown hT hlk hnm hE hW ls hl
  have hl : lv_has ls 4 [(0, .int (xJ x)), (1, .int (xJ w))] := hl
  obtain ⟨Q, eQ⟩ : ∃ Q, Q = MQ below (xQi D g h0 (fun r τ => s0 = τ ∧ (r = -1 ∨ (0 ≤ r ∧ r ≤ 99)))) args s 0 0 (xA h0) := ⟨_, rfl⟩
  rw [← eQ]
  generalize hHe : ([] : List Loc) = locs at hW ⊢
  obtain ⟨H, eH⟩ : ∃ H, H = s.heap := ⟨_, rfl⟩
  rw [← eH] at hW ⊢
  refine x_iload_n hx hb hl 0 rfl dX11_beside_0 rfl ?_
  refine x_bipush hx hb dX11_beside_1 (by decide) ?_
  refine x_irem hx hb rx (by decide) (by omega) (by decide) dX11_beside_3 ?_
  refine x_iload_n hx hb hl 1 rfl dX11_beside_4 rfl ?_
  refine x_goi (x_runS (As := [.int (xJ w)]) hx hb hml hown hT hE hW hl.1 cf_X11_wayX wq1557 wq1556 (c_X11_wayX l D g T h0 s0 hW.2.1 w rw) ⟨rfl, rfl, ⟨by decide, by decide⟩, ⟨by decide, by decide⟩⟩ rfl rfl (Nat.le_of_ble_eq_true rfl) dX11_beside_5) hW (fun x1 s2 H locs rx1 hp3 hW => ?_)
  obtain ⟨es2, hp3⟩ := hp3
  subst es2
  have ghp3 := hp3
  refine x_iadd hx hb dX11_beside_8 ?_
  refine x_nm (fun x4 ex4 => ?_)
  refine lv_istore_n (lv' := [(2, .int (xJ x4)), (0, .int (xJ x)), (1, .int (xJ w))]) hx hb dX11_beside_9 rfl hl (by decide) rfl (fun ls hl => ?_)
  refine x_iload_n hx hb hl 1 rfl dX11_beside_10 rfl ?_
  refine x_bipush hx hb dX11_beside_11 (by decide) ?_
  refine x_idiv hx hb rx (by decide) (by omega) (by decide) dX11_beside_13 ?_
  refine x_iload_n hx hb hl 2 rfl dX11_beside_14 rfl ?_
  refine x_goi (x_runS (As := [.int (xJ w)]) hx hb hml hown hT hE hW hl.1 cf_X11_wayY wq1560 wq1559 (c_X11_wayY l D g T h0 s0 hW.2.1 w rw) ⟨rfl, rfl, ⟨by decide, by decide⟩, ⟨by decide, by decide⟩⟩ rfl rfl (Nat.le_of_ble_eq_true rfl) dX11_beside_15) hW (fun x5 s6 H locs rx5 hp7 hW => ?_)
  obtain ⟨es6, hp7⟩ := hp7
  subst es6
  have ghp7 := hp7
  refine x_iadd hx hb dX11_beside_18 ?_
  refine x_nm (fun x8 ex8 => ?_)
  refine lv_istore_n (lv' := [(3, .int (xJ x8)), (2, .int (xJ x4)), (0, .int (xJ x)), (1, .int (xJ w))]) hx hb dX11_beside_19 rfl hl (by decide) rfl (fun ls hl => ?_)
  refine x_iload_n hx hb hl 1 rfl dX11_beside_20 rfl ?_
  refine x_iload_n hx hb hl 0 rfl dX11_beside_21 rfl ?_
  refine x_goi (x_runS (As := [.int (xJ x4), .int (xJ x8)]) hx hb hml hown hT hE hW hl.1 cf_X11_isOn wq1430 wq1429 (c_X11_isOn l D g T h0 s0 hW.2.1 x4 (by omega) x8 (by omega)) ⟨rfl, rfl, ⟨by decide, by decide⟩, ⟨by decide, by decide⟩⟩ rfl rfl (Nat.le_of_ble_eq_true rfl) dX11_beside_22) hW (fun x9 s10 H locs rx9 hp11 hW => ?_)
  obtain ⟨es10, hp11⟩ := hp11
  subst es10
  have ghp11 := hp11
  refine x_if_eq (tgt := 37) hx hb rx9 dX11_beside_25 (by decide) (fun c12 => ?_) (fun c12 => ?_)
  · skip
    refine x_iconst hx hb dX11_beside_37 ?_
    rw [eQ]
    exact x_iret hx hb hr hlk hW (by decide) ⟨rfl, by omega⟩ dX11_beside_38
  refine x_bipush hx hb dX11_beside_28 (by decide) ?_
  refine x_iload_n hx hb hl 0 rfl dX11_beside_30 rfl ?_
  refine x_imul hx hb dX11_beside_31 ?_
  refine x_iload_n hx hb hl 1 rfl dX11_beside_32 rfl ?_
  refine x_iadd hx hb dX11_beside_33 ?_
  refine lv_goto (tgt := 38) hx hb dX11_beside_34 (by decide) ?_
  rw [eQ]
  exact x_iret hx hb hr hlk hW (by omega) ⟨rfl, by omega⟩ dX11_beside_38
set_option maxHeartbeats 4000000 in
set_option maxRecDepth 100000 in
theorem c_X11_types (l : Launch) (D : va_G) (g : xG) (T : Nat × Nat × Nat) (h0 : Nat) (s0 : xS) (hσ : xRR s0) (v : Int) (rv : xR v) (zl : Int) (hz : 0 ≤ zl ∧ zl ≤ 256) (p0 : IMn s0) (p1 : IMk s0) (p2 : IMo s0) (p3 : s0 268 8 = zl) : Met l yX11_types (xws yX11_types cX11_types 3 none) { frames := 0, cells := 0, slots := 0, locals := 0 } (xP [.ref (h0 + 268), .int (xJ v)] D g T h0 s0) (xQv D g h0 (fun τ => xFr (fun k => k = 268 ∨ k = 276) s0 τ ∧ (((IMn τ) ∧ (IMk τ) ∧ (IMo τ) ∧ (τ 268 8 = zl + 4) ∧ (τ 268 58 = s0 268 58) ∧ True) ∧ (xm8 (τ 276) = xputn (xm8 (s0 276)) zl v 4 ∧ (xb8 (s0 276) → xb8 (τ 276)))))) 0 0 (xA h0) := by
  refine x_met hσ (by decide) (Nat.le_of_ble_eq_true rfl) ?_
  intro p e s m args below meth c hx hb hr hml hown hT hlk hnm hE hW ls hl
  have hl : lv_has ls 3 [(0, .ref (h0 + 268)), (1, .int (xJ v))] := hl
  obtain ⟨Q, eQ⟩ : ∃ Q, Q = MQ below (xQv D g h0 (fun τ => xFr (fun k => k = 268 ∨ k = 276) s0 τ ∧ (((IMn τ) ∧ (IMk τ) ∧ (IMo τ) ∧ (τ 268 8 = zl + 4) ∧ (τ 268 58 = s0 268 58) ∧ True) ∧ (xm8 (τ 276) = xputn (xm8 (s0 276)) zl v 4 ∧ (xb8 (s0 276) → xb8 (τ 276)))))) args s 0 0 (xA h0) := ⟨_, rfl⟩
  rw [← eQ]
  generalize hHe : ([] : List Loc) = locs at hW ⊢
  obtain ⟨H, eH⟩ : ∃ H, H = s.heap := ⟨_, rfl⟩
  rw [← eH] at hW ⊢
  have hF : xFr (fun k => k = 268 ∨ k = 276) s0 s0 := xFr.rf
  have k268_58 : s0 268 58 = s0 268 58 := rfl
  refine x_iconst hx hb dX11_types_0 ?_
  refine lv_istore_n (lv' := [(2, .int (xJ 3)), (0, .ref (h0 + 268)), (1, .int (xJ v))]) hx hb dX11_types_1 rfl hl (by decide) rfl (fun ls hl => ?_)
  have L2 : ∀ (fu : Nat) (i2_2 : Int) (s_2 : xS) (H : Heap) (locs : List Loc) (ls : Array Slot), (xR i2_2) → (xFr (fun k => k = 268 ∨ k = 276) s0 s_2) → (IMn s_2) → (IMk s_2) → (IMo s_2) → (s_2 268 58 = s0 268 58) → (-1 ≤ i2_2 ∧ i2_2 ≤ 3) → (s_2 268 8 = zl + 3 - i2_2) → (xm8 (s_2 276) = xputn (xm8 (s0 276)) zl v (s_2 268 8 - zl)) → (xb8 (s0 276) → xb8 (s_2 276)) → (i2_2 + 1).toNat < fu → xW D g h0 s H locs s_2 → lv_has ls 3 [(0, .ref (h0 + 268)), (1, .int (xJ v)), (2, .int (xJ i2_2))] → W p l e { frames := 0, cells := 0, slots := 0, locals := 0 } s m args below meth c H locs 0 0 Q (F0 m 2 ls []) := by
    intro fu
    induction fu with
    | zero => intro i2_2 s_2 H locs ls ri2_2 hF_2 q2_0 q2_1 q2_2 q2_4 v2_0 v2_1 v2_2 v2_3 hm; exact absurd hm (Nat.not_lt_zero _)
    | succ fu ih2 =>
      intro i2_2 s_2 H locs ls ri2_2 hF_2 q2_0 q2_1 q2_2 q2_4 v2_0 v2_1 v2_2 v2_3 hm hW hl
      refine x_iload_n hx hb hl 2 rfl dX11_types_2 rfl ?_
      refine x_if_lt (tgt := 38) hx hb ri2_2 dX11_types_3 (by decide) (fun c1 => ?_) (fun c1 => ?_)
      · skip
        rw [eQ]
        exact x_vret hx hb hr hlk hW ⟨hF_2, ⟨q2_0, q2_1, q2_2, (by omega), q2_4, trivial⟩, ⟨v2_2.trans (xputn_c (by omega)), v2_3⟩⟩ dX11_types_38
      refine x_aload_n hx hb hl 0 rfl dX11_types_6 rfl ?_
      refine x_get (j := 7) (v := .ref (h0 + 276)) hx hb hown hT hE hW cls_X11 (Or.inl (by decide)) (so_268 h0 g _) (by decide) rfl wq1192 dX11_types_7 ?_
      refine x_aload_n hx hb hl 0 rfl dX11_types_10 rfl ?_
      refine x_get (j := 8) (v := .int (xJ (s_2 268 8))) hx hb hown hT hE hW cls_X11 (Or.inl (by decide)) (so_268 h0 g _) (by decide) rfl wq1193 dX11_types_11 ?_
      refine x_rd hW (fun x2 ex2 rx2 => ?_)
      have bx2 : 0 ≤ x2 ∧ x2 ≤ 260 := by rw [ex2]; exact IMn.t q2_0
      have q3 : s_2 268 8 = x2 := ex2.symm
      refine x_iload_n hx hb hl 1 rfl dX11_types_14 rfl ?_
      refine x_bipush hx hb dX11_types_15 (by decide) ?_
      refine x_iload_n hx hb hl 2 rfl dX11_types_17 rfl ?_
      refine x_imul hx hb dX11_types_18 ?_
      refine x_shr hx hb rv (by omega) dX11_types_19 (fun x4 ex4 rx4 => ?_)
      refine x_i2bm hx hb rx4 dX11_types_20 (fun x5 rx5 mx5 bx5 => ?_)
      obtain ⟨y7, ey7, ry7, my7, by7⟩ := xnbm (v := x5) rx5
      refine x_bast (w := y7) hx hb hE hW (by decide) (fun σ => sa_276 h0 g σ) (by omega) (by decide) ey7 ry7 dX11_types_21 (fun H locs s6 es6 hW => ?_)
      have q8 : IMn s6 := by rw [es6]; exact IMn_o (by unfold suIMn; omega) q2_0
      have q9 : IMk s6 := by rw [es6]; exact IMk_o (by unfold suIMk; omega) q2_1
      have q10 : IMo s6 := by rw [es6]; exact IMo_o (by unfold suIMo; omega) q2_2
      have q11 : s6 268 58 = s0 268 58 := (show s6 268 58 = s_2 268 58 from by rw [es6, xU_k _ _ _ (by omega)]).trans q2_4
      have q12 : s6 268 8 = x2 := (show s6 268 8 = s_2 268 8 from by rw [es6, xU_k _ _ _ (by omega)]).trans q3
      have hF13 := hF_2.put es6 (by omega)
      have D21 : xb8 (s_2 276) → xb8 (s6 276) := fun h => by rw [es6, xU_xud]; exact xb8_ud h (by omega)
      have A21 : xm8 (s6 276) = xputn (xm8 (s0 276)) zl v (x2 - zl + 1) := by rw [es6, xU_xud, xm8_ud]; exact xput_step (l := 8 * i2_2) (v2_2.trans (xputn_c (by omega))) (by omega) (by omega) (by omega)
      refine x_aload_n hx hb hl 0 rfl dX11_types_22 rfl ?_
      refine x_aload_n hx hb hl 0 rfl dX11_types_23 rfl ?_
      refine x_get (j := 8) (v := .int (xJ (s6 268 8))) hx hb hown hT hE hW cls_X11 (Or.inl (by decide)) (so_268 h0 g _) (by decide) rfl wq1193 dX11_types_24 ?_
      refine x_rd hW (fun x14 ex14 rx14 => ?_)
      have bx14 : 0 ≤ x14 ∧ x14 ≤ 260 := by rw [ex14]; exact IMn.t q8
      have fx14 : x14 = x2 := ex14.trans q12
      refine x_iconst hx hb dX11_types_27 ?_
      refine x_iadd hx hb dX11_types_28 ?_
      refine x_put (j := 8) hx hb hown hT hE hW cls_X11 (by decide) (fun σ => so_268 h0 g σ) (by decide) (st_X11_8 h0 s6 268 (x14 + 1)) (ln_X11_8 h0 _ _) wq1193 rfl rfl rfl (by omega) dX11_types_29 (fun H locs s15 es15 hW => ?_)
      have q16 : IMn s15 := by rw [es15]; exact IMn_268 q8 (by omega)
      have q17 : IMk s15 := by rw [es15]; exact IMk_268 q9 (by omega)
      have q18 : IMo s15 := by rw [es15]; exact IMo_o (by unfold suIMo; omega) q10
      have q19 : s15 268 58 = s0 268 58 := (show s15 268 58 = s6 268 58 from by rw [es15, xU_j _ _ (by decide)]).trans q11
      have q20 : s15 268 8 = (x14 + 1) := by rw [es15, xU_s]
      have hF21 := hF13.put es15 (by omega)
      refine x_iinc (lv' := [(2, .int (xJ (i2_2 + (-1)))), (0, .ref (h0 + 268)), (1, .int (xJ v))]) hx hb hl 2 rfl dX11_types_32 (by decide) rfl (fun ls hl => ?_)
      refine lv_goto (tgt := 2) hx hb dX11_types_35 (by decide) ?_
      exact ih2 (i2_2 + (-1)) s15 H locs ls (by omega) hF21 q16 q17 q18 q19 (by omega) (by rw [q20]; omega) (by rw [es15, xU_k _ _ _ (by omega), xU_s, A21]; exact xputn_c (by omega)) (fun h => by rw [es15, xU_k _ _ _ (by omega)]; exact D21 (v2_3 h)) (by omega) hW (lv_sub hl [1, 2, 0] rfl)
  exact L2 ((3 + 1 : Int).toNat + 1) 3 s0 H locs ls (by decide) hF p0 p1 p2 k268_58 (by omega) (by rw [p3]; omega) (((xputn_c (by omega)).trans (xputn_0 _ _ _)).symm) (id) (Nat.lt_succ_self _) hW (lv_sub hl [1, 2, 0] rfl)
set_option maxHeartbeats 4000000 in
set_option maxRecDepth 100000 in
theorem c_X11_feed (l : Launch) (D : va_G) (g : xG) (T : Nat × Nat × Nat) (h0 : Nat) (s0 : xS) (hσ : xRR s0) (v1 : Int) (rv1 : xR v1) (v2 : Int) (rv2 : xR v2) (v3 : Int) (rv3 : xR v3) (v4 : Int) (rv4 : xR v4) (v5 : Int) (rv5 : xR v5) (p0 : IMn s0) (p1 : IMk s0) (p2 : IMo s0) : Met l yX11_feed (xws yX11_feed cX11_feed 6 (some .int)) { frames := 1, cells := 0, slots := 0, locals := 22 } (xP [.ref (h0 + 268), .int (xJ v1), .int (xJ v2), .int (xJ v3), .int (xJ v4), .int (xJ v5)] D g T h0 s0) (xQi D g h0 (fun r τ => xFr (fun k => k = 268 ∨ k = 276) s0 τ ∧ (((IMn τ) ∧ (IMk τ) ∧ (IMo τ) ∧ (τ 268 58 = s0 268 58) ∧ True) ∧ ((s0 268 8 ≤ 240 ∧ τ 268 8 = s0 268 8 + 20 ∧ r = s0 268 8 + 20 ∧ xm8 (τ 276) = xfeed (xm8 (s0 276)) (s0 268 8) v1 v2 v3 v4 v5 ∧ (xb8 (s0 276) → xb8 (τ 276))) ∨ (240 < s0 268 8 ∧ τ 268 8 = s0 268 8 ∧ r = -1 ∧ τ 276 = s0 276))))) 0 0 (xA h0) := by
  refine x_met hσ (by decide) (Nat.le_of_ble_eq_true rfl) ?_
  intro p e s m args below meth c hx hb hr hml hown hT hlk hnm hE hW ls hl
  have hl : lv_has ls 6 [(0, .ref (h0 + 268)), (1, .int (xJ v1)), (2, .int (xJ v2)), (3, .int (xJ v3)), (4, .int (xJ v4)), (5, .int (xJ v5))] := hl
  obtain ⟨Q, eQ⟩ : ∃ Q, Q = MQ below (xQi D g h0 (fun r τ => xFr (fun k => k = 268 ∨ k = 276) s0 τ ∧ (((IMn τ) ∧ (IMk τ) ∧ (IMo τ) ∧ (τ 268 58 = s0 268 58) ∧ True) ∧ ((s0 268 8 ≤ 240 ∧ τ 268 8 = s0 268 8 + 20 ∧ r = s0 268 8 + 20 ∧ xm8 (τ 276) = xfeed (xm8 (s0 276)) (s0 268 8) v1 v2 v3 v4 v5 ∧ (xb8 (s0 276) → xb8 (τ 276))) ∨ (240 < s0 268 8 ∧ τ 268 8 = s0 268 8 ∧ r = -1 ∧ τ 276 = s0 276))))) args s 0 0 (xA h0) := ⟨_, rfl⟩
  rw [← eQ]
  generalize hHe : ([] : List Loc) = locs at hW ⊢
  obtain ⟨H, eH⟩ : ∃ H, H = s.heap := ⟨_, rfl⟩
  rw [← eH] at hW ⊢
  have hF : xFr (fun k => k = 268 ∨ k = 276) s0 s0 := xFr.rf
  have k268_58 : s0 268 58 = s0 268 58 := rfl
  have k268_8 : s0 268 8 = s0 268 8 := rfl
  refine x_aload_n hx hb hl 0 rfl dX11_feed_0 rfl ?_
  refine x_get (j := 8) (v := .int (xJ (s0 268 8))) hx hb hown hT hE hW cls_X11 (Or.inl (by decide)) (so_268 h0 g _) (by decide) rfl wq1193 dX11_feed_1 ?_
  refine x_rd hW (fun x1 ex1 rx1 => ?_)
  have bx1 : 0 ≤ x1 ∧ x1 ≤ 260 := by rw [ex1]; exact IMn.t p0
  have fx1 : x1 = s0 268 8 := ex1.trans k268_8
  refine x_bipush hx hb dX11_feed_4 (by decide) ?_
  refine x_iadd hx hb dX11_feed_6 ?_
  refine x_sipush hx hb dX11_feed_7 (by decide) ?_
  refine x_icmp_le (tgt := 15) hx hb (by omega) (by decide) dX11_feed_10 (by decide) (fun c2 => ?_) (fun c2 => ?_)
  · skip
    refine x_aload_n hx hb hl 0 rfl dX11_feed_15 rfl ?_
    refine x_iload_n hx hb hl 1 rfl dX11_feed_16 rfl ?_
    refine x_gov (x_runV (As := [.int (xJ v1)]) hx hb hml hown hT hE hW hl.1 (Or.inl (by decide)) (so_268 h0 g _) rfl cf_X11_types wq1376 wq104 wq1374 (c_X11_types l D g T h0 s0 hW.2.1 v1 rv1 (s0 268 8) (by omega) p0 p1 p2 k268_8) ⟨rfl, rfl, ⟨by decide, by decide⟩, ⟨by decide, by decide⟩⟩ rfl rfl (Nat.le_of_ble_eq_true rfl) dX11_feed_17) hW (fun s4 H locs hp5 hW => ?_)
    obtain ⟨fs4, hp5⟩ := hp5
    have hF6 := hF.call fs4 (fun k h => by omega)
    have ghp5 := hp5.2
    obtain ⟨B17, D17⟩ := ghp5
    refine x_aload_n hx hb hl 0 rfl dX11_feed_20 rfl ?_
    refine x_iload_n hx hb hl 2 rfl dX11_feed_21 rfl ?_
    refine x_gov (x_runV (As := [.int (xJ v2)]) hx hb hml hown hT hE hW hl.1 (Or.inl (by decide)) (so_268 h0 g _) rfl cf_X11_types wq1376 wq104 wq1374 (c_X11_types l D g T h0 s4 hW.2.1 v2 rv2 ((s0 268 8) + 4) (by omega) hp5.1.1 hp5.1.2.1 hp5.1.2.2.1 hp5.1.2.2.2.1) ⟨rfl, rfl, ⟨by decide, by decide⟩, ⟨by decide, by decide⟩⟩ rfl rfl (Nat.le_of_ble_eq_true rfl) dX11_feed_22) hW (fun s8 H locs hp9 hW => ?_)
    obtain ⟨fs8, hp9⟩ := hp9
    have hF10 := hF6.call fs8 (fun k h => by omega)
    have ghp9 := hp9.2
    obtain ⟨B22, D22⟩ := ghp9
    rw [B17] at B22
    refine x_aload_n hx hb hl 0 rfl dX11_feed_25 rfl ?_
    refine x_iload_n hx hb hl 3 rfl dX11_feed_26 rfl ?_
    refine x_gov (x_runV (As := [.int (xJ v3)]) hx hb hml hown hT hE hW hl.1 (Or.inl (by decide)) (so_268 h0 g _) rfl cf_X11_types wq1376 wq104 wq1374 (c_X11_types l D g T h0 s8 hW.2.1 v3 rv3 (((s0 268 8) + 4) + 4) (by omega) hp9.1.1 hp9.1.2.1 hp9.1.2.2.1 hp9.1.2.2.2.1) ⟨rfl, rfl, ⟨by decide, by decide⟩, ⟨by decide, by decide⟩⟩ rfl rfl (Nat.le_of_ble_eq_true rfl) dX11_feed_27) hW (fun s12 H locs hp13 hW => ?_)
    obtain ⟨fs12, hp13⟩ := hp13
    have hF14 := hF10.call fs12 (fun k h => by omega)
    have ghp13 := hp13.2
    obtain ⟨B27, D27⟩ := ghp13
    rw [B22] at B27
    refine x_aload_n hx hb hl 0 rfl dX11_feed_30 rfl ?_
    refine x_iload hx hb hl 4 rfl dX11_feed_31 ?_
    refine x_gov (x_runV (As := [.int (xJ v4)]) hx hb hml hown hT hE hW hl.1 (Or.inl (by decide)) (so_268 h0 g _) rfl cf_X11_types wq1376 wq104 wq1374 (c_X11_types l D g T h0 s12 hW.2.1 v4 rv4 ((((s0 268 8) + 4) + 4) + 4) (by omega) hp13.1.1 hp13.1.2.1 hp13.1.2.2.1 hp13.1.2.2.2.1) ⟨rfl, rfl, ⟨by decide, by decide⟩, ⟨by decide, by decide⟩⟩ rfl rfl (Nat.le_of_ble_eq_true rfl) dX11_feed_33) hW (fun s16 H locs hp17 hW => ?_)
    obtain ⟨fs16, hp17⟩ := hp17
    have hF18 := hF14.call fs16 (fun k h => by omega)
    have ghp17 := hp17.2
    obtain ⟨B33, D33⟩ := ghp17
    rw [B27] at B33
    refine x_aload_n hx hb hl 0 rfl dX11_feed_36 rfl ?_
    refine x_iload hx hb hl 5 rfl dX11_feed_37 ?_
    refine x_gov (x_runV (As := [.int (xJ v5)]) hx hb hml hown hT hE hW hl.1 (Or.inl (by decide)) (so_268 h0 g _) rfl cf_X11_types wq1376 wq104 wq1374 (c_X11_types l D g T h0 s16 hW.2.1 v5 rv5 (((((s0 268 8) + 4) + 4) + 4) + 4) (by omega) hp17.1.1 hp17.1.2.1 hp17.1.2.2.1 hp17.1.2.2.2.1) ⟨rfl, rfl, ⟨by decide, by decide⟩, ⟨by decide, by decide⟩⟩ rfl rfl (Nat.le_of_ble_eq_true rfl) dX11_feed_39) hW (fun s20 H locs hp21 hW => ?_)
    obtain ⟨fs20, hp21⟩ := hp21
    have hF22 := hF18.call fs20 (fun k h => by omega)
    have ghp21 := hp21.2
    obtain ⟨B39, D39⟩ := ghp21
    rw [B33] at B39
    refine x_aload_n hx hb hl 0 rfl dX11_feed_42 rfl ?_
    refine x_get (j := 8) (v := .int (xJ (s20 268 8))) hx hb hown hT hE hW cls_X11 (Or.inl (by decide)) (so_268 h0 g _) (by decide) rfl wq1193 dX11_feed_43 ?_
    refine x_rd hW (fun x23 ex23 rx23 => ?_)
    have bx23 : 0 ≤ x23 ∧ x23 ≤ 260 := by rw [ex23]; exact IMn.t hp21.1.1
    have fx23 : x23 = ((((((s0 268 8) + 4) + 4) + 4) + 4) + 4) := ex23.trans hp21.1.2.2.2.1
    rw [eQ]
    exact x_iret hx hb hr hlk hW rx23 ⟨hF22, ⟨hp21.1.1, hp21.1.2.1, hp21.1.2.2.1, (hp21.1.2.2.2.2.1.trans (hp17.1.2.2.2.2.1.trans (hp13.1.2.2.2.2.1.trans (hp9.1.2.2.2.2.1.trans (hp5.1.2.2.2.2.1.trans k268_58))))), trivial⟩, Or.inl ⟨by omega, by omega, by omega, B39, fun h => D39 (D33 (D27 (D22 (D17 h))))⟩⟩ dX11_feed_46
  refine x_iconst hx hb dX11_feed_13 ?_
  rw [eQ]
  exact x_iret hx hb hr hlk hW (by decide) ⟨hF, ⟨p0, p1, p2, k268_58, trivial⟩, Or.inr ⟨by omega, by omega, by omega, rfl⟩⟩ dX11_feed_14
set_option maxHeartbeats 4000000 in
set_option maxRecDepth 100000 in
theorem c_X11_feels (l : Launch) (D : va_G) (g : xG) (T : Nat × Nat × Nat) (h0 : Nat) (s0 : xS) (hσ : xRR s0) (t : Int) (rt : xR t) (p0 : IMn s0) (p1 : IMk s0) (p2 : IMo s0) : Met l yX11_feels (xws yX11_feels cX11_feels 3 none) { frames := 0, cells := 0, slots := 0, locals := 0 } (xP [.ref (h0 + 268), .int (xJ t)] D g T h0 s0) (xQv D g h0 (fun τ => xFr (fun k => k = 294) s0 τ ∧ (((IMn τ) ∧ (IMk τ) ∧ (IMo τ) ∧ True) ∧ (True)))) 0 0 (xA h0) := by
  refine x_met hσ (by decide) (Nat.le_of_ble_eq_true rfl) ?_
  intro p e s m args below meth c hx hb hr hml hown hT hlk hnm hE hW ls hl
  have hl : lv_has ls 3 [(0, .ref (h0 + 268)), (1, .int (xJ t))] := hl
  obtain ⟨Q, eQ⟩ : ∃ Q, Q = MQ below (xQv D g h0 (fun τ => xFr (fun k => k = 294) s0 τ ∧ (((IMn τ) ∧ (IMk τ) ∧ (IMo τ) ∧ True) ∧ (True)))) args s 0 0 (xA h0) := ⟨_, rfl⟩
  rw [← eQ]
  generalize hHe : ([] : List Loc) = locs at hW ⊢
  obtain ⟨H, eH⟩ : ∃ H, H = s.heap := ⟨_, rfl⟩
  rw [← eH] at hW ⊢
  have hF : xFr (fun k => k = 294) s0 s0 := xFr.rf
  have k268_8 : s0 268 8 = s0 268 8 := rfl
  have k268_58 : s0 268 58 = s0 268 58 := rfl
  refine x_iconst hx hb dX11_feels_0 ?_
  refine lv_istore_n (lv' := [(2, .int (xJ 0)), (0, .ref (h0 + 268)), (1, .int (xJ t))]) hx hb dX11_feels_1 rfl hl (by decide) rfl (fun ls hl => ?_)
  have L2 : ∀ (fu : Nat) (i2_2 : Int) (s_2 : xS) (H : Heap) (locs : List Loc) (ls : Array Slot), (xR i2_2) → (xFr (fun k => k = 294) s0 s_2) → (IMn s_2) → (IMk s_2) → (IMo s_2) → (s_2 268 8 = s0 268 8) → (s_2 268 58 = s0 268 58) → (0 ≤ i2_2) → (i2_2 ≤ 7) → (7 + 1 - i2_2).toNat < fu → xW D g h0 s H locs s_2 → lv_has ls 3 [(0, .ref (h0 + 268)), (1, .int (xJ t)), (2, .int (xJ i2_2))] → W p l e { frames := 0, cells := 0, slots := 0, locals := 0 } s m args below meth c H locs 0 0 Q (F0 m 2 ls []) := by
    intro fu
    induction fu with
    | zero => intro i2_2 s_2 H locs ls ri2_2 hF_2 q2_0 q2_1 q2_2 q2_3 q2_4 v2_0 v2_1 hm; exact absurd hm (Nat.not_lt_zero _)
    | succ fu ih2 =>
      intro i2_2 s_2 H locs ls ri2_2 hF_2 q2_0 q2_1 q2_2 q2_3 q2_4 v2_0 v2_1 hm hW hl
      refine x_iload_n hx hb hl 2 rfl dX11_feels_2 rfl ?_
      refine x_bipush hx hb dX11_feels_3 (by decide) ?_
      refine x_icmp_ge (tgt := 21) hx hb ri2_2 (by decide) dX11_feels_5 (by decide) (fun c1 => ?_) (fun c1 => ?_)
      · skip
        refine x_aload_n hx hb hl 0 rfl dX11_feels_21 rfl ?_
        refine x_get (j := 39) (v := .ref (h0 + 294)) hx hb hown hT hE hW cls_X11 (Or.inl (by decide)) (so_268 h0 g _) (by decide) rfl wq1224 dX11_feels_22 ?_
        refine x_iconst hx hb dX11_feels_25 ?_
        refine x_iload_n hx hb hl 1 rfl dX11_feels_26 rfl ?_
        refine x_iast hx hb hE hW (by decide) (fun σ => sa_294 h0 g σ) ⟨by decide, by decide⟩ (by decide) rt dX11_feels_27 (fun H locs s2 es2 hW => ?_)
        have q3 : IMn s2 := by rw [es2]; exact IMn_o (by unfold suIMn; omega) q2_0
        have q4 : IMk s2 := by rw [es2]; exact IMk_o (by unfold suIMk; omega) q2_1
        have q5 : IMo s2 := by rw [es2]; exact IMo_o (by unfold suIMo; omega) q2_2
        have q6 : s2 268 8 = s0 268 8 := (show s2 268 8 = s_2 268 8 from by rw [es2, xU_k _ _ _ (by omega)]).trans q2_3
        have q7 : s2 268 58 = s0 268 58 := (show s2 268 58 = s_2 268 58 from by rw [es2, xU_k _ _ _ (by omega)]).trans q2_4
        have hF8 := hF_2.put es2 (by omega)
        refine x_aload_n hx hb hl 0 rfl dX11_feels_28 rfl ?_
        refine x_get (j := 39) (v := .ref (h0 + 294)) hx hb hown hT hE hW cls_X11 (Or.inl (by decide)) (so_268 h0 g _) (by decide) rfl wq1224 dX11_feels_29 ?_
        refine x_iconst hx hb dX11_feels_32 ?_
        refine x_iload_n hx hb hl 1 rfl dX11_feels_33 rfl ?_
        refine x_bipush hx hb dX11_feels_34 (by decide) ?_
        refine x_idivQ hx hb (by decide) (by omega) dX11_feels_36 (fun x9 rx9 => ?_)
        refine x_bipush hx hb dX11_feels_37 (by decide) ?_
        refine x_iremQ hx hb (by decide) (by omega) dX11_feels_39 (fun x10 rx10 => ?_)
        refine x_iast hx hb hE hW (by decide) (fun σ => sa_294 h0 g σ) ⟨by decide, by decide⟩ (by decide) rx10 dX11_feels_40 (fun H locs s11 es11 hW => ?_)
        have q12 : IMn s11 := by rw [es11]; exact IMn_o (by unfold suIMn; omega) q3
        have q13 : IMk s11 := by rw [es11]; exact IMk_o (by unfold suIMk; omega) q4
        have q14 : IMo s11 := by rw [es11]; exact IMo_o (by unfold suIMo; omega) q5
        have q15 : s11 268 8 = s0 268 8 := (show s11 268 8 = s2 268 8 from by rw [es11, xU_k _ _ _ (by omega)]).trans q6
        have q16 : s11 268 58 = s0 268 58 := (show s11 268 58 = s2 268 58 from by rw [es11, xU_k _ _ _ (by omega)]).trans q7
        have hF17 := hF8.put es11 (by omega)
        rw [eQ]
        exact x_vret hx hb hr hlk hW ⟨hF17, ⟨q12, q13, q14, trivial⟩, trivial⟩ dX11_feels_41
      refine x_aload_n hx hb hl 0 rfl dX11_feels_8 rfl ?_
      refine x_get (j := 39) (v := .ref (h0 + 294)) hx hb hown hT hE hW cls_X11 (Or.inl (by decide)) (so_268 h0 g _) (by decide) rfl wq1224 dX11_feels_9 ?_
      refine x_iload_n hx hb hl 2 rfl dX11_feels_12 rfl ?_
      refine x_iconst hx hb dX11_feels_13 ?_
      refine x_iast hx hb hE hW (by decide) (fun σ => sa_294 h0 g σ) (by omega) (by decide) (by decide) dX11_feels_14 (fun H locs s18 es18 hW => ?_)
      have q19 : IMn s18 := by rw [es18]; exact IMn_o (by unfold suIMn; omega) q2_0
      have q20 : IMk s18 := by rw [es18]; exact IMk_o (by unfold suIMk; omega) q2_1
      have q21 : IMo s18 := by rw [es18]; exact IMo_o (by unfold suIMo; omega) q2_2
      have q22 : s18 268 8 = s0 268 8 := (show s18 268 8 = s_2 268 8 from by rw [es18, xU_k _ _ _ (by omega)]).trans q2_3
      have q23 : s18 268 58 = s0 268 58 := (show s18 268 58 = s_2 268 58 from by rw [es18, xU_k _ _ _ (by omega)]).trans q2_4
      have hF24 := hF_2.put es18 (by omega)
      refine x_iinc (lv' := [(2, .int (xJ (i2_2 + 1))), (0, .ref (h0 + 268)), (1, .int (xJ t))]) hx hb hl 2 rfl dX11_feels_15 (by decide) rfl (fun ls hl => ?_)
      refine lv_goto (tgt := 2) hx hb dX11_feels_18 (by decide) ?_
      exact ih2 (i2_2 + 1) s18 H locs ls (by omega) hF24 q19 q20 q21 q22 q23 (by omega) (by omega) (by omega) hW (lv_sub hl [1, 2, 0] rfl)
  exact L2 ((7 + 1 - 0 : Int).toNat + 1) 0 s0 H locs ls (by decide) hF p0 p1 p2 k268_8 k268_58 (by omega) (by omega) (Nat.lt_succ_self _) hW (lv_sub hl [1, 2, 0] rfl)
set_option maxHeartbeats 4000000 in
set_option maxRecDepth 100000 in
theorem c_X11_bares (l : Launch) (D : va_G) (g : xG) (T : Nat × Nat × Nat) (h0 : Nat) (s0 : xS) (hσ : xRR s0) (p0 : IMn s0) (p1 : IMk s0) (p2 : IMo s0) : Met l yX11_bares (xws yX11_bares cX11_bares 2 none) { frames := 0, cells := 0, slots := 0, locals := 0 } (xP [.ref (h0 + 268)] D g T h0 s0) (xQv D g h0 (fun τ => xFr (fun k => k = 295) s0 τ ∧ (((IMn τ) ∧ (IMk τ) ∧ (IMo τ) ∧ True) ∧ (True)))) 0 0 (xA h0) := by
  refine x_met hσ (by decide) (Nat.le_of_ble_eq_true rfl) ?_
  intro p e s m args below meth c hx hb hr hml hown hT hlk hnm hE hW ls hl
  have hl : lv_has ls 2 [(0, .ref (h0 + 268))] := hl
  obtain ⟨Q, eQ⟩ : ∃ Q, Q = MQ below (xQv D g h0 (fun τ => xFr (fun k => k = 295) s0 τ ∧ (((IMn τ) ∧ (IMk τ) ∧ (IMo τ) ∧ True) ∧ (True)))) args s 0 0 (xA h0) := ⟨_, rfl⟩
  rw [← eQ]
  generalize hHe : ([] : List Loc) = locs at hW ⊢
  obtain ⟨H, eH⟩ : ∃ H, H = s.heap := ⟨_, rfl⟩
  rw [← eH] at hW ⊢
  have hF : xFr (fun k => k = 295) s0 s0 := xFr.rf
  have k268_8 : s0 268 8 = s0 268 8 := rfl
  have k268_58 : s0 268 58 = s0 268 58 := rfl
  refine x_iconst hx hb dX11_bares_0 ?_
  refine lv_istore_n (lv' := [(1, .int (xJ 0)), (0, .ref (h0 + 268))]) hx hb dX11_bares_1 rfl hl (by decide) rfl (fun ls hl => ?_)
  have L2 : ∀ (fu : Nat) (i1_2 : Int) (s_2 : xS) (H : Heap) (locs : List Loc) (ls : Array Slot), (xR i1_2) → (xFr (fun k => k = 295) s0 s_2) → (IMn s_2) → (IMk s_2) → (IMo s_2) → (s_2 268 8 = s0 268 8) → (s_2 268 58 = s0 268 58) → (0 ≤ i1_2) → (i1_2 ≤ 100) → (100 + 1 - i1_2).toNat < fu → xW D g h0 s H locs s_2 → lv_has ls 2 [(0, .ref (h0 + 268)), (1, .int (xJ i1_2))] → W p l e { frames := 0, cells := 0, slots := 0, locals := 0 } s m args below meth c H locs 0 0 Q (F0 m 2 ls []) := by
    intro fu
    induction fu with
    | zero => intro i1_2 s_2 H locs ls ri1_2 hF_2 q2_0 q2_1 q2_2 q2_3 q2_4 v2_0 v2_1 hm; exact absurd hm (Nat.not_lt_zero _)
    | succ fu ih2 =>
      intro i1_2 s_2 H locs ls ri1_2 hF_2 q2_0 q2_1 q2_2 q2_3 q2_4 v2_0 v2_1 hm hW hl
      refine x_iload_n hx hb hl 1 rfl dX11_bares_2 rfl ?_
      refine x_bipush hx hb dX11_bares_3 (by decide) ?_
      refine x_icmp_ge (tgt := 21) hx hb ri1_2 (by decide) dX11_bares_5 (by decide) (fun c1 => ?_) (fun c1 => ?_)
      · skip
        rw [eQ]
        exact x_vret hx hb hr hlk hW ⟨hF_2, ⟨q2_0, q2_1, q2_2, trivial⟩, trivial⟩ dX11_bares_21
      refine x_aload_n hx hb hl 0 rfl dX11_bares_8 rfl ?_
      refine x_get (j := 40) (v := .ref (h0 + 295)) hx hb hown hT hE hW cls_X11 (Or.inl (by decide)) (so_268 h0 g _) (by decide) rfl wq1225 dX11_bares_9 ?_
      refine x_iload_n hx hb hl 1 rfl dX11_bares_12 rfl ?_
      refine x_iconst hx hb dX11_bares_13 ?_
      refine x_iast hx hb hE hW (by decide) (fun σ => sa_295 h0 g σ) (by omega) (by decide) (by decide) dX11_bares_14 (fun H locs s2 es2 hW => ?_)
      have q3 : IMn s2 := by rw [es2]; exact IMn_o (by unfold suIMn; omega) q2_0
      have q4 : IMk s2 := by rw [es2]; exact IMk_o (by unfold suIMk; omega) q2_1
      have q5 : IMo s2 := by rw [es2]; exact IMo_o (by unfold suIMo; omega) q2_2
      have q6 : s2 268 8 = s0 268 8 := (show s2 268 8 = s_2 268 8 from by rw [es2, xU_k _ _ _ (by omega)]).trans q2_3
      have q7 : s2 268 58 = s0 268 58 := (show s2 268 58 = s_2 268 58 from by rw [es2, xU_k _ _ _ (by omega)]).trans q2_4
      have hF8 := hF_2.put es2 (by omega)
      refine x_iinc (lv' := [(1, .int (xJ (i1_2 + 1))), (0, .ref (h0 + 268))]) hx hb hl 1 rfl dX11_bares_15 (by decide) rfl (fun ls hl => ?_)
      refine lv_goto (tgt := 2) hx hb dX11_bares_18 (by decide) ?_
      exact ih2 (i1_2 + 1) s2 H locs ls (by omega) hF8 q3 q4 q5 q6 q7 (by omega) (by omega) (by omega) hW (lv_sub hl [1, 0] rfl)
  exact L2 ((100 + 1 - 0 : Int).toNat + 1) 0 s0 H locs ls (by decide) hF p0 p1 p2 k268_8 k268_58 (by omega) (by omega) (Nat.lt_succ_self _) hW (lv_sub hl [1, 0] rfl)
set_option maxHeartbeats 4000000 in
set_option maxRecDepth 100000 in
theorem c_X11_falls (l : Launch) (D : va_G) (g : xG) (T : Nat × Nat × Nat) (h0 : Nat) (s0 : xS) (hσ : xRR s0) (x : Int) (rx : xR x) (w : Int) (rw : xR w) (n : Int) (rn : xR n) (hx0 : 0 ≤ x ∧ x ≤ 99) (p0 : IMn s0) (p1 : IMk s0) (p2 : IMo s0) : Met l yX11_falls (xws yX11_falls cX11_falls 6 none) { frames := 3, cells := 0, slots := 0, locals := 66 } (xP [.ref (h0 + 268), .int (xJ x), .int (xJ w), .int (xJ n)] D g T h0 s0) (xQv D g h0 (fun τ => xFr (fun k => k = 295) s0 τ ∧ (((IMn τ) ∧ (IMk τ) ∧ (IMo τ) ∧ True) ∧ (True)))) 0 0 (xA h0) := by
  refine x_met hσ (by decide) (Nat.le_of_ble_eq_true rfl) ?_
  intro p e s m args below meth c hx hb hr hml hown hT hlk hnm hE hW ls hl
  have hl : lv_has ls 6 [(0, .ref (h0 + 268)), (1, .int (xJ x)), (2, .int (xJ w)), (3, .int (xJ n))] := hl
  obtain ⟨Q, eQ⟩ : ∃ Q, Q = MQ below (xQv D g h0 (fun τ => xFr (fun k => k = 295) s0 τ ∧ (((IMn τ) ∧ (IMk τ) ∧ (IMo τ) ∧ True) ∧ (True)))) args s 0 0 (xA h0) := ⟨_, rfl⟩
  rw [← eQ]
  generalize hHe : ([] : List Loc) = locs at hW ⊢
  obtain ⟨H, eH⟩ : ∃ H, H = s.heap := ⟨_, rfl⟩
  rw [← eH] at hW ⊢
  have hF : xFr (fun k => k = 295) s0 s0 := xFr.rf
  have k268_8 : s0 268 8 = s0 268 8 := rfl
  have k268_58 : s0 268 58 = s0 268 58 := rfl
  refine x_iload_n hx hb hl 1 rfl dX11_falls_0 rfl ?_
  refine x_iload_n hx hb hl 2 rfl dX11_falls_1 rfl ?_
  refine x_goi (x_runS (As := [.int (xJ x), .int (xJ w)]) hx hb hml hown hT hE hW hl.1 cf_X11_beside wq1554 wq1553 (c_X11_beside l D g T h0 s0 hW.2.1 x rx w rw (by omega)) ⟨rfl, rfl, ⟨by decide, by decide⟩, ⟨by decide, by decide⟩⟩ rfl rfl (Nat.le_of_ble_eq_true rfl) dX11_falls_2) hW (fun x1 s2 H locs rx1 hp3 hW => ?_)
  obtain ⟨es2, hp3⟩ := hp3
  subst es2
  have ghp3 := hp3
  refine lv_istore (lv' := [(4, .int (xJ x1)), (0, .ref (h0 + 268)), (1, .int (xJ x)), (2, .int (xJ w)), (3, .int (xJ n))]) hx hb dX11_falls_5 hl (by decide) rfl (fun ls hl => ?_)
  refine x_iconst hx hb dX11_falls_7 ?_
  refine lv_istore (lv' := [(5, .int (xJ 0)), (4, .int (xJ x1)), (0, .ref (h0 + 268)), (1, .int (xJ x)), (2, .int (xJ w)), (3, .int (xJ n))]) hx hb dX11_falls_8 hl (by decide) rfl (fun ls hl => ?_)
  have L10 : ∀ (fu : Nat) (i4_10 : Int) (i5_10 : Int) (s_10 : xS) (H : Heap) (locs : List Loc) (ls : Array Slot), (xR i4_10) → (xR i5_10) → (xFr (fun k => k = 295) s0 s_10) → (IMn s_10) → (IMk s_10) → (IMo s_10) → (s_10 268 8 = s0 268 8) → (s_10 268 58 = s0 268 58) → (0 ≤ i5_10) → (i4_10 = -1 ∨ (0 ≤ i4_10 ∧ i4_10 ≤ 99)) → (n + 1 - i5_10).toNat < fu → xW D g h0 s H locs s_10 → lv_has ls 6 [(0, .ref (h0 + 268)), (2, .int (xJ w)), (3, .int (xJ n)), (4, .int (xJ i4_10)), (5, .int (xJ i5_10))] → W p l e { frames := 3, cells := 0, slots := 0, locals := 66 } s m args below meth c H locs 0 0 Q (F0 m 10 ls []) := by
    intro fu
    induction fu with
    | zero => intro i4_10 i5_10 s_10 H locs ls ri4_10 ri5_10 hF_10 q10_0 q10_1 q10_2 q10_3 q10_4 v10_0 v10_1 hm; exact absurd hm (Nat.not_lt_zero _)
    | succ fu ih10 =>
      intro i4_10 i5_10 s_10 H locs ls ri4_10 ri5_10 hF_10 q10_0 q10_1 q10_2 q10_3 q10_4 v10_0 v10_1 hm hW hl
      refine x_iload hx hb hl 4 rfl dX11_falls_10 ?_
      refine x_iload_n hx hb hl 2 rfl dX11_falls_12 rfl ?_
      refine x_icmp_ge (tgt := 63) hx hb ri5_10 rn dX11_falls_13 (by decide) (fun c4 => ?_) (fun c4 => ?_)
      · skip
        rw [eQ]
        exact x_vret hx hb hr hlk hW ⟨hF_10, ⟨q10_0, q10_1, q10_2, trivial⟩, trivial⟩ dX11_falls_63
      refine x_iload hx hb hl 3 rfl dX11_falls_16 ?_
      refine x_iconst hx hb dX11_falls_18 ?_
      refine x_icmp_eq (tgt := 63) hx hb ri4_10 (by decide) dX11_falls_19 (by decide) (fun c5 => ?_) (fun c5 => ?_)
      · skip
        rw [eQ]
        exact x_vret hx hb hr hlk hW ⟨hF_10, ⟨q10_0, q10_1, q10_2, trivial⟩, trivial⟩ dX11_falls_63
      refine x_aload_n hx hb hl 0 rfl dX11_falls_22 rfl ?_
      refine x_get (j := 3) (v := .ref (h0 + 272)) hx hb hown hT hE hW cls_X11 (Or.inl (by decide)) (so_268 h0 g _) (by decide) rfl wq1188 dX11_falls_23 ?_
      refine x_iload hx hb hl 3 rfl dX11_falls_26 ?_
      refine x_iald hx hb hE hW (Or.inl (by decide)) (sa_272 h0 g _) (by omega) (by decide) dX11_falls_28 ?_
      refine x_rd hW (fun x6 ex6 rx6 => ?_)
      refine x_iconst hx hb dX11_falls_29 ?_
      refine x_icmp_eq (tgt := 63) hx hb rx6 (by decide) dX11_falls_30 (by decide) (fun c7 => ?_) (fun c7 => ?_)
      · skip
        rw [eQ]
        exact x_vret hx hb hr hlk hW ⟨hF_10, ⟨q10_0, q10_1, q10_2, trivial⟩, trivial⟩ dX11_falls_63
      refine x_aload_n hx hb hl 0 rfl dX11_falls_33 rfl ?_
      refine x_get (j := 40) (v := .ref (h0 + 295)) hx hb hown hT hE hW cls_X11 (Or.inl (by decide)) (so_268 h0 g _) (by decide) rfl wq1225 dX11_falls_34 ?_
      refine x_iload hx hb hl 3 rfl dX11_falls_37 ?_
      refine x_aload_n hx hb hl 0 rfl dX11_falls_39 rfl ?_
      refine x_get (j := 40) (v := .ref (h0 + 295)) hx hb hown hT hE hW cls_X11 (Or.inl (by decide)) (so_268 h0 g _) (by decide) rfl wq1225 dX11_falls_40 ?_
      refine x_iload hx hb hl 3 rfl dX11_falls_43 ?_
      refine x_iald hx hb hE hW (Or.inl (by decide)) (sa_295 h0 g _) (by omega) (by decide) dX11_falls_45 ?_
      refine x_rd hW (fun x8 ex8 rx8 => ?_)
      refine x_iconst hx hb dX11_falls_46 ?_
      refine x_iadd hx hb dX11_falls_47 ?_
      refine x_any (fun x9 rx9 => ?_)
      refine x_iast hx hb hE hW (by decide) (fun σ => sa_295 h0 g σ) (by omega) (by decide) rx9 dX11_falls_48 (fun H locs s10 es10 hW => ?_)
      have q11 : IMn s10 := by rw [es10]; exact IMn_o (by unfold suIMn; omega) q10_0
      have q12 : IMk s10 := by rw [es10]; exact IMk_o (by unfold suIMk; omega) q10_1
      have q13 : IMo s10 := by rw [es10]; exact IMo_o (by unfold suIMo; omega) q10_2
      have q14 : s10 268 8 = s0 268 8 := (show s10 268 8 = s_10 268 8 from by rw [es10, xU_k _ _ _ (by omega)]).trans q10_3
      have q15 : s10 268 58 = s0 268 58 := (show s10 268 58 = s_10 268 58 from by rw [es10, xU_k _ _ _ (by omega)]).trans q10_4
      have hF16 := hF_10.put es10 (by omega)
      refine x_iload hx hb hl 3 rfl dX11_falls_49 ?_
      refine x_iload_n hx hb hl 1 rfl dX11_falls_51 rfl ?_
      refine x_goi (x_runS (As := [.int (xJ i4_10), .int (xJ w)]) hx hb hml hown hT hE hW hl.1 cf_X11_beside wq1554 wq1553 (c_X11_beside l D g T h0 s10 hW.2.1 i4_10 ri4_10 w rw (by omega)) ⟨rfl, rfl, ⟨by decide, by decide⟩, ⟨by decide, by decide⟩⟩ rfl rfl (Nat.le_of_ble_eq_true rfl) dX11_falls_52) hW (fun x17 s18 H locs rx17 hp19 hW => ?_)
      obtain ⟨es18, hp19⟩ := hp19
      subst es18
      have ghp19 := hp19
      refine lv_istore (lv' := [(4, .int (xJ x17)), (0, .ref (h0 + 268)), (2, .int (xJ w)), (3, .int (xJ n)), (5, .int (xJ i5_10))]) hx hb dX11_falls_55 hl (by decide) rfl (fun ls hl => ?_)
      refine x_iinc (lv' := [(5, .int (xJ (i5_10 + 1))), (4, .int (xJ x17)), (0, .ref (h0 + 268)), (2, .int (xJ w)), (3, .int (xJ n))]) hx hb hl 4 rfl dX11_falls_57 (by decide) rfl (fun ls hl => ?_)
      refine lv_goto (tgt := 10) hx hb dX11_falls_60 (by decide) ?_
      exact ih10 x17 (i5_10 + 1) s10 H locs ls rx17 (by omega) hF16 q11 q12 q13 q14 q15 (by omega) (by omega) (by omega) hW (lv_sub hl [2, 3, 4, 1, 0] rfl)
  exact L10 ((n + 1 - 0 : Int).toNat + 1) x1 0 s0 H locs ls rx1 (by decide) hF p0 p1 p2 k268_8 k268_58 (by omega) (by omega) (Nat.lt_succ_self _) hW (lv_sub hl [2, 4, 5, 1, 0] rfl)
set_option maxHeartbeats 4000000 in
set_option maxRecDepth 100000 in
theorem c_X11_fallsBehind (l : Launch) (D : va_G) (g : xG) (T : Nat × Nat × Nat) (h0 : Nat) (s0 : xS) (hσ : xRR s0) (x : Int) (rx : xR x) (j : Int) (rj : xR j) (hx0 : 0 ≤ x ∧ x ≤ 99) (hj : 0 ≤ j ∧ j < 2) (p0 : IMn s0) (p1 : IMk s0) (p2 : IMo s0) : Met l yX11_fallsBehind (xws yX11_fallsBehind cX11_fallsBehind 7 none) { frames := 4, cells := 0, slots := 0, locals := 91 } (xP [.ref (h0 + 268), .int (xJ x), .int (xJ j)] D g T h0 s0) (xQv D g h0 (fun τ => xFr (fun k => k = 295) s0 τ ∧ (((IMn τ) ∧ (IMk τ) ∧ (IMo τ) ∧ True) ∧ (True)))) 0 0 (xA h0) := by
  refine x_met hσ (by decide) (Nat.le_of_ble_eq_true rfl) ?_
  intro p e s m args below meth c hx hb hr hml hown hT hlk hnm hE hW ls hl
  have hl : lv_has ls 7 [(0, .ref (h0 + 268)), (1, .int (xJ x)), (2, .int (xJ j))] := hl
  obtain ⟨Q, eQ⟩ : ∃ Q, Q = MQ below (xQv D g h0 (fun τ => xFr (fun k => k = 295) s0 τ ∧ (((IMn τ) ∧ (IMk τ) ∧ (IMo τ) ∧ True) ∧ (True)))) args s 0 0 (xA h0) := ⟨_, rfl⟩
  rw [← eQ]
  generalize hHe : ([] : List Loc) = locs at hW ⊢
  obtain ⟨H, eH⟩ : ∃ H, H = s.heap := ⟨_, rfl⟩
  rw [← eH] at hW ⊢
  have hF : xFr (fun k => k = 295) s0 s0 := xFr.rf
  have k268_8 : s0 268 8 = s0 268 8 := rfl
  have k268_58 : s0 268 58 = s0 268 58 := rfl
  refine x_aload_n hx hb hl 0 rfl dX11_fallsBehind_0 rfl ?_
  refine x_get (j := 0) (v := .ref (h0 + 269)) hx hb hown hT hE hW cls_X11 (Or.inl (by decide)) (so_268 h0 g _) (by decide) rfl wq1185 dX11_fallsBehind_1 ?_
  refine x_iconst hx hb dX11_fallsBehind_4 ?_
  refine x_iload_n hx hb hl 2 rfl dX11_fallsBehind_5 rfl ?_
  refine x_iadd hx hb dX11_fallsBehind_6 ?_
  refine x_iald hx hb hE hW (Or.inl (by decide)) (sa_269 h0 g _) (by omega) (by decide) dX11_fallsBehind_7 ?_
  refine x_rd hW (fun x1 ex1 rx1 => ?_)
  have bx1 : 0 ≤ x1 ∧ x1 ≤ 99 := by rw [ex1]; exact (IMn.n1 p0).1 _ (by omega) (by omega)
  refine lv_istore_n (lv' := [(3, .int (xJ x1)), (0, .ref (h0 + 268)), (1, .int (xJ x)), (2, .int (xJ j))]) hx hb dX11_fallsBehind_8 rfl hl (by decide) rfl (fun ls hl => ?_)
  refine x_iconst hx hb dX11_fallsBehind_9 ?_
  refine lv_istore (lv' := [(4, .int (xJ 0)), (3, .int (xJ x1)), (0, .ref (h0 + 268)), (1, .int (xJ x)), (2, .int (xJ j))]) hx hb dX11_fallsBehind_10 hl (by decide) rfl (fun ls hl => ?_)
  have L12 : ∀ (fu : Nat) (i4_12 : Int) (s_12 : xS) (H : Heap) (locs : List Loc) (ls : Array Slot), (xR i4_12) → (xFr (fun k => k = 295) s0 s_12) → (IMn s_12) → (IMk s_12) → (IMo s_12) → (s_12 268 8 = s0 268 8) → (s_12 268 58 = s0 268 58) → (0 ≤ i4_12) → (i4_12 ≤ 8) → (8 + 1 - i4_12).toNat < fu → xW D g h0 s H locs s_12 → lv_has ls 7 [(0, .ref (h0 + 268)), (1, .int (xJ x)), (3, .int (xJ x1)), (4, .int (xJ i4_12))] → W p l e { frames := 4, cells := 0, slots := 0, locals := 91 } s m args below meth c H locs 0 0 Q (F0 m 12 ls []) := by
    intro fu
    induction fu with
    | zero => intro i4_12 s_12 H locs ls ri4_12 hF_12 q12_0 q12_1 q12_2 q12_3 q12_4 v12_0 v12_1 hm; exact absurd hm (Nat.not_lt_zero _)
    | succ fu ih12 =>
      intro i4_12 s_12 H locs ls ri4_12 hF_12 q12_0 q12_1 q12_2 q12_3 q12_4 v12_0 v12_1 hm hW hl
      refine x_iload hx hb hl 3 rfl dX11_fallsBehind_12 ?_
      refine x_bipush hx hb dX11_fallsBehind_14 (by decide) ?_
      refine x_icmp_ge (tgt := 102) hx hb ri4_12 (by decide) dX11_fallsBehind_16 (by decide) (fun c2 => ?_) (fun c2 => ?_)
      · skip
        rw [eQ]
        exact x_vret hx hb hr hlk hW ⟨hF_12, ⟨q12_0, q12_1, q12_2, trivial⟩, trivial⟩ dX11_fallsBehind_102
      refine x_iload_n hx hb hl 1 rfl dX11_fallsBehind_19 rfl ?_
      refine x_iload hx hb hl 3 rfl dX11_fallsBehind_20 ?_
      refine x_goi (x_runS (As := [.int (xJ x), .int (xJ i4_12)]) hx hb hml hown hT hE hW hl.1 cf_X11_beside wq1554 wq1553 (c_X11_beside l D g T h0 s_12 hW.2.1 x rx i4_12 ri4_12 (by omega)) ⟨rfl, rfl, ⟨by decide, by decide⟩, ⟨by decide, by decide⟩⟩ rfl rfl (Nat.le_of_ble_eq_true rfl) dX11_fallsBehind_22) hW (fun x3 s4 H locs rx3 hp5 hW => ?_)
      obtain ⟨es4, hp5⟩ := hp5
      subst es4
      have ghp5 := hp5
      refine lv_istore (lv' := [(5, .int (xJ x3)), (0, .ref (h0 + 268)), (1, .int (xJ x)), (3, .int (xJ x1)), (4, .int (xJ i4_12))]) hx hb dX11_fallsBehind_25 hl (by decide) rfl (fun ls hl => ?_)
      refine x_iconst hx hb dX11_fallsBehind_27 ?_
      refine lv_istore (lv' := [(6, .int (xJ 1)), (5, .int (xJ x3)), (0, .ref (h0 + 268)), (1, .int (xJ x)), (3, .int (xJ x1)), (4, .int (xJ i4_12))]) hx hb dX11_fallsBehind_28 hl (by decide) rfl (fun ls hl => ?_)
      have L30 : ∀ (fu : Nat) (i5_30 : Int) (i6_30 : Int) (H : Heap) (locs : List Loc) (ls : Array Slot), (xR i5_30) → (xR i6_30) → (0 ≤ i6_30) → (i6_30 ≤ 4) → (i5_30 = -1 ∨ (0 ≤ i5_30 ∧ i5_30 ≤ 99)) → (4 + 1 - i6_30).toNat < fu → xW D g h0 s H locs s_12 → lv_has ls 7 [(0, .ref (h0 + 268)), (1, .int (xJ x)), (3, .int (xJ x1)), (4, .int (xJ i4_12)), (5, .int (xJ i5_30)), (6, .int (xJ i6_30))] → W p l e { frames := 4, cells := 0, slots := 0, locals := 91 } s m args below meth c H locs 0 0 Q (F0 m 30 ls []) := by
        intro fu
        induction fu with
        | zero => intro i5_30 i6_30 H locs ls ri5_30 ri6_30 v30_0 v30_1 v30_2 hm; exact absurd hm (Nat.not_lt_zero _)
        | succ fu ih30 =>
          intro i5_30 i6_30 H locs ls ri5_30 ri6_30 v30_0 v30_1 v30_2 hm hW hl
          refine x_iload hx hb hl 5 rfl dX11_fallsBehind_30 ?_
          refine x_iconst hx hb dX11_fallsBehind_32 ?_
          have J77 : ∀ (ls : Array Slot), (i5_30 = -1 ∨ (0 ≤ i5_30 ∧ i5_30 ≤ 99)) → lv_has ls 7 [(0, .ref (h0 + 268)), (1, .int (xJ x)), (3, .int (xJ x1)), (4, .int (xJ i4_12)), (5, .int (xJ i5_30))] → W p l e { frames := 4, cells := 0, slots := 0, locals := 91 } s m args below meth c H locs 0 0 Q (F0 m 77 ls []) := by
            intro ls v77_0  hl
            refine x_iload hx hb hl 4 rfl dX11_fallsBehind_77 ?_
            refine x_iload_n hx hb hl 2 rfl dX11_fallsBehind_79 rfl ?_
            refine x_icmp_ne (tgt := 96) hx hb ri5_30 rx1 dX11_fallsBehind_80 (by decide) (fun c6 => ?_) (fun c6 => ?_)
            · skip
              refine x_iinc (lv' := [(4, .int (xJ (i4_12 + 1))), (0, .ref (h0 + 268)), (1, .int (xJ x)), (3, .int (xJ x1)), (5, .int (xJ i5_30))]) hx hb hl 3 rfl dX11_fallsBehind_96 (by decide) rfl (fun ls hl => ?_)
              refine lv_goto (tgt := 12) hx hb dX11_fallsBehind_99 (by decide) ?_
              exact ih12 (i4_12 + 1) s_12 H locs ls (by omega) hF_12 q12_0 q12_1 q12_2 q12_3 q12_4 (by omega) (by omega) (by omega) hW (lv_sub hl [1, 2, 3, 0] rfl)
            refine x_iload_n hx hb hl 1 rfl dX11_fallsBehind_83 rfl ?_
            refine x_iload_n hx hb hl 2 rfl dX11_fallsBehind_84 rfl ?_
            refine x_icmp_eq (tgt := 96) hx hb rx rx1 dX11_fallsBehind_85 (by decide) (fun c7 => ?_) (fun c7 => ?_)
            · skip
              refine x_iinc (lv' := [(4, .int (xJ (i4_12 + 1))), (0, .ref (h0 + 268)), (1, .int (xJ x)), (3, .int (xJ x1)), (5, .int (xJ i5_30))]) hx hb hl 3 rfl dX11_fallsBehind_96 (by decide) rfl (fun ls hl => ?_)
              refine lv_goto (tgt := 12) hx hb dX11_fallsBehind_99 (by decide) ?_
              exact ih12 (i4_12 + 1) s_12 H locs ls (by omega) hF_12 q12_0 q12_1 q12_2 q12_3 q12_4 (by omega) (by omega) (by omega) hW (lv_sub hl [1, 2, 3, 0] rfl)
            refine x_aload_n hx hb hl 0 rfl dX11_fallsBehind_88 rfl ?_
            refine x_iload_n hx hb hl 2 rfl dX11_fallsBehind_89 rfl ?_
            refine x_iload hx hb hl 3 rfl dX11_fallsBehind_90 ?_
            refine x_iconst hx hb dX11_fallsBehind_92 ?_
            refine x_gov (x_runV (As := [.int (xJ x1), .int (xJ i4_12), .int (xJ 2)]) hx hb hml hown hT hE hW hl.1 (Or.inl (by decide)) (so_268 h0 g _) rfl cf_X11_falls wq1600 wq142 wq1598 (c_X11_falls l D g T h0 s_12 hW.2.1 x1 rx1 i4_12 ri4_12 2 (by decide) (by omega) q12_0 q12_1 q12_2) ⟨rfl, rfl, ⟨by decide, by decide⟩, ⟨by decide, by decide⟩⟩ rfl rfl (Nat.le_of_ble_eq_true rfl) dX11_fallsBehind_93) hW (fun s9 H locs hp10 hW => ?_)
            obtain ⟨fs9, hp10⟩ := hp10
            have hF11 := hF_12.call fs9 (fun k h => by omega)
            have q12 : s9 268 8 = s0 268 8 := (congrFun (fs9 _ (by omega)) _).trans q12_3
            have q13 : s9 268 58 = s0 268 58 := (congrFun (fs9 _ (by omega)) _).trans q12_4
            have ghp10 := hp10.2
            refine x_iinc (lv' := [(4, .int (xJ (i4_12 + 1))), (0, .ref (h0 + 268)), (1, .int (xJ x)), (3, .int (xJ x1)), (5, .int (xJ i5_30))]) hx hb hl 3 rfl dX11_fallsBehind_96 (by decide) rfl (fun ls hl => ?_)
            refine lv_goto (tgt := 12) hx hb dX11_fallsBehind_99 (by decide) ?_
            exact ih12 (i4_12 + 1) s9 H locs ls (by omega) hF11 hp10.1.1 hp10.1.2.1 hp10.1.2.2.1 q12 q13 (by omega) (by omega) (by omega) hW (lv_sub hl [1, 2, 3, 0] rfl)
          refine x_icmp_ge (tgt := 77) hx hb ri6_30 (by decide) dX11_fallsBehind_33 (by decide) (fun c14 => ?_) (fun c14 => ?_)
          · skip
            exact J77 ls (by omega)  (lv_sub hl [0, 1, 2, 3, 4] rfl)
          refine x_iload hx hb hl 4 rfl dX11_fallsBehind_36 ?_
          refine x_iconst hx hb dX11_fallsBehind_38 ?_
          refine x_icmp_eq (tgt := 77) hx hb ri5_30 (by decide) dX11_fallsBehind_39 (by decide) (fun c15 => ?_) (fun c15 => ?_)
          · skip
            exact J77 ls (by omega)  (lv_sub hl [0, 1, 2, 3, 4] rfl)
          refine x_iload hx hb hl 4 rfl dX11_fallsBehind_42 ?_
          refine x_iload_n hx hb hl 2 rfl dX11_fallsBehind_44 rfl ?_
          refine x_icmp_eq (tgt := 77) hx hb ri5_30 rx1 dX11_fallsBehind_45 (by decide) (fun c16 => ?_) (fun c16 => ?_)
          · skip
            exact J77 ls (by omega)  (lv_sub hl [0, 1, 2, 3, 4] rfl)
          refine x_aload_n hx hb hl 0 rfl dX11_fallsBehind_48 rfl ?_
          refine x_get (j := 3) (v := .ref (h0 + 272)) hx hb hown hT hE hW cls_X11 (Or.inl (by decide)) (so_268 h0 g _) (by decide) rfl wq1188 dX11_fallsBehind_49 ?_
          refine x_iload hx hb hl 4 rfl dX11_fallsBehind_52 ?_
          refine x_iald hx hb hE hW (Or.inl (by decide)) (sa_272 h0 g _) (by omega) (by decide) dX11_fallsBehind_54 ?_
          refine x_rd hW (fun x17 ex17 rx17 => ?_)
          refine x_iconst hx hb dX11_fallsBehind_55 ?_
          refine x_icmp_eq (tgt := 77) hx hb rx17 (by decide) dX11_fallsBehind_56 (by decide) (fun c18 => ?_) (fun c18 => ?_)
          · skip
            exact J77 ls (by omega)  (lv_sub hl [0, 1, 2, 3, 4] rfl)
          refine x_iload hx hb hl 4 rfl dX11_fallsBehind_59 ?_
          refine x_iload hx hb hl 3 rfl dX11_fallsBehind_61 ?_
          refine x_goi (x_runS (As := [.int (xJ i5_30), .int (xJ i4_12)]) hx hb hml hown hT hE hW hl.1 cf_X11_beside wq1554 wq1553 (c_X11_beside l D g T h0 s_12 hW.2.1 i5_30 ri5_30 i4_12 ri4_12 (by omega)) ⟨rfl, rfl, ⟨by decide, by decide⟩, ⟨by decide, by decide⟩⟩ rfl rfl (Nat.le_of_ble_eq_true rfl) dX11_fallsBehind_63) hW (fun x19 s20 H locs rx19 hp21 hW => ?_)
          obtain ⟨es20, hp21⟩ := hp21
          subst es20
          have ghp21 := hp21
          refine lv_istore (lv' := [(5, .int (xJ x19)), (0, .ref (h0 + 268)), (1, .int (xJ x)), (3, .int (xJ x1)), (4, .int (xJ i4_12)), (6, .int (xJ i6_30))]) hx hb dX11_fallsBehind_66 hl (by decide) rfl (fun ls hl => ?_)
          refine x_iload hx hb hl 5 rfl dX11_fallsBehind_68 ?_
          refine x_iconst hx hb dX11_fallsBehind_70 ?_
          refine x_iadd hx hb dX11_fallsBehind_71 ?_
          refine x_nm (fun x22 ex22 => ?_)
          refine lv_istore (lv' := [(6, .int (xJ x22)), (5, .int (xJ x19)), (0, .ref (h0 + 268)), (1, .int (xJ x)), (3, .int (xJ x1)), (4, .int (xJ i4_12))]) hx hb dX11_fallsBehind_72 hl (by decide) rfl (fun ls hl => ?_)
          refine lv_goto (tgt := 30) hx hb dX11_fallsBehind_74 (by decide) ?_
          exact ih30 x19 x22 H locs ls rx19 (by omega) (by omega) (by omega) (by omega) (by omega) hW (lv_sub hl [2, 3, 4, 5, 1, 0] rfl)
      exact L30 ((4 + 1 - 1 : Int).toNat + 1) x3 1 H locs ls rx3 (by decide) (by omega) (by omega) (by omega) (Nat.lt_succ_self _) hW (lv_sub hl [2, 3, 4, 5, 1, 0] rfl)
  exact L12 ((8 + 1 - 0 : Int).toNat + 1) 0 s0 H locs ls (by decide) hF p0 p1 p2 k268_8 k268_58 (by omega) (by omega) (Nat.lt_succ_self _) hW (lv_sub hl [2, 3, 1, 0] rfl)
set_option maxHeartbeats 4000000 in
set_option maxRecDepth 100000 in
theorem c_X11_fallsByLamps (l : Launch) (D : va_G) (g : xG) (T : Nat × Nat × Nat) (h0 : Nat) (s0 : xS) (hσ : xRR s0) (p0 : IMn s0) (p1 : IMk s0) (p2 : IMo s0) : Met l yX11_fallsByLamps (xws yX11_fallsByLamps cX11_fallsByLamps 3 none) { frames := 5, cells := 0, slots := 0, locals := 117 } (xP [.ref (h0 + 268)] D g T h0 s0) (xQv D g h0 (fun τ => xFr (fun k => k = 295) s0 τ ∧ (((IMn τ) ∧ (IMk τ) ∧ (IMo τ) ∧ True) ∧ (True)))) 0 0 (xA h0) := by
  refine x_met hσ (by decide) (Nat.le_of_ble_eq_true rfl) ?_
  intro p e s m args below meth c hx hb hr hml hown hT hlk hnm hE hW ls hl
  have hl : lv_has ls 3 [(0, .ref (h0 + 268))] := hl
  obtain ⟨Q, eQ⟩ : ∃ Q, Q = MQ below (xQv D g h0 (fun τ => xFr (fun k => k = 295) s0 τ ∧ (((IMn τ) ∧ (IMk τ) ∧ (IMo τ) ∧ True) ∧ (True)))) args s 0 0 (xA h0) := ⟨_, rfl⟩
  rw [← eQ]
  generalize hHe : ([] : List Loc) = locs at hW ⊢
  obtain ⟨H, eH⟩ : ∃ H, H = s.heap := ⟨_, rfl⟩
  rw [← eH] at hW ⊢
  have hF : xFr (fun k => k = 295) s0 s0 := xFr.rf
  have k268_8 : s0 268 8 = s0 268 8 := rfl
  have k268_58 : s0 268 58 = s0 268 58 := rfl
  refine x_iconst hx hb dX11_fallsByLamps_0 ?_
  refine lv_istore_n (lv' := [(1, .int (xJ 0)), (0, .ref (h0 + 268))]) hx hb dX11_fallsByLamps_1 rfl hl (by decide) rfl (fun ls hl => ?_)
  have L2 : ∀ (fu : Nat) (i1_2 : Int) (s_2 : xS) (H : Heap) (locs : List Loc) (ls : Array Slot), (xR i1_2) → (xFr (fun k => k = 295) s0 s_2) → (IMn s_2) → (IMk s_2) → (IMo s_2) → (s_2 268 8 = s0 268 8) → (s_2 268 58 = s0 268 58) → (0 ≤ i1_2) → (i1_2 ≤ 4) → (4 + 1 - i1_2).toNat < fu → xW D g h0 s H locs s_2 → lv_has ls 3 [(0, .ref (h0 + 268)), (1, .int (xJ i1_2))] → W p l e { frames := 5, cells := 0, slots := 0, locals := 117 } s m args below meth c H locs 0 0 Q (F0 m 2 ls []) := by
    intro fu
    induction fu with
    | zero => intro i1_2 s_2 H locs ls ri1_2 hF_2 q2_0 q2_1 q2_2 q2_3 q2_4 v2_0 v2_1 hm; exact absurd hm (Nat.not_lt_zero _)
    | succ fu ih2 =>
      intro i1_2 s_2 H locs ls ri1_2 hF_2 q2_0 q2_1 q2_2 q2_3 q2_4 v2_0 v2_1 hm hW hl
      refine x_iload_n hx hb hl 1 rfl dX11_fallsByLamps_2 rfl ?_
      refine x_iconst hx hb dX11_fallsByLamps_3 ?_
      refine x_icmp_ge (tgt := 55) hx hb ri1_2 (by decide) dX11_fallsByLamps_4 (by decide) (fun c1 => ?_) (fun c1 => ?_)
      · skip
        rw [eQ]
        exact x_vret hx hb hr hlk hW ⟨hF_2, ⟨q2_0, q2_1, q2_2, trivial⟩, trivial⟩ dX11_fallsByLamps_55
      refine x_iconst hx hb dX11_fallsByLamps_7 ?_
      refine lv_istore_n (lv' := [(2, .int (xJ 0)), (0, .ref (h0 + 268)), (1, .int (xJ i1_2))]) hx hb dX11_fallsByLamps_8 rfl hl (by decide) rfl (fun ls hl => ?_)
      have L9 : ∀ (fu : Nat) (i2_9 : Int) (s_9 : xS) (H : Heap) (locs : List Loc) (ls : Array Slot), (xR i2_9) → (xFr (fun k => k = 295) s0 s_9) → (IMn s_9) → (IMk s_9) → (IMo s_9) → (s_9 268 8 = s0 268 8) → (s_9 268 58 = s0 268 58) → (0 ≤ i2_9) → (i2_9 ≤ 2) → (2 + 1 - i2_9).toNat < fu → xW D g h0 s H locs s_9 → lv_has ls 3 [(0, .ref (h0 + 268)), (1, .int (xJ i1_2)), (2, .int (xJ i2_9))] → W p l e { frames := 5, cells := 0, slots := 0, locals := 117 } s m args below meth c H locs 0 0 Q (F0 m 9 ls []) := by
        intro fu
        induction fu with
        | zero => intro i2_9 s_9 H locs ls ri2_9 hF_9 q9_0 q9_1 q9_2 q9_3 q9_4 v9_0 v9_1 hm; exact absurd hm (Nat.not_lt_zero _)
        | succ fu ih9 =>
          intro i2_9 s_9 H locs ls ri2_9 hF_9 q9_0 q9_1 q9_2 q9_3 q9_4 v9_0 v9_1 hm hW hl
          refine x_iload_n hx hb hl 2 rfl dX11_fallsByLamps_9 rfl ?_
          refine x_iconst hx hb dX11_fallsByLamps_10 ?_
          refine x_icmp_ge (tgt := 49) hx hb ri2_9 (by decide) dX11_fallsByLamps_11 (by decide) (fun c2 => ?_) (fun c2 => ?_)
          · skip
            refine x_iinc (lv' := [(1, .int (xJ (i1_2 + 1))), (0, .ref (h0 + 268)), (2, .int (xJ i2_9))]) hx hb hl 1 rfl dX11_fallsByLamps_49 (by decide) rfl (fun ls hl => ?_)
            refine lv_goto (tgt := 2) hx hb dX11_fallsByLamps_52 (by decide) ?_
            exact ih2 (i1_2 + 1) s_9 H locs ls (by omega) hF_9 q9_0 q9_1 q9_2 q9_3 q9_4 (by omega) (by omega) (by omega) hW (lv_sub hl [1, 0] rfl)
          refine x_aload_n hx hb hl 0 rfl dX11_fallsByLamps_14 rfl ?_
          refine x_get (j := 4) (v := .ref (h0 + 273)) hx hb hown hT hE hW cls_X11 (Or.inl (by decide)) (so_268 h0 g _) (by decide) rfl wq1189 dX11_fallsByLamps_15 ?_
          refine x_iload_n hx hb hl 1 rfl dX11_fallsByLamps_18 rfl ?_
          refine x_iald hx hb hE hW (Or.inl (by decide)) (sa_273 h0 g _) (by omega) (by decide) dX11_fallsByLamps_19 ?_
          refine x_rd hW (fun x3 ex3 rx3 => ?_)
          have bx3 : -1 ≤ x3 ∧ x3 ≤ 99 := by rw [ex3]; exact IMn.l q9_0 _ (by omega) (by omega)
          refine x_iconst hx hb dX11_fallsByLamps_20 ?_
          refine x_icmp_eq (tgt := 43) hx hb rx3 (by decide) dX11_fallsByLamps_21 (by decide) (fun c4 => ?_) (fun c4 => ?_)
          · skip
            refine x_iinc (lv' := [(2, .int (xJ (i2_9 + 1))), (0, .ref (h0 + 268)), (1, .int (xJ i1_2))]) hx hb hl 2 rfl dX11_fallsByLamps_43 (by decide) rfl (fun ls hl => ?_)
            refine lv_goto (tgt := 9) hx hb dX11_fallsByLamps_46 (by decide) ?_
            exact ih9 (i2_9 + 1) s_9 H locs ls (by omega) hF_9 q9_0 q9_1 q9_2 q9_3 q9_4 (by omega) (by omega) (by omega) hW (lv_sub hl [1, 2, 0] rfl)
          refine x_aload_n hx hb hl 0 rfl dX11_fallsByLamps_24 rfl ?_
          refine x_iload_n hx hb hl 2 rfl dX11_fallsByLamps_25 rfl ?_
          refine x_goi (x_runV (As := [.int (xJ i2_9)]) hx hb hml hown hT hE hW hl.1 (Or.inl (by decide)) (so_268 h0 g _) rfl cf_X11_isJudge wq1409 wq109 wq1407 (c_X11_isJudge l D g T h0 s_9 hW.2.1 i2_9 ri2_9 q9_0 q9_1 q9_2) ⟨rfl, rfl, ⟨by decide, by decide⟩, ⟨by decide, by decide⟩⟩ rfl rfl (Nat.le_of_ble_eq_true rfl) dX11_fallsByLamps_26) hW (fun x5 s6 H locs rx5 hp7 hW => ?_)
          obtain ⟨es6, hp7⟩ := hp7
          subst es6
          have ghp7 := hp7
          refine x_if_eq (tgt := 43) hx hb rx5 dX11_fallsByLamps_29 (by decide) (fun c8 => ?_) (fun c8 => ?_)
          · skip
            refine x_iinc (lv' := [(2, .int (xJ (i2_9 + 1))), (0, .ref (h0 + 268)), (1, .int (xJ i1_2))]) hx hb hl 2 rfl dX11_fallsByLamps_43 (by decide) rfl (fun ls hl => ?_)
            refine lv_goto (tgt := 9) hx hb dX11_fallsByLamps_46 (by decide) ?_
            exact ih9 (i2_9 + 1) s_9 H locs ls (by omega) hF_9 q9_0 q9_1 q9_2 q9_3 q9_4 (by omega) (by omega) (by omega) hW (lv_sub hl [1, 2, 0] rfl)
          refine x_aload_n hx hb hl 0 rfl dX11_fallsByLamps_32 rfl ?_
          refine x_aload_n hx hb hl 0 rfl dX11_fallsByLamps_33 rfl ?_
          refine x_get (j := 4) (v := .ref (h0 + 273)) hx hb hown hT hE hW cls_X11 (Or.inl (by decide)) (so_268 h0 g _) (by decide) rfl wq1189 dX11_fallsByLamps_34 ?_
          refine x_iload_n hx hb hl 1 rfl dX11_fallsByLamps_37 rfl ?_
          refine x_iald hx hb hE hW (Or.inl (by decide)) (sa_273 h0 g _) (by omega) (by decide) dX11_fallsByLamps_38 ?_
          refine x_rd hW (fun x9 ex9 rx9 => ?_)
          have bx9 : -1 ≤ x9 ∧ x9 ≤ 99 := by rw [ex9]; exact IMn.l q9_0 _ (by omega) (by omega)
          refine x_iload_n hx hb hl 2 rfl dX11_fallsByLamps_39 rfl ?_
          refine x_gov (x_runV (As := [.int (xJ x9), .int (xJ i2_9)]) hx hb hml hown hT hE hW hl.1 (Or.inl (by decide)) (so_268 h0 g _) rfl cf_X11_fallsBehind wq1612 wq145 wq1610 (c_X11_fallsBehind l D g T h0 s_9 hW.2.1 x9 rx9 i2_9 ri2_9 (by omega) (by omega) q9_0 q9_1 q9_2) ⟨rfl, rfl, ⟨by decide, by decide⟩, ⟨by decide, by decide⟩⟩ rfl rfl (Nat.le_of_ble_eq_true rfl) dX11_fallsByLamps_40) hW (fun s11 H locs hp12 hW => ?_)
          obtain ⟨fs11, hp12⟩ := hp12
          have hF13 := hF_9.call fs11 (fun k h => by omega)
          have q14 : s11 268 8 = s0 268 8 := (congrFun (fs11 _ (by omega)) _).trans q9_3
          have q15 : s11 268 58 = s0 268 58 := (congrFun (fs11 _ (by omega)) _).trans q9_4
          have ghp12 := hp12.2
          refine x_iinc (lv' := [(2, .int (xJ (i2_9 + 1))), (0, .ref (h0 + 268)), (1, .int (xJ i1_2))]) hx hb hl 2 rfl dX11_fallsByLamps_43 (by decide) rfl (fun ls hl => ?_)
          refine lv_goto (tgt := 9) hx hb dX11_fallsByLamps_46 (by decide) ?_
          exact ih9 (i2_9 + 1) s11 H locs ls (by omega) hF13 hp12.1.1 hp12.1.2.1 hp12.1.2.2.1 q14 q15 (by omega) (by omega) (by omega) hW (lv_sub hl [1, 2, 0] rfl)
      exact L9 ((2 + 1 - 0 : Int).toNat + 1) 0 s_2 H locs ls (by decide) hF_2 q2_0 q2_1 q2_2 q2_3 q2_4 (by omega) (by omega) (Nat.lt_succ_self _) hW (lv_sub hl [1, 2, 0] rfl)
  exact L2 ((4 + 1 - 0 : Int).toNat + 1) 0 s0 H locs ls (by decide) hF p0 p1 p2 k268_8 k268_58 (by omega) (by omega) (Nat.lt_succ_self _) hW (lv_sub hl [1, 0] rfl)
set_option maxHeartbeats 4000000 in
set_option maxRecDepth 100000 in
theorem c_X11_copiesA (l : Launch) (D : va_G) (g : xG) (T : Nat × Nat × Nat) (h0 : Nat) (s0 : xS) (hσ : xRR s0) (p0 : IMn s0) (p1 : IMk s0) (p2 : IMo s0) : Met l yX11_copies (xws yX11_copies cX11_copies 3 none) { frames := 0, cells := 0, slots := 0, locals := 0 } (xP [.ref (h0 + 269), .ref (h0 + 270)] D g T h0 s0) (xQv D g h0 (fun τ => xFr (fun k => k = 270) s0 τ ∧ (((IMn τ) ∧ (IMk τ) ∧ (IMo τ) ∧ True) ∧ (True)))) 0 0 (xA h0) := by
  refine x_met hσ (by decide) (Nat.le_of_ble_eq_true rfl) ?_
  intro p e s m args below meth c hx hb hr hml hown hT hlk hnm hE hW ls hl
  have hl : lv_has ls 3 [(0, .ref (h0 + 269)), (1, .ref (h0 + 270))] := hl
  obtain ⟨Q, eQ⟩ : ∃ Q, Q = MQ below (xQv D g h0 (fun τ => xFr (fun k => k = 270) s0 τ ∧ (((IMn τ) ∧ (IMk τ) ∧ (IMo τ) ∧ True) ∧ (True)))) args s 0 0 (xA h0) := ⟨_, rfl⟩
  rw [← eQ]
  generalize hHe : ([] : List Loc) = locs at hW ⊢
  obtain ⟨H, eH⟩ : ∃ H, H = s.heap := ⟨_, rfl⟩
  rw [← eH] at hW ⊢
  have hF : xFr (fun k => k = 270) s0 s0 := xFr.rf
  have k268_8 : s0 268 8 = s0 268 8 := rfl
  have k268_58 : s0 268 58 = s0 268 58 := rfl
  refine x_iconst hx hb dX11_copies_0 ?_
  refine lv_istore_n (lv' := [(2, .int (xJ 0)), (0, .ref (h0 + 269)), (1, .ref (h0 + 270))]) hx hb dX11_copies_1 rfl hl (by decide) rfl (fun ls hl => ?_)
  have L2 : ∀ (fu : Nat) (i2_2 : Int) (s_2 : xS) (H : Heap) (locs : List Loc) (ls : Array Slot), (xR i2_2) → (xFr (fun k => k = 270) s0 s_2) → (IMn s_2) → (IMk s_2) → (IMo s_2) → (s_2 268 8 = s0 268 8) → (s_2 268 58 = s0 268 58) → (0 ≤ i2_2) → (i2_2 ≤ 39) → (39 + 1 - i2_2).toNat < fu → xW D g h0 s H locs s_2 → lv_has ls 3 [(0, .ref (h0 + 269)), (1, .ref (h0 + 270)), (2, .int (xJ i2_2))] → W p l e { frames := 0, cells := 0, slots := 0, locals := 0 } s m args below meth c H locs 0 0 Q (F0 m 2 ls []) := by
    intro fu
    induction fu with
    | zero => intro i2_2 s_2 H locs ls ri2_2 hF_2 q2_0 q2_1 q2_2 q2_3 q2_4 v2_0 v2_1 hm; exact absurd hm (Nat.not_lt_zero _)
    | succ fu ih2 =>
      intro i2_2 s_2 H locs ls ri2_2 hF_2 q2_0 q2_1 q2_2 q2_3 q2_4 v2_0 v2_1 hm hW hl
      refine x_iload_n hx hb hl 2 rfl dX11_copies_2 rfl ?_
      refine x_bipush hx hb dX11_copies_3 (by decide) ?_
      refine x_icmp_ge (tgt := 20) hx hb ri2_2 (by decide) dX11_copies_5 (by decide) (fun c1 => ?_) (fun c1 => ?_)
      · skip
        rw [eQ]
        exact x_vret hx hb hr hlk hW ⟨hF_2, ⟨q2_0, q2_1, q2_2, trivial⟩, trivial⟩ dX11_copies_20
      refine x_aload_n hx hb hl 1 rfl dX11_copies_8 rfl ?_
      refine x_iload_n hx hb hl 2 rfl dX11_copies_9 rfl ?_
      refine x_aload_n hx hb hl 0 rfl dX11_copies_10 rfl ?_
      refine x_iload_n hx hb hl 2 rfl dX11_copies_11 rfl ?_
      refine x_iald hx hb hE hW (Or.inl (by decide)) (sa_269 h0 g _) (by omega) (by decide) dX11_copies_12 ?_
      refine x_rd hW (fun x2 ex2 rx2 => ?_)
      have bx2 := okN_v (IMn.n1 q2_0) i2_2
      rw [← ex2] at bx2
      refine x_iast hx hb hE hW (by decide) (fun σ => sa_270 h0 g σ) (by omega) (by decide) rx2 dX11_copies_13 (fun H locs s3 es3 hW => ?_)
      have q4 : IMn s3 := by rw [es3]; exact IMn_N270 q2_0 (by omega)
      have q5 : IMk s3 := by rw [es3]; exact IMk_o (by unfold suIMk; omega) q2_1
      have q6 : IMo s3 := by rw [es3]; exact IMo_o (by unfold suIMo; omega) q2_2
      have q7 : s3 268 8 = s0 268 8 := (show s3 268 8 = s_2 268 8 from by rw [es3, xU_k _ _ _ (by omega)]).trans q2_3
      have q8 : s3 268 58 = s0 268 58 := (show s3 268 58 = s_2 268 58 from by rw [es3, xU_k _ _ _ (by omega)]).trans q2_4
      have hF9 := hF_2.put es3 (by omega)
      refine x_iinc (lv' := [(2, .int (xJ (i2_2 + 1))), (0, .ref (h0 + 269)), (1, .ref (h0 + 270))]) hx hb hl 2 rfl dX11_copies_14 (by decide) rfl (fun ls hl => ?_)
      refine lv_goto (tgt := 2) hx hb dX11_copies_17 (by decide) ?_
      exact ih2 (i2_2 + 1) s3 H locs ls (by omega) hF9 q4 q5 q6 q7 q8 (by omega) (by omega) (by omega) hW (lv_sub hl [1, 2, 0] rfl)
  exact L2 ((39 + 1 - 0 : Int).toNat + 1) 0 s0 H locs ls (by decide) hF p0 p1 p2 k268_8 k268_58 (by omega) (by omega) (Nat.lt_succ_self _) hW (lv_sub hl [1, 2, 0] rfl)
set_option maxHeartbeats 4000000 in
set_option maxRecDepth 100000 in
theorem c_X11_copiesB (l : Launch) (D : va_G) (g : xG) (T : Nat × Nat × Nat) (h0 : Nat) (s0 : xS) (hσ : xRR s0) (p0 : IMn s0) (p1 : IMk s0) (p2 : IMo s0) : Met l yX11_copies (xws yX11_copies cX11_copies 3 none) { frames := 0, cells := 0, slots := 0, locals := 0 } (xP [.ref (h0 + 270), .ref (h0 + 269)] D g T h0 s0) (xQv D g h0 (fun τ => xFr (fun k => k = 269) s0 τ ∧ (((IMn τ) ∧ (IMk τ) ∧ (IMo τ) ∧ True) ∧ (True)))) 0 0 (xA h0) := by
  refine x_met hσ (by decide) (Nat.le_of_ble_eq_true rfl) ?_
  intro p e s m args below meth c hx hb hr hml hown hT hlk hnm hE hW ls hl
  have hl : lv_has ls 3 [(0, .ref (h0 + 270)), (1, .ref (h0 + 269))] := hl
  obtain ⟨Q, eQ⟩ : ∃ Q, Q = MQ below (xQv D g h0 (fun τ => xFr (fun k => k = 269) s0 τ ∧ (((IMn τ) ∧ (IMk τ) ∧ (IMo τ) ∧ True) ∧ (True)))) args s 0 0 (xA h0) := ⟨_, rfl⟩
  rw [← eQ]
  generalize hHe : ([] : List Loc) = locs at hW ⊢
  obtain ⟨H, eH⟩ : ∃ H, H = s.heap := ⟨_, rfl⟩
  rw [← eH] at hW ⊢
  have hF : xFr (fun k => k = 269) s0 s0 := xFr.rf
  have k268_8 : s0 268 8 = s0 268 8 := rfl
  have k268_58 : s0 268 58 = s0 268 58 := rfl
  refine x_iconst hx hb dX11_copies_0 ?_
  refine lv_istore_n (lv' := [(2, .int (xJ 0)), (0, .ref (h0 + 270)), (1, .ref (h0 + 269))]) hx hb dX11_copies_1 rfl hl (by decide) rfl (fun ls hl => ?_)
  have L2 : ∀ (fu : Nat) (i2_2 : Int) (s_2 : xS) (H : Heap) (locs : List Loc) (ls : Array Slot), (xR i2_2) → (xFr (fun k => k = 269) s0 s_2) → (IMn s_2) → (IMk s_2) → (IMo s_2) → (s_2 268 8 = s0 268 8) → (s_2 268 58 = s0 268 58) → (0 ≤ i2_2) → (i2_2 ≤ 39) → (39 + 1 - i2_2).toNat < fu → xW D g h0 s H locs s_2 → lv_has ls 3 [(0, .ref (h0 + 270)), (1, .ref (h0 + 269)), (2, .int (xJ i2_2))] → W p l e { frames := 0, cells := 0, slots := 0, locals := 0 } s m args below meth c H locs 0 0 Q (F0 m 2 ls []) := by
    intro fu
    induction fu with
    | zero => intro i2_2 s_2 H locs ls ri2_2 hF_2 q2_0 q2_1 q2_2 q2_3 q2_4 v2_0 v2_1 hm; exact absurd hm (Nat.not_lt_zero _)
    | succ fu ih2 =>
      intro i2_2 s_2 H locs ls ri2_2 hF_2 q2_0 q2_1 q2_2 q2_3 q2_4 v2_0 v2_1 hm hW hl
      refine x_iload_n hx hb hl 2 rfl dX11_copies_2 rfl ?_
      refine x_bipush hx hb dX11_copies_3 (by decide) ?_
      refine x_icmp_ge (tgt := 20) hx hb ri2_2 (by decide) dX11_copies_5 (by decide) (fun c1 => ?_) (fun c1 => ?_)
      · skip
        rw [eQ]
        exact x_vret hx hb hr hlk hW ⟨hF_2, ⟨q2_0, q2_1, q2_2, trivial⟩, trivial⟩ dX11_copies_20
      refine x_aload_n hx hb hl 1 rfl dX11_copies_8 rfl ?_
      refine x_iload_n hx hb hl 2 rfl dX11_copies_9 rfl ?_
      refine x_aload_n hx hb hl 0 rfl dX11_copies_10 rfl ?_
      refine x_iload_n hx hb hl 2 rfl dX11_copies_11 rfl ?_
      refine x_iald hx hb hE hW (Or.inl (by decide)) (sa_270 h0 g _) (by omega) (by decide) dX11_copies_12 ?_
      refine x_rd hW (fun x2 ex2 rx2 => ?_)
      have bx2 := okN_v (IMn.n2 q2_0) i2_2
      rw [← ex2] at bx2
      refine x_iast hx hb hE hW (by decide) (fun σ => sa_269 h0 g σ) (by omega) (by decide) rx2 dX11_copies_13 (fun H locs s3 es3 hW => ?_)
      have q4 : IMn s3 := by rw [es3]; exact IMn_N269 q2_0 (by omega)
      have q5 : IMk s3 := by rw [es3]; exact IMk_o (by unfold suIMk; omega) q2_1
      have q6 : IMo s3 := by rw [es3]; exact IMo_o (by unfold suIMo; omega) q2_2
      have q7 : s3 268 8 = s0 268 8 := (show s3 268 8 = s_2 268 8 from by rw [es3, xU_k _ _ _ (by omega)]).trans q2_3
      have q8 : s3 268 58 = s0 268 58 := (show s3 268 58 = s_2 268 58 from by rw [es3, xU_k _ _ _ (by omega)]).trans q2_4
      have hF9 := hF_2.put es3 (by omega)
      refine x_iinc (lv' := [(2, .int (xJ (i2_2 + 1))), (0, .ref (h0 + 270)), (1, .ref (h0 + 269))]) hx hb hl 2 rfl dX11_copies_14 (by decide) rfl (fun ls hl => ?_)
      refine lv_goto (tgt := 2) hx hb dX11_copies_17 (by decide) ?_
      exact ih2 (i2_2 + 1) s3 H locs ls (by omega) hF9 q4 q5 q6 q7 q8 (by omega) (by omega) (by omega) hW (lv_sub hl [1, 2, 0] rfl)
  exact L2 ((39 + 1 - 0 : Int).toNat + 1) 0 s0 H locs ls (by decide) hF p0 p1 p2 k268_8 k268_58 (by omega) (by omega) (Nat.lt_succ_self _) hW (lv_sub hl [1, 2, 0] rfl)
set_option maxHeartbeats 4000000 in
set_option maxRecDepth 100000 in
theorem c_X11_copiesK (l : Launch) (D : va_G) (g : xG) (T : Nat × Nat × Nat) (h0 : Nat) (s0 : xS) (hσ : xRR s0) (p0 : IMn s0) (p1 : IMk s0) (p2 : IMo s0) : Met l yX11_copies (xws yX11_copies cX11_copies 3 none) { frames := 0, cells := 0, slots := 0, locals := 0 } (xP [.ref (h0 + 269), .ref (h0 + 271)] D g T h0 s0) (xQv D g h0 (fun τ => xFr (fun k => k = 271) s0 τ ∧ (((IMn τ) ∧ (IMk τ) ∧ (IMo τ) ∧ True) ∧ (True)))) 0 0 (xA h0) := by
  refine x_met hσ (by decide) (Nat.le_of_ble_eq_true rfl) ?_
  intro p e s m args below meth c hx hb hr hml hown hT hlk hnm hE hW ls hl
  have hl : lv_has ls 3 [(0, .ref (h0 + 269)), (1, .ref (h0 + 271))] := hl
  obtain ⟨Q, eQ⟩ : ∃ Q, Q = MQ below (xQv D g h0 (fun τ => xFr (fun k => k = 271) s0 τ ∧ (((IMn τ) ∧ (IMk τ) ∧ (IMo τ) ∧ True) ∧ (True)))) args s 0 0 (xA h0) := ⟨_, rfl⟩
  rw [← eQ]
  generalize hHe : ([] : List Loc) = locs at hW ⊢
  obtain ⟨H, eH⟩ : ∃ H, H = s.heap := ⟨_, rfl⟩
  rw [← eH] at hW ⊢
  have hF : xFr (fun k => k = 271) s0 s0 := xFr.rf
  have k268_8 : s0 268 8 = s0 268 8 := rfl
  have k268_58 : s0 268 58 = s0 268 58 := rfl
  refine x_iconst hx hb dX11_copies_0 ?_
  refine lv_istore_n (lv' := [(2, .int (xJ 0)), (0, .ref (h0 + 269)), (1, .ref (h0 + 271))]) hx hb dX11_copies_1 rfl hl (by decide) rfl (fun ls hl => ?_)
  have L2 : ∀ (fu : Nat) (i2_2 : Int) (s_2 : xS) (H : Heap) (locs : List Loc) (ls : Array Slot), (xR i2_2) → (xFr (fun k => k = 271) s0 s_2) → (IMn s_2) → (IMk s_2) → (IMo s_2) → (s_2 268 8 = s0 268 8) → (s_2 268 58 = s0 268 58) → (0 ≤ i2_2) → (i2_2 ≤ 39) → (39 + 1 - i2_2).toNat < fu → xW D g h0 s H locs s_2 → lv_has ls 3 [(0, .ref (h0 + 269)), (1, .ref (h0 + 271)), (2, .int (xJ i2_2))] → W p l e { frames := 0, cells := 0, slots := 0, locals := 0 } s m args below meth c H locs 0 0 Q (F0 m 2 ls []) := by
    intro fu
    induction fu with
    | zero => intro i2_2 s_2 H locs ls ri2_2 hF_2 q2_0 q2_1 q2_2 q2_3 q2_4 v2_0 v2_1 hm; exact absurd hm (Nat.not_lt_zero _)
    | succ fu ih2 =>
      intro i2_2 s_2 H locs ls ri2_2 hF_2 q2_0 q2_1 q2_2 q2_3 q2_4 v2_0 v2_1 hm hW hl
      refine x_iload_n hx hb hl 2 rfl dX11_copies_2 rfl ?_
      refine x_bipush hx hb dX11_copies_3 (by decide) ?_
      refine x_icmp_ge (tgt := 20) hx hb ri2_2 (by decide) dX11_copies_5 (by decide) (fun c1 => ?_) (fun c1 => ?_)
      · skip
        rw [eQ]
        exact x_vret hx hb hr hlk hW ⟨hF_2, ⟨q2_0, q2_1, q2_2, trivial⟩, trivial⟩ dX11_copies_20
      refine x_aload_n hx hb hl 1 rfl dX11_copies_8 rfl ?_
      refine x_iload_n hx hb hl 2 rfl dX11_copies_9 rfl ?_
      refine x_aload_n hx hb hl 0 rfl dX11_copies_10 rfl ?_
      refine x_iload_n hx hb hl 2 rfl dX11_copies_11 rfl ?_
      refine x_iald hx hb hE hW (Or.inl (by decide)) (sa_269 h0 g _) (by omega) (by decide) dX11_copies_12 ?_
      refine x_rd hW (fun x2 ex2 rx2 => ?_)
      have bx2 := okN_v (IMn.n1 q2_0) i2_2
      rw [← ex2] at bx2
      refine x_iast hx hb hE hW (by decide) (fun σ => sa_271 h0 g σ) (by omega) (by decide) rx2 dX11_copies_13 (fun H locs s3 es3 hW => ?_)
      have q4 : IMn s3 := by rw [es3]; exact IMn_N271 q2_0 (by omega)
      have q5 : IMk s3 := by rw [es3]; exact IMk_o (by unfold suIMk; omega) q2_1
      have q6 : IMo s3 := by rw [es3]; exact IMo_o (by unfold suIMo; omega) q2_2
      have q7 : s3 268 8 = s0 268 8 := (show s3 268 8 = s_2 268 8 from by rw [es3, xU_k _ _ _ (by omega)]).trans q2_3
      have q8 : s3 268 58 = s0 268 58 := (show s3 268 58 = s_2 268 58 from by rw [es3, xU_k _ _ _ (by omega)]).trans q2_4
      have hF9 := hF_2.put es3 (by omega)
      refine x_iinc (lv' := [(2, .int (xJ (i2_2 + 1))), (0, .ref (h0 + 269)), (1, .ref (h0 + 271))]) hx hb hl 2 rfl dX11_copies_14 (by decide) rfl (fun ls hl => ?_)
      refine lv_goto (tgt := 2) hx hb dX11_copies_17 (by decide) ?_
      exact ih2 (i2_2 + 1) s3 H locs ls (by omega) hF9 q4 q5 q6 q7 q8 (by omega) (by omega) (by omega) hW (lv_sub hl [1, 2, 0] rfl)
  exact L2 ((39 + 1 - 0 : Int).toNat + 1) 0 s0 H locs ls (by decide) hF p0 p1 p2 k268_8 k268_58 (by omega) (by omega) (Nat.lt_succ_self _) hW (lv_sub hl [1, 2, 0] rfl)
set_option maxHeartbeats 4000000 in
set_option maxRecDepth 100000 in
theorem c_X11_copiesU (l : Launch) (D : va_G) (g : xG) (T : Nat × Nat × Nat) (h0 : Nat) (s0 : xS) (hσ : xRR s0) (p0 : IMn s0) (p1 : IMk s0) (p2 : IMo s0) : Met l yX11_copies (xws yX11_copies cX11_copies 3 none) { frames := 0, cells := 0, slots := 0, locals := 0 } (xP [.ref (h0 + 271), .ref (h0 + 269)] D g T h0 s0) (xQv D g h0 (fun τ => xFr (fun k => k = 269) s0 τ ∧ (((IMn τ) ∧ (IMk τ) ∧ (IMo τ) ∧ True) ∧ (True)))) 0 0 (xA h0) := by
  refine x_met hσ (by decide) (Nat.le_of_ble_eq_true rfl) ?_
  intro p e s m args below meth c hx hb hr hml hown hT hlk hnm hE hW ls hl
  have hl : lv_has ls 3 [(0, .ref (h0 + 271)), (1, .ref (h0 + 269))] := hl
  obtain ⟨Q, eQ⟩ : ∃ Q, Q = MQ below (xQv D g h0 (fun τ => xFr (fun k => k = 269) s0 τ ∧ (((IMn τ) ∧ (IMk τ) ∧ (IMo τ) ∧ True) ∧ (True)))) args s 0 0 (xA h0) := ⟨_, rfl⟩
  rw [← eQ]
  generalize hHe : ([] : List Loc) = locs at hW ⊢
  obtain ⟨H, eH⟩ : ∃ H, H = s.heap := ⟨_, rfl⟩
  rw [← eH] at hW ⊢
  have hF : xFr (fun k => k = 269) s0 s0 := xFr.rf
  have k268_8 : s0 268 8 = s0 268 8 := rfl
  have k268_58 : s0 268 58 = s0 268 58 := rfl
  refine x_iconst hx hb dX11_copies_0 ?_
  refine lv_istore_n (lv' := [(2, .int (xJ 0)), (0, .ref (h0 + 271)), (1, .ref (h0 + 269))]) hx hb dX11_copies_1 rfl hl (by decide) rfl (fun ls hl => ?_)
  have L2 : ∀ (fu : Nat) (i2_2 : Int) (s_2 : xS) (H : Heap) (locs : List Loc) (ls : Array Slot), (xR i2_2) → (xFr (fun k => k = 269) s0 s_2) → (IMn s_2) → (IMk s_2) → (IMo s_2) → (s_2 268 8 = s0 268 8) → (s_2 268 58 = s0 268 58) → (0 ≤ i2_2) → (i2_2 ≤ 39) → (39 + 1 - i2_2).toNat < fu → xW D g h0 s H locs s_2 → lv_has ls 3 [(0, .ref (h0 + 271)), (1, .ref (h0 + 269)), (2, .int (xJ i2_2))] → W p l e { frames := 0, cells := 0, slots := 0, locals := 0 } s m args below meth c H locs 0 0 Q (F0 m 2 ls []) := by
    intro fu
    induction fu with
    | zero => intro i2_2 s_2 H locs ls ri2_2 hF_2 q2_0 q2_1 q2_2 q2_3 q2_4 v2_0 v2_1 hm; exact absurd hm (Nat.not_lt_zero _)
    | succ fu ih2 =>
      intro i2_2 s_2 H locs ls ri2_2 hF_2 q2_0 q2_1 q2_2 q2_3 q2_4 v2_0 v2_1 hm hW hl
      refine x_iload_n hx hb hl 2 rfl dX11_copies_2 rfl ?_
      refine x_bipush hx hb dX11_copies_3 (by decide) ?_
      refine x_icmp_ge (tgt := 20) hx hb ri2_2 (by decide) dX11_copies_5 (by decide) (fun c1 => ?_) (fun c1 => ?_)
      · skip
        rw [eQ]
        exact x_vret hx hb hr hlk hW ⟨hF_2, ⟨q2_0, q2_1, q2_2, trivial⟩, trivial⟩ dX11_copies_20
      refine x_aload_n hx hb hl 1 rfl dX11_copies_8 rfl ?_
      refine x_iload_n hx hb hl 2 rfl dX11_copies_9 rfl ?_
      refine x_aload_n hx hb hl 0 rfl dX11_copies_10 rfl ?_
      refine x_iload_n hx hb hl 2 rfl dX11_copies_11 rfl ?_
      refine x_iald hx hb hE hW (Or.inl (by decide)) (sa_271 h0 g _) (by omega) (by decide) dX11_copies_12 ?_
      refine x_rd hW (fun x2 ex2 rx2 => ?_)
      have bx2 := okN_v (IMn.n3 q2_0) i2_2
      rw [← ex2] at bx2
      refine x_iast hx hb hE hW (by decide) (fun σ => sa_269 h0 g σ) (by omega) (by decide) rx2 dX11_copies_13 (fun H locs s3 es3 hW => ?_)
      have q4 : IMn s3 := by rw [es3]; exact IMn_N269 q2_0 (by omega)
      have q5 : IMk s3 := by rw [es3]; exact IMk_o (by unfold suIMk; omega) q2_1
      have q6 : IMo s3 := by rw [es3]; exact IMo_o (by unfold suIMo; omega) q2_2
      have q7 : s3 268 8 = s0 268 8 := (show s3 268 8 = s_2 268 8 from by rw [es3, xU_k _ _ _ (by omega)]).trans q2_3
      have q8 : s3 268 58 = s0 268 58 := (show s3 268 58 = s_2 268 58 from by rw [es3, xU_k _ _ _ (by omega)]).trans q2_4
      have hF9 := hF_2.put es3 (by omega)
      refine x_iinc (lv' := [(2, .int (xJ (i2_2 + 1))), (0, .ref (h0 + 271)), (1, .ref (h0 + 269))]) hx hb hl 2 rfl dX11_copies_14 (by decide) rfl (fun ls hl => ?_)
      refine lv_goto (tgt := 2) hx hb dX11_copies_17 (by decide) ?_
      exact ih2 (i2_2 + 1) s3 H locs ls (by omega) hF9 q4 q5 q6 q7 q8 (by omega) (by omega) (by omega) hW (lv_sub hl [1, 2, 0] rfl)
  exact L2 ((39 + 1 - 0 : Int).toNat + 1) 0 s0 H locs ls (by decide) hF p0 p1 p2 k268_8 k268_58 (by omega) (by omega) (Nat.lt_succ_self _) hW (lv_sub hl [1, 2, 0] rfl)
set_option maxHeartbeats 4000000 in
set_option maxRecDepth 100000 in
theorem c_X11_copiesWalksK (l : Launch) (D : va_G) (g : xG) (T : Nat × Nat × Nat) (h0 : Nat) (s0 : xS) (hσ : xRR s0) (p0 : IMn s0) (p1 : IMk s0) (p2 : IMo s0) : Met l yX11_copiesWalks (xws yX11_copiesWalks cX11_copiesWalks 5 none) { frames := 0, cells := 0, slots := 0, locals := 0 } (xP [.ref (h0 + 274), .ref (h0 + 275), .ref (h0 + 308), .ref (h0 + 309)] D g T h0 s0) (xQv D g h0 (fun τ => xFr (fun k => k = 308 ∨ k = 309) s0 τ ∧ (((IMn τ) ∧ (IMk τ) ∧ (IMo τ) ∧ True) ∧ (True)))) 0 0 (xA h0) := by
  refine x_met hσ (by decide) (Nat.le_of_ble_eq_true rfl) ?_
  intro p e s m args below meth c hx hb hr hml hown hT hlk hnm hE hW ls hl
  have hl : lv_has ls 5 [(0, .ref (h0 + 274)), (1, .ref (h0 + 275)), (2, .ref (h0 + 308)), (3, .ref (h0 + 309))] := hl
  obtain ⟨Q, eQ⟩ : ∃ Q, Q = MQ below (xQv D g h0 (fun τ => xFr (fun k => k = 308 ∨ k = 309) s0 τ ∧ (((IMn τ) ∧ (IMk τ) ∧ (IMo τ) ∧ True) ∧ (True)))) args s 0 0 (xA h0) := ⟨_, rfl⟩
  rw [← eQ]
  generalize hHe : ([] : List Loc) = locs at hW ⊢
  obtain ⟨H, eH⟩ : ∃ H, H = s.heap := ⟨_, rfl⟩
  rw [← eH] at hW ⊢
  have hF : xFr (fun k => k = 308 ∨ k = 309) s0 s0 := xFr.rf
  have k268_8 : s0 268 8 = s0 268 8 := rfl
  have k268_58 : s0 268 58 = s0 268 58 := rfl
  refine x_iconst hx hb dX11_copiesWalks_0 ?_
  refine lv_istore (lv' := [(4, .int (xJ 0)), (0, .ref (h0 + 274)), (1, .ref (h0 + 275)), (2, .ref (h0 + 308)), (3, .ref (h0 + 309))]) hx hb dX11_copiesWalks_1 hl (by decide) rfl (fun ls hl => ?_)
  have L3 : ∀ (fu : Nat) (i4_3 : Int) (s_3 : xS) (H : Heap) (locs : List Loc) (ls : Array Slot), (xR i4_3) → (xFr (fun k => k = 308 ∨ k = 309) s0 s_3) → (IMn s_3) → (IMk s_3) → (IMo s_3) → (s_3 268 8 = s0 268 8) → (s_3 268 58 = s0 268 58) → (0 ≤ i4_3) → (i4_3 ≤ 2) → (2 + 1 - i4_3).toNat < fu → xW D g h0 s H locs s_3 → lv_has ls 5 [(0, .ref (h0 + 274)), (1, .ref (h0 + 275)), (2, .ref (h0 + 308)), (3, .ref (h0 + 309)), (4, .int (xJ i4_3))] → W p l e { frames := 0, cells := 0, slots := 0, locals := 0 } s m args below meth c H locs 0 0 Q (F0 m 3 ls []) := by
    intro fu
    induction fu with
    | zero => intro i4_3 s_3 H locs ls ri4_3 hF_3 q3_0 q3_1 q3_2 q3_3 q3_4 v3_0 v3_1 hm; exact absurd hm (Nat.not_lt_zero _)
    | succ fu ih3 =>
      intro i4_3 s_3 H locs ls ri4_3 hF_3 q3_0 q3_1 q3_2 q3_3 q3_4 v3_0 v3_1 hm hW hl
      refine x_iload hx hb hl 4 rfl dX11_copiesWalks_3 ?_
      refine x_iconst hx hb dX11_copiesWalks_5 ?_
      refine x_icmp_ge (tgt := 23) hx hb ri4_3 (by decide) dX11_copiesWalks_6 (by decide) (fun c1 => ?_) (fun c1 => ?_)
      · skip
        refine x_iconst hx hb dX11_copiesWalks_23 ?_
        refine lv_istore (lv' := [(4, .int (xJ 0)), (0, .ref (h0 + 274)), (1, .ref (h0 + 275)), (2, .ref (h0 + 308)), (3, .ref (h0 + 309))]) hx hb dX11_copiesWalks_24 hl (by decide) rfl (fun ls hl => ?_)
        have L26 : ∀ (fu : Nat) (i4_26 : Int) (s_26 : xS) (H : Heap) (locs : List Loc) (ls : Array Slot), (xR i4_26) → (xFr (fun k => k = 308 ∨ k = 309) s0 s_26) → (IMn s_26) → (IMk s_26) → (IMo s_26) → (s_26 268 8 = s0 268 8) → (s_26 268 58 = s0 268 58) → (0 ≤ i4_26) → (i4_26 ≤ 120) → (120 + 1 - i4_26).toNat < fu → xW D g h0 s H locs s_26 → lv_has ls 5 [(1, .ref (h0 + 275)), (3, .ref (h0 + 309)), (4, .int (xJ i4_26))] → W p l e { frames := 0, cells := 0, slots := 0, locals := 0 } s m args below meth c H locs 0 0 Q (F0 m 26 ls []) := by
          intro fu
          induction fu with
          | zero => intro i4_26 s_26 H locs ls ri4_26 hF_26 q26_0 q26_1 q26_2 q26_3 q26_4 v26_0 v26_1 hm; exact absurd hm (Nat.not_lt_zero _)
          | succ fu ih26 =>
            intro i4_26 s_26 H locs ls ri4_26 hF_26 q26_0 q26_1 q26_2 q26_3 q26_4 v26_0 v26_1 hm hW hl
            refine x_iload hx hb hl 2 rfl dX11_copiesWalks_26 ?_
            refine x_bipush hx hb dX11_copiesWalks_28 (by decide) ?_
            refine x_icmp_ge (tgt := 47) hx hb ri4_26 (by decide) dX11_copiesWalks_30 (by decide) (fun c2 => ?_) (fun c2 => ?_)
            · skip
              rw [eQ]
              exact x_vret hx hb hr hlk hW ⟨hF_26, ⟨q26_0, q26_1, q26_2, trivial⟩, trivial⟩ dX11_copiesWalks_47
            refine x_aload_n hx hb hl 1 rfl dX11_copiesWalks_33 rfl ?_
            refine x_iload hx hb hl 2 rfl dX11_copiesWalks_34 ?_
            refine x_aload_n hx hb hl 0 rfl dX11_copiesWalks_36 rfl ?_
            refine x_iload hx hb hl 2 rfl dX11_copiesWalks_37 ?_
            refine x_bald hx hb hE hW (Or.inl (by decide)) (sa_275 h0 g _) (by omega) (by decide) dX11_copiesWalks_39 ?_
            refine x_rd hW (fun x3 ex3 rx3 => ?_)
            obtain ⟨y5, ey5, ry5⟩ := xnb x3
            refine x_bast (w := y5) hx hb hE hW (by decide) (fun σ => sa_309 h0 g σ) (by omega) (by decide) ey5 ry5 dX11_copiesWalks_40 (fun H locs s4 es4 hW => ?_)
            have q6 : IMn s4 := by rw [es4]; exact IMn_o (by unfold suIMn; omega) q26_0
            have q7 : IMk s4 := by rw [es4]; exact IMk_o (by unfold suIMk; omega) q26_1
            have q8 : IMo s4 := by rw [es4]; exact IMo_o (by unfold suIMo; omega) q26_2
            have q9 : s4 268 8 = s0 268 8 := (show s4 268 8 = s_26 268 8 from by rw [es4, xU_k _ _ _ (by omega)]).trans q26_3
            have q10 : s4 268 58 = s0 268 58 := (show s4 268 58 = s_26 268 58 from by rw [es4, xU_k _ _ _ (by omega)]).trans q26_4
            have hF11 := hF_26.put es4 (by omega)
            refine x_iinc (lv' := [(4, .int (xJ (i4_26 + 1))), (1, .ref (h0 + 275)), (3, .ref (h0 + 309))]) hx hb hl 2 rfl dX11_copiesWalks_41 (by decide) rfl (fun ls hl => ?_)
            refine lv_goto (tgt := 26) hx hb dX11_copiesWalks_44 (by decide) ?_
            exact ih26 (i4_26 + 1) s4 H locs ls (by omega) hF11 q6 q7 q8 q9 q10 (by omega) (by omega) (by omega) hW (lv_sub hl [1, 2, 0] rfl)
        exact L26 ((120 + 1 - 0 : Int).toNat + 1) 0 s_3 H locs ls (by decide) hF_3 q3_0 q3_1 q3_2 q3_3 q3_4 (by omega) (by omega) (Nat.lt_succ_self _) hW (lv_sub hl [2, 4, 0] rfl)
      refine x_aload_n hx hb hl 2 rfl dX11_copiesWalks_9 rfl ?_
      refine x_iload hx hb hl 4 rfl dX11_copiesWalks_10 ?_
      refine x_aload_n hx hb hl 0 rfl dX11_copiesWalks_12 rfl ?_
      refine x_iload hx hb hl 4 rfl dX11_copiesWalks_13 ?_
      refine x_iald hx hb hE hW (Or.inl (by decide)) (sa_274 h0 g _) (by omega) (by decide) dX11_copiesWalks_15 ?_
      refine x_rd hW (fun x12 ex12 rx12 => ?_)
      have bx12 : 0 ≤ x12 ∧ x12 ≤ 60 := by rw [ex12]; exact IMn.w q3_0 _ (by omega) (by omega)
      refine x_iast hx hb hE hW (by decide) (fun σ => sa_308 h0 g σ) (by omega) (by decide) rx12 dX11_copiesWalks_16 (fun H locs s13 es13 hW => ?_)
      have q14 : IMn s13 := by rw [es13]; exact IMn_308 q3_0 (by omega)
      have q15 : IMk s13 := by rw [es13]; exact IMk_o (by unfold suIMk; omega) q3_1
      have q16 : IMo s13 := by rw [es13]; exact IMo_o (by unfold suIMo; omega) q3_2
      have q17 : s13 268 8 = s0 268 8 := (show s13 268 8 = s_3 268 8 from by rw [es13, xU_k _ _ _ (by omega)]).trans q3_3
      have q18 : s13 268 58 = s0 268 58 := (show s13 268 58 = s_3 268 58 from by rw [es13, xU_k _ _ _ (by omega)]).trans q3_4
      have hF19 := hF_3.put es13 (by omega)
      refine x_iinc (lv' := [(4, .int (xJ (i4_3 + 1))), (0, .ref (h0 + 274)), (1, .ref (h0 + 275)), (2, .ref (h0 + 308)), (3, .ref (h0 + 309))]) hx hb hl 4 rfl dX11_copiesWalks_17 (by decide) rfl (fun ls hl => ?_)
      refine lv_goto (tgt := 3) hx hb dX11_copiesWalks_20 (by decide) ?_
      exact ih3 (i4_3 + 1) s13 H locs ls (by omega) hF19 q14 q15 q16 q17 q18 (by omega) (by omega) (by omega) hW (lv_sub hl [1, 2, 3, 4, 0] rfl)
  exact L3 ((2 + 1 - 0 : Int).toNat + 1) 0 s0 H locs ls (by decide) hF p0 p1 p2 k268_8 k268_58 (by omega) (by omega) (Nat.lt_succ_self _) hW (lv_sub hl [1, 2, 3, 4, 0] rfl)
set_option maxHeartbeats 4000000 in
set_option maxRecDepth 100000 in
theorem c_X11_copiesWalksU (l : Launch) (D : va_G) (g : xG) (T : Nat × Nat × Nat) (h0 : Nat) (s0 : xS) (hσ : xRR s0) (p0 : IMn s0) (p1 : IMk s0) (p2 : IMo s0) : Met l yX11_copiesWalks (xws yX11_copiesWalks cX11_copiesWalks 5 none) { frames := 0, cells := 0, slots := 0, locals := 0 } (xP [.ref (h0 + 308), .ref (h0 + 309), .ref (h0 + 274), .ref (h0 + 275)] D g T h0 s0) (xQv D g h0 (fun τ => xFr (fun k => k = 274 ∨ k = 275) s0 τ ∧ (((IMn τ) ∧ (IMk τ) ∧ (IMo τ) ∧ True) ∧ (True)))) 0 0 (xA h0) := by
  refine x_met hσ (by decide) (Nat.le_of_ble_eq_true rfl) ?_
  intro p e s m args below meth c hx hb hr hml hown hT hlk hnm hE hW ls hl
  have hl : lv_has ls 5 [(0, .ref (h0 + 308)), (1, .ref (h0 + 309)), (2, .ref (h0 + 274)), (3, .ref (h0 + 275))] := hl
  obtain ⟨Q, eQ⟩ : ∃ Q, Q = MQ below (xQv D g h0 (fun τ => xFr (fun k => k = 274 ∨ k = 275) s0 τ ∧ (((IMn τ) ∧ (IMk τ) ∧ (IMo τ) ∧ True) ∧ (True)))) args s 0 0 (xA h0) := ⟨_, rfl⟩
  rw [← eQ]
  generalize hHe : ([] : List Loc) = locs at hW ⊢
  obtain ⟨H, eH⟩ : ∃ H, H = s.heap := ⟨_, rfl⟩
  rw [← eH] at hW ⊢
  have hF : xFr (fun k => k = 274 ∨ k = 275) s0 s0 := xFr.rf
  have k268_8 : s0 268 8 = s0 268 8 := rfl
  have k268_58 : s0 268 58 = s0 268 58 := rfl
  refine x_iconst hx hb dX11_copiesWalks_0 ?_
  refine lv_istore (lv' := [(4, .int (xJ 0)), (0, .ref (h0 + 308)), (1, .ref (h0 + 309)), (2, .ref (h0 + 274)), (3, .ref (h0 + 275))]) hx hb dX11_copiesWalks_1 hl (by decide) rfl (fun ls hl => ?_)
  have L3 : ∀ (fu : Nat) (i4_3 : Int) (s_3 : xS) (H : Heap) (locs : List Loc) (ls : Array Slot), (xR i4_3) → (xFr (fun k => k = 274 ∨ k = 275) s0 s_3) → (IMn s_3) → (IMk s_3) → (IMo s_3) → (s_3 268 8 = s0 268 8) → (s_3 268 58 = s0 268 58) → (0 ≤ i4_3) → (i4_3 ≤ 2) → (2 + 1 - i4_3).toNat < fu → xW D g h0 s H locs s_3 → lv_has ls 5 [(0, .ref (h0 + 308)), (1, .ref (h0 + 309)), (2, .ref (h0 + 274)), (3, .ref (h0 + 275)), (4, .int (xJ i4_3))] → W p l e { frames := 0, cells := 0, slots := 0, locals := 0 } s m args below meth c H locs 0 0 Q (F0 m 3 ls []) := by
    intro fu
    induction fu with
    | zero => intro i4_3 s_3 H locs ls ri4_3 hF_3 q3_0 q3_1 q3_2 q3_3 q3_4 v3_0 v3_1 hm; exact absurd hm (Nat.not_lt_zero _)
    | succ fu ih3 =>
      intro i4_3 s_3 H locs ls ri4_3 hF_3 q3_0 q3_1 q3_2 q3_3 q3_4 v3_0 v3_1 hm hW hl
      refine x_iload hx hb hl 4 rfl dX11_copiesWalks_3 ?_
      refine x_iconst hx hb dX11_copiesWalks_5 ?_
      refine x_icmp_ge (tgt := 23) hx hb ri4_3 (by decide) dX11_copiesWalks_6 (by decide) (fun c1 => ?_) (fun c1 => ?_)
      · skip
        refine x_iconst hx hb dX11_copiesWalks_23 ?_
        refine lv_istore (lv' := [(4, .int (xJ 0)), (0, .ref (h0 + 308)), (1, .ref (h0 + 309)), (2, .ref (h0 + 274)), (3, .ref (h0 + 275))]) hx hb dX11_copiesWalks_24 hl (by decide) rfl (fun ls hl => ?_)
        have L26 : ∀ (fu : Nat) (i4_26 : Int) (s_26 : xS) (H : Heap) (locs : List Loc) (ls : Array Slot), (xR i4_26) → (xFr (fun k => k = 274 ∨ k = 275) s0 s_26) → (IMn s_26) → (IMk s_26) → (IMo s_26) → (s_26 268 8 = s0 268 8) → (s_26 268 58 = s0 268 58) → (0 ≤ i4_26) → (i4_26 ≤ 120) → (120 + 1 - i4_26).toNat < fu → xW D g h0 s H locs s_26 → lv_has ls 5 [(1, .ref (h0 + 309)), (3, .ref (h0 + 275)), (4, .int (xJ i4_26))] → W p l e { frames := 0, cells := 0, slots := 0, locals := 0 } s m args below meth c H locs 0 0 Q (F0 m 26 ls []) := by
          intro fu
          induction fu with
          | zero => intro i4_26 s_26 H locs ls ri4_26 hF_26 q26_0 q26_1 q26_2 q26_3 q26_4 v26_0 v26_1 hm; exact absurd hm (Nat.not_lt_zero _)
          | succ fu ih26 =>
            intro i4_26 s_26 H locs ls ri4_26 hF_26 q26_0 q26_1 q26_2 q26_3 q26_4 v26_0 v26_1 hm hW hl
            refine x_iload hx hb hl 2 rfl dX11_copiesWalks_26 ?_
            refine x_bipush hx hb dX11_copiesWalks_28 (by decide) ?_
            refine x_icmp_ge (tgt := 47) hx hb ri4_26 (by decide) dX11_copiesWalks_30 (by decide) (fun c2 => ?_) (fun c2 => ?_)
            · skip
              rw [eQ]
              exact x_vret hx hb hr hlk hW ⟨hF_26, ⟨q26_0, q26_1, q26_2, trivial⟩, trivial⟩ dX11_copiesWalks_47
            refine x_aload_n hx hb hl 1 rfl dX11_copiesWalks_33 rfl ?_
            refine x_iload hx hb hl 2 rfl dX11_copiesWalks_34 ?_
            refine x_aload_n hx hb hl 0 rfl dX11_copiesWalks_36 rfl ?_
            refine x_iload hx hb hl 2 rfl dX11_copiesWalks_37 ?_
            refine x_bald hx hb hE hW (Or.inl (by decide)) (sa_309 h0 g _) (by omega) (by decide) dX11_copiesWalks_39 ?_
            refine x_rd hW (fun x3 ex3 rx3 => ?_)
            obtain ⟨y5, ey5, ry5⟩ := xnb x3
            refine x_bast (w := y5) hx hb hE hW (by decide) (fun σ => sa_275 h0 g σ) (by omega) (by decide) ey5 ry5 dX11_copiesWalks_40 (fun H locs s4 es4 hW => ?_)
            have q6 : IMn s4 := by rw [es4]; exact IMn_o (by unfold suIMn; omega) q26_0
            have q7 : IMk s4 := by rw [es4]; exact IMk_o (by unfold suIMk; omega) q26_1
            have q8 : IMo s4 := by rw [es4]; exact IMo_o (by unfold suIMo; omega) q26_2
            have q9 : s4 268 8 = s0 268 8 := (show s4 268 8 = s_26 268 8 from by rw [es4, xU_k _ _ _ (by omega)]).trans q26_3
            have q10 : s4 268 58 = s0 268 58 := (show s4 268 58 = s_26 268 58 from by rw [es4, xU_k _ _ _ (by omega)]).trans q26_4
            have hF11 := hF_26.put es4 (by omega)
            refine x_iinc (lv' := [(4, .int (xJ (i4_26 + 1))), (1, .ref (h0 + 309)), (3, .ref (h0 + 275))]) hx hb hl 2 rfl dX11_copiesWalks_41 (by decide) rfl (fun ls hl => ?_)
            refine lv_goto (tgt := 26) hx hb dX11_copiesWalks_44 (by decide) ?_
            exact ih26 (i4_26 + 1) s4 H locs ls (by omega) hF11 q6 q7 q8 q9 q10 (by omega) (by omega) (by omega) hW (lv_sub hl [1, 2, 0] rfl)
        exact L26 ((120 + 1 - 0 : Int).toNat + 1) 0 s_3 H locs ls (by decide) hF_3 q3_0 q3_1 q3_2 q3_3 q3_4 (by omega) (by omega) (Nat.lt_succ_self _) hW (lv_sub hl [2, 4, 0] rfl)
      refine x_aload_n hx hb hl 2 rfl dX11_copiesWalks_9 rfl ?_
      refine x_iload hx hb hl 4 rfl dX11_copiesWalks_10 ?_
      refine x_aload_n hx hb hl 0 rfl dX11_copiesWalks_12 rfl ?_
      refine x_iload hx hb hl 4 rfl dX11_copiesWalks_13 ?_
      refine x_iald hx hb hE hW (Or.inl (by decide)) (sa_308 h0 g _) (by omega) (by decide) dX11_copiesWalks_15 ?_
      refine x_rd hW (fun x12 ex12 rx12 => ?_)
      have bx12 : 0 ≤ x12 ∧ x12 ≤ 60 := by rw [ex12]; exact IMn.v q3_0 _ (by omega) (by omega)
      refine x_iast hx hb hE hW (by decide) (fun σ => sa_274 h0 g σ) (by omega) (by decide) rx12 dX11_copiesWalks_16 (fun H locs s13 es13 hW => ?_)
      have q14 : IMn s13 := by rw [es13]; exact IMn_274 q3_0 (by omega)
      have q15 : IMk s13 := by rw [es13]; exact IMk_o (by unfold suIMk; omega) q3_1
      have q16 : IMo s13 := by rw [es13]; exact IMo_o (by unfold suIMo; omega) q3_2
      have q17 : s13 268 8 = s0 268 8 := (show s13 268 8 = s_3 268 8 from by rw [es13, xU_k _ _ _ (by omega)]).trans q3_3
      have q18 : s13 268 58 = s0 268 58 := (show s13 268 58 = s_3 268 58 from by rw [es13, xU_k _ _ _ (by omega)]).trans q3_4
      have hF19 := hF_3.put es13 (by omega)
      refine x_iinc (lv' := [(4, .int (xJ (i4_3 + 1))), (0, .ref (h0 + 308)), (1, .ref (h0 + 309)), (2, .ref (h0 + 274)), (3, .ref (h0 + 275))]) hx hb hl 4 rfl dX11_copiesWalks_17 (by decide) rfl (fun ls hl => ?_)
      refine lv_goto (tgt := 3) hx hb dX11_copiesWalks_20 (by decide) ?_
      exact ih3 (i4_3 + 1) s13 H locs ls (by omega) hF19 q14 q15 q16 q17 q18 (by omega) (by omega) (by omega) hW (lv_sub hl [1, 2, 3, 4, 0] rfl)
  exact L3 ((2 + 1 - 0 : Int).toNat + 1) 0 s0 H locs ls (by decide) hF p0 p1 p2 k268_8 k268_58 (by omega) (by omega) (Nat.lt_succ_self _) hW (lv_sub hl [1, 2, 3, 4, 0] rfl)
set_option maxHeartbeats 4000000 in
set_option maxRecDepth 100000 in
theorem c_X11_begins (l : Launch) (D : va_G) (g : xG) (T : Nat × Nat × Nat) (h0 : Nat) (s0 : xS) (hσ : xRR s0) (p0 : IMn s0) (p1 : IMk s0) (p2 : IMo s0) : Met l yX11_begins (xws yX11_begins cX11_begins 1 none) { frames := 0, cells := 0, slots := 0, locals := 0 } (xP [.ref (h0 + 268)] D g T h0 s0) (xQv D g h0 (fun τ => xFr (fun k => k = 268) s0 τ ∧ (((IMn τ) ∧ (IMk τ) ∧ (IMo τ) ∧ (τ 268 8 = s0 268 8) ∧ (τ 268 58 = s0 268 58) ∧ True) ∧ (True)))) 0 0 (xA h0) := by
  refine x_met hσ (by decide) (Nat.le_of_ble_eq_true rfl) ?_
  intro p e s m args below meth c hx hb hr hml hown hT hlk hnm hE hW ls hl
  have hl : lv_has ls 1 [(0, .ref (h0 + 268))] := hl
  obtain ⟨Q, eQ⟩ : ∃ Q, Q = MQ below (xQv D g h0 (fun τ => xFr (fun k => k = 268) s0 τ ∧ (((IMn τ) ∧ (IMk τ) ∧ (IMo τ) ∧ (τ 268 8 = s0 268 8) ∧ (τ 268 58 = s0 268 58) ∧ True) ∧ (True)))) args s 0 0 (xA h0) := ⟨_, rfl⟩
  rw [← eQ]
  generalize hHe : ([] : List Loc) = locs at hW ⊢
  obtain ⟨H, eH⟩ : ∃ H, H = s.heap := ⟨_, rfl⟩
  rw [← eH] at hW ⊢
  have hF : xFr (fun k => k = 268) s0 s0 := xFr.rf
  have k268_8 : s0 268 8 = s0 268 8 := rfl
  have k268_58 : s0 268 58 = s0 268 58 := rfl
  refine x_aload_n hx hb hl 0 rfl dX11_begins_0 rfl ?_
  refine x_iconst hx hb dX11_begins_1 ?_
  refine x_put (j := 41) hx hb hown hT hE hW cls_X11 (by decide) (fun σ => so_268 h0 g σ) (by decide) (st_X11_41 h0 s0 268 0) (ln_X11_41 h0 _ _) wq1226 rfl rfl rfl (by decide) dX11_begins_2 (fun H locs s1 es1 hW => ?_)
  have q2 : IMn s1 := by rw [es1]; exact IMn_268 p0 (by omega)
  have q3 : IMk s1 := by rw [es1]; exact IMk_268 p1 (by omega)
  have q4 : IMo s1 := by rw [es1]; exact IMo_o (by unfold suIMo; omega) p2
  have q5 : s1 268 8 = s0 268 8 := (show s1 268 8 = s0 268 8 from by rw [es1, xU_j _ _ (by decide)]).trans k268_8
  have q6 : s1 268 58 = s0 268 58 := (show s1 268 58 = s0 268 58 from by rw [es1, xU_j _ _ (by decide)]).trans k268_58
  have hF7 := hF.put es1 (by omega)
  refine x_aload_n hx hb hl 0 rfl dX11_begins_5 rfl ?_
  refine x_iconst hx hb dX11_begins_6 ?_
  refine x_put (j := 42) hx hb hown hT hE hW cls_X11 (by decide) (fun σ => so_268 h0 g σ) (by decide) (st_X11_42 h0 s1 268 0) (ln_X11_42 h0 _ _) wq1227 rfl rfl rfl (by decide) dX11_begins_7 (fun H locs s8 es8 hW => ?_)
  have q9 : IMn s8 := by rw [es8]; exact IMn_268 q2 (by omega)
  have q10 : IMk s8 := by rw [es8]; exact IMk_268 q3 (by omega)
  have q11 : IMo s8 := by rw [es8]; exact IMo_o (by unfold suIMo; omega) q4
  have q12 : s8 268 8 = s0 268 8 := (show s8 268 8 = s1 268 8 from by rw [es8, xU_j _ _ (by decide)]).trans q5
  have q13 : s8 268 58 = s0 268 58 := (show s8 268 58 = s1 268 58 from by rw [es8, xU_j _ _ (by decide)]).trans q6
  have hF14 := hF7.put es8 (by omega)
  refine x_aload_n hx hb hl 0 rfl dX11_begins_10 rfl ?_
  refine x_iconst hx hb dX11_begins_11 ?_
  refine x_put (j := 43) hx hb hown hT hE hW cls_X11 (by decide) (fun σ => so_268 h0 g σ) (by decide) (st_X11_43 h0 s8 268 0) (ln_X11_43 h0 _ _) wq1228 rfl rfl rfl (by decide) dX11_begins_12 (fun H locs s15 es15 hW => ?_)
  have q16 : IMn s15 := by rw [es15]; exact IMn_268 q9 (by omega)
  have q17 : IMk s15 := by rw [es15]; exact IMk_268 q10 (by omega)
  have q18 : IMo s15 := by rw [es15]; exact IMo_o (by unfold suIMo; omega) q11
  have q19 : s15 268 8 = s0 268 8 := (show s15 268 8 = s8 268 8 from by rw [es15, xU_j _ _ (by decide)]).trans q12
  have q20 : s15 268 58 = s0 268 58 := (show s15 268 58 = s8 268 58 from by rw [es15, xU_j _ _ (by decide)]).trans q13
  have hF21 := hF14.put es15 (by omega)
  refine x_aload_n hx hb hl 0 rfl dX11_begins_15 rfl ?_
  refine x_iconst hx hb dX11_begins_16 ?_
  refine x_put (j := 44) hx hb hown hT hE hW cls_X11 (by decide) (fun σ => so_268 h0 g σ) (by decide) (st_X11_44 h0 s15 268 0) (ln_X11_44 h0 _ _) wq1229 rfl rfl rfl (by decide) dX11_begins_17 (fun H locs s22 es22 hW => ?_)
  have q23 : IMn s22 := by rw [es22]; exact IMn_268 q16 (by omega)
  have q24 : IMk s22 := by rw [es22]; exact IMk_268 q17 (by omega)
  have q25 : IMo s22 := by rw [es22]; exact IMo_o (by unfold suIMo; omega) q18
  have q26 : s22 268 8 = s0 268 8 := (show s22 268 8 = s15 268 8 from by rw [es22, xU_j _ _ (by decide)]).trans q19
  have q27 : s22 268 58 = s0 268 58 := (show s22 268 58 = s15 268 58 from by rw [es22, xU_j _ _ (by decide)]).trans q20
  have hF28 := hF21.put es22 (by omega)
  rw [eQ]
  exact x_vret hx hb hr hlk hW ⟨hF28, ⟨q23, q24, q25, q26, q27, trivial⟩, trivial⟩ dX11_begins_20
set_option maxHeartbeats 4000000 in
set_option maxRecDepth 100000 in
theorem c_X11_draws (l : Launch) (D : va_G) (g : xG) (T : Nat × Nat × Nat) (h0 : Nat) (s0 : xS) (hσ : xRR s0) (p0 : IMn s0) (p1 : IMk s0) (p2 : IMo s0) : Met l yX11_draws (xws yX11_draws cX11_draws 1 (some .int)) { frames := 0, cells := 0, slots := 0, locals := 0 } (xP [.ref (h0 + 268)] D g T h0 s0) (xQi D g h0 (fun r τ => xFr (fun k => k = 269) s0 τ ∧ (((IMn τ) ∧ (IMk τ) ∧ (IMo τ) ∧ (τ 269 37 = s0 269 37) ∧ True) ∧ (0 ≤ r ∧ r < 10)))) 0 0 (xA h0) := by
  refine x_met hσ (by decide) (Nat.le_of_ble_eq_true rfl) ?_
  intro p e s m args below meth c hx hb hr hml hown hT hlk hnm hE hW ls hl
  have hl : lv_has ls 1 [(0, .ref (h0 + 268))] := hl
  obtain ⟨Q, eQ⟩ : ∃ Q, Q = MQ below (xQi D g h0 (fun r τ => xFr (fun k => k = 269) s0 τ ∧ (((IMn τ) ∧ (IMk τ) ∧ (IMo τ) ∧ (τ 269 37 = s0 269 37) ∧ True) ∧ (0 ≤ r ∧ r < 10)))) args s 0 0 (xA h0) := ⟨_, rfl⟩
  rw [← eQ]
  generalize hHe : ([] : List Loc) = locs at hW ⊢
  obtain ⟨H, eH⟩ : ∃ H, H = s.heap := ⟨_, rfl⟩
  rw [← eH] at hW ⊢
  have hF : xFr (fun k => k = 269) s0 s0 := xFr.rf
  have k268_8 : s0 268 8 = s0 268 8 := rfl
  have k268_58 : s0 268 58 = s0 268 58 := rfl
  have k269_37 : s0 269 37 = s0 269 37 := rfl
  refine x_aload_n hx hb hl 0 rfl dX11_draws_0 rfl ?_
  refine x_get (j := 0) (v := .ref (h0 + 269)) hx hb hown hT hE hW cls_X11 (Or.inl (by decide)) (so_268 h0 g _) (by decide) rfl wq1185 dX11_draws_1 ?_
  refine x_bipush hx hb dX11_draws_4 (by decide) ?_
  refine x_sipush hx hb dX11_draws_6 (by decide) ?_
  refine x_aload_n hx hb hl 0 rfl dX11_draws_9 rfl ?_
  refine x_get (j := 0) (v := .ref (h0 + 269)) hx hb hown hT hE hW cls_X11 (Or.inl (by decide)) (so_268 h0 g _) (by decide) rfl wq1185 dX11_draws_10 ?_
  refine x_bipush hx hb dX11_draws_13 (by decide) ?_
  refine x_iald hx hb hE hW (Or.inl (by decide)) (sa_269 h0 g _) ⟨by decide, by decide⟩ (by decide) dX11_draws_15 ?_
  refine x_rd hW (fun x1 ex1 rx1 => ?_)
  have bx1 : 0 ≤ x1 ∧ x1 ≤ 65535 := by rw [ex1]; exact (IMn.n1 p0).2.2.2.2
  refine x_imul hx hb dX11_draws_16 ?_
  refine x_sipush hx hb dX11_draws_17 (by decide) ?_
  refine x_iadd hx hb dX11_draws_20 ?_
  refine lv_ldcw (v := xJ 65536) hx hb hown (hT _ wq1570) dX11_draws_21 ?_
  refine x_irem hx hb (by omega) (by decide) (by omega) (by decide) dX11_draws_24 ?_
  refine x_iast hx hb hE hW (by decide) (fun σ => sa_269 h0 g σ) ⟨by decide, by decide⟩ (by decide) (by omega) dX11_draws_25 (fun H locs s2 es2 hW => ?_)
  have q3 : IMn s2 := by rw [es2]; exact IMn_N269 p0 (by omega)
  have q4 : IMk s2 := by rw [es2]; exact IMk_o (by unfold suIMk; omega) p1
  have q5 : IMo s2 := by rw [es2]; exact IMo_o (by unfold suIMo; omega) p2
  have q6 : s2 268 8 = s0 268 8 := (show s2 268 8 = s0 268 8 from by rw [es2, xU_k _ _ _ (by omega)]).trans k268_8
  have q7 : s2 268 58 = s0 268 58 := (show s2 268 58 = s0 268 58 from by rw [es2, xU_k _ _ _ (by omega)]).trans k268_58
  have q8 : s2 269 37 = s0 269 37 := (show s2 269 37 = s0 269 37 from by rw [es2, xU_j _ _ (by decide)]).trans k269_37
  have hF9 := hF.put es2 (by omega)
  refine x_aload_n hx hb hl 0 rfl dX11_draws_26 rfl ?_
  refine x_get (j := 0) (v := .ref (h0 + 269)) hx hb hown hT hE hW cls_X11 (Or.inl (by decide)) (so_268 h0 g _) (by decide) rfl wq1185 dX11_draws_27 ?_
  refine x_bipush hx hb dX11_draws_30 (by decide) ?_
  refine x_iald hx hb hE hW (Or.inl (by decide)) (sa_269 h0 g _) ⟨by decide, by decide⟩ (by decide) dX11_draws_32 ?_
  refine x_rd hW (fun x10 ex10 rx10 => ?_)
  have bx10 : 0 ≤ x10 ∧ x10 ≤ 65535 := by rw [ex10]; exact (IMn.n1 q3).2.2.2.2
  refine x_bipush hx hb dX11_draws_33 (by decide) ?_
  refine x_irem hx hb rx10 (by decide) (by omega) (by decide) dX11_draws_35 ?_
  rw [eQ]
  exact x_iret hx hb hr hlk hW (by omega) ⟨hF9, ⟨q3, q4, q5, q8, trivial⟩, by omega⟩ dX11_draws_36
set_option maxHeartbeats 4000000 in
set_option maxRecDepth 100000 in
theorem c_X11_steps (l : Launch) (D : va_G) (g : xG) (T : Nat × Nat × Nat) (h0 : Nat) (s0 : xS) (hσ : xRR s0) (j : Int) (rj : xR j) (w : Int) (rw : xR w) (hj : 0 ≤ j ∧ j < 2) (p0 : IMn s0) (p1 : IMk s0) (p2 : IMo s0) : Met l yX11_steps (xws yX11_steps cX11_steps 4 none) { frames := 3, cells := 0, slots := 0, locals := 66 } (xP [.ref (h0 + 268), .int (xJ j), .int (xJ w)] D g T h0 s0) (xQv D g h0 (fun τ => xFr (fun k => k = 269) s0 τ ∧ (((IMn τ) ∧ (IMk τ) ∧ (IMo τ) ∧ (τ 269 37 = s0 269 37) ∧ True) ∧ (True)))) 0 0 (xA h0) := by
  refine x_met hσ (by decide) (Nat.le_of_ble_eq_true rfl) ?_
  intro p e s m args below meth c hx hb hr hml hown hT hlk hnm hE hW ls hl
  have hl : lv_has ls 4 [(0, .ref (h0 + 268)), (1, .int (xJ j)), (2, .int (xJ w))] := hl
  obtain ⟨Q, eQ⟩ : ∃ Q, Q = MQ below (xQv D g h0 (fun τ => xFr (fun k => k = 269) s0 τ ∧ (((IMn τ) ∧ (IMk τ) ∧ (IMo τ) ∧ (τ 269 37 = s0 269 37) ∧ True) ∧ (True)))) args s 0 0 (xA h0) := ⟨_, rfl⟩
  rw [← eQ]
  generalize hHe : ([] : List Loc) = locs at hW ⊢
  obtain ⟨H, eH⟩ : ∃ H, H = s.heap := ⟨_, rfl⟩
  rw [← eH] at hW ⊢
  have hF : xFr (fun k => k = 269) s0 s0 := xFr.rf
  have k268_8 : s0 268 8 = s0 268 8 := rfl
  have k268_58 : s0 268 58 = s0 268 58 := rfl
  have k269_37 : s0 269 37 = s0 269 37 := rfl
  refine x_iload_n hx hb hl 2 rfl dX11_steps_0 rfl ?_
  refine x_bipush hx hb dX11_steps_1 (by decide) ?_
  have J22 : ∀ (t0_22 : Int) (H : Heap) (locs : List Loc) (ls : Array Slot), (xR t0_22) → (t0_22 = -1 ∨ (0 ≤ t0_22 ∧ t0_22 ≤ 99)) → xW D g h0 s H locs s0 → lv_has ls 4 [(0, .ref (h0 + 268)), (1, .int (xJ j))] → W p l e { frames := 3, cells := 0, slots := 0, locals := 66 } s m args below meth c H locs 0 0 Q (F0 m 22 ls [.int (xJ t0_22)]) := by
    intro t0_22 H locs ls rt0_22 v22_0 hW hl
    refine lv_istore_n (lv' := [(3, .int (xJ t0_22)), (0, .ref (h0 + 268)), (1, .int (xJ j))]) hx hb dX11_steps_22 rfl hl (by decide) rfl (fun ls hl => ?_)
    refine x_iload_n hx hb hl 0 rfl dX11_steps_23 rfl ?_
    refine x_iconst hx hb dX11_steps_24 ?_
    refine x_icmp_eq (tgt := 58) hx hb rt0_22 (by decide) dX11_steps_25 (by decide) (fun c1 => ?_) (fun c1 => ?_)
    · skip
      rw [eQ]
      exact x_vret hx hb hr hlk hW ⟨hF, ⟨p0, p1, p2, k269_37, trivial⟩, trivial⟩ dX11_steps_58
    refine x_aload_n hx hb hl 1 rfl dX11_steps_28 rfl ?_
    refine x_iload_n hx hb hl 0 rfl dX11_steps_29 rfl ?_
    refine x_goi (x_runV (As := [.int (xJ t0_22)]) hx hb hml hown hT hE hW hl.1 (Or.inl (by decide)) (so_268 h0 g _) rfl cf_X11_isGround wq1419 wq110 wq1417 (c_X11_isGround l D g T h0 s0 hW.2.1 t0_22 rt0_22 (by omega) p0 p1 p2) ⟨rfl, rfl, ⟨by decide, by decide⟩, ⟨by decide, by decide⟩⟩ rfl rfl (Nat.le_of_ble_eq_true rfl) dX11_steps_30) hW (fun x2 s3 H locs rx2 hp4 hW => ?_)
    obtain ⟨es3, hp4⟩ := hp4
    subst es3
    have ghp4 := hp4
    refine x_if_eq (tgt := 58) hx hb rx2 dX11_steps_33 (by decide) (fun c5 => ?_) (fun c5 => ?_)
    · skip
      rw [eQ]
      exact x_vret hx hb hr hlk hW ⟨hF, ⟨p0, p1, p2, k269_37, trivial⟩, trivial⟩ dX11_steps_58
    refine x_aload_n hx hb hl 1 rfl dX11_steps_36 rfl ?_
    refine x_iconst hx hb dX11_steps_37 ?_
    refine x_iload_n hx hb hl 2 rfl dX11_steps_38 rfl ?_
    refine x_isub hx hb dX11_steps_39 ?_
    refine x_goi (x_runV (As := [.int (xJ (1 - j))]) hx hb hml hown hT hE hW hl.1 (Or.inl (by decide)) (so_268 h0 g _) rfl cf_X11_isJudge wq1409 wq109 wq1407 (c_X11_isJudge l D g T h0 s0 hW.2.1 (1 - j) (by omega) p0 p1 p2) ⟨rfl, rfl, ⟨by decide, by decide⟩, ⟨by decide, by decide⟩⟩ rfl rfl (Nat.le_of_ble_eq_true rfl) dX11_steps_40) hW (fun x6 s7 H locs rx6 hp8 hW => ?_)
    obtain ⟨es7, hp8⟩ := hp8
    subst es7
    have ghp8 := hp8
    refine x_if_eq (tgt := 59) hx hb rx6 dX11_steps_43 (by decide) (fun c9 => ?_) (fun c9 => ?_)
    · skip
      refine x_aload_n hx hb hl 1 rfl dX11_steps_59 rfl ?_
      refine x_get (j := 0) (v := .ref (h0 + 269)) hx hb hown hT hE hW cls_X11 (Or.inl (by decide)) (so_268 h0 g _) (by decide) rfl wq1185 dX11_steps_60 ?_
      refine x_iconst hx hb dX11_steps_63 ?_
      refine x_iload_n hx hb hl 2 rfl dX11_steps_64 rfl ?_
      refine x_iadd hx hb dX11_steps_65 ?_
      refine x_iload_n hx hb hl 0 rfl dX11_steps_66 rfl ?_
      refine x_iast hx hb hE hW (by decide) (fun σ => sa_269 h0 g σ) (by omega) (by decide) rt0_22 dX11_steps_67 (fun H locs s10 es10 hW => ?_)
      have q11 : IMn s10 := by rw [es10]; exact IMn_N269 p0 (by omega)
      have q12 : IMk s10 := by rw [es10]; exact IMk_o (by unfold suIMk; omega) p1
      have q13 : IMo s10 := by rw [es10]; exact IMo_o (by unfold suIMo; omega) p2
      have q14 : s10 268 8 = s0 268 8 := (show s10 268 8 = s0 268 8 from by rw [es10, xU_k _ _ _ (by omega)]).trans k268_8
      have q15 : s10 268 58 = s0 268 58 := (show s10 268 58 = s0 268 58 from by rw [es10, xU_k _ _ _ (by omega)]).trans k268_58
      have q16 : s10 269 37 = s0 269 37 := (show s10 269 37 = s0 269 37 from by rw [es10, xU_j _ _ (by omega)]).trans k269_37
      have hF17 := hF.put es10 (by omega)
      rw [eQ]
      exact x_vret hx hb hr hlk hW ⟨hF17, ⟨q11, q12, q13, q16, trivial⟩, trivial⟩ dX11_steps_68
    refine x_aload_n hx hb hl 1 rfl dX11_steps_46 rfl ?_
    refine x_get (j := 0) (v := .ref (h0 + 269)) hx hb hown hT hE hW cls_X11 (Or.inl (by decide)) (so_268 h0 g _) (by decide) rfl wq1185 dX11_steps_47 ?_
    refine x_iconst hx hb dX11_steps_50 ?_
    refine x_iload_n hx hb hl 2 rfl dX11_steps_51 rfl ?_
    refine x_isub hx hb dX11_steps_52 ?_
    refine x_iald hx hb hE hW (Or.inl (by decide)) (sa_269 h0 g _) (by omega) (by decide) dX11_steps_53 ?_
    refine x_rd hW (fun x18 ex18 rx18 => ?_)
    have bx18 : 0 ≤ x18 ∧ x18 ≤ 99 := by rw [ex18]; exact (IMn.n1 p0).1 _ (by omega) (by omega)
    refine x_iload_n hx hb hl 0 rfl dX11_steps_54 rfl ?_
    refine x_icmp_ne (tgt := 59) hx hb rx18 rt0_22 dX11_steps_55 (by decide) (fun c19 => ?_) (fun c19 => ?_)
    · skip
      refine x_aload_n hx hb hl 1 rfl dX11_steps_59 rfl ?_
      refine x_get (j := 0) (v := .ref (h0 + 269)) hx hb hown hT hE hW cls_X11 (Or.inl (by decide)) (so_268 h0 g _) (by decide) rfl wq1185 dX11_steps_60 ?_
      refine x_iconst hx hb dX11_steps_63 ?_
      refine x_iload_n hx hb hl 2 rfl dX11_steps_64 rfl ?_
      refine x_iadd hx hb dX11_steps_65 ?_
      refine x_iload_n hx hb hl 0 rfl dX11_steps_66 rfl ?_
      refine x_iast hx hb hE hW (by decide) (fun σ => sa_269 h0 g σ) (by omega) (by decide) rt0_22 dX11_steps_67 (fun H locs s20 es20 hW => ?_)
      have q21 : IMn s20 := by rw [es20]; exact IMn_N269 p0 (by omega)
      have q22 : IMk s20 := by rw [es20]; exact IMk_o (by unfold suIMk; omega) p1
      have q23 : IMo s20 := by rw [es20]; exact IMo_o (by unfold suIMo; omega) p2
      have q24 : s20 268 8 = s0 268 8 := (show s20 268 8 = s0 268 8 from by rw [es20, xU_k _ _ _ (by omega)]).trans k268_8
      have q25 : s20 268 58 = s0 268 58 := (show s20 268 58 = s0 268 58 from by rw [es20, xU_k _ _ _ (by omega)]).trans k268_58
      have q26 : s20 269 37 = s0 269 37 := (show s20 269 37 = s0 269 37 from by rw [es20, xU_j _ _ (by omega)]).trans k269_37
      have hF27 := hF.put es20 (by omega)
      rw [eQ]
      exact x_vret hx hb hr hlk hW ⟨hF27, ⟨q21, q22, q23, q26, trivial⟩, trivial⟩ dX11_steps_68
    rw [eQ]
    exact x_vret hx hb hr hlk hW ⟨hF, ⟨p0, p1, p2, k269_37, trivial⟩, trivial⟩ dX11_steps_58
  refine x_icmp_ne (tgt := 10) hx hb rw (by decide) dX11_steps_3 (by decide) (fun c28 => ?_) (fun c28 => ?_)
  · skip
    refine x_aload_n hx hb hl 0 rfl dX11_steps_10 rfl ?_
    refine x_get (j := 0) (v := .ref (h0 + 269)) hx hb hown hT hE hW cls_X11 (Or.inl (by decide)) (so_268 h0 g _) (by decide) rfl wq1185 dX11_steps_11 ?_
    refine x_iconst hx hb dX11_steps_14 ?_
    refine x_iload_n hx hb hl 1 rfl dX11_steps_15 rfl ?_
    refine x_iadd hx hb dX11_steps_16 ?_
    refine x_iald hx hb hE hW (Or.inl (by decide)) (sa_269 h0 g _) (by omega) (by decide) dX11_steps_17 ?_
    refine x_rd hW (fun x29 ex29 rx29 => ?_)
    have bx29 : 0 ≤ x29 ∧ x29 ≤ 99 := by rw [ex29]; exact (IMn.n1 p0).1 _ (by omega) (by omega)
    refine x_iload_n hx hb hl 2 rfl dX11_steps_18 rfl ?_
    refine x_goi (x_runS (As := [.int (xJ x29), .int (xJ w)]) hx hb hml hown hT hE hW hl.1 cf_X11_beside wq1554 wq1553 (c_X11_beside l D g T h0 s0 hW.2.1 x29 rx29 w rw (by omega)) ⟨rfl, rfl, ⟨by decide, by decide⟩, ⟨by decide, by decide⟩⟩ rfl rfl (Nat.le_of_ble_eq_true rfl) dX11_steps_19) hW (fun x30 s31 H locs rx30 hp32 hW => ?_)
    obtain ⟨es31, hp32⟩ := hp32
    subst es31
    have ghp32 := hp32
    exact J22 x30 H locs ls rx30 (by omega) hW (lv_sub hl [0, 1] rfl)
  refine x_iconst hx hb dX11_steps_6 ?_
  refine lv_goto (tgt := 22) hx hb dX11_steps_7 (by decide) ?_
  exact J22 (-1) H locs ls (by decide) (by omega) hW (lv_sub hl [0, 1] rfl)
set_option maxHeartbeats 4000000 in
set_option maxRecDepth 100000 in
theorem c_X11_walksOn (l : Launch) (D : va_G) (g : xG) (T : Nat × Nat × Nat) (h0 : Nat) (s0 : xS) (hσ : xRR s0) (j : Int) (rj : xR j) (hj : 0 ≤ j ∧ j < 2) (p0 : IMn s0) (p1 : IMk s0) (p2 : IMo s0) : Met l yX11_walksOn (xws yX11_walksOn cX11_walksOn 3 none) { frames := 4, cells := 0, slots := 0, locals := 89 } (xP [.ref (h0 + 268), .int (xJ j)] D g T h0 s0) (xQv D g h0 (fun τ => xFr (fun k => k = 269) s0 τ ∧ (((IMn τ) ∧ (IMk τ) ∧ (IMo τ) ∧ (τ 269 37 = s0 269 37) ∧ True) ∧ (True)))) 0 0 (xA h0) := by
  refine x_met hσ (by decide) (Nat.le_of_ble_eq_true rfl) ?_
  intro p e s m args below meth c hx hb hr hml hown hT hlk hnm hE hW ls hl
  have hl : lv_has ls 3 [(0, .ref (h0 + 268)), (1, .int (xJ j))] := hl
  obtain ⟨Q, eQ⟩ : ∃ Q, Q = MQ below (xQv D g h0 (fun τ => xFr (fun k => k = 269) s0 τ ∧ (((IMn τ) ∧ (IMk τ) ∧ (IMo τ) ∧ (τ 269 37 = s0 269 37) ∧ True) ∧ (True)))) args s 0 0 (xA h0) := ⟨_, rfl⟩
  rw [← eQ]
  generalize hHe : ([] : List Loc) = locs at hW ⊢
  obtain ⟨H, eH⟩ : ∃ H, H = s.heap := ⟨_, rfl⟩
  rw [← eH] at hW ⊢
  have hF : xFr (fun k => k = 269) s0 s0 := xFr.rf
  have k268_8 : s0 268 8 = s0 268 8 := rfl
  have k268_58 : s0 268 58 = s0 268 58 := rfl
  have k269_37 : s0 269 37 = s0 269 37 := rfl
  refine x_aload_n hx hb hl 0 rfl dX11_walksOn_0 rfl ?_
  refine x_iload_n hx hb hl 1 rfl dX11_walksOn_1 rfl ?_
  refine x_goi (x_runV (As := [.int (xJ j)]) hx hb hml hown hT hE hW hl.1 (Or.inl (by decide)) (so_268 h0 g _) rfl cf_X11_isJudge wq1409 wq109 wq1407 (c_X11_isJudge l D g T h0 s0 hW.2.1 j rj p0 p1 p2) ⟨rfl, rfl, ⟨by decide, by decide⟩, ⟨by decide, by decide⟩⟩ rfl rfl (Nat.le_of_ble_eq_true rfl) dX11_walksOn_2) hW (fun x1 s2 H locs rx1 hp3 hW => ?_)
  obtain ⟨es2, hp3⟩ := hp3
  subst es2
  have ghp3 := hp3
  refine x_if_eq (tgt := 25) hx hb rx1 dX11_walksOn_5 (by decide) (fun c4 => ?_) (fun c4 => ?_)
  · skip
    rw [eQ]
    exact x_vret hx hb hr hlk hW ⟨hF, ⟨p0, p1, p2, k269_37, trivial⟩, trivial⟩ dX11_walksOn_25
  refine x_aload_n hx hb hl 0 rfl dX11_walksOn_8 rfl ?_
  refine x_get (j := 0) (v := .ref (h0 + 269)) hx hb hown hT hE hW cls_X11 (Or.inl (by decide)) (so_268 h0 g _) (by decide) rfl wq1185 dX11_walksOn_9 ?_
  refine x_iconst hx hb dX11_walksOn_12 ?_
  refine x_iload_n hx hb hl 1 rfl dX11_walksOn_13 rfl ?_
  refine x_iadd hx hb dX11_walksOn_14 ?_
  refine x_iald hx hb hE hW (Or.inl (by decide)) (sa_269 h0 g _) (by omega) (by decide) dX11_walksOn_15 ?_
  refine x_rd hW (fun x5 ex5 rx5 => ?_)
  have bx5 : 0 ≤ x5 := by rw [ex5]; exact (IMn.n1 p0).2.1 _ (by omega) (by omega)
  refine x_aload_n hx hb hl 0 rfl dX11_walksOn_16 rfl ?_
  refine x_get (j := 5) (v := .ref (h0 + 274)) hx hb hown hT hE hW cls_X11 (Or.inl (by decide)) (so_268 h0 g _) (by decide) rfl wq1190 dX11_walksOn_17 ?_
  refine x_iload_n hx hb hl 1 rfl dX11_walksOn_20 rfl ?_
  refine x_iald hx hb hE hW (Or.inl (by decide)) (sa_274 h0 g _) (by omega) (by decide) dX11_walksOn_21 ?_
  refine x_rd hW (fun x6 ex6 rx6 => ?_)
  have bx6 : 0 ≤ x6 ∧ x6 ≤ 60 := by rw [ex6]; exact IMn.w p0 _ (by omega) (by omega)
  refine x_icmp_lt (tgt := 26) hx hb rx5 rx6 dX11_walksOn_22 (by decide) (fun c7 => ?_) (fun c7 => ?_)
  · skip
    refine x_aload_n hx hb hl 0 rfl dX11_walksOn_26 rfl ?_
    refine x_get (j := 6) (v := .ref (h0 + 275)) hx hb hown hT hE hW cls_X11 (Or.inl (by decide)) (so_268 h0 g _) (by decide) rfl wq1191 dX11_walksOn_27 ?_
    refine x_bipush hx hb dX11_walksOn_30 (by decide) ?_
    refine x_iload_n hx hb hl 1 rfl dX11_walksOn_32 rfl ?_
    refine x_imul hx hb dX11_walksOn_33 ?_
    refine x_aload_n hx hb hl 0 rfl dX11_walksOn_34 rfl ?_
    refine x_get (j := 0) (v := .ref (h0 + 269)) hx hb hown hT hE hW cls_X11 (Or.inl (by decide)) (so_268 h0 g _) (by decide) rfl wq1185 dX11_walksOn_35 ?_
    refine x_iconst hx hb dX11_walksOn_38 ?_
    refine x_iload_n hx hb hl 1 rfl dX11_walksOn_39 rfl ?_
    refine x_iadd hx hb dX11_walksOn_40 ?_
    refine x_iald hx hb hE hW (Or.inl (by decide)) (sa_269 h0 g _) (by omega) (by decide) dX11_walksOn_41 ?_
    refine x_rd hW (fun x8 ex8 rx8 => ?_)
    have bx8 : 0 ≤ x8 := by rw [ex8]; exact (IMn.n1 p0).2.1 _ (by omega) (by omega)
    refine x_iadd hx hb dX11_walksOn_42 ?_
    refine x_bald hx hb hE hW (Or.inl (by decide)) (sa_275 h0 g _) (by omega) (by decide) dX11_walksOn_43 ?_
    refine x_rd hW (fun x9 ex9 rx9 => ?_)
    refine lv_istore_n (lv' := [(2, .int (xJ x9)), (0, .ref (h0 + 268)), (1, .int (xJ j))]) hx hb dX11_walksOn_44 rfl hl (by decide) rfl (fun ls hl => ?_)
    refine x_aload_n hx hb hl 1 rfl dX11_walksOn_45 rfl ?_
    refine x_get (j := 0) (v := .ref (h0 + 269)) hx hb hown hT hE hW cls_X11 (Or.inl (by decide)) (so_268 h0 g _) (by decide) rfl wq1185 dX11_walksOn_46 ?_
    refine x_iconst hx hb dX11_walksOn_49 ?_
    refine x_iload_n hx hb hl 2 rfl dX11_walksOn_50 rfl ?_
    refine x_iadd hx hb dX11_walksOn_51 ?_
    refine x_aload_n hx hb hl 1 rfl dX11_walksOn_52 rfl ?_
    refine x_get (j := 0) (v := .ref (h0 + 269)) hx hb hown hT hE hW cls_X11 (Or.inl (by decide)) (so_268 h0 g _) (by decide) rfl wq1185 dX11_walksOn_53 ?_
    refine x_iconst hx hb dX11_walksOn_56 ?_
    refine x_iload_n hx hb hl 2 rfl dX11_walksOn_57 rfl ?_
    refine x_iadd hx hb dX11_walksOn_58 ?_
    refine x_iald hx hb hE hW (Or.inl (by decide)) (sa_269 h0 g _) (by omega) (by decide) dX11_walksOn_59 ?_
    refine x_rd hW (fun x10 ex10 rx10 => ?_)
    have bx10 : 0 ≤ x10 := by rw [ex10]; exact (IMn.n1 p0).2.1 _ (by omega) (by omega)
    refine x_iconst hx hb dX11_walksOn_60 ?_
    refine x_iadd hx hb dX11_walksOn_61 ?_
    refine x_iast hx hb hE hW (by decide) (fun σ => sa_269 h0 g σ) (by omega) (by decide) (by omega) dX11_walksOn_62 (fun H locs s11 es11 hW => ?_)
    have q12 : IMn s11 := by rw [es11]; exact IMn_N269 p0 (by omega)
    have q13 : IMk s11 := by rw [es11]; exact IMk_o (by unfold suIMk; omega) p1
    have q14 : IMo s11 := by rw [es11]; exact IMo_o (by unfold suIMo; omega) p2
    have q15 : s11 268 8 = s0 268 8 := (show s11 268 8 = s0 268 8 from by rw [es11, xU_k _ _ _ (by omega)]).trans k268_8
    have q16 : s11 268 58 = s0 268 58 := (show s11 268 58 = s0 268 58 from by rw [es11, xU_k _ _ _ (by omega)]).trans k268_58
    have q17 : s11 269 37 = s0 269 37 := (show s11 269 37 = s0 269 37 from by rw [es11, xU_j _ _ (by omega)]).trans k269_37
    have hF18 := hF.put es11 (by omega)
    refine x_aload_n hx hb hl 1 rfl dX11_walksOn_63 rfl ?_
    refine x_iload_n hx hb hl 2 rfl dX11_walksOn_64 rfl ?_
    refine x_iload_n hx hb hl 0 rfl dX11_walksOn_65 rfl ?_
    refine x_gov (x_runV (As := [.int (xJ j), .int (xJ x9)]) hx hb hml hown hT hE hW hl.1 (Or.inl (by decide)) (so_268 h0 g _) rfl cf_X11_steps wq1551 wq133 wq1549 (c_X11_steps l D g T h0 s11 hW.2.1 j rj x9 rx9 (by omega) q12 q13 q14) ⟨rfl, rfl, ⟨by decide, by decide⟩, ⟨by decide, by decide⟩⟩ rfl rfl (Nat.le_of_ble_eq_true rfl) dX11_walksOn_66) hW (fun s20 H locs hp21 hW => ?_)
    obtain ⟨fs20, hp21⟩ := hp21
    have hF22 := hF18.call fs20 (fun k h => by omega)
    have q23 : s20 268 8 = s0 268 8 := (congrFun (fs20 _ (by omega)) _).trans q15
    have q24 : s20 268 58 = s0 268 58 := (congrFun (fs20 _ (by omega)) _).trans q16
    have ghp21 := hp21.2
    rw [eQ]
    exact x_vret hx hb hr hlk hW ⟨hF22, ⟨hp21.1.1, hp21.1.2.1, hp21.1.2.2.1, (hp21.1.2.2.2.1.trans q17), trivial⟩, trivial⟩ dX11_walksOn_69
  rw [eQ]
  exact x_vret hx hb hr hlk hW ⟨hF, ⟨p0, p1, p2, k269_37, trivial⟩, trivial⟩ dX11_walksOn_25
set_option maxHeartbeats 4000000 in
set_option maxRecDepth 100000 in
theorem c_X11_laysCosts (l : Launch) (D : va_G) (g : xG) (T : Nat × Nat × Nat) (h0 : Nat) (s0 : xS) (hσ : xRR s0) (a : Int) (ra : xR a) (n : Int) (rn : xR n) (b : Int) (rb : xR b) (p0 : IMn s0) (p1 : IMk s0) (p2 : IMo s0) : Met l yX11_laysCosts (xws yX11_laysCosts cX11_laysCosts 8 none) { frames := 3, cells := 0, slots := 0, locals := 66 } (xP [.ref (h0 + 268), .int (xJ a), .int (xJ n), .int (xJ b)] D g T h0 s0) (xQv D g h0 (fun τ => xFr (fun k => k = 296) s0 τ ∧ (((IMn τ) ∧ (IMk τ) ∧ (IMo τ) ∧ True) ∧ (True)))) 0 0 (xA h0) := by
  refine x_met hσ (by decide) (Nat.le_of_ble_eq_true rfl) ?_
  intro p e s m args below meth c hx hb hr hml hown hT hlk hnm hE hW ls hl
  have hl : lv_has ls 8 [(0, .ref (h0 + 268)), (1, .int (xJ a)), (2, .int (xJ n)), (3, .int (xJ b))] := hl
  obtain ⟨Q, eQ⟩ : ∃ Q, Q = MQ below (xQv D g h0 (fun τ => xFr (fun k => k = 296) s0 τ ∧ (((IMn τ) ∧ (IMk τ) ∧ (IMo τ) ∧ True) ∧ (True)))) args s 0 0 (xA h0) := ⟨_, rfl⟩
  rw [← eQ]
  generalize hHe : ([] : List Loc) = locs at hW ⊢
  obtain ⟨H, eH⟩ : ∃ H, H = s.heap := ⟨_, rfl⟩
  rw [← eH] at hW ⊢
  have hF : xFr (fun k => k = 296) s0 s0 := xFr.rf
  have k268_8 : s0 268 8 = s0 268 8 := rfl
  have k268_58 : s0 268 58 = s0 268 58 := rfl
  refine x_iconst hx hb dX11_laysCosts_0 ?_
  refine lv_istore (lv' := [(4, .int (xJ 0)), (0, .ref (h0 + 268)), (1, .int (xJ a)), (2, .int (xJ n)), (3, .int (xJ b))]) hx hb dX11_laysCosts_1 hl (by decide) rfl (fun ls hl => ?_)
  have L3 : ∀ (fu : Nat) (i4_3 : Int) (s_3 : xS) (H : Heap) (locs : List Loc) (ls : Array Slot), (xR i4_3) → (xFr (fun k => k = 296) s0 s_3) → (IMn s_3) → (IMk s_3) → (IMo s_3) → (s_3 268 8 = s0 268 8) → (s_3 268 58 = s0 268 58) → (0 ≤ i4_3) → (i4_3 ≤ 100) → (100 + 1 - i4_3).toNat < fu → xW D g h0 s H locs s_3 → lv_has ls 8 [(0, .ref (h0 + 268)), (1, .int (xJ a)), (2, .int (xJ n)), (3, .int (xJ b)), (4, .int (xJ i4_3))] → W p l e { frames := 3, cells := 0, slots := 0, locals := 66 } s m args below meth c H locs 0 0 Q (F0 m 3 ls []) := by
    intro fu
    induction fu with
    | zero => intro i4_3 s_3 H locs ls ri4_3 hF_3 q3_0 q3_1 q3_2 q3_3 q3_4 v3_0 v3_1 hm; exact absurd hm (Nat.not_lt_zero _)
    | succ fu ih3 =>
      intro i4_3 s_3 H locs ls ri4_3 hF_3 q3_0 q3_1 q3_2 q3_3 q3_4 v3_0 v3_1 hm hW hl
      refine x_iload hx hb hl 4 rfl dX11_laysCosts_3 ?_
      refine x_bipush hx hb dX11_laysCosts_5 (by decide) ?_
      refine x_icmp_ge (tgt := 36) hx hb ri4_3 (by decide) dX11_laysCosts_7 (by decide) (fun c1 => ?_) (fun c1 => ?_)
      · skip
        refine x_iconst hx hb dX11_laysCosts_36 ?_
        refine lv_istore (lv' := [(4, .int (xJ 0)), (0, .ref (h0 + 268)), (1, .int (xJ a)), (2, .int (xJ n)), (3, .int (xJ b))]) hx hb dX11_laysCosts_37 hl (by decide) rfl (fun ls hl => ?_)
        have L39 : ∀ (fu : Nat) (i4_39 : Int) (s_39 : xS) (H : Heap) (locs : List Loc) (ls : Array Slot), (xR i4_39) → (xFr (fun k => k = 296) s0 s_39) → (IMn s_39) → (IMk s_39) → (IMo s_39) → (s_39 268 8 = s0 268 8) → (s_39 268 58 = s0 268 58) → (0 ≤ i4_39) → (n + 1 - i4_39).toNat < fu → xW D g h0 s H locs s_39 → lv_has ls 8 [(0, .ref (h0 + 268)), (2, .int (xJ n)), (3, .int (xJ b)), (4, .int (xJ i4_39))] → W p l e { frames := 3, cells := 0, slots := 0, locals := 66 } s m args below meth c H locs 0 0 Q (F0 m 39 ls []) := by
          intro fu
          induction fu with
          | zero => intro i4_39 s_39 H locs ls ri4_39 hF_39 q39_0 q39_1 q39_2 q39_3 q39_4 v39_0 hm; exact absurd hm (Nat.not_lt_zero _)
          | succ fu ih39 =>
            intro i4_39 s_39 H locs ls ri4_39 hF_39 q39_0 q39_1 q39_2 q39_3 q39_4 v39_0 hm hW hl
            refine x_iload hx hb hl 3 rfl dX11_laysCosts_39 ?_
            refine x_iload_n hx hb hl 1 rfl dX11_laysCosts_41 rfl ?_
            refine x_icmp_ge (tgt := 166) hx hb ri4_39 rn dX11_laysCosts_42 (by decide) (fun c2 => ?_) (fun c2 => ?_)
            · skip
              rw [eQ]
              exact x_vret hx hb hr hlk hW ⟨hF_39, ⟨q39_0, q39_1, q39_2, trivial⟩, trivial⟩ dX11_laysCosts_166
            refine x_iconst hx hb dX11_laysCosts_45 ?_
            refine lv_istore (lv' := [(5, .int (xJ 0)), (0, .ref (h0 + 268)), (2, .int (xJ n)), (3, .int (xJ b)), (4, .int (xJ i4_39))]) hx hb dX11_laysCosts_46 hl (by decide) rfl (fun ls hl => ?_)
            have L48 : ∀ (fu : Nat) (i5_48 : Int) (s_48 : xS) (H : Heap) (locs : List Loc) (ls : Array Slot), (xR i5_48) → (xFr (fun k => k = 296) s0 s_48) → (IMn s_48) → (IMk s_48) → (IMo s_48) → (s_48 268 8 = s0 268 8) → (s_48 268 58 = s0 268 58) → (0 ≤ i5_48) → (i5_48 ≤ 100) → (100 + 1 - i5_48).toNat < fu → xW D g h0 s H locs s_48 → lv_has ls 8 [(0, .ref (h0 + 268)), (2, .int (xJ n)), (3, .int (xJ b)), (4, .int (xJ i4_39)), (5, .int (xJ i5_48))] → W p l e { frames := 3, cells := 0, slots := 0, locals := 66 } s m args below meth c H locs 0 0 Q (F0 m 48 ls []) := by
              intro fu
              induction fu with
              | zero => intro i5_48 s_48 H locs ls ri5_48 hF_48 q48_0 q48_1 q48_2 q48_3 q48_4 v48_0 v48_1 hm; exact absurd hm (Nat.not_lt_zero _)
              | succ fu ih48 =>
                intro i5_48 s_48 H locs ls ri5_48 hF_48 q48_0 q48_1 q48_2 q48_3 q48_4 v48_0 v48_1 hm hW hl
                refine x_iload hx hb hl 4 rfl dX11_laysCosts_48 ?_
                refine x_bipush hx hb dX11_laysCosts_50 (by decide) ?_
                refine x_icmp_ge (tgt := 160) hx hb ri5_48 (by decide) dX11_laysCosts_52 (by decide) (fun c3 => ?_) (fun c3 => ?_)
                · skip
                  refine x_iinc (lv' := [(4, .int (xJ (i4_39 + 1))), (0, .ref (h0 + 268)), (2, .int (xJ n)), (3, .int (xJ b)), (5, .int (xJ i5_48))]) hx hb hl 3 rfl dX11_laysCosts_160 (by decide) rfl (fun ls hl => ?_)
                  refine lv_goto (tgt := 39) hx hb dX11_laysCosts_163 (by decide) ?_
                  exact ih39 (i4_39 + 1) s_48 H locs ls (by omega) hF_48 q48_0 q48_1 q48_2 q48_3 q48_4 (by omega) (by omega) hW (lv_sub hl [1, 2, 3, 0] rfl)
                refine x_aload_n hx hb hl 0 rfl dX11_laysCosts_55 rfl ?_
                refine x_get (j := 45) (v := .ref (h0 + 296)) hx hb hown hT hE hW cls_X11 (Or.inl (by decide)) (so_268 h0 g _) (by decide) rfl wq1230 dX11_laysCosts_56 ?_
                refine x_iload hx hb hl 4 rfl dX11_laysCosts_59 ?_
                refine x_iald hx hb hE hW (Or.inl (by decide)) (sa_296 h0 g _) (by omega) (by decide) dX11_laysCosts_61 ?_
                refine x_rd hW (fun x4 ex4 rx4 => ?_)
                refine x_iload hx hb hl 3 rfl dX11_laysCosts_62 ?_
                refine x_icmp_eq (tgt := 70) hx hb rx4 ri4_39 dX11_laysCosts_64 (by decide) (fun c5 => ?_) (fun c5 => ?_)
                · skip
                  refine x_iconst hx hb dX11_laysCosts_70 ?_
                  refine lv_istore (lv' := [(6, .int (xJ 0)), (0, .ref (h0 + 268)), (2, .int (xJ n)), (3, .int (xJ b)), (4, .int (xJ i4_39)), (5, .int (xJ i5_48))]) hx hb dX11_laysCosts_71 hl (by decide) rfl (fun ls hl => ?_)
                  have L73 : ∀ (fu : Nat) (i6_73 : Int) (s_73 : xS) (H : Heap) (locs : List Loc) (ls : Array Slot), (xR i6_73) → (xFr (fun k => k = 296) s0 s_73) → (IMn s_73) → (IMk s_73) → (IMo s_73) → (s_73 268 8 = s0 268 8) → (s_73 268 58 = s0 268 58) → (0 ≤ i6_73) → (8 - i6_73).toNat < fu → xW D g h0 s H locs s_73 → lv_has ls 8 [(0, .ref (h0 + 268)), (2, .int (xJ n)), (3, .int (xJ b)), (4, .int (xJ i4_39)), (5, .int (xJ i5_48)), (6, .int (xJ i6_73))] → W p l e { frames := 3, cells := 0, slots := 0, locals := 66 } s m args below meth c H locs 0 0 Q (F0 m 73 ls []) := by
                    intro fu
                    induction fu with
                    | zero => intro i6_73 s_73 H locs ls ri6_73 hF_73 q73_0 q73_1 q73_2 q73_3 q73_4 v73_0 hm; exact absurd hm (Nat.not_lt_zero _)
                    | succ fu ih73 =>
                      intro i6_73 s_73 H locs ls ri6_73 hF_73 q73_0 q73_1 q73_2 q73_3 q73_4 v73_0 hm hW hl
                      refine x_iload hx hb hl 5 rfl dX11_laysCosts_73 ?_
                      refine x_bipush hx hb dX11_laysCosts_75 (by decide) ?_
                      refine x_icmp_ge (tgt := 154) hx hb ri6_73 (by decide) dX11_laysCosts_77 (by decide) (fun c6 => ?_) (fun c6 => ?_)
                      · skip
                        refine x_iinc (lv' := [(5, .int (xJ (i5_48 + 1))), (0, .ref (h0 + 268)), (2, .int (xJ n)), (3, .int (xJ b)), (4, .int (xJ i4_39)), (6, .int (xJ i6_73))]) hx hb hl 4 rfl dX11_laysCosts_154 (by decide) rfl (fun ls hl => ?_)
                        refine lv_goto (tgt := 48) hx hb dX11_laysCosts_157 (by decide) ?_
                        exact ih48 (i5_48 + 1) s_73 H locs ls (by omega) hF_73 q73_0 q73_1 q73_2 q73_3 q73_4 (by omega) (by omega) (by omega) hW (lv_sub hl [1, 2, 3, 4, 0] rfl)
                      refine x_iload hx hb hl 4 rfl dX11_laysCosts_80 ?_
                      refine x_iload hx hb hl 5 rfl dX11_laysCosts_82 ?_
                      refine x_goi (x_runS (As := [.int (xJ i5_48), .int (xJ i6_73)]) hx hb hml hown hT hE hW hl.1 cf_X11_beside wq1554 wq1553 (c_X11_beside l D g T h0 s_73 hW.2.1 i5_48 ri5_48 i6_73 ri6_73 (by omega)) ⟨rfl, rfl, ⟨by decide, by decide⟩, ⟨by decide, by decide⟩⟩ rfl rfl (Nat.le_of_ble_eq_true rfl) dX11_laysCosts_84) hW (fun x7 s8 H locs rx7 hp9 hW => ?_)
                      obtain ⟨es8, hp9⟩ := hp9
                      subst es8
                      have ghp9 := hp9
                      refine lv_istore (lv' := [(7, .int (xJ x7)), (0, .ref (h0 + 268)), (2, .int (xJ n)), (3, .int (xJ b)), (4, .int (xJ i4_39)), (5, .int (xJ i5_48)), (6, .int (xJ i6_73))]) hx hb dX11_laysCosts_87 hl (by decide) rfl (fun ls hl => ?_)
                      refine x_iload hx hb hl 0 rfl dX11_laysCosts_89 ?_
                      refine x_iconst hx hb dX11_laysCosts_91 ?_
                      refine x_icmp_eq (tgt := 145) hx hb rx7 (by decide) dX11_laysCosts_92 (by decide) (fun c10 => ?_) (fun c10 => ?_)
                      · skip
                        refine x_iload hx hb hl 6 rfl dX11_laysCosts_145 ?_
                        refine x_iconst hx hb dX11_laysCosts_147 ?_
                        refine x_iadd hx hb dX11_laysCosts_148 ?_
                        refine x_nm (fun x11 ex11 => ?_)
                        refine lv_istore (lv' := [(6, .int (xJ x11)), (7, .int (xJ x7)), (0, .ref (h0 + 268)), (2, .int (xJ n)), (3, .int (xJ b)), (4, .int (xJ i4_39)), (5, .int (xJ i5_48))]) hx hb dX11_laysCosts_149 hl (by decide) rfl (fun ls hl => ?_)
                        refine lv_goto (tgt := 73) hx hb dX11_laysCosts_151 (by decide) ?_
                        exact ih73 x11 s_73 H locs ls (by omega) hF_73 q73_0 q73_1 q73_2 q73_3 q73_4 (by omega) (by omega) hW (lv_sub hl [2, 3, 4, 5, 6, 0] rfl)
                      refine x_aload_n hx hb hl 1 rfl dX11_laysCosts_95 rfl ?_
                      refine x_get (j := 45) (v := .ref (h0 + 296)) hx hb hown hT hE hW cls_X11 (Or.inl (by decide)) (so_268 h0 g _) (by decide) rfl wq1230 dX11_laysCosts_96 ?_
                      refine x_iload hx hb hl 0 rfl dX11_laysCosts_99 ?_
                      refine x_iald hx hb hE hW (Or.inl (by decide)) (sa_296 h0 g _) (by omega) (by decide) dX11_laysCosts_101 ?_
                      refine x_rd hW (fun x12 ex12 rx12 => ?_)
                      refine lv_ldcw (v := xJ 1000000000) hx hb hown (hT _ wq1622) dX11_laysCosts_102 ?_
                      refine x_icmp_ne (tgt := 145) hx hb rx12 (by decide) dX11_laysCosts_105 (by decide) (fun c13 => ?_) (fun c13 => ?_)
                      · skip
                        refine x_iload hx hb hl 6 rfl dX11_laysCosts_145 ?_
                        refine x_iconst hx hb dX11_laysCosts_147 ?_
                        refine x_iadd hx hb dX11_laysCosts_148 ?_
                        refine x_nm (fun x14 ex14 => ?_)
                        refine lv_istore (lv' := [(6, .int (xJ x14)), (7, .int (xJ x7)), (0, .ref (h0 + 268)), (2, .int (xJ n)), (3, .int (xJ b)), (4, .int (xJ i4_39)), (5, .int (xJ i5_48))]) hx hb dX11_laysCosts_149 hl (by decide) rfl (fun ls hl => ?_)
                        refine lv_goto (tgt := 73) hx hb dX11_laysCosts_151 (by decide) ?_
                        exact ih73 x14 s_73 H locs ls (by omega) hF_73 q73_0 q73_1 q73_2 q73_3 q73_4 (by omega) (by omega) hW (lv_sub hl [2, 3, 4, 5, 6, 0] rfl)
                      refine x_aload_n hx hb hl 1 rfl dX11_laysCosts_108 rfl ?_
                      refine x_get (j := 3) (v := .ref (h0 + 272)) hx hb hown hT hE hW cls_X11 (Or.inl (by decide)) (so_268 h0 g _) (by decide) rfl wq1188 dX11_laysCosts_109 ?_
                      refine x_iload hx hb hl 0 rfl dX11_laysCosts_112 ?_
                      refine x_iald hx hb hE hW (Or.inl (by decide)) (sa_272 h0 g _) (by omega) (by decide) dX11_laysCosts_114 ?_
                      refine x_rd hW (fun x15 ex15 rx15 => ?_)
                      refine x_iconst hx hb dX11_laysCosts_115 ?_
                      refine x_icmp_eq (tgt := 145) hx hb rx15 (by decide) dX11_laysCosts_116 (by decide) (fun c16 => ?_) (fun c16 => ?_)
                      · skip
                        refine x_iload hx hb hl 6 rfl dX11_laysCosts_145 ?_
                        refine x_iconst hx hb dX11_laysCosts_147 ?_
                        refine x_iadd hx hb dX11_laysCosts_148 ?_
                        refine x_nm (fun x17 ex17 => ?_)
                        refine lv_istore (lv' := [(6, .int (xJ x17)), (7, .int (xJ x7)), (0, .ref (h0 + 268)), (2, .int (xJ n)), (3, .int (xJ b)), (4, .int (xJ i4_39)), (5, .int (xJ i5_48))]) hx hb dX11_laysCosts_149 hl (by decide) rfl (fun ls hl => ?_)
                        refine lv_goto (tgt := 73) hx hb dX11_laysCosts_151 (by decide) ?_
                        exact ih73 x17 s_73 H locs ls (by omega) hF_73 q73_0 q73_1 q73_2 q73_3 q73_4 (by omega) (by omega) hW (lv_sub hl [2, 3, 4, 5, 6, 0] rfl)
                      refine x_iload_n hx hb hl 3 rfl dX11_laysCosts_119 rfl ?_
                      have J134 : ∀ (ls : Array Slot), lv_has ls 8 [(0, .ref (h0 + 268)), (2, .int (xJ n)), (3, .int (xJ b)), (4, .int (xJ i4_39)), (5, .int (xJ i5_48)), (6, .int (xJ i6_73)), (7, .int (xJ x7))] → W p l e { frames := 3, cells := 0, slots := 0, locals := 66 } s m args below meth c H locs 0 0 Q (F0 m 134 ls []) := by
                        intro ls   hl
                        refine x_aload_n hx hb hl 0 rfl dX11_laysCosts_134 rfl ?_
                        refine x_get (j := 45) (v := .ref (h0 + 296)) hx hb hown hT hE hW cls_X11 (Or.inl (by decide)) (so_268 h0 g _) (by decide) rfl wq1230 dX11_laysCosts_135 ?_
                        refine x_iload hx hb hl 6 rfl dX11_laysCosts_138 ?_
                        refine x_iload hx hb hl 3 rfl dX11_laysCosts_140 ?_
                        refine x_iconst hx hb dX11_laysCosts_142 ?_
                        refine x_iadd hx hb dX11_laysCosts_143 ?_
                        refine x_iast hx hb hE hW (by decide) (fun σ => sa_296 h0 g σ) (by omega) (by decide) (by omega) dX11_laysCosts_144 (fun H locs s18 es18 hW => ?_)
                        have q19 : IMn s18 := by rw [es18]; exact IMn_o (by unfold suIMn; omega) q73_0
                        have q20 : IMk s18 := by rw [es18]; exact IMk_o (by unfold suIMk; omega) q73_1
                        have q21 : IMo s18 := by rw [es18]; exact IMo_o (by unfold suIMo; omega) q73_2
                        have q22 : s18 268 8 = s0 268 8 := (show s18 268 8 = s_73 268 8 from by rw [es18, xU_k _ _ _ (by omega)]).trans q73_3
                        have q23 : s18 268 58 = s0 268 58 := (show s18 268 58 = s_73 268 58 from by rw [es18, xU_k _ _ _ (by omega)]).trans q73_4
                        have hF24 := hF_73.put es18 (by omega)
                        refine x_iload hx hb hl 5 rfl dX11_laysCosts_145 ?_
                        refine x_iconst hx hb dX11_laysCosts_147 ?_
                        refine x_iadd hx hb dX11_laysCosts_148 ?_
                        refine x_nm (fun x25 ex25 => ?_)
                        refine lv_istore (lv' := [(6, .int (xJ x25)), (0, .ref (h0 + 268)), (2, .int (xJ n)), (3, .int (xJ b)), (4, .int (xJ i4_39)), (5, .int (xJ i5_48)), (7, .int (xJ x7))]) hx hb dX11_laysCosts_149 hl (by decide) rfl (fun ls hl => ?_)
                        refine lv_goto (tgt := 73) hx hb dX11_laysCosts_151 (by decide) ?_
                        exact ih73 x25 s18 H locs ls (by omega) hF24 q19 q20 q21 q22 q23 (by omega) (by omega) hW (lv_sub hl [1, 2, 3, 4, 5, 0] rfl)
                      refine x_if_eq (tgt := 134) hx hb rb dX11_laysCosts_120 (by decide) (fun c26 => ?_) (fun c26 => ?_)
                      · skip
                        exact J134 ls   (lv_sub hl [1, 2, 3, 4, 5, 6, 0] rfl)
                      refine x_aload_n hx hb hl 1 rfl dX11_laysCosts_123 rfl ?_
                      refine x_get (j := 3) (v := .ref (h0 + 272)) hx hb hown hT hE hW cls_X11 (Or.inl (by decide)) (so_268 h0 g _) (by decide) rfl wq1188 dX11_laysCosts_124 ?_
                      refine x_iload hx hb hl 0 rfl dX11_laysCosts_127 ?_
                      refine x_iald hx hb hE hW (Or.inl (by decide)) (sa_272 h0 g _) (by omega) (by decide) dX11_laysCosts_129 ?_
                      refine x_rd hW (fun x27 ex27 rx27 => ?_)
                      refine x_iconst hx hb dX11_laysCosts_130 ?_
                      refine x_icmp_eq (tgt := 145) hx hb rx27 (by decide) dX11_laysCosts_131 (by decide) (fun c28 => ?_) (fun c28 => ?_)
                      · skip
                        refine x_iload hx hb hl 6 rfl dX11_laysCosts_145 ?_
                        refine x_iconst hx hb dX11_laysCosts_147 ?_
                        refine x_iadd hx hb dX11_laysCosts_148 ?_
                        refine x_nm (fun x29 ex29 => ?_)
                        refine lv_istore (lv' := [(6, .int (xJ x29)), (7, .int (xJ x7)), (0, .ref (h0 + 268)), (2, .int (xJ n)), (3, .int (xJ b)), (4, .int (xJ i4_39)), (5, .int (xJ i5_48))]) hx hb dX11_laysCosts_149 hl (by decide) rfl (fun ls hl => ?_)
                        refine lv_goto (tgt := 73) hx hb dX11_laysCosts_151 (by decide) ?_
                        exact ih73 x29 s_73 H locs ls (by omega) hF_73 q73_0 q73_1 q73_2 q73_3 q73_4 (by omega) (by omega) hW (lv_sub hl [2, 3, 4, 5, 6, 0] rfl)
                      exact J134 ls   (lv_sub hl [1, 2, 3, 4, 5, 6, 0] rfl)
                  exact L73 ((8 - 0 : Int).toNat + 1) 0 s_48 H locs ls (by decide) hF_48 q48_0 q48_1 q48_2 q48_3 q48_4 (by omega) (Nat.lt_succ_self _) hW (lv_sub hl [1, 2, 3, 4, 5, 0] rfl)
                refine lv_goto (tgt := 154) hx hb dX11_laysCosts_67 (by decide) ?_
                refine x_iinc (lv' := [(5, .int (xJ (i5_48 + 1))), (0, .ref (h0 + 268)), (2, .int (xJ n)), (3, .int (xJ b)), (4, .int (xJ i4_39))]) hx hb hl 4 rfl dX11_laysCosts_154 (by decide) rfl (fun ls hl => ?_)
                refine lv_goto (tgt := 48) hx hb dX11_laysCosts_157 (by decide) ?_
                exact ih48 (i5_48 + 1) s_48 H locs ls (by omega) hF_48 q48_0 q48_1 q48_2 q48_3 q48_4 (by omega) (by omega) (by omega) hW (lv_sub hl [1, 2, 3, 4, 0] rfl)
            exact L48 ((100 + 1 - 0 : Int).toNat + 1) 0 s_39 H locs ls (by decide) hF_39 q39_0 q39_1 q39_2 q39_3 q39_4 (by omega) (by omega) (Nat.lt_succ_self _) hW (lv_sub hl [1, 2, 3, 4, 0] rfl)
        exact L39 ((n + 1 - 0 : Int).toNat + 1) 0 s_3 H locs ls (by decide) hF_3 q3_0 q3_1 q3_2 q3_3 q3_4 (by omega) (Nat.lt_succ_self _) hW (lv_sub hl [1, 3, 4, 0] rfl)
      refine x_aload_n hx hb hl 0 rfl dX11_laysCosts_10 rfl ?_
      refine x_get (j := 45) (v := .ref (h0 + 296)) hx hb hown hT hE hW cls_X11 (Or.inl (by decide)) (so_268 h0 g _) (by decide) rfl wq1230 dX11_laysCosts_11 ?_
      refine x_iload hx hb hl 4 rfl dX11_laysCosts_14 ?_
      refine x_iload hx hb hl 4 rfl dX11_laysCosts_16 ?_
      refine x_iload_n hx hb hl 1 rfl dX11_laysCosts_18 rfl ?_
      refine x_icmp_ne (tgt := 26) hx hb ri4_3 ra dX11_laysCosts_19 (by decide) (fun c30 => ?_) (fun c30 => ?_)
      · skip
        refine lv_ldcw (v := xJ 1000000000) hx hb hown (hT _ wq1622) dX11_laysCosts_26 ?_
        refine x_iast hx hb hE hW (by decide) (fun σ => sa_296 h0 g σ) (by omega) (by decide) (by decide) dX11_laysCosts_29 (fun H locs s31 es31 hW => ?_)
        have q32 : IMn s31 := by rw [es31]; exact IMn_o (by unfold suIMn; omega) q3_0
        have q33 : IMk s31 := by rw [es31]; exact IMk_o (by unfold suIMk; omega) q3_1
        have q34 : IMo s31 := by rw [es31]; exact IMo_o (by unfold suIMo; omega) q3_2
        have q35 : s31 268 8 = s0 268 8 := (show s31 268 8 = s_3 268 8 from by rw [es31, xU_k _ _ _ (by omega)]).trans q3_3
        have q36 : s31 268 58 = s0 268 58 := (show s31 268 58 = s_3 268 58 from by rw [es31, xU_k _ _ _ (by omega)]).trans q3_4
        have hF37 := hF_3.put es31 (by omega)
        refine x_iinc (lv' := [(4, .int (xJ (i4_3 + 1))), (0, .ref (h0 + 268)), (1, .int (xJ a)), (2, .int (xJ n)), (3, .int (xJ b))]) hx hb hl 4 rfl dX11_laysCosts_30 (by decide) rfl (fun ls hl => ?_)
        refine lv_goto (tgt := 3) hx hb dX11_laysCosts_33 (by decide) ?_
        exact ih3 (i4_3 + 1) s31 H locs ls (by omega) hF37 q32 q33 q34 q35 q36 (by omega) (by omega) (by omega) hW (lv_sub hl [1, 2, 3, 4, 0] rfl)
      refine x_iconst hx hb dX11_laysCosts_22 ?_
      refine lv_goto (tgt := 29) hx hb dX11_laysCosts_23 (by decide) ?_
      refine x_iast hx hb hE hW (by decide) (fun σ => sa_296 h0 g σ) (by omega) (by decide) (by decide) dX11_laysCosts_29 (fun H locs s38 es38 hW => ?_)
      have q39 : IMn s38 := by rw [es38]; exact IMn_o (by unfold suIMn; omega) q3_0
      have q40 : IMk s38 := by rw [es38]; exact IMk_o (by unfold suIMk; omega) q3_1
      have q41 : IMo s38 := by rw [es38]; exact IMo_o (by unfold suIMo; omega) q3_2
      have q42 : s38 268 8 = s0 268 8 := (show s38 268 8 = s_3 268 8 from by rw [es38, xU_k _ _ _ (by omega)]).trans q3_3
      have q43 : s38 268 58 = s0 268 58 := (show s38 268 58 = s_3 268 58 from by rw [es38, xU_k _ _ _ (by omega)]).trans q3_4
      have hF44 := hF_3.put es38 (by omega)
      refine x_iinc (lv' := [(4, .int (xJ (i4_3 + 1))), (0, .ref (h0 + 268)), (1, .int (xJ a)), (2, .int (xJ n)), (3, .int (xJ b))]) hx hb hl 4 rfl dX11_laysCosts_30 (by decide) rfl (fun ls hl => ?_)
      refine lv_goto (tgt := 3) hx hb dX11_laysCosts_33 (by decide) ?_
      exact ih3 (i4_3 + 1) s38 H locs ls (by omega) hF44 q39 q40 q41 q42 q43 (by omega) (by omega) (by omega) hW (lv_sub hl [1, 2, 3, 4, 0] rfl)
  exact L3 ((100 + 1 - 0 : Int).toNat + 1) 0 s0 H locs ls (by decide) hF p0 p1 p2 k268_8 k268_58 (by omega) (by omega) (Nat.lt_succ_self _) hW (lv_sub hl [1, 2, 3, 4, 0] rfl)
set_option maxHeartbeats 4000000 in
set_option maxRecDepth 100000 in
theorem c_X11_owedAll (l : Launch) (D : va_G) (g : xG) (T : Nat × Nat × Nat) (h0 : Nat) (s0 : xS) (hσ : xRR s0) (p0 : IMn s0) (p1 : IMk s0) (p2 : IMo s0) : Met l yX11_owedAll (xws yX11_owedAll cX11_owedAll 3 (some .int)) { frames := 2, cells := 0, slots := 0, locals := 42 } (xP [.ref (h0 + 268)] D g T h0 s0) (xQi D g h0 (fun r τ => s0 = τ ∧ (True))) 0 0 (xA h0) := by
  refine x_met hσ (by decide) (Nat.le_of_ble_eq_true rfl) ?_
  intro p e s m args below meth c hx hb hr hml hown hT hlk hnm hE hW ls hl
  have hl : lv_has ls 3 [(0, .ref (h0 + 268))] := hl
  obtain ⟨Q, eQ⟩ : ∃ Q, Q = MQ below (xQi D g h0 (fun r τ => s0 = τ ∧ (True))) args s 0 0 (xA h0) := ⟨_, rfl⟩
  rw [← eQ]
  generalize hHe : ([] : List Loc) = locs at hW ⊢
  obtain ⟨H, eH⟩ : ∃ H, H = s.heap := ⟨_, rfl⟩
  rw [← eH] at hW ⊢
  have k268_8 : s0 268 8 = s0 268 8 := rfl
  have k268_58 : s0 268 58 = s0 268 58 := rfl
  refine x_iconst hx hb dX11_owedAll_0 ?_
  refine lv_istore_n (lv' := [(1, .int (xJ 0)), (0, .ref (h0 + 268))]) hx hb dX11_owedAll_1 rfl hl (by decide) rfl (fun ls hl => ?_)
  refine x_iconst hx hb dX11_owedAll_2 ?_
  refine lv_istore_n (lv' := [(2, .int (xJ 0)), (1, .int (xJ 0)), (0, .ref (h0 + 268))]) hx hb dX11_owedAll_3 rfl hl (by decide) rfl (fun ls hl => ?_)
  have L4 : ∀ (fu : Nat) (i1_4 : Int) (i2_4 : Int) (H : Heap) (locs : List Loc) (ls : Array Slot), (xR i1_4) → (xR i2_4) → (0 ≤ i2_4) → (i2_4 ≤ 10) → (10 + 1 - i2_4).toNat < fu → xW D g h0 s H locs s0 → lv_has ls 3 [(0, .ref (h0 + 268)), (1, .int (xJ i1_4)), (2, .int (xJ i2_4))] → W p l e { frames := 2, cells := 0, slots := 0, locals := 42 } s m args below meth c H locs 0 0 Q (F0 m 4 ls []) := by
    intro fu
    induction fu with
    | zero => intro i1_4 i2_4 H locs ls ri1_4 ri2_4 v4_0 v4_1 hm; exact absurd hm (Nat.not_lt_zero _)
    | succ fu ih4 =>
      intro i1_4 i2_4 H locs ls ri1_4 ri2_4 v4_0 v4_1 hm hW hl
      refine x_iload_n hx hb hl 2 rfl dX11_owedAll_4 rfl ?_
      refine x_bipush hx hb dX11_owedAll_5 (by decide) ?_
      refine x_icmp_ge (tgt := 40) hx hb ri2_4 (by decide) dX11_owedAll_7 (by decide) (fun c1 => ?_) (fun c1 => ?_)
      · skip
        refine x_iload_n hx hb hl 1 rfl dX11_owedAll_40 rfl ?_
        rw [eQ]
        exact x_iret hx hb hr hlk hW ri1_4 ⟨rfl, trivial⟩ dX11_owedAll_41
      refine x_iload_n hx hb hl 1 rfl dX11_owedAll_10 rfl ?_
      refine x_aload_n hx hb hl 0 rfl dX11_owedAll_11 rfl ?_
      refine x_iload_n hx hb hl 2 rfl dX11_owedAll_12 rfl ?_
      refine x_goi (x_runV (As := [.int (xJ i2_4)]) hx hb hml hown hT hE hW hl.1 (Or.inl (by decide)) (so_268 h0 g _) rfl cf_X11_isFelon wq1423 wq111 wq1421 (c_X11_isFelon l D g T h0 s0 hW.2.1 i2_4 ri2_4 p0 p1 p2) ⟨rfl, rfl, ⟨by decide, by decide⟩, ⟨by decide, by decide⟩⟩ rfl rfl (Nat.le_of_ble_eq_true rfl) dX11_owedAll_13) hW (fun x2 s3 H locs rx2 hp4 hW => ?_)
      obtain ⟨es3, hp4⟩ := hp4
      subst es3
      have ghp4 := hp4
      refine x_if_eq (tgt := 31) hx hb rx2 dX11_owedAll_16 (by decide) (fun c5 => ?_) (fun c5 => ?_)
      · skip
        refine x_iconst hx hb dX11_owedAll_31 ?_
        refine x_iadd hx hb dX11_owedAll_32 ?_
        refine x_any (fun x6 rx6 => ?_)
        refine lv_istore_n (lv' := [(1, .int (xJ x6)), (0, .ref (h0 + 268)), (2, .int (xJ i2_4))]) hx hb dX11_owedAll_33 rfl hl (by decide) rfl (fun ls hl => ?_)
        refine x_iinc (lv' := [(2, .int (xJ (i2_4 + 1))), (1, .int (xJ x6)), (0, .ref (h0 + 268))]) hx hb hl 2 rfl dX11_owedAll_34 (by decide) rfl (fun ls hl => ?_)
        refine lv_goto (tgt := 4) hx hb dX11_owedAll_37 (by decide) ?_
        exact ih4 x6 (i2_4 + 1) H locs ls rx6 (by omega) (by omega) (by omega) (by omega) hW (lv_sub hl [2, 1, 0] rfl)
      refine x_aload_n hx hb hl 0 rfl dX11_owedAll_19 rfl ?_
      refine x_get (j := 0) (v := .ref (h0 + 269)) hx hb hown hT hE hW cls_X11 (Or.inl (by decide)) (so_268 h0 g _) (by decide) rfl wq1185 dX11_owedAll_20 ?_
      refine x_bipush hx hb dX11_owedAll_23 (by decide) ?_
      refine x_iload_n hx hb hl 2 rfl dX11_owedAll_25 rfl ?_
      refine x_iadd hx hb dX11_owedAll_26 ?_
      refine x_iald hx hb hE hW (Or.inl (by decide)) (sa_269 h0 g _) (by omega) (by decide) dX11_owedAll_27 ?_
      refine x_rd hW (fun x7 ex7 rx7 => ?_)
      refine lv_goto (tgt := 32) hx hb dX11_owedAll_28 (by decide) ?_
      refine x_iadd hx hb dX11_owedAll_32 ?_
      refine x_any (fun x8 rx8 => ?_)
      refine lv_istore_n (lv' := [(1, .int (xJ x8)), (0, .ref (h0 + 268)), (2, .int (xJ i2_4))]) hx hb dX11_owedAll_33 rfl hl (by decide) rfl (fun ls hl => ?_)
      refine x_iinc (lv' := [(2, .int (xJ (i2_4 + 1))), (1, .int (xJ x8)), (0, .ref (h0 + 268))]) hx hb hl 2 rfl dX11_owedAll_34 (by decide) rfl (fun ls hl => ?_)
      refine lv_goto (tgt := 4) hx hb dX11_owedAll_37 (by decide) ?_
      exact ih4 x8 (i2_4 + 1) H locs ls rx8 (by omega) (by omega) (by omega) (by omega) hW (lv_sub hl [2, 1, 0] rfl)
  exact L4 ((10 + 1 - 0 : Int).toNat + 1) 0 0 H locs ls (by decide) (by decide) (by omega) (by omega) (Nat.lt_succ_self _) hW (lv_sub hl [2, 1, 0] rfl)
set_option maxHeartbeats 4000000 in
set_option maxRecDepth 100000 in
theorem c_X11_lampSet (l : Launch) (D : va_G) (g : xG) (T : Nat × Nat × Nat) (h0 : Nat) (s0 : xS) (hσ : xRR s0) (p0 : IMn s0) (p1 : IMk s0) (p2 : IMo s0) : Met l yX11_lampSet (xws yX11_lampSet cX11_lampSet 3 (some .int)) { frames := 0, cells := 0, slots := 0, locals := 0 } (xP [.ref (h0 + 268)] D g T h0 s0) (xQi D g h0 (fun r τ => s0 = τ ∧ (True))) 0 0 (xA h0) := by
  refine x_met hσ (by decide) (Nat.le_of_ble_eq_true rfl) ?_
  intro p e s m args below meth c hx hb hr hml hown hT hlk hnm hE hW ls hl
  have hl : lv_has ls 3 [(0, .ref (h0 + 268))] := hl
  obtain ⟨Q, eQ⟩ : ∃ Q, Q = MQ below (xQi D g h0 (fun r τ => s0 = τ ∧ (True))) args s 0 0 (xA h0) := ⟨_, rfl⟩
  rw [← eQ]
  generalize hHe : ([] : List Loc) = locs at hW ⊢
  obtain ⟨H, eH⟩ : ∃ H, H = s.heap := ⟨_, rfl⟩
  rw [← eH] at hW ⊢
  have k268_8 : s0 268 8 = s0 268 8 := rfl
  have k268_58 : s0 268 58 = s0 268 58 := rfl
  refine x_iconst hx hb dX11_lampSet_0 ?_
  refine lv_istore_n (lv' := [(1, .int (xJ 0)), (0, .ref (h0 + 268))]) hx hb dX11_lampSet_1 rfl hl (by decide) rfl (fun ls hl => ?_)
  refine x_iconst hx hb dX11_lampSet_2 ?_
  refine lv_istore_n (lv' := [(2, .int (xJ 0)), (1, .int (xJ 0)), (0, .ref (h0 + 268))]) hx hb dX11_lampSet_3 rfl hl (by decide) rfl (fun ls hl => ?_)
  have L4 : ∀ (fu : Nat) (i1_4 : Int) (i2_4 : Int) (ls : Array Slot), (xR i1_4) → (xR i2_4) → (0 ≤ i2_4) → (i2_4 ≤ 4) → (4 + 1 - i2_4).toNat < fu → lv_has ls 3 [(0, .ref (h0 + 268)), (1, .int (xJ i1_4)), (2, .int (xJ i2_4))] → W p l e { frames := 0, cells := 0, slots := 0, locals := 0 } s m args below meth c H locs 0 0 Q (F0 m 4 ls []) := by
    intro fu
    induction fu with
    | zero => intro i1_4 i2_4 ls ri1_4 ri2_4 v4_0 v4_1 hm; exact absurd hm (Nat.not_lt_zero _)
    | succ fu ih4 =>
      intro i1_4 i2_4 ls ri1_4 ri2_4 v4_0 v4_1 hm  hl
      refine x_iload_n hx hb hl 2 rfl dX11_lampSet_4 rfl ?_
      refine x_iconst hx hb dX11_lampSet_5 ?_
      refine x_icmp_ge (tgt := 35) hx hb ri2_4 (by decide) dX11_lampSet_6 (by decide) (fun c1 => ?_) (fun c1 => ?_)
      · skip
        refine x_iload_n hx hb hl 1 rfl dX11_lampSet_35 rfl ?_
        rw [eQ]
        exact x_iret hx hb hr hlk hW ri1_4 ⟨rfl, trivial⟩ dX11_lampSet_36
      refine x_iload_n hx hb hl 1 rfl dX11_lampSet_9 rfl ?_
      refine x_aload_n hx hb hl 0 rfl dX11_lampSet_10 rfl ?_
      refine x_get (j := 4) (v := .ref (h0 + 273)) hx hb hown hT hE hW cls_X11 (Or.inl (by decide)) (so_268 h0 g _) (by decide) rfl wq1189 dX11_lampSet_11 ?_
      refine x_iload_n hx hb hl 2 rfl dX11_lampSet_14 rfl ?_
      refine x_iald hx hb hE hW (Or.inl (by decide)) (sa_273 h0 g _) (by omega) (by decide) dX11_lampSet_15 ?_
      refine x_rd hW (fun x2 ex2 rx2 => ?_)
      have bx2 : -1 ≤ x2 ∧ x2 ≤ 99 := by rw [ex2]; exact IMn.l p0 _ (by omega) (by omega)
      refine x_iconst hx hb dX11_lampSet_16 ?_
      have J27 : ∀ (t0_27 : Int) (ls : Array Slot), (xR t0_27) → lv_has ls 3 [(0, .ref (h0 + 268)), (2, .int (xJ i2_4))] → W p l e { frames := 0, cells := 0, slots := 0, locals := 0 } s m args below meth c H locs 0 0 Q (F0 m 27 ls [.int (xJ t0_27), .int (xJ i1_4)]) := by
        intro t0_27 ls rt0_27  hl
        refine lv_ior hx hb dX11_lampSet_27 ?_
        refine x_any (fun x3 rx3 => ?_)
        refine lv_istore_n (lv' := [(1, .int (xJ x3)), (0, .ref (h0 + 268)), (2, .int (xJ i2_4))]) hx hb dX11_lampSet_28 rfl hl (by decide) rfl (fun ls hl => ?_)
        refine x_iinc (lv' := [(2, .int (xJ (i2_4 + 1))), (1, .int (xJ x3)), (0, .ref (h0 + 268))]) hx hb hl 2 rfl dX11_lampSet_29 (by decide) rfl (fun ls hl => ?_)
        refine lv_goto (tgt := 4) hx hb dX11_lampSet_32 (by decide) ?_
        exact ih4 x3 (i2_4 + 1) ls rx3 (by omega) (by omega) (by omega) (by omega)  (lv_sub hl [2, 1, 0] rfl)
      refine x_icmp_ne (tgt := 24) hx hb rx2 (by decide) dX11_lampSet_17 (by decide) (fun c4 => ?_) (fun c4 => ?_)
      · skip
        refine x_iconst hx hb dX11_lampSet_24 ?_
        refine x_iload_n hx hb hl 2 rfl dX11_lampSet_25 rfl ?_
        refine lv_ishl hx hb dX11_lampSet_26 ?_
        refine x_any (fun x5 rx5 => ?_)
        exact J27 x5 ls rx5  (lv_sub hl [0, 2] rfl)
      refine x_iconst hx hb dX11_lampSet_20 ?_
      refine lv_goto (tgt := 27) hx hb dX11_lampSet_21 (by decide) ?_
      exact J27 0 ls (by decide)  (lv_sub hl [0, 2] rfl)
  exact L4 ((4 + 1 - 0 : Int).toNat + 1) 0 0 ls (by decide) (by decide) (by omega) (by omega) (Nat.lt_succ_self _)  (lv_sub hl [2, 1, 0] rfl)
set_option maxHeartbeats 4000000 in
set_option maxRecDepth 100000 in
theorem c_X11_freeMany (l : Launch) (D : va_G) (g : xG) (T : Nat × Nat × Nat) (h0 : Nat) (s0 : xS) (hσ : xRR s0) (p0 : IMn s0) (p1 : IMk s0) (p2 : IMo s0) : Met l yX11_freeMany (xws yX11_freeMany cX11_freeMany 3 (some .int)) { frames := 2, cells := 0, slots := 0, locals := 42 } (xP [.ref (h0 + 268)] D g T h0 s0) (xQi D g h0 (fun r τ => s0 = τ ∧ (True))) 0 0 (xA h0) := by
  refine x_met hσ (by decide) (Nat.le_of_ble_eq_true rfl) ?_
  intro p e s m args below meth c hx hb hr hml hown hT hlk hnm hE hW ls hl
  have hl : lv_has ls 3 [(0, .ref (h0 + 268))] := hl
  obtain ⟨Q, eQ⟩ : ∃ Q, Q = MQ below (xQi D g h0 (fun r τ => s0 = τ ∧ (True))) args s 0 0 (xA h0) := ⟨_, rfl⟩
  rw [← eQ]
  generalize hHe : ([] : List Loc) = locs at hW ⊢
  obtain ⟨H, eH⟩ : ∃ H, H = s.heap := ⟨_, rfl⟩
  rw [← eH] at hW ⊢
  have k268_8 : s0 268 8 = s0 268 8 := rfl
  have k268_58 : s0 268 58 = s0 268 58 := rfl
  refine x_iconst hx hb dX11_freeMany_0 ?_
  refine lv_istore_n (lv' := [(1, .int (xJ 0)), (0, .ref (h0 + 268))]) hx hb dX11_freeMany_1 rfl hl (by decide) rfl (fun ls hl => ?_)
  refine x_iconst hx hb dX11_freeMany_2 ?_
  refine lv_istore_n (lv' := [(2, .int (xJ 0)), (1, .int (xJ 0)), (0, .ref (h0 + 268))]) hx hb dX11_freeMany_3 rfl hl (by decide) rfl (fun ls hl => ?_)
  have L4 : ∀ (fu : Nat) (i1_4 : Int) (i2_4 : Int) (H : Heap) (locs : List Loc) (ls : Array Slot), (xR i1_4) → (xR i2_4) → (0 ≤ i2_4) → (i2_4 ≤ 10) → (0 ≤ i1_4 ∧ i1_4 ≤ i2_4) → (10 + 1 - i2_4).toNat < fu → xW D g h0 s H locs s0 → lv_has ls 3 [(0, .ref (h0 + 268)), (1, .int (xJ i1_4)), (2, .int (xJ i2_4))] → W p l e { frames := 2, cells := 0, slots := 0, locals := 42 } s m args below meth c H locs 0 0 Q (F0 m 4 ls []) := by
    intro fu
    induction fu with
    | zero => intro i1_4 i2_4 H locs ls ri1_4 ri2_4 v4_0 v4_1 v4_2 hm; exact absurd hm (Nat.not_lt_zero _)
    | succ fu ih4 =>
      intro i1_4 i2_4 H locs ls ri1_4 ri2_4 v4_0 v4_1 v4_2 hm hW hl
      refine x_iload_n hx hb hl 2 rfl dX11_freeMany_4 rfl ?_
      refine x_bipush hx hb dX11_freeMany_5 (by decide) ?_
      refine x_icmp_ge (tgt := 44) hx hb ri2_4 (by decide) dX11_freeMany_7 (by decide) (fun c1 => ?_) (fun c1 => ?_)
      · skip
        refine x_iload_n hx hb hl 1 rfl dX11_freeMany_44 rfl ?_
        rw [eQ]
        exact x_iret hx hb hr hlk hW ri1_4 ⟨rfl, trivial⟩ dX11_freeMany_45
      refine x_iload_n hx hb hl 1 rfl dX11_freeMany_10 rfl ?_
      refine x_aload_n hx hb hl 0 rfl dX11_freeMany_11 rfl ?_
      refine x_iload_n hx hb hl 2 rfl dX11_freeMany_12 rfl ?_
      refine x_goi (x_runV (As := [.int (xJ i2_4)]) hx hb hml hown hT hE hW hl.1 (Or.inl (by decide)) (so_268 h0 g _) rfl cf_X11_isFelon wq1423 wq111 wq1421 (c_X11_isFelon l D g T h0 s0 hW.2.1 i2_4 ri2_4 p0 p1 p2) ⟨rfl, rfl, ⟨by decide, by decide⟩, ⟨by decide, by decide⟩⟩ rfl rfl (Nat.le_of_ble_eq_true rfl) dX11_freeMany_13) hW (fun x2 s3 H locs rx2 hp4 hW => ?_)
      obtain ⟨es3, hp4⟩ := hp4
      subst es3
      have ghp4 := hp4
      refine x_if_eq (tgt := 35) hx hb rx2 dX11_freeMany_16 (by decide) (fun c5 => ?_) (fun c5 => ?_)
      · skip
        refine x_iconst hx hb dX11_freeMany_35 ?_
        refine x_iadd hx hb dX11_freeMany_36 ?_
        refine x_nm (fun x6 ex6 => ?_)
        refine lv_istore_n (lv' := [(1, .int (xJ x6)), (0, .ref (h0 + 268)), (2, .int (xJ i2_4))]) hx hb dX11_freeMany_37 rfl hl (by decide) rfl (fun ls hl => ?_)
        refine x_iinc (lv' := [(2, .int (xJ (i2_4 + 1))), (1, .int (xJ x6)), (0, .ref (h0 + 268))]) hx hb hl 2 rfl dX11_freeMany_38 (by decide) rfl (fun ls hl => ?_)
        refine lv_goto (tgt := 4) hx hb dX11_freeMany_41 (by decide) ?_
        exact ih4 x6 (i2_4 + 1) H locs ls (by omega) (by omega) (by omega) (by omega) (by omega) (by omega) hW (lv_sub hl [2, 1, 0] rfl)
      refine x_aload_n hx hb hl 0 rfl dX11_freeMany_19 rfl ?_
      refine x_get (j := 0) (v := .ref (h0 + 269)) hx hb hown hT hE hW cls_X11 (Or.inl (by decide)) (so_268 h0 g _) (by decide) rfl wq1185 dX11_freeMany_20 ?_
      refine x_bipush hx hb dX11_freeMany_23 (by decide) ?_
      refine x_iload_n hx hb hl 2 rfl dX11_freeMany_25 rfl ?_
      refine x_iadd hx hb dX11_freeMany_26 ?_
      refine x_iald hx hb hE hW (Or.inl (by decide)) (sa_269 h0 g _) (by omega) (by decide) dX11_freeMany_27 ?_
      refine x_rd hW (fun x7 ex7 rx7 => ?_)
      refine x_if_ne (tgt := 35) hx hb rx7 dX11_freeMany_28 (by decide) (fun c8 => ?_) (fun c8 => ?_)
      · skip
        refine x_iconst hx hb dX11_freeMany_35 ?_
        refine x_iadd hx hb dX11_freeMany_36 ?_
        refine x_nm (fun x9 ex9 => ?_)
        refine lv_istore_n (lv' := [(1, .int (xJ x9)), (0, .ref (h0 + 268)), (2, .int (xJ i2_4))]) hx hb dX11_freeMany_37 rfl hl (by decide) rfl (fun ls hl => ?_)
        refine x_iinc (lv' := [(2, .int (xJ (i2_4 + 1))), (1, .int (xJ x9)), (0, .ref (h0 + 268))]) hx hb hl 2 rfl dX11_freeMany_38 (by decide) rfl (fun ls hl => ?_)
        refine lv_goto (tgt := 4) hx hb dX11_freeMany_41 (by decide) ?_
        exact ih4 x9 (i2_4 + 1) H locs ls (by omega) (by omega) (by omega) (by omega) (by omega) (by omega) hW (lv_sub hl [2, 1, 0] rfl)
      refine x_iconst hx hb dX11_freeMany_31 ?_
      refine lv_goto (tgt := 36) hx hb dX11_freeMany_32 (by decide) ?_
      refine x_iadd hx hb dX11_freeMany_36 ?_
      refine x_nm (fun x10 ex10 => ?_)
      refine lv_istore_n (lv' := [(1, .int (xJ x10)), (0, .ref (h0 + 268)), (2, .int (xJ i2_4))]) hx hb dX11_freeMany_37 rfl hl (by decide) rfl (fun ls hl => ?_)
      refine x_iinc (lv' := [(2, .int (xJ (i2_4 + 1))), (1, .int (xJ x10)), (0, .ref (h0 + 268))]) hx hb hl 2 rfl dX11_freeMany_38 (by decide) rfl (fun ls hl => ?_)
      refine lv_goto (tgt := 4) hx hb dX11_freeMany_41 (by decide) ?_
      exact ih4 x10 (i2_4 + 1) H locs ls (by omega) (by omega) (by omega) (by omega) (by omega) (by omega) hW (lv_sub hl [2, 1, 0] rfl)
  exact L4 ((10 + 1 - 0 : Int).toNat + 1) 0 0 H locs ls (by decide) (by decide) (by omega) (by omega) (by omega) (Nat.lt_succ_self _) hW (lv_sub hl [2, 1, 0] rfl)
set_option maxHeartbeats 4000000 in
set_option maxRecDepth 100000 in
theorem c_X11_reckon (l : Launch) (D : va_G) (g : xG) (T : Nat × Nat × Nat) (h0 : Nat) (s0 : xS) (hσ : xRR s0) (q : Int) (rq : xR q) (a : Int) (ra : xR a) (b : Int) (rb : xR b) (hb : b ≠ 0 ∨ (q ≠ 5 ∧ q ≠ 6)) : Met l yX11_reckon (xws yX11_reckon cX11_reckon 3 (some .int)) { frames := 0, cells := 0, slots := 0, locals := 0 } (xP [.int (xJ q), .int (xJ a), .int (xJ b)] D g T h0 s0) (xQi D g h0 (fun r τ => s0 = τ ∧ (True))) 0 0 (xA h0) := by
  refine x_met hσ (by decide) (Nat.le_of_ble_eq_true rfl) ?_
  intro p e s m args below meth c hx hb hr hml hown hT hlk hnm hE hW ls hl
  have hl : lv_has ls 3 [(0, .int (xJ q)), (1, .int (xJ a)), (2, .int (xJ b))] := hl
  obtain ⟨Q, eQ⟩ : ∃ Q, Q = MQ below (xQi D g h0 (fun r τ => s0 = τ ∧ (True))) args s 0 0 (xA h0) := ⟨_, rfl⟩
  rw [← eQ]
  generalize hHe : ([] : List Loc) = locs at hW ⊢
  obtain ⟨H, eH⟩ : ∃ H, H = s.heap := ⟨_, rfl⟩
  rw [← eH] at hW ⊢
  refine x_iload_n hx hb hl 0 rfl dX11_reckon_0 rfl ?_
  rcases (show (q < 2 ∨ 8 < q) ∨ q = 2 ∨ q = 3 ∨ q = 4 ∨ q = 5 ∨ q = 6 ∨ q = 7 ∨ q = 8 from by omega) with c1 | c1 | c1 | c1 | c1 | c1 | c1 | c1
  · refine x_tabOut (tgt := 86) hx hb rq dX11_reckon_1 c1 (by decide) ?_
    refine x_iload_n hx hb hl 1 rfl dX11_reckon_86 rfl ?_
    refine x_iload_n hx hb hl 2 rfl dX11_reckon_87 rfl ?_
    refine x_icmp_ne (tgt := 95) hx hb ra rb dX11_reckon_88 (by decide) (fun c2 => ?_) (fun c2 => ?_)
    · skip
      refine x_iconst hx hb dX11_reckon_95 ?_
      rw [eQ]
      exact x_iret hx hb hr hlk hW (by decide) ⟨rfl, trivial⟩ dX11_reckon_96
    refine x_iconst hx hb dX11_reckon_91 ?_
    refine lv_goto (tgt := 96) hx hb dX11_reckon_92 (by decide) ?_
    rw [eQ]
    exact x_iret hx hb hr hlk hW (by decide) ⟨rfl, trivial⟩ dX11_reckon_96
  · refine x_tabIn (v := 2) (tgt := 44) hx hb rq c1 dX11_reckon_1 (by decide) rfl (by decide) ?_
    refine x_iload_n hx hb hl 1 rfl dX11_reckon_44 rfl ?_
    refine x_iload_n hx hb hl 2 rfl dX11_reckon_45 rfl ?_
    refine x_iadd hx hb dX11_reckon_46 ?_
    refine x_any (fun x3 rx3 => ?_)
    rw [eQ]
    exact x_iret hx hb hr hlk hW rx3 ⟨rfl, trivial⟩ dX11_reckon_47
  · refine x_tabIn (v := 3) (tgt := 48) hx hb rq c1 dX11_reckon_1 (by decide) rfl (by decide) ?_
    refine x_iload_n hx hb hl 1 rfl dX11_reckon_48 rfl ?_
    refine x_iload_n hx hb hl 2 rfl dX11_reckon_49 rfl ?_
    refine x_isub hx hb dX11_reckon_50 ?_
    refine x_any (fun x4 rx4 => ?_)
    rw [eQ]
    exact x_iret hx hb hr hlk hW rx4 ⟨rfl, trivial⟩ dX11_reckon_51
  · refine x_tabIn (v := 4) (tgt := 52) hx hb rq c1 dX11_reckon_1 (by decide) rfl (by decide) ?_
    refine x_iload_n hx hb hl 1 rfl dX11_reckon_52 rfl ?_
    refine x_iload_n hx hb hl 2 rfl dX11_reckon_53 rfl ?_
    refine x_imul hx hb dX11_reckon_54 ?_
    refine x_any (fun x5 rx5 => ?_)
    rw [eQ]
    exact x_iret hx hb hr hlk hW rx5 ⟨rfl, trivial⟩ dX11_reckon_55
  · refine x_tabIn (v := 5) (tgt := 56) hx hb rq c1 dX11_reckon_1 (by decide) rfl (by decide) ?_
    refine x_iload_n hx hb hl 1 rfl dX11_reckon_56 rfl ?_
    refine x_iload_n hx hb hl 2 rfl dX11_reckon_57 rfl ?_
    refine x_idivQ hx hb rb (by omega) dX11_reckon_58 (fun x6 rx6 => ?_)
    rw [eQ]
    exact x_iret hx hb hr hlk hW rx6 ⟨rfl, trivial⟩ dX11_reckon_59
  · refine x_tabIn (v := 6) (tgt := 60) hx hb rq c1 dX11_reckon_1 (by decide) rfl (by decide) ?_
    refine x_iload_n hx hb hl 1 rfl dX11_reckon_60 rfl ?_
    refine x_iload_n hx hb hl 2 rfl dX11_reckon_61 rfl ?_
    refine x_iremQ hx hb rb (by omega) dX11_reckon_62 (fun x7 rx7 => ?_)
    rw [eQ]
    exact x_iret hx hb hr hlk hW rx7 ⟨rfl, trivial⟩ dX11_reckon_63
  · refine x_tabIn (v := 7) (tgt := 64) hx hb rq c1 dX11_reckon_1 (by decide) rfl (by decide) ?_
    refine x_iload_n hx hb hl 1 rfl dX11_reckon_64 rfl ?_
    refine x_iload_n hx hb hl 2 rfl dX11_reckon_65 rfl ?_
    refine x_icmp_ge (tgt := 73) hx hb ra rb dX11_reckon_66 (by decide) (fun c8 => ?_) (fun c8 => ?_)
    · skip
      refine x_iconst hx hb dX11_reckon_73 ?_
      rw [eQ]
      exact x_iret hx hb hr hlk hW (by decide) ⟨rfl, trivial⟩ dX11_reckon_74
    refine x_iconst hx hb dX11_reckon_69 ?_
    refine lv_goto (tgt := 74) hx hb dX11_reckon_70 (by decide) ?_
    rw [eQ]
    exact x_iret hx hb hr hlk hW (by decide) ⟨rfl, trivial⟩ dX11_reckon_74
  · refine x_tabIn (v := 8) (tgt := 75) hx hb rq c1 dX11_reckon_1 (by decide) rfl (by decide) ?_
    refine x_iload_n hx hb hl 1 rfl dX11_reckon_75 rfl ?_
    refine x_iload_n hx hb hl 2 rfl dX11_reckon_76 rfl ?_
    refine x_icmp_le (tgt := 84) hx hb ra rb dX11_reckon_77 (by decide) (fun c9 => ?_) (fun c9 => ?_)
    · skip
      refine x_iconst hx hb dX11_reckon_84 ?_
      rw [eQ]
      exact x_iret hx hb hr hlk hW (by decide) ⟨rfl, trivial⟩ dX11_reckon_85
    refine x_iconst hx hb dX11_reckon_80 ?_
    refine lv_goto (tgt := 85) hx hb dX11_reckon_81 (by decide) ?_
    rw [eQ]
    exact x_iret hx hb hr hlk hW (by decide) ⟨rfl, trivial⟩ dX11_reckon_85
