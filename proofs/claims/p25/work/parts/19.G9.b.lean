theorem p2_le {b : Int} (h : 0 ≤ b ∧ b ≤ 10) : 1 ≤ (2 : Int) ^ b.toNat ∧ (2 : Int) ^ b.toNat ≤ 1024 := by
  rcases (by omega : b = 0 ∨ b = 1 ∨ b = 2 ∨ b = 3 ∨ b = 4 ∨ b = 5 ∨ b = 6 ∨ b = 7 ∨ b = 8 ∨ b = 9 ∨ b = 10) with rfl | rfl | rfl | rfl | rfl | rfl | rfl | rfl | rfl | rfl | rfl <;> decide
section X9
variable {p : Program} {l : Launch} {e : Env} {R : Room} {s : State} {m : MethodId} {args : Array Value} {below : List Frame} {meth : Method} {c : Code} {H : Heap} {locs : List Loc} {cells slots : Nat} {Q : State → Prop}
variable {cc : ByteArray} {pc : Nat} {ls : Array Slot} {rest st0 : List Value}
theorem x_shl1 (hx : p.tables.exec = Jvm.exec) (hb : c.code = cc) {b : Int} (hr : 0 ≤ b ∧ b ≤ 10) (hdg : decode cc pc = .ok (.ishl, 1)) (k : ∀ v : Int, v = (2 : Int) ^ b.toNat → (1 ≤ v ∧ v ≤ 1024) → W p l e R s m args below meth c H locs cells slots Q (F0 m (pc + 1) ls (.int (xJ v) :: rest))) : W p l e R s m args below meth c H locs cells slots Q (F0 m pc ls (.int (xJ b) :: .int (xJ 1) :: rest)) := by
  have h9 : xJ 1 <<< (xJ b &&& 31) = xJ ((2 : Int) ^ b.toNat) := by
    rcases (by omega : b = 0 ∨ b = 1 ∨ b = 2 ∨ b = 3 ∨ b = 4 ∨ b = 5 ∨ b = 6 ∨ b = 7 ∨ b = 8 ∨ b = 9 ∨ b = 10) with rfl | rfl | rfl | rfl | rfl | rfl | rfl | rfl | rfl | rfl | rfl <;> decide
  exact lv_ishl hx hb hdg (by rw [h9]; exact k _ rfl (p2_le hr))
end X9
section X8
variable {p : Program} {l : Launch} {e : Env} {R : Room} {s : State} {m : MethodId} {args : Array Value} {below : List Frame} {meth : Method} {c : Code} {H : Heap} {locs : List Loc} {cells slots : Nat} {Q : State → Prop}
variable {cc : ByteArray} {pc : Nat} {ls : Array Slot} {rest st0 : List Value} {D : va_G} {g : xG} {T : Nat × Nat × Nat} {h0 : Nat} {σ : xS} {own : String} {index nL : Nat}
/-- a new row of a ints at place n: the count of such rows, its flag, its length -/
def xN (σ : xS) (n : Nat) (a : Int) : xS := fun k j => if k = 999996 ∧ j = 0 then σ k j + 1 else if k = 999997 ∧ j = (n : Int) then 1 else if k = 999998 ∧ j = (n : Int) then a else if k = n then 0 else σ k j
theorem xN_k (σ : xS) {n k : Nat} (a : Int) (h : k < 310) (hn : 310 ≤ n) : xN σ n a k = σ k := funext fun j => by
  unfold xN
  rw [if_neg (by omega), if_neg (by omega), if_neg (by omega), if_neg (by omega)]
theorem xN_n (σ : xS) {n : Nat} (a : Int) (hn : n < 999990) (j : Int) : xN σ n a n j = 0 := by
  unfold xN
  rw [if_neg (by omega), if_neg (by omega), if_neg (by omega), if_pos rfl]
theorem xN_o (σ : xS) {n k : Nat} (a : Int) (h : k ≠ n) (h2 : k < 999990) : xN σ n a k = σ k := funext fun j => by
  unfold xN
  rw [if_neg (by omega), if_neg (by omega), if_neg (by omega), if_neg (by omega)]
theorem xN_6 (σ : xS) (n : Nat) (a : Int) : xN σ n a 999996 0 = σ 999996 0 + 1 := by
  unfold xN
  rw [if_pos ⟨rfl, rfl⟩]
theorem xN_7 (σ : xS) {n : Nat} (a : Int) (hn : n < 999990) (j : Int) : xN σ n a 999997 j = if j = (n : Int) then 1 else σ 999997 j := by
  unfold xN
  rw [if_neg (by omega)]
  by_cases h : j = (n : Int)
  · rw [if_pos ⟨rfl, h⟩, if_pos h]
  · rw [if_neg (fun q => h q.2), if_neg (by omega), if_neg (by omega), if_neg h]
theorem xN_8 (σ : xS) {n : Nat} (a : Int) (hn : n < 999990) (j : Int) : xN σ n a 999998 j = if j = (n : Int) then a else σ 999998 j := by
  unfold xN
  rw [if_neg (by omega), if_neg (by omega)]
  by_cases h : j = (n : Int)
  · rw [if_pos ⟨rfl, h⟩, if_pos h]
  · rw [if_neg (fun q => h q.2), if_neg (by omega), if_neg h]
theorem xW_putW {k : Nat} {τ : xS} {H1 : Heap} {i : Nat} (hW : xW D g h0 s H locs σ) (hk : k < 999990) (hz : H1.size = H.size) (ho : ∀ q : Nat, q ≠ h0 + k → H1[q]? = H[q]?) (hτ : ∀ k2, k2 ≠ k → τ k2 = σ k2) (hR : xRR τ) (h : va_at D vwCl (h0 + k, xcel h0 g τ k) H1) : xW D g h0 s H1 (locs ++ [⟨h0 + k, i⟩]) τ := by
  refine ⟨⟨fun k2 hk2 => ?_, by rw [hz, hW.1.2, show τ 999996 = σ 999996 from hτ _ (by omega)]⟩, hR, hW.2.2.put hz ho (Nat.le_add_right _ _)⟩
  have e8 : τ 999998 = σ 999998 := hτ _ (by omega)
  have e7 : τ 999997 = σ 999997 := hτ _ (by omega)
  by_cases e : k2 = k
  · subst e; exact h
  · have h2 := hW.1.1 k2 (by unfold xV at hk2 ⊢; rw [e7] at hk2; exact hk2)
    rw [xcel_f h0 g (hτ k2 e) (Or.inr (by rw [e8]))]
    exact h2.kept (ho _ (fun q => e (by simpa using q)))
theorem x_iastW {k : Nat} {a v : Int} (hx : p.tables.exec = Jvm.exec) (hb : c.code = cc) (hE : xE D g T h0 s) (hW : xW D g h0 s H locs σ) (hk : 310 ≤ k ∧ k < 999990) (har : xAr σ k) (hi : 0 ≤ a ∧ a < (xlen σ k : Int)) (hv : xR v) (hdg : decode cc pc = .ok (.iastore, 1))
    (kk : ∀ (H1 : Heap) (locs1 : List Loc) (τ : xS), τ = xU σ k a v → xW D g h0 s H1 locs1 τ → W p l e R s m args below meth c H1 locs1 cells slots Q (F0 m (pc + 1) ls rest)) : W p l e R s m args below meth c H locs cells slots Q (F0 m pc ls (.int (xJ v) :: .int (xJ a) :: .ref (h0 + k) :: rest)) := by
  obtain ⟨h1, h2⟩ := hi
  have hnn := xlen_le hW.2.1 k
  have hR : xR a := by omega
  have h9 := hW.1.1 k har.v
  rw [har.celn] at h9
  have h9 : H[h0 + k]? = some (arrV g.1 (xlen σ k) (fun j => .int (xJ (σ k j)))) := h9
  refine W.iast hx hb h9 ((hE.1.2 0 _ rfl).1 _ _) (fun q => by cases q) (by rw [arrV_size]; exact xJ_nin hR h1 h2) rfl rfl hdg fun H1 e1 e2 e3 => ?_
  refine kk H1 _ _ rfl (xW_putW hW hk.2 e2 e3 (fun k2 h => xU_k σ a v h) (xRR_U hW.2.1 hv) ?_)
  have har2 : xAr (xU σ k a v) k := har.f (xU_k σ a v (by omega))
  have hl2 : xlen (xU σ k a v) k = xlen σ k := by unfold xlen; rw [xU_k σ a v (by omega)]
  rw [har2.celn, hl2]
  show H1[h0 + k]? = some (arrV g.1 (xlen σ k) (fun j => .int (xJ (xU σ k a v k j))))
  rw [e1, arrV_store, xJ_cl hR]
  congr 2
  funext q
  by_cases hq : q = a.toNat
  · subst hq
    simp [updV, Int.toNat_of_nonneg h1, xU_s]
  · have : (q : Int) ≠ a := by omega
    simp [updV, hq, xU_j σ v this]
theorem x_newW {a : Int} (hx : p.tables.exec = Jvm.exec) (hb : c.code = cc) (hT : ∀ w ∈ xTB, w.before args s = true) (hE : xE D g T h0 s) (hW : xW D g h0 s H locs σ) (har : Cond.arrayClass .int ∈ xTB) (ha : 0 ≤ a ∧ a ≤ 60) (hz : 0 ≤ σ 999996 0 ∧ σ 999996 0 ≤ 900000) (hcells : cells + 1 ≤ R.cells) (hslots : slots + 60 ≤ R.slots) (hdg : decode cc pc = .ok (.newarray .int, 2))
    (kk : ∀ (H1 : Heap) (n : Nat) (τ : xS), n = 310 + (σ 999996 0).toNat → τ = xN σ n a → xW D g h0 s H1 locs τ → W p l e R s m args below meth c H1 locs (cells + 1) (slots + 60) Q (F0 m (pc + 2) ls (.ref (h0 + n) :: rest))) : W p l e R s m args below meth c H locs cells slots Q (F0 m pc ls (.int (xJ a) :: rest)) := by
  have hR : xR a := by omega
  refine va_newaK (atype := .int) hx hb (hT _ har) rfl hdg rfl (fun q => by have := (xJ_lt hR (by omega : xR 0)).mp q; omega) (N := a.toNat) (by rw [xJ_cl hR]) (by show a.toNat * 4 ≤ _; omega) hcells (by omega) hW.1.2 fun H1 cA e1 z1 o1 _ hnm => ?_
  have hg : s.vm.findClass ("[" ++ FieldType.int.toString) = some g.1 := (hE.1.2 0 _ rfl).2
  cases hg.symm.trans hnm
  obtain ⟨n, en⟩ : ∃ n, n = 310 + (σ 999996 0).toNat := ⟨_, rfl⟩
  rw [← en] at e1 z1 o1 ⊢
  have hn : 310 ≤ n ∧ n < 999990 := by omega
  have hsz := hW.1.2
  rw [← en] at hsz
  refine W.widen (k := cells + 1) (n := slots + 60) (Nat.le_refl _) (by omega) (kk H1 n (xN σ n a) en rfl ⟨⟨fun k hk => ?_, ?_⟩, fun k j => ?_, ?_, fun q g1 g2 => ?_, hW.2.2.2.2⟩)
  · by_cases e : k = n
    · subst e
      have h8 : xAr (xN σ k a) k := Or.inr ⟨hn.1, hn.2, by rw [xN_7 σ a hn.2, if_pos rfl]⟩
      rw [h8.celn]
      have h7 : xlen (xN σ k a) k = a.toNat := by
        unfold xlen
        rw [if_neg (by omega), xN_8 σ a hn.2, if_pos rfl]
      rw [h7]
      show H1[h0 + k]? = some (arrV g.1 a.toNat (fun j => .int (xJ (xN σ k a k j))))
      rw [e1]
      congr 2
      funext j
      rw [xN_n σ a hn.2]
      rfl
    · have hk9 : k < 999990 := by unfold xV at hk; omega
      have hV : xV σ k := by
        unfold xV at hk ⊢
        rcases hk with hk | ⟨hk, hk2⟩
        · exact Or.inl hk
        · rw [xN_7 σ a hn.2, if_neg (by omega)] at hk2
          exact Or.inr ⟨hk, hk2⟩
      have h9 := hW.1.1 k hV
      rw [xcel_f h0 g (xN_o σ a e hk9) (Or.inr (by rw [xN_8 σ a hn.2, if_neg (by omega)]))]
      have hlt : h0 + k < H.size := h9.lt
      exact h9.kept (o1 (h0 + k) (by omega))
  · rw [z1, xN_6]
    omega
  · unfold xN
    split
    · rename_i h
      rw [h.1, h.2]
      omega
    · split
      · omega
      · split
        · omega
        · split
          · omega
          · exact hW.2.1 _ _
  · rw [z1]
    have := hW.2.2.1
    omega
  · rw [o1 q (by have := hW.2.2.1; omega)]
    exact hW.2.2.2.1 q g1 g2
end X8
set_option maxHeartbeats 4000000 in
set_option maxRecDepth 100000 in
theorem c_X9_copyOfSteps (l : Launch) (D : va_G) (g : xG) (T : Nat × Nat × Nat) (h0 : Nat) (s0 : xS) (hσ : xRR s0) (hz : 0 ≤ s0 999996 0 ∧ s0 999996 0 ≤ 900000) (p0 : IC s0) : Met l yX9_copyOfSteps (xws yX9_copyOfSteps cX9_copyOfSteps 3 (some (.array .int))) { frames := 1, cells := 1, slots := 60, locals := 30 } (xP [.ref (h0 + 126)] D g T h0 s0) (xQr D g h0 (fun r τ => xFr (fun k => 310 ≤ k) s0 τ ∧ (((IC τ) ∧ True) ∧ (r = 310 + (s0 999996 0).toNat ∧ xAr τ r ∧ τ 999996 0 = s0 999996 0 + 1 ∧ (xlen τ r : Int) = s0 126 2 ∧ ∀ j : Int, 0 ≤ j → j < s0 126 2 → τ r j = s0 127 j)))) 1 60 (xA h0) := by
  refine x_met hσ (by decide) (Nat.le_of_ble_eq_true rfl) ?_
  intro p e s m args below meth c hx hb hr hml hown hT hlk hnm hE hW ls hl
  have hl : lv_has ls 3 [(0, .ref (h0 + 126))] := hl
  obtain ⟨Q, eQ⟩ : ∃ Q, Q = MQ below (xQr D g h0 (fun r τ => xFr (fun k => 310 ≤ k) s0 τ ∧ (((IC τ) ∧ True) ∧ (r = 310 + (s0 999996 0).toNat ∧ xAr τ r ∧ τ 999996 0 = s0 999996 0 + 1 ∧ (xlen τ r : Int) = s0 126 2 ∧ ∀ j : Int, 0 ≤ j → j < s0 126 2 → τ r j = s0 127 j)))) args s 1 60 (xA h0) := ⟨_, rfl⟩
  rw [← eQ]
  generalize hHe : ([] : List Loc) = locs at hW ⊢
  obtain ⟨H, eH⟩ : ∃ H, H = s.heap := ⟨_, rfl⟩
  rw [← eH] at hW ⊢
  refine x_iconst hx hb dX9_copyOfSteps_0 ?_
  refine x_aload_n hx hb hl 0 rfl dX9_copyOfSteps_1 rfl ?_
  refine x_get (j := 2) (v := .int (xJ (s0 126 2))) hx hb hown hT hE hW cls_X9 (Or.inl (by decide)) (so_126 h0 g _) (by decide) rfl wq309 dX9_copyOfSteps_2 ?_
  refine x_rd hW (fun x1 ex1 rx1 => ?_)
  have b1 := p0.y
  rw [← ex1] at b1
  refine x_bipush hx hb dX9_copyOfSteps_5 (by decide) ?_
  refine x_mmin hx hb hml hl.1 hown hT wq741 wq569 wq180 wq570 ⟨by decide, Nat.le_of_ble_eq_true rfl, by decide, by decide⟩ rx1 (by decide) dX9_copyOfSteps_7 ?_
  refine x_nm (fun x2 ex2 => ?_)
  have f2 : x2 = x1 := by rw [ex2]; split <;> omega
  refine x_mmax hx hb hml hl.1 hown hT wq742 wq594 wq180 wq595 ⟨by decide, Nat.le_of_ble_eq_true rfl, by decide, by decide⟩ (by decide) (by omega) dX9_copyOfSteps_10 ?_
  refine x_nm (fun x3 ex3 => ?_)
  have f3 : x3 = x1 := by rw [ex3]; split <;> omega
  have f4 : x3 = s0 126 2 := by rw [f3, ex1]
  refine x_newW (a := x3) hx hb hT hE hW wq217 (by omega) hz (by decide) (by decide) dX9_copyOfSteps_13 (fun H n s1 en es1 hW => ?_)
  have hn : 310 ≤ n ∧ n < 999990 := by omega
  have hF : xFr (fun k => 310 ≤ k) s0 s1 := fun k hk => by rw [es1]; exact xN_k s0 x3 (by omega) hn.1
  have a1 : xAr s1 n := Or.inr ⟨hn.1, hn.2, by rw [es1, xN_7 s0 x3 hn.2, if_pos rfl]⟩
  have l1 : (xlen s1 n : Int) = x3 := by
    unfold xlen
    rw [if_neg (by omega), es1, xN_8 s0 x3 hn.2, if_pos rfl]
    omega
  have z1 : s1 999996 0 = s0 999996 0 + 1 := by rw [es1]; exact xN_6 s0 n x3
  have i1 : IC s1 := by
    have hk : ∀ k, k < 310 → s1 k = s0 k := fun k hk => hF k (by omega)
    refine ⟨okT_f (hk 1 (by decide)) (hk 2 (by decide)) p0.1, ?_, ?_, ?_, ?_, fun d hd => ?_⟩
    · unfold okL; rw [hk 109 (by decide)]; exact p0.l1
    · unfold okL; rw [hk 118 (by decide)]; exact p0.l2
    · rw [hk 130 (by decide)]; exact p0.z
    · rw [hk 126 (by decide)]; exact p0.y
    · have hd9 : d < 218 := by unfold xDay at hd; omega
      refine ⟨fun j h1 h2 => ?_, fun j h1 h2 => ?_, ?_, ?_, fun j h1 h2 => ?_⟩
      · rw [hk (d + 2) (by omega)]
        rcases p0.w hd j h1 h2 with h | h
        · exact Or.inl h
        · refine Or.inr ⟨h.1, h.2.1, ?_⟩
          rw [es1, xN_7 s0 x3 hn.2]
          split
          · rfl
          · exact h.2.2
      · rw [hk (d + 5) (by omega)]; exact p0.p hd j h1 h2
      · rw [hk d (by omega)]; exact p0.m hd
      · rw [hk d (by omega)]; exact p0.x hd
      · rw [hk (d + 9) (by omega)]; exact p0.b hd j h1 h2
  refine lv_astore_n (lv' := [(1, .ref (h0 + n)), (0, .ref (h0 + 126))]) hx hb dX9_copyOfSteps_15 rfl hl (by decide) rfl (fun ls hl => ?_)
  refine x_iconst hx hb dX9_copyOfSteps_16 ?_
  refine lv_istore_n (lv' := [(2, .int (xJ 0)), (1, .ref (h0 + n)), (0, .ref (h0 + 126))]) hx hb dX9_copyOfSteps_17 rfl hl (by decide) rfl (fun ls hl => ?_)
  have L18 : ∀ (fu : Nat) (i : Int) (s2 : xS) (H : Heap) (locs : List Loc) (ls : Array Slot), (0 ≤ i ∧ i ≤ 60) → (61 - i).toNat < fu → xFr (fun k => 310 ≤ k) s0 s2 → IC s2 → xAr s2 n → ((xlen s2 n : Int) = x3) → (s2 999996 0 = s0 999996 0 + 1) → (∀ j : Int, 0 ≤ j → j < i → s2 n j = s0 127 j) → xW D g h0 s H locs s2 → lv_has ls 3 [(2, .int (xJ i)), (1, .ref (h0 + n)), (0, .ref (h0 + 126))] → W p l e { frames := 1, cells := 1, slots := 60, locals := 30 } s m args below meth c H locs (0 + 1) (0 + 60) Q (F0 m 18 ls []) := by
    intro fu
    induction fu with
    | zero => intro i s2 H locs ls _ hm; exact absurd hm (Nat.not_lt_zero _)
    | succ fu ih =>
      intro i s2 H locs ls hi hm hF i2 a2 l2 z2 v2 hW hl
      refine x_iload_n hx hb hl 0 rfl dX9_copyOfSteps_18 rfl ?_
      refine x_aload_n hx hb hl 1 rfl dX9_copyOfSteps_19 rfl ?_
      refine x_alen (k := n) (n := xlen s2 n) (t0 := 0) hx hb hE hW a2.v a2.celn rfl rfl dX9_copyOfSteps_20 ?_
      rw [l2]
      by_cases hlt : i ≤ 60
      · refine x_icmp_ge (tgt := 39) hx hb (by omega) (by omega) dX9_copyOfSteps_21 (by decide) (fun c1 => ?_) (fun c1 => ?_)
        · refine x_aload_n hx hb hl 1 rfl dX9_copyOfSteps_39 rfl ?_
          rw [eQ]
          exact x_aret hx hb hr (Or.inr ⟨_, rfl⟩) hlk hW ⟨hF, ⟨i2, trivial⟩, en, a2, z2, by rw [l2, f4], fun j h1 h2 => v2 j h1 (by omega)⟩ dX9_copyOfSteps_40
        · refine x_aload_n hx hb hl 1 rfl dX9_copyOfSteps_24 rfl ?_
          refine x_iload_n hx hb hl 0 rfl dX9_copyOfSteps_25 rfl ?_
          refine x_aload_n hx hb hl 2 rfl dX9_copyOfSteps_26 rfl ?_
          refine x_get (j := 1) (v := .ref (h0 + 127)) hx hb hown hT hE hW cls_X9 (Or.inl (by decide)) (so_126 h0 g _) (by decide) rfl wq308 dX9_copyOfSteps_27 ?_
          refine x_iload_n hx hb hl 0 rfl dX9_copyOfSteps_30 rfl ?_
          refine x_iald hx hb hE hW (Or.inl (by decide)) (sa_127 h0 g _) (by omega) (by decide) dX9_copyOfSteps_31 ?_
          refine x_rd hW (fun x4 ex4 rx4 => ?_)
          refine x_iastW (k := n) hx hb hE hW hn a2 (by omega) rx4 dX9_copyOfSteps_32 (fun H locs s3 es3 hW => ?_)
          refine x_iinc (lv' := [(2, .int (xJ (i + 1))), (1, .ref (h0 + n)), (0, .ref (h0 + 126))]) hx hb hl 0 rfl dX9_copyOfSteps_33 (by decide) rfl (fun ls hl => ?_)
          refine lv_goto (tgt := 18) hx hb dX9_copyOfSteps_36 (by decide) ?_
          refine ih (i + 1) s3 H locs ls (by omega) (by omega) (hF.put es3 (by omega)) (by rw [es3]; exact IC_o (by unfold nsC; omega) i2) (a2.f (by rw [es3]; exact xU_k s2 i x4 (by omega))) ?_ ?_ ?_ hW hl
          · rw [← l2, es3]
            unfold xlen
            rw [xU_k s2 i x4 (by omega)]
          · rw [es3, xU_k s2 i x4 (by omega)]
            exact z2
          · intro j h1 h2
            rw [es3, xU_i]
            split
            · rename_i h
              rw [h, ex4, hF 127 (by omega)]
            · exact v2 j h1 (by omega)
      · refine x_icmp_ge (tgt := 39) hx hb (by omega) (by omega) dX9_copyOfSteps_21 (by decide) (fun c1 => ?_) (fun c1 => ?_)
        · refine x_aload_n hx hb hl 1 rfl dX9_copyOfSteps_39 rfl ?_
          rw [eQ]
          exact x_aret hx hb hr (Or.inr ⟨_, rfl⟩) hlk hW ⟨hF, ⟨i2, trivial⟩, en, a2, z2, by rw [l2, f4], fun j h1 h2 => v2 j h1 (by omega)⟩ dX9_copyOfSteps_40
        · omega
  exact L18 ((61 - 0 : Int).toNat + 1) 0 s1 H locs ls (by omega) (Nat.lt_succ_self _) hF i1 a1 l1 z1 (fun j h1 h2 => by omega) hW hl
set_option maxHeartbeats 4000000 in
set_option maxRecDepth 100000 in
theorem c_X10_sendAwayWhoCannotStand (l : Launch) (D : va_G) (g : xG) (T : Nat × Nat × Nat) (h0 : Nat) (s0 : xS) (hσ : xRR s0) (p0 : IC s0) : Met l yX10_sendAwayWhoCannotStand (xws yX10_sendAwayWhoCannotStand cX10_sendAwayWhoCannotStand 2 none) { frames := 2, cells := 0, slots := 0, locals := 43 } (xP [.ref (h0 + 0)] D g T h0 s0) (xQv D g h0 (fun τ => xFr (fun k => k = 129 ∨ k = 137 ∨ k = 142 ∨ k = 143 ∨ k = 144 ∨ k = 145) s0 τ ∧ (((IC τ) ∧ True) ∧ (True)))) 0 0 (xA h0) := by
  refine x_met hσ (by decide) (Nat.le_of_ble_eq_true rfl) ?_
  intro p e s m args below meth c hx hb hr hml hown hT hlk hnm hE hW ls hl
  have hl : lv_has ls 2 [(0, .ref (h0 + 0))] := hl
  obtain ⟨Q, eQ⟩ : ∃ Q, Q = MQ below (xQv D g h0 (fun τ => xFr (fun k => k = 129 ∨ k = 137 ∨ k = 142 ∨ k = 143 ∨ k = 144 ∨ k = 145) s0 τ ∧ (((IC τ) ∧ True) ∧ (True)))) args s 0 0 (xA h0) := ⟨_, rfl⟩
  rw [← eQ]
  generalize hHe : ([] : List Loc) = locs at hW ⊢
  obtain ⟨H, eH⟩ : ∃ H, H = s.heap := ⟨_, rfl⟩
  rw [← eH] at hW ⊢
  have hF : xFr (fun k => k = 129 ∨ k = 137 ∨ k = 142 ∨ k = 143 ∨ k = 144 ∨ k = 145) s0 s0 := xFr.rf
  have k1_1 : s0 1 1 = s0 1 1 := rfl
  refine x_iconst hx hb dX10_sendAwayWhoCannotStand_0 ?_
  refine lv_istore_n (lv' := [(1, .int (xJ 0)), (0, .ref (h0 + 0))]) hx hb dX10_sendAwayWhoCannotStand_1 rfl hl (by decide) rfl (fun ls hl => ?_)
  have L2 : ∀ (fu : Nat) (i1_2 : Int) (s_2 : xS) (H : Heap) (locs : List Loc) (ls : Array Slot), (xR i1_2) → (xFr (fun k => k = 129 ∨ k = 137 ∨ k = 142 ∨ k = 143 ∨ k = 144 ∨ k = 145) s0 s_2) → (IC s_2) → (s_2 1 1 = s0 1 1) → (0 ≤ i1_2) → (i1_2 ≤ 2) → (2 + 1 - i1_2).toNat < fu → xW D g h0 s H locs s_2 → lv_has ls 2 [(0, .ref (h0 + 0)), (1, .int (xJ i1_2))] → W p l e { frames := 2, cells := 0, slots := 0, locals := 43 } s m args below meth c H locs 0 0 Q (F0 m 2 ls []) := by
    intro fu
    induction fu with
    | zero => intro i1_2 s_2 H locs ls ri1_2 hF_2 q2_0 q2_1 v2_0 v2_1 hm; exact absurd hm (Nat.not_lt_zero _)
    | succ fu ih2 =>
      intro i1_2 s_2 H locs ls ri1_2 hF_2 q2_0 q2_1 v2_0 v2_1 hm hW hl
      refine x_iload_n hx hb hl 1 rfl dX10_sendAwayWhoCannotStand_2 rfl ?_
      refine x_iconst hx hb dX10_sendAwayWhoCannotStand_3 ?_
      refine x_icmp_ge (tgt := 42) hx hb ri1_2 (by decide) dX10_sendAwayWhoCannotStand_4 (by decide) (fun c1 => ?_) (fun c1 => ?_)
      · skip
        refine x_iconst hx hb dX10_sendAwayWhoCannotStand_42 ?_
        refine lv_istore_n (lv' := [(1, .int (xJ 0)), (0, .ref (h0 + 0))]) hx hb dX10_sendAwayWhoCannotStand_43 rfl hl (by decide) rfl (fun ls hl => ?_)
        have L44 : ∀ (fu : Nat) (i1_44 : Int) (s_44 : xS) (H : Heap) (locs : List Loc) (ls : Array Slot), (xR i1_44) → (xFr (fun k => k = 129 ∨ k = 137 ∨ k = 142 ∨ k = 143 ∨ k = 144 ∨ k = 145) s0 s_44) → (IC s_44) → (s_44 1 1 = s0 1 1) → (0 ≤ i1_44) → (i1_44 ≤ 10) → (10 + 1 - i1_44).toNat < fu → xW D g h0 s H locs s_44 → lv_has ls 2 [(0, .ref (h0 + 0)), (1, .int (xJ i1_44))] → W p l e { frames := 2, cells := 0, slots := 0, locals := 43 } s m args below meth c H locs 0 0 Q (F0 m 44 ls []) := by
          intro fu
          induction fu with
          | zero => intro i1_44 s_44 H locs ls ri1_44 hF_44 q44_0 q44_1 v44_0 v44_1 hm; exact absurd hm (Nat.not_lt_zero _)
          | succ fu ih44 =>
            intro i1_44 s_44 H locs ls ri1_44 hF_44 q44_0 q44_1 v44_0 v44_1 hm hW hl
            refine x_iload_n hx hb hl 1 rfl dX10_sendAwayWhoCannotStand_44 rfl ?_
            refine x_bipush hx hb dX10_sendAwayWhoCannotStand_45 (by decide) ?_
            refine x_icmp_ge (tgt := 85) hx hb ri1_44 (by decide) dX10_sendAwayWhoCannotStand_47 (by decide) (fun c2 => ?_) (fun c2 => ?_)
            · skip
              refine x_iconst hx hb dX10_sendAwayWhoCannotStand_85 ?_
              refine lv_istore_n (lv' := [(1, .int (xJ 0)), (0, .ref (h0 + 0))]) hx hb dX10_sendAwayWhoCannotStand_86 rfl hl (by decide) rfl (fun ls hl => ?_)
              have L87 : ∀ (fu : Nat) (i1_87 : Int) (s_87 : xS) (H : Heap) (locs : List Loc) (ls : Array Slot), (xR i1_87) → (xFr (fun k => k = 129 ∨ k = 137 ∨ k = 142 ∨ k = 143 ∨ k = 144 ∨ k = 145) s0 s_87) → (IC s_87) → (s_87 1 1 = s0 1 1) → (0 ≤ i1_87) → (i1_87 ≤ 4) → (4 + 1 - i1_87).toNat < fu → xW D g h0 s H locs s_87 → lv_has ls 2 [(0, .ref (h0 + 0)), (1, .int (xJ i1_87))] → W p l e { frames := 2, cells := 0, slots := 0, locals := 43 } s m args below meth c H locs 0 0 Q (F0 m 87 ls []) := by
                intro fu
                induction fu with
                | zero => intro i1_87 s_87 H locs ls ri1_87 hF_87 q87_0 q87_1 v87_0 v87_1 hm; exact absurd hm (Nat.not_lt_zero _)
                | succ fu ih87 =>
                  intro i1_87 s_87 H locs ls ri1_87 hF_87 q87_0 q87_1 v87_0 v87_1 hm hW hl
                  refine x_iload_n hx hb hl 1 rfl dX10_sendAwayWhoCannotStand_87 rfl ?_
                  refine x_iconst hx hb dX10_sendAwayWhoCannotStand_88 ?_
                  refine x_icmp_ge (tgt := 127) hx hb ri1_87 (by decide) dX10_sendAwayWhoCannotStand_89 (by decide) (fun c3 => ?_) (fun c3 => ?_)
                  · skip
                    rw [eQ]
                    exact x_vret hx hb hr hlk hW ⟨hF_87, ⟨q87_0, trivial⟩, trivial⟩ dX10_sendAwayWhoCannotStand_127
                  refine x_aload_n hx hb hl 0 rfl dX10_sendAwayWhoCannotStand_92 rfl ?_
                  refine x_get (j := 1) (v := .ref (h0 + 3)) hx hb hown hT hE hW cls_X10 (Or.inl (by decide)) (so_0 h0 g _) (by decide) rfl wq513 dX10_sendAwayWhoCannotStand_93 ?_
                  refine x_aload_n hx hb hl 0 rfl dX10_sendAwayWhoCannotStand_96 rfl ?_
                  refine x_get (j := 5) (v := .ref (h0 + 128)) hx hb hown hT hE hW cls_X10 (Or.inl (by decide)) (so_0 h0 g _) (by decide) rfl wq517 dX10_sendAwayWhoCannotStand_97 ?_
                  refine x_getN (j := 2) (v := .ref (h0 + 129)) hx hb hown hT hE hW cls_X0 (Or.inl (by decide)) (so_128 h0 g _) (by decide) rfl wn356 dX10_sendAwayWhoCannotStand_100 ?_
                  refine x_iload_n hx hb hl 1 rfl dX10_sendAwayWhoCannotStand_103 rfl ?_
                  refine x_iald hx hb hE hW (Or.inl (by decide)) (sa_129 h0 g _) (by omega) (by decide) dX10_sendAwayWhoCannotStand_104 ?_
                  refine x_rd hW (fun x4 ex4 rx4 => ?_)
                  refine x_goi (x_runVN (As := [.int (xJ x4)]) hx hb hml hown hT hE hW hl.1 (Or.inl (by decide)) (so_3 h0 g _) rfl cf_X6_isOpen wq615 wq9 wn613 (c_X6_isOpen l D g T h0 s_87 hW.2.1 x4 rx4 q87_0) ⟨rfl, rfl, ⟨by decide, by decide⟩, ⟨by decide, by decide⟩⟩ rfl rfl (Nat.le_of_ble_eq_true rfl) dX10_sendAwayWhoCannotStand_105) hW (fun x5 s6 H locs rx5 hp7 hW => ?_)
                  obtain ⟨es6, hp7⟩ := hp7
                  subst es6
                  have ghp7 := hp7
                  refine x_if_ne (tgt := 121) hx hb rx5 dX10_sendAwayWhoCannotStand_108 (by decide) (fun c8 => ?_) (fun c8 => ?_)
                  · skip
                    refine x_iinc (lv' := [(1, .int (xJ (i1_87 + 1))), (0, .ref (h0 + 0))]) hx hb hl 1 rfl dX10_sendAwayWhoCannotStand_121 (by decide) rfl (fun ls hl => ?_)
                    refine lv_goto (tgt := 87) hx hb dX10_sendAwayWhoCannotStand_124 (by decide) ?_
                    exact ih87 (i1_87 + 1) s_87 H locs ls (by omega) hF_87 q87_0 q87_1 (by omega) (by omega) (by omega) hW (lv_sub hl [1, 0] rfl)
                  refine x_aload_n hx hb hl 0 rfl dX10_sendAwayWhoCannotStand_111 rfl ?_
                  refine x_get (j := 5) (v := .ref (h0 + 128)) hx hb hown hT hE hW cls_X10 (Or.inl (by decide)) (so_0 h0 g _) (by decide) rfl wq517 dX10_sendAwayWhoCannotStand_112 ?_
                  refine x_getN (j := 2) (v := .ref (h0 + 129)) hx hb hown hT hE hW cls_X0 (Or.inl (by decide)) (so_128 h0 g _) (by decide) rfl wn356 dX10_sendAwayWhoCannotStand_115 ?_
                  refine x_iload_n hx hb hl 1 rfl dX10_sendAwayWhoCannotStand_118 rfl ?_
                  refine x_iconst hx hb dX10_sendAwayWhoCannotStand_119 ?_
                  refine x_iast hx hb hE hW (by decide) (fun σ => sa_129 h0 g σ) (by omega) (by decide) (by decide) dX10_sendAwayWhoCannotStand_120 (fun H locs s9 es9 hW => ?_)
                  have q10 : IC s9 := by rw [es9]; exact IC_o (by decide) q87_0
                  have q11 : s9 1 1 = s0 1 1 := (show s9 1 1 = s_87 1 1 from by rw [es9, xU_k _ _ _ (by omega)]).trans q87_1
                  have hF12 := hF_87.put es9 (by omega)
                  refine x_iinc (lv' := [(1, .int (xJ (i1_87 + 1))), (0, .ref (h0 + 0))]) hx hb hl 1 rfl dX10_sendAwayWhoCannotStand_121 (by decide) rfl (fun ls hl => ?_)
                  refine lv_goto (tgt := 87) hx hb dX10_sendAwayWhoCannotStand_124 (by decide) ?_
                  exact ih87 (i1_87 + 1) s9 H locs ls (by omega) hF12 q10 q11 (by omega) (by omega) (by omega) hW (lv_sub hl [1, 0] rfl)
              exact L87 ((4 + 1 - 0 : Int).toNat + 1) 0 s_44 H locs ls (by decide) hF_44 q44_0 q44_1 (by omega) (by omega) (Nat.lt_succ_self _) hW (lv_sub hl [1, 0] rfl)
            refine x_aload_n hx hb hl 0 rfl dX10_sendAwayWhoCannotStand_50 rfl ?_
            refine x_get (j := 1) (v := .ref (h0 + 3)) hx hb hown hT hE hW cls_X10 (Or.inl (by decide)) (so_0 h0 g _) (by decide) rfl wq513 dX10_sendAwayWhoCannotStand_51 ?_
            refine x_aload_n hx hb hl 0 rfl dX10_sendAwayWhoCannotStand_54 rfl ?_
            refine x_get (j := 8) (v := .ref (h0 + 136)) hx hb hown hT hE hW cls_X10 (Or.inl (by decide)) (so_0 h0 g _) (by decide) rfl wq520 dX10_sendAwayWhoCannotStand_55 ?_
            refine x_getN (j := 3) (v := .ref (h0 + 142)) hx hb hown hT hE hW cls_X2 (Or.inl (by decide)) (so_136 h0 g _) (by decide) rfl wn391 dX10_sendAwayWhoCannotStand_58 ?_
            refine x_iload_n hx hb hl 1 rfl dX10_sendAwayWhoCannotStand_61 rfl ?_
            refine x_iald hx hb hE hW (Or.inl (by decide)) (sa_142 h0 g _) (by omega) (by decide) dX10_sendAwayWhoCannotStand_62 ?_
            refine x_rd hW (fun x13 ex13 rx13 => ?_)
            refine x_goi (x_runVN (As := [.int (xJ x13)]) hx hb hml hown hT hE hW hl.1 (Or.inl (by decide)) (so_3 h0 g _) rfl cf_X6_isOpen wq615 wq9 wn613 (c_X6_isOpen l D g T h0 s_44 hW.2.1 x13 rx13 q44_0) ⟨rfl, rfl, ⟨by decide, by decide⟩, ⟨by decide, by decide⟩⟩ rfl rfl (Nat.le_of_ble_eq_true rfl) dX10_sendAwayWhoCannotStand_63) hW (fun x14 s15 H locs rx14 hp16 hW => ?_)
            obtain ⟨es15, hp16⟩ := hp16
            subst es15
            have ghp16 := hp16
            refine x_if_ne (tgt := 79) hx hb rx14 dX10_sendAwayWhoCannotStand_66 (by decide) (fun c17 => ?_) (fun c17 => ?_)
            · skip
              refine x_iinc (lv' := [(1, .int (xJ (i1_44 + 1))), (0, .ref (h0 + 0))]) hx hb hl 1 rfl dX10_sendAwayWhoCannotStand_79 (by decide) rfl (fun ls hl => ?_)
              refine lv_goto (tgt := 44) hx hb dX10_sendAwayWhoCannotStand_82 (by decide) ?_
              exact ih44 (i1_44 + 1) s_44 H locs ls (by omega) hF_44 q44_0 q44_1 (by omega) (by omega) (by omega) hW (lv_sub hl [1, 0] rfl)
            refine x_aload_n hx hb hl 0 rfl dX10_sendAwayWhoCannotStand_69 rfl ?_
            refine x_get (j := 8) (v := .ref (h0 + 136)) hx hb hown hT hE hW cls_X10 (Or.inl (by decide)) (so_0 h0 g _) (by decide) rfl wq520 dX10_sendAwayWhoCannotStand_70 ?_
            refine x_iload_n hx hb hl 1 rfl dX10_sendAwayWhoCannotStand_73 rfl ?_
            refine x_iconst hx hb dX10_sendAwayWhoCannotStand_74 ?_
            refine x_iconst hx hb dX10_sendAwayWhoCannotStand_75 ?_
            refine x_gov (x_runVN (As := [.int (xJ i1_44), .int (xJ (-1)), .int (xJ 0)]) hx hb hml hown hT hE hW hl.1 (Or.inl (by decide)) (so_136 h0 g _) rfl cf_X2_setFelon wq623 wq11 wn621 (c_X2_setFelon l D g T h0 s_44 hW.2.1 136 xd_136 i1_44 ri1_44 (-1) (by decide) 0 (by decide) q44_0) ⟨rfl, rfl, ⟨by decide, by decide⟩, ⟨by decide, by decide⟩⟩ rfl rfl (Nat.le_of_ble_eq_true rfl) dX10_sendAwayWhoCannotStand_76) hW (fun s19 H locs hp20 hW => ?_)
            obtain ⟨fs19, hp20⟩ := hp20
            have hF21 := hF_44.call fs19 (fun k h => by omega)
            have q22 : s19 1 1 = s0 1 1 := (congrFun (fs19 _ (by omega)) _).trans q44_1
            have ghp20 := hp20.2
            refine x_iinc (lv' := [(1, .int (xJ (i1_44 + 1))), (0, .ref (h0 + 0))]) hx hb hl 1 rfl dX10_sendAwayWhoCannotStand_79 (by decide) rfl (fun ls hl => ?_)
            refine lv_goto (tgt := 44) hx hb dX10_sendAwayWhoCannotStand_82 (by decide) ?_
            exact ih44 (i1_44 + 1) s19 H locs ls (by omega) hF21 hp20.1.1 q22 (by omega) (by omega) (by omega) hW (lv_sub hl [1, 0] rfl)
        exact L44 ((10 + 1 - 0 : Int).toNat + 1) 0 s_2 H locs ls (by decide) hF_2 q2_0 q2_1 (by omega) (by omega) (Nat.lt_succ_self _) hW (lv_sub hl [1, 0] rfl)
      refine x_aload_n hx hb hl 0 rfl dX10_sendAwayWhoCannotStand_7 rfl ?_
      refine x_get (j := 1) (v := .ref (h0 + 3)) hx hb hown hT hE hW cls_X10 (Or.inl (by decide)) (so_0 h0 g _) (by decide) rfl wq513 dX10_sendAwayWhoCannotStand_8 ?_
      refine x_aload_n hx hb hl 0 rfl dX10_sendAwayWhoCannotStand_11 rfl ?_
      refine x_get (j := 8) (v := .ref (h0 + 136)) hx hb hown hT hE hW cls_X10 (Or.inl (by decide)) (so_0 h0 g _) (by decide) rfl wq520 dX10_sendAwayWhoCannotStand_12 ?_
      refine x_getN (j := 0) (v := .ref (h0 + 137)) hx hb hown hT hE hW cls_X2 (Or.inl (by decide)) (so_136 h0 g _) (by decide) rfl wn385 dX10_sendAwayWhoCannotStand_15 ?_
      refine x_iload_n hx hb hl 1 rfl dX10_sendAwayWhoCannotStand_18 rfl ?_
      refine x_iald hx hb hE hW (Or.inl (by decide)) (sa_137 h0 g _) (by omega) (by decide) dX10_sendAwayWhoCannotStand_19 ?_
      refine x_rd hW (fun x23 ex23 rx23 => ?_)
      refine x_goi (x_runVN (As := [.int (xJ x23)]) hx hb hml hown hT hE hW hl.1 (Or.inl (by decide)) (so_3 h0 g _) rfl cf_X6_isOpen wq615 wq9 wn613 (c_X6_isOpen l D g T h0 s_2 hW.2.1 x23 rx23 q2_0) ⟨rfl, rfl, ⟨by decide, by decide⟩, ⟨by decide, by decide⟩⟩ rfl rfl (Nat.le_of_ble_eq_true rfl) dX10_sendAwayWhoCannotStand_20) hW (fun x24 s25 H locs rx24 hp26 hW => ?_)
      obtain ⟨es25, hp26⟩ := hp26
      subst es25
      have ghp26 := hp26
      refine x_if_ne (tgt := 36) hx hb rx24 dX10_sendAwayWhoCannotStand_23 (by decide) (fun c27 => ?_) (fun c27 => ?_)
      · skip
        refine x_iinc (lv' := [(1, .int (xJ (i1_2 + 1))), (0, .ref (h0 + 0))]) hx hb hl 1 rfl dX10_sendAwayWhoCannotStand_36 (by decide) rfl (fun ls hl => ?_)
        refine lv_goto (tgt := 2) hx hb dX10_sendAwayWhoCannotStand_39 (by decide) ?_
        exact ih2 (i1_2 + 1) s_2 H locs ls (by omega) hF_2 q2_0 q2_1 (by omega) (by omega) (by omega) hW (lv_sub hl [1, 0] rfl)
      refine x_aload_n hx hb hl 0 rfl dX10_sendAwayWhoCannotStand_26 rfl ?_
      refine x_get (j := 8) (v := .ref (h0 + 136)) hx hb hown hT hE hW cls_X10 (Or.inl (by decide)) (so_0 h0 g _) (by decide) rfl wq520 dX10_sendAwayWhoCannotStand_27 ?_
      refine x_getN (j := 0) (v := .ref (h0 + 137)) hx hb hown hT hE hW cls_X2 (Or.inl (by decide)) (so_136 h0 g _) (by decide) rfl wn385 dX10_sendAwayWhoCannotStand_30 ?_
      refine x_iload_n hx hb hl 1 rfl dX10_sendAwayWhoCannotStand_33 rfl ?_
      refine x_iconst hx hb dX10_sendAwayWhoCannotStand_34 ?_
      refine x_iast hx hb hE hW (by decide) (fun σ => sa_137 h0 g σ) (by omega) (by decide) (by decide) dX10_sendAwayWhoCannotStand_35 (fun H locs s28 es28 hW => ?_)
      have q29 : IC s28 := by rw [es28]; exact IC_o (by decide) q2_0
      have q30 : s28 1 1 = s0 1 1 := (show s28 1 1 = s_2 1 1 from by rw [es28, xU_k _ _ _ (by omega)]).trans q2_1
      have hF31 := hF_2.put es28 (by omega)
      refine x_iinc (lv' := [(1, .int (xJ (i1_2 + 1))), (0, .ref (h0 + 0))]) hx hb hl 1 rfl dX10_sendAwayWhoCannotStand_36 (by decide) rfl (fun ls hl => ?_)
      refine lv_goto (tgt := 2) hx hb dX10_sendAwayWhoCannotStand_39 (by decide) ?_
      exact ih2 (i1_2 + 1) s28 H locs ls (by omega) hF31 q29 q30 (by omega) (by omega) (by omega) hW (lv_sub hl [1, 0] rfl)
  exact L2 ((2 + 1 - 0 : Int).toNat + 1) 0 s0 H locs ls (by decide) hF p0 k1_1 (by omega) (by omega) (Nat.lt_succ_self _) hW (lv_sub hl [1, 0] rfl)
set_option maxHeartbeats 4000000 in
set_option maxRecDepth 100000 in
theorem c_X10_canBeTried (l : Launch) (D : va_G) (g : xG) (T : Nat × Nat × Nat) (h0 : Nat) (s0 : xS) (hσ : xRR s0) (x : Int) (rx : xR x) (p0 : IC s0) : Met l yX10_canBeTried (xws yX10_canBeTried cX10_canBeTried 2 (some .boolean)) { frames := 1, cells := 0, slots := 0, locals := 22 } (xP [.ref (h0 + 0), .int (xJ x)] D g T h0 s0) (xQi D g h0 (fun r τ => s0 = τ ∧ (r = 0 ∨ r = 1))) 0 0 (xA h0) := by
  refine x_met hσ (by decide) (Nat.le_of_ble_eq_true rfl) ?_
  intro p e s m args below meth c hx hb hr hml hown hT hlk hnm hE hW ls hl
  have hl : lv_has ls 2 [(0, .ref (h0 + 0)), (1, .int (xJ x))] := hl
  obtain ⟨Q, eQ⟩ : ∃ Q, Q = MQ below (xQi D g h0 (fun r τ => s0 = τ ∧ (r = 0 ∨ r = 1))) args s 0 0 (xA h0) := ⟨_, rfl⟩
  rw [← eQ]
  generalize hHe : ([] : List Loc) = locs at hW ⊢
  obtain ⟨H, eH⟩ : ∃ H, H = s.heap := ⟨_, rfl⟩
  rw [← eH] at hW ⊢
  have k1_1 : s0 1 1 = s0 1 1 := rfl
  refine x_iload_n hx hb hl 1 rfl dX10_canBeTried_0 rfl ?_
  refine x_bipush hx hb dX10_canBeTried_1 (by decide) ?_
  refine x_bipush hx hb dX10_canBeTried_3 (by decide) ?_
  refine x_goi (x_runS (As := [.int (xJ x), .int (xJ 10), .int (xJ 29)]) hx hb hml hown hT hE hW hl.1 cf_X10_isIn wq562 wq561 (c_X10_isIn l D g T h0 s0 hW.2.1 x rx 10 (by decide) 29 (by decide)) ⟨rfl, rfl, ⟨by decide, by decide⟩, ⟨by decide, by decide⟩⟩ rfl rfl (Nat.le_of_ble_eq_true rfl) dX10_canBeTried_5) hW (fun x1 s2 H locs rx1 hp3 hW => ?_)
  obtain ⟨es2, hp3⟩ := hp3
  subst es2
  have ghp3 := hp3
  refine x_if_eq (tgt := 23) hx hb rx1 dX10_canBeTried_8 (by decide) (fun c4 => ?_) (fun c4 => ?_)
  · skip
    refine x_iload_n hx hb hl 1 rfl dX10_canBeTried_23 rfl ?_
    refine x_iconst hx hb dX10_canBeTried_24 ?_
    refine x_iconst hx hb dX10_canBeTried_25 ?_
    refine x_goi (x_runS (As := [.int (xJ x), .int (xJ 0), .int (xJ 5)]) hx hb hml hown hT hE hW hl.1 cf_X10_isIn wq562 wq561 (c_X10_isIn l D g T h0 s0 hW.2.1 x rx 0 (by decide) 5 (by decide)) ⟨rfl, rfl, ⟨by decide, by decide⟩, ⟨by decide, by decide⟩⟩ rfl rfl (Nat.le_of_ble_eq_true rfl) dX10_canBeTried_26) hW (fun x5 s6 H locs rx5 hp7 hW => ?_)
    obtain ⟨es6, hp7⟩ := hp7
    subst es6
    have ghp7 := hp7
    refine x_if_ne (tgt := 57) hx hb rx5 dX10_canBeTried_29 (by decide) (fun c8 => ?_) (fun c8 => ?_)
    · skip
      refine x_iconst hx hb dX10_canBeTried_57 ?_
      refine lv_goto (tgt := 62) hx hb dX10_canBeTried_58 (by decide) ?_
      rw [eQ]
      exact x_zret hx hb hr hlk hW (by omega) ⟨rfl, by omega⟩ dX10_canBeTried_62
    refine x_iload_n hx hb hl 1 rfl dX10_canBeTried_32 rfl ?_
    refine x_bipush hx hb dX10_canBeTried_33 (by decide) ?_
    refine x_bipush hx hb dX10_canBeTried_35 (by decide) ?_
    refine x_goi (x_runS (As := [.int (xJ x), .int (xJ 30), .int (xJ 31)]) hx hb hml hown hT hE hW hl.1 cf_X10_isIn wq562 wq561 (c_X10_isIn l D g T h0 s0 hW.2.1 x rx 30 (by decide) 31 (by decide)) ⟨rfl, rfl, ⟨by decide, by decide⟩, ⟨by decide, by decide⟩⟩ rfl rfl (Nat.le_of_ble_eq_true rfl) dX10_canBeTried_37) hW (fun x9 s10 H locs rx9 hp11 hW => ?_)
    obtain ⟨es10, hp11⟩ := hp11
    subst es10
    have ghp11 := hp11
    refine x_if_eq (tgt := 61) hx hb rx9 dX10_canBeTried_40 (by decide) (fun c12 => ?_) (fun c12 => ?_)
    · skip
      refine x_iconst hx hb dX10_canBeTried_61 ?_
      rw [eQ]
      exact x_zret hx hb hr hlk hW (by omega) ⟨rfl, by omega⟩ dX10_canBeTried_62
    refine x_aload_n hx hb hl 0 rfl dX10_canBeTried_43 rfl ?_
    refine x_get (j := 8) (v := .ref (h0 + 136)) hx hb hown hT hE hW cls_X10 (Or.inl (by decide)) (so_0 h0 g _) (by decide) rfl wq520 dX10_canBeTried_44 ?_
    refine x_iload_n hx hb hl 1 rfl dX10_canBeTried_47 rfl ?_
    refine x_bipush hx hb dX10_canBeTried_48 (by decide) ?_
    refine x_isub hx hb dX10_canBeTried_50 ?_
    refine x_goi (x_runVN (As := [.int (xJ (x - 30))]) hx hb hml hown hT hE hW hl.1 (Or.inl (by decide)) (so_136 h0 g _) rfl cf_X2_hasJudge wq773 wq37 wn911 (c_X2_hasJudge l D g T h0 s0 hW.2.1 136 xd_136 (x - 30) (by omega) p0) ⟨rfl, rfl, ⟨by decide, by decide⟩, ⟨by decide, by decide⟩⟩ rfl rfl (Nat.le_of_ble_eq_true rfl) dX10_canBeTried_51) hW (fun x13 s14 H locs rx13 hp15 hW => ?_)
    obtain ⟨es14, hp15⟩ := hp15
    subst es14
    have ghp15 := hp15
    refine x_if_eq (tgt := 61) hx hb rx13 dX10_canBeTried_54 (by decide) (fun c16 => ?_) (fun c16 => ?_)
    · skip
      refine x_iconst hx hb dX10_canBeTried_61 ?_
      rw [eQ]
      exact x_zret hx hb hr hlk hW (by omega) ⟨rfl, by omega⟩ dX10_canBeTried_62
    refine x_iconst hx hb dX10_canBeTried_57 ?_
    refine lv_goto (tgt := 62) hx hb dX10_canBeTried_58 (by decide) ?_
    rw [eQ]
    exact x_zret hx hb hr hlk hW (by omega) ⟨rfl, by omega⟩ dX10_canBeTried_62
  refine x_aload_n hx hb hl 0 rfl dX10_canBeTried_11 rfl ?_
  refine x_get (j := 8) (v := .ref (h0 + 136)) hx hb hown hT hE hW cls_X10 (Or.inl (by decide)) (so_0 h0 g _) (by decide) rfl wq520 dX10_canBeTried_12 ?_
  refine x_iload_n hx hb hl 1 rfl dX10_canBeTried_15 rfl ?_
  refine x_bipush hx hb dX10_canBeTried_16 (by decide) ?_
  refine x_irem hx hb rx (by decide) (by omega) (by decide) dX10_canBeTried_18 ?_
  refine x_goi (x_runVN (As := [.int (xJ (x % 10))]) hx hb hml hown hT hE hW hl.1 (Or.inl (by decide)) (so_136 h0 g _) rfl cf_X2_hasFelon wq862 wq53 wn910 (c_X2_hasFelon l D g T h0 s0 hW.2.1 136 xd_136 (x % 10) (by omega) p0) ⟨rfl, rfl, ⟨by decide, by decide⟩, ⟨by decide, by decide⟩⟩ rfl rfl (Nat.le_of_ble_eq_true rfl) dX10_canBeTried_19) hW (fun x17 s18 H locs rx17 hp19 hW => ?_)
  obtain ⟨es18, hp19⟩ := hp19
  subst es18
  have ghp19 := hp19
  rw [eQ]
  exact x_zret hx hb hr hlk hW (by omega) ⟨rfl, by omega⟩ dX10_canBeTried_22
set_option maxHeartbeats 4000000 in
set_option maxRecDepth 100000 in
theorem c_X10_isFreeForLamp (l : Launch) (D : va_G) (g : xG) (T : Nat × Nat × Nat) (h0 : Nat) (s0 : xS) (hσ : xRR s0) (x : Int) (rx : xR x) (p0 : IC s0) : Met l yX10_isFreeForLamp (xws yX10_isFreeForLamp cX10_isFreeForLamp 2 (some .boolean)) { frames := 1, cells := 0, slots := 0, locals := 22 } (xP [.ref (h0 + 0), .int (xJ x)] D g T h0 s0) (xQi D g h0 (fun r τ => s0 = τ ∧ (r = 0 ∨ r = 1))) 0 0 (xA h0) := by
  refine x_met hσ (by decide) (Nat.le_of_ble_eq_true rfl) ?_
  intro p e s m args below meth c hx hb hr hml hown hT hlk hnm hE hW ls hl
  have hl : lv_has ls 2 [(0, .ref (h0 + 0)), (1, .int (xJ x))] := hl
  obtain ⟨Q, eQ⟩ : ∃ Q, Q = MQ below (xQi D g h0 (fun r τ => s0 = τ ∧ (r = 0 ∨ r = 1))) args s 0 0 (xA h0) := ⟨_, rfl⟩
  rw [← eQ]
  generalize hHe : ([] : List Loc) = locs at hW ⊢
  obtain ⟨H, eH⟩ : ∃ H, H = s.heap := ⟨_, rfl⟩
  rw [← eH] at hW ⊢
  have k1_1 : s0 1 1 = s0 1 1 := rfl
  refine x_aload_n hx hb hl 0 rfl dX10_isFreeForLamp_0 rfl ?_
  refine x_get (j := 1) (v := .ref (h0 + 3)) hx hb hown hT hE hW cls_X10 (Or.inl (by decide)) (so_0 h0 g _) (by decide) rfl wq513 dX10_isFreeForLamp_1 ?_
  refine x_iload_n hx hb hl 1 rfl dX10_isFreeForLamp_4 rfl ?_
  refine x_goi (x_runVN (As := [.int (xJ x)]) hx hb hml hown hT hE hW hl.1 (Or.inl (by decide)) (so_3 h0 g _) rfl cf_X6_kindAt wq619 wq10 wn1067 (c_X6_kindAt l D g T h0 s0 hW.2.1 x rx p0) ⟨rfl, rfl, ⟨by decide, by decide⟩, ⟨by decide, by decide⟩⟩ rfl rfl (Nat.le_of_ble_eq_true rfl) dX10_isFreeForLamp_5) hW (fun x1 s2 H locs rx1 hp3 hW => ?_)
  obtain ⟨es2, hp3⟩ := hp3
  subst es2
  have ghp3 := hp3
  refine x_if_ne (tgt := 57) hx hb rx1 dX10_isFreeForLamp_8 (by decide) (fun c4 => ?_) (fun c4 => ?_)
  · skip
    refine x_iconst hx hb dX10_isFreeForLamp_57 ?_
    rw [eQ]
    exact x_zret hx hb hr hlk hW (by omega) ⟨rfl, by omega⟩ dX10_isFreeForLamp_58
  refine x_aload_n hx hb hl 0 rfl dX10_isFreeForLamp_11 rfl ?_
  refine x_get (j := 8) (v := .ref (h0 + 136)) hx hb hown hT hE hW cls_X10 (Or.inl (by decide)) (so_0 h0 g _) (by decide) rfl wq520 dX10_isFreeForLamp_12 ?_
  refine x_getN (j := 0) (v := .ref (h0 + 137)) hx hb hown hT hE hW cls_X2 (Or.inl (by decide)) (so_136 h0 g _) (by decide) rfl wn385 dX10_isFreeForLamp_15 ?_
  refine x_iload_n hx hb hl 1 rfl dX10_isFreeForLamp_18 rfl ?_
  refine x_goi (x_runS (As := [.ref (h0 + 137), .int (xJ x)]) hx hb hml hown hT hE hW hl.1 cf_X10_holds wq850 wq1068 (c_X10_holds2 l D g T h0 s0 hW.2.1 137 (by decide) (by decide) (fun σ => sa_137 h0 g σ) x rx) ⟨rfl, rfl, ⟨by decide, by decide⟩, ⟨by decide, by decide⟩⟩ rfl rfl (Nat.le_of_ble_eq_true rfl) dX10_isFreeForLamp_19) hW (fun x5 s6 H locs rx5 hp7 hW => ?_)
  obtain ⟨es6, hp7⟩ := hp7
  subst es6
  have ghp7 := hp7
  refine x_if_ne (tgt := 57) hx hb rx5 dX10_isFreeForLamp_22 (by decide) (fun c8 => ?_) (fun c8 => ?_)
  · skip
    refine x_iconst hx hb dX10_isFreeForLamp_57 ?_
    rw [eQ]
    exact x_zret hx hb hr hlk hW (by omega) ⟨rfl, by omega⟩ dX10_isFreeForLamp_58
  refine x_aload_n hx hb hl 0 rfl dX10_isFreeForLamp_25 rfl ?_
  refine x_get (j := 8) (v := .ref (h0 + 136)) hx hb hown hT hE hW cls_X10 (Or.inl (by decide)) (so_0 h0 g _) (by decide) rfl wq520 dX10_isFreeForLamp_26 ?_
  refine x_getN (j := 3) (v := .ref (h0 + 142)) hx hb hown hT hE hW cls_X2 (Or.inl (by decide)) (so_136 h0 g _) (by decide) rfl wn391 dX10_isFreeForLamp_29 ?_
  refine x_iload_n hx hb hl 1 rfl dX10_isFreeForLamp_32 rfl ?_
  refine x_goi (x_runS (As := [.ref (h0 + 142), .int (xJ x)]) hx hb hml hown hT hE hW hl.1 cf_X10_holds wq850 wq1068 (c_X10_holds10 l D g T h0 s0 hW.2.1 142 (by decide) (by decide) (fun σ => sa_142 h0 g σ) x rx) ⟨rfl, rfl, ⟨by decide, by decide⟩, ⟨by decide, by decide⟩⟩ rfl rfl (Nat.le_of_ble_eq_true rfl) dX10_isFreeForLamp_33) hW (fun x9 s10 H locs rx9 hp11 hW => ?_)
  obtain ⟨es10, hp11⟩ := hp11
  subst es10
  have ghp11 := hp11
  refine x_if_ne (tgt := 57) hx hb rx9 dX10_isFreeForLamp_36 (by decide) (fun c12 => ?_) (fun c12 => ?_)
  · skip
    refine x_iconst hx hb dX10_isFreeForLamp_57 ?_
    rw [eQ]
    exact x_zret hx hb hr hlk hW (by omega) ⟨rfl, by omega⟩ dX10_isFreeForLamp_58
  refine x_aload_n hx hb hl 0 rfl dX10_isFreeForLamp_39 rfl ?_
  refine x_get (j := 5) (v := .ref (h0 + 128)) hx hb hown hT hE hW cls_X10 (Or.inl (by decide)) (so_0 h0 g _) (by decide) rfl wq517 dX10_isFreeForLamp_40 ?_
  refine x_getN (j := 2) (v := .ref (h0 + 129)) hx hb hown hT hE hW cls_X0 (Or.inl (by decide)) (so_128 h0 g _) (by decide) rfl wn356 dX10_isFreeForLamp_43 ?_
  refine x_iload_n hx hb hl 1 rfl dX10_isFreeForLamp_46 rfl ?_
  refine x_goi (x_runS (As := [.ref (h0 + 129), .int (xJ x)]) hx hb hml hown hT hE hW hl.1 cf_X10_holds wq850 wq1068 (c_X10_holds4 l D g T h0 s0 hW.2.1 129 (by decide) (by decide) (fun σ => sa_129 h0 g σ) x rx) ⟨rfl, rfl, ⟨by decide, by decide⟩, ⟨by decide, by decide⟩⟩ rfl rfl (Nat.le_of_ble_eq_true rfl) dX10_isFreeForLamp_47) hW (fun x13 s14 H locs rx13 hp15 hW => ?_)
  obtain ⟨es14, hp15⟩ := hp15
  subst es14
  have ghp15 := hp15
  refine x_if_ne (tgt := 57) hx hb rx13 dX10_isFreeForLamp_50 (by decide) (fun c16 => ?_) (fun c16 => ?_)
  · skip
    refine x_iconst hx hb dX10_isFreeForLamp_57 ?_
    rw [eQ]
    exact x_zret hx hb hr hlk hW (by omega) ⟨rfl, by omega⟩ dX10_isFreeForLamp_58
  refine x_iconst hx hb dX10_isFreeForLamp_53 ?_
  refine lv_goto (tgt := 58) hx hb dX10_isFreeForLamp_54 (by decide) ?_
  rw [eQ]
  exact x_zret hx hb hr hlk hW (by omega) ⟨rfl, by omega⟩ dX10_isFreeForLamp_58
set_option maxHeartbeats 4000000 in
set_option maxRecDepth 100000 in
theorem c_X10_hasBytesBeyond (l : Launch) (D : va_G) (g : xG) (T : Nat × Nat × Nat) (h0 : Nat) (s0 : xS) (hσ : xRR s0) (n : Int) (rn : xR n) (a : Int) (ra : xR a) (b : Int) (rb : xR b) (hle : n ≤ s0 1 1 ∧ s0 1 1 ≤ 260) (p0 : IC s0) : Met l yX10_hasBytesBeyond (xws yX10_hasBytesBeyond cX10_hasBytesBeyond 5 (some .boolean)) { frames := 1, cells := 0, slots := 0, locals := 22 } (xP [.ref (h0 + 0), .int (xJ n), .int (xJ a), .int (xJ b)] D g T h0 s0) (xQi D g h0 (fun r τ => s0 = τ ∧ ((r = 1 ∧ zbad (s0 2) n a b) ∨ (r = 0 ∧ ¬ zbad (s0 2) n a b)))) 0 0 (xA h0) := by
  refine x_met hσ (by decide) (Nat.le_of_ble_eq_true rfl) ?_
  intro p e s m args below meth c hx hb hr hml hown hT hlk hnm hE hW ls hl
  have hl : lv_has ls 5 [(0, .ref (h0 + 0)), (1, .int (xJ n)), (2, .int (xJ a)), (3, .int (xJ b))] := hl
  obtain ⟨Q, eQ⟩ : ∃ Q, Q = MQ below (xQi D g h0 (fun r τ => s0 = τ ∧ ((r = 1 ∧ zbad (s0 2) n a b) ∨ (r = 0 ∧ ¬ zbad (s0 2) n a b)))) args s 0 0 (xA h0) := ⟨_, rfl⟩
  rw [← eQ]
  generalize hHe : ([] : List Loc) = locs at hW ⊢
  obtain ⟨H, eH⟩ : ∃ H, H = s.heap := ⟨_, rfl⟩
  rw [← eH] at hW ⊢
  have k1_1 : s0 1 1 = s0 1 1 := rfl
  have k1_1 : s0 1 1 = s0 1 1 := rfl
  refine x_iconst hx hb dX10_hasBytesBeyond_0 ?_
  refine lv_istore (lv' := [(4, .int (xJ 0)), (0, .ref (h0 + 0)), (1, .int (xJ n)), (2, .int (xJ a)), (3, .int (xJ b))]) hx hb dX10_hasBytesBeyond_1 hl (by decide) rfl (fun ls hl => ?_)
  have L3 : ∀ (fu : Nat) (i4_3 : Int) (H : Heap) (locs : List Loc) (ls : Array Slot), (xR i4_3) → (0 ≤ i4_3) → (∀ i, 0 ≤ i → i < i4_3 → a ≤ s0 2 i ∧ s0 2 i ≤ b) → (261 - i4_3).toNat < fu → xW D g h0 s H locs s0 → lv_has ls 5 [(0, .ref (h0 + 0)), (1, .int (xJ n)), (2, .int (xJ a)), (3, .int (xJ b)), (4, .int (xJ i4_3))] → W p l e { frames := 1, cells := 0, slots := 0, locals := 22 } s m args below meth c H locs 0 0 Q (F0 m 3 ls []) := by
    intro fu
    induction fu with
    | zero => intro i4_3 H locs ls ri4_3 v3_0 v3_1 hm; exact absurd hm (Nat.not_lt_zero _)
    | succ fu ih3 =>
      intro i4_3 H locs ls ri4_3 v3_0 v3_1 hm hW hl
      refine x_iload hx hb hl 4 rfl dX10_hasBytesBeyond_3 ?_
      refine x_iload_n hx hb hl 1 rfl dX10_hasBytesBeyond_5 rfl ?_
      refine x_icmp_ge (tgt := 34) hx hb ri4_3 rn dX10_hasBytesBeyond_6 (by decide) (fun c1 => ?_) (fun c1 => ?_)
      · skip
        refine x_iconst hx hb dX10_hasBytesBeyond_34 ?_
        rw [eQ]
        exact x_zret hx hb hr hlk hW (by omega) ⟨rfl, Or.inr ⟨by omega, fun ⟨i, h1, h2, h3⟩ => by have := v3_1 i h1 (by omega); omega⟩⟩ dX10_hasBytesBeyond_35
      refine x_aload_n hx hb hl 0 rfl dX10_hasBytesBeyond_9 rfl ?_
      refine x_get (j := 0) (v := .ref (h0 + 1)) hx hb hown hT hE hW cls_X10 (Or.inl (by decide)) (so_0 h0 g _) (by decide) rfl wq512 dX10_hasBytesBeyond_10 ?_
      refine x_iload hx hb hl 4 rfl dX10_hasBytesBeyond_13 ?_
      refine x_goi (x_runVN (As := [.int (xJ i4_3)]) hx hb hml hown hT hE hW hl.1 (Or.inl (by decide)) (so_1 h0 g _) rfl cf_X8_byteAt wq1084 wq90 wn1082 (c_X8_byteAt l D g T h0 s0 hW.2.1 i4_3 ri4_3 p0) ⟨rfl, rfl, ⟨by decide, by decide⟩, ⟨by decide, by decide⟩⟩ rfl rfl (Nat.le_of_ble_eq_true rfl) dX10_hasBytesBeyond_15) hW (fun x2 s3 H locs rx2 hp4 hW => ?_)
      obtain ⟨es3, hp4⟩ := hp4
      subst es3
      have ghp4 := hp4
      refine x_iload_n hx hb hl 2 rfl dX10_hasBytesBeyond_18 rfl ?_
      refine x_iload_n hx hb hl 3 rfl dX10_hasBytesBeyond_19 rfl ?_
      refine x_goi (x_runS (As := [.int (xJ x2), .int (xJ a), .int (xJ b)]) hx hb hml hown hT hE hW hl.1 cf_X10_isIn wq562 wq561 (c_X10_isIn l D g T h0 s0 hW.2.1 x2 rx2 a ra b rb) ⟨rfl, rfl, ⟨by decide, by decide⟩, ⟨by decide, by decide⟩⟩ rfl rfl (Nat.le_of_ble_eq_true rfl) dX10_hasBytesBeyond_20) hW (fun x5 s6 H locs rx5 hp7 hW => ?_)
      obtain ⟨es6, hp7⟩ := hp7
      subst es6
      have ghp7 := hp7
      refine x_if_ne (tgt := 28) hx hb rx5 dX10_hasBytesBeyond_23 (by decide) (fun c8 => ?_) (fun c8 => ?_)
      · skip
        refine x_iinc (lv' := [(4, .int (xJ (i4_3 + 1))), (0, .ref (h0 + 0)), (1, .int (xJ n)), (2, .int (xJ a)), (3, .int (xJ b))]) hx hb hl 4 rfl dX10_hasBytesBeyond_28 (by decide) rfl (fun ls hl => ?_)
        refine lv_goto (tgt := 3) hx hb dX10_hasBytesBeyond_31 (by decide) ?_
        exact ih3 (i4_3 + 1) H locs ls (by omega) (by omega) (fun i h1 h2 => (Classical.em (i < (i4_3 + 1) - 1)).elim (fun q => v3_1 i h1 (by omega)) (fun q => by rw [show i = i4_3 from by omega]; omega)) (by omega) hW (lv_sub hl [1, 2, 3, 4, 0] rfl)
      refine x_iconst hx hb dX10_hasBytesBeyond_26 ?_
      rw [eQ]
      exact x_zret hx hb hr hlk hW (by omega) ⟨rfl, Or.inl ⟨by omega, ⟨i4_3, by omega, by omega, by omega⟩⟩⟩ dX10_hasBytesBeyond_27
  exact L3 ((261 - 0 : Int).toNat + 1) 0 H locs ls (by decide) (by omega) (fun i h1 h2 => absurd h2 (by omega)) (Nat.lt_succ_self _) hW (lv_sub hl [1, 2, 3, 4, 0] rfl)
set_option maxHeartbeats 4000000 in
set_option maxRecDepth 100000 in
theorem c_X10_brokenPrint (l : Launch) (D : va_G) (g : xG) (T : Nat × Nat × Nat) (h0 : Nat) (s0 : xS) (hσ : xRR s0) (n : Int) (rn : xR n) (p0 : IC s0) : Met l yX10_brokenPrint (xws yX10_brokenPrint cX10_brokenPrint 3 (some .int)) { frames := 3, cells := 0, slots := 0, locals := 73 } (xP [.ref (h0 + 0), .int (xJ n)] D g T h0 s0) (xQi D g h0 (fun r τ => xFr (fun k => k = 108) s0 τ ∧ (((IC τ) ∧ True) ∧ (True)))) 0 0 (xA h0) := by
  refine x_met hσ (by decide) (Nat.le_of_ble_eq_true rfl) ?_
  intro p e s m args below meth c hx hb hr hml hown hT hlk hnm hE hW ls hl
  have hl : lv_has ls 3 [(0, .ref (h0 + 0)), (1, .int (xJ n))] := hl
  obtain ⟨Q, eQ⟩ : ∃ Q, Q = MQ below (xQi D g h0 (fun r τ => xFr (fun k => k = 108) s0 τ ∧ (((IC τ) ∧ True) ∧ (True)))) args s 0 0 (xA h0) := ⟨_, rfl⟩
  rw [← eQ]
  generalize hHe : ([] : List Loc) = locs at hW ⊢
  obtain ⟨H, eH⟩ : ∃ H, H = s.heap := ⟨_, rfl⟩
  rw [← eH] at hW ⊢
  have hF : xFr (fun k => k = 108) s0 s0 := xFr.rf
  have k1_1 : s0 1 1 = s0 1 1 := rfl
  refine x_iconst hx hb dX10_brokenPrint_0 ?_
  refine lv_istore_n (lv' := [(2, .int (xJ 1)), (0, .ref (h0 + 0)), (1, .int (xJ n))]) hx hb dX10_brokenPrint_1 rfl hl (by decide) rfl (fun ls hl => ?_)
  have L2 : ∀ (fu : Nat) (i2_2 : Int) (s_2 : xS) (H : Heap) (locs : List Loc) (ls : Array Slot), (xR i2_2) → (xFr (fun k => k = 108) s0 s_2) → (IC s_2) → (s_2 1 1 = s0 1 1) → (0 ≤ i2_2) → (n + 1 - i2_2).toNat < fu → xW D g h0 s H locs s_2 → lv_has ls 3 [(0, .ref (h0 + 0)), (1, .int (xJ n)), (2, .int (xJ i2_2))] → W p l e { frames := 3, cells := 0, slots := 0, locals := 73 } s m args below meth c H locs 0 0 Q (F0 m 2 ls []) := by
    intro fu
    induction fu with
    | zero => intro i2_2 s_2 H locs ls ri2_2 hF_2 q2_0 q2_1 v2_0 hm; exact absurd hm (Nat.not_lt_zero _)
    | succ fu ih2 =>
      intro i2_2 s_2 H locs ls ri2_2 hF_2 q2_0 q2_1 v2_0 hm hW hl
      refine x_iload_n hx hb hl 2 rfl dX10_brokenPrint_2 rfl ?_
      refine x_iload_n hx hb hl 1 rfl dX10_brokenPrint_3 rfl ?_
      refine x_icmp_ge (tgt := 43) hx hb ri2_2 rn dX10_brokenPrint_4 (by decide) (fun c1 => ?_) (fun c1 => ?_)
      · skip
        refine x_iload_n hx hb hl 1 rfl dX10_brokenPrint_43 rfl ?_
        rw [eQ]
        exact x_iret hx hb hr hlk hW rn ⟨hF_2, ⟨q2_0, trivial⟩, trivial⟩ dX10_brokenPrint_44
      refine x_aload_n hx hb hl 0 rfl dX10_brokenPrint_7 rfl ?_
      refine x_get (j := 1) (v := .ref (h0 + 3)) hx hb hown hT hE hW cls_X10 (Or.inl (by decide)) (so_0 h0 g _) (by decide) rfl wq513 dX10_brokenPrint_8 ?_
      refine x_aload_n hx hb hl 0 rfl dX10_brokenPrint_11 rfl ?_
      refine x_get (j := 0) (v := .ref (h0 + 1)) hx hb hown hT hE hW cls_X10 (Or.inl (by decide)) (so_0 h0 g _) (by decide) rfl wq512 dX10_brokenPrint_12 ?_
      refine x_iload_n hx hb hl 2 rfl dX10_brokenPrint_15 rfl ?_
      refine x_iconst hx hb dX10_brokenPrint_16 ?_
      refine x_isub hx hb dX10_brokenPrint_17 ?_
      refine x_goi (x_runVN (As := [.int (xJ (i2_2 - 1))]) hx hb hml hown hT hE hW hl.1 (Or.inl (by decide)) (so_1 h0 g _) rfl cf_X8_byteAt wq1084 wq90 wn1082 (c_X8_byteAt l D g T h0 s_2 hW.2.1 (i2_2 - 1) (by omega) q2_0) ⟨rfl, rfl, ⟨by decide, by decide⟩, ⟨by decide, by decide⟩⟩ rfl rfl (Nat.le_of_ble_eq_true rfl) dX10_brokenPrint_18) hW (fun x2 s3 H locs rx2 hp4 hW => ?_)
      obtain ⟨es3, hp4⟩ := hp4
      subst es3
      have ghp4 := hp4
      refine x_aload_n hx hb hl 0 rfl dX10_brokenPrint_21 rfl ?_
      refine x_get (j := 0) (v := .ref (h0 + 1)) hx hb hown hT hE hW cls_X10 (Or.inl (by decide)) (so_0 h0 g _) (by decide) rfl wq512 dX10_brokenPrint_22 ?_
      refine x_iload_n hx hb hl 2 rfl dX10_brokenPrint_25 rfl ?_
      refine x_goi (x_runVN (As := [.int (xJ i2_2)]) hx hb hml hown hT hE hW hl.1 (Or.inl (by decide)) (so_1 h0 g _) rfl cf_X8_byteAt wq1084 wq90 wn1082 (c_X8_byteAt l D g T h0 s_2 hW.2.1 i2_2 ri2_2 q2_0) ⟨rfl, rfl, ⟨by decide, by decide⟩, ⟨by decide, by decide⟩⟩ rfl rfl (Nat.le_of_ble_eq_true rfl) dX10_brokenPrint_26) hW (fun x5 s6 H locs rx5 hp7 hW => ?_)
      obtain ⟨es6, hp7⟩ := hp7
      subst es6
      have ghp7 := hp7
      refine x_goi (x_runVN (As := [.int (xJ x2), .int (xJ x5)]) hx hb hml hown hT hE hW hl.1 (Or.inl (by decide)) (so_3 h0 g _) rfl cf_X6_isDryWalk wq1096 wq93 wn1094 (c_X6_isDryWalk l D g T h0 s_2 hW.2.1 x2 rx2 x5 rx5 q2_0) ⟨rfl, rfl, ⟨by decide, by decide⟩, ⟨by decide, by decide⟩⟩ rfl rfl (Nat.le_of_ble_eq_true rfl) dX10_brokenPrint_29) hW (fun x8 s9 H locs rx8 hp10 hW => ?_)
      obtain ⟨fs9, hp10⟩ := hp10
      have hF11 := hF_2.call fs9 (fun k h => by omega)
      have q12 : s9 1 1 = s0 1 1 := (congrFun (fs9 _ (by omega)) _).trans q2_1
      have ghp10 := hp10.2
      refine x_if_ne (tgt := 37) hx hb rx8 dX10_brokenPrint_32 (by decide) (fun c13 => ?_) (fun c13 => ?_)
      · skip
        refine x_iinc (lv' := [(2, .int (xJ (i2_2 + 1))), (0, .ref (h0 + 0)), (1, .int (xJ n))]) hx hb hl 2 rfl dX10_brokenPrint_37 (by decide) rfl (fun ls hl => ?_)
        refine lv_goto (tgt := 2) hx hb dX10_brokenPrint_40 (by decide) ?_
        exact ih2 (i2_2 + 1) s9 H locs ls (by omega) hF11 hp10.1.1 q12 (by omega) (by omega) hW (lv_sub hl [1, 2, 0] rfl)
      refine x_iload_n hx hb hl 2 rfl dX10_brokenPrint_35 rfl ?_
      rw [eQ]
      exact x_iret hx hb hr hlk hW ri2_2 ⟨hF11, ⟨hp10.1.1, trivial⟩, trivial⟩ dX10_brokenPrint_36
  exact L2 ((n + 1 - 1 : Int).toNat + 1) 1 s0 H locs ls (by decide) hF p0 k1_1 (by omega) (Nat.lt_succ_self _) hW (lv_sub hl [1, 2, 0] rfl)
set_option maxHeartbeats 4000000 in
set_option maxRecDepth 100000 in
theorem c_X10_printStarters (l : Launch) (D : va_G) (g : xG) (T : Nat × Nat × Nat) (h0 : Nat) (s0 : xS) (hσ : xRR s0) (p0 : IC s0) : Met l yX10_printStarters (xws yX10_printStarters cX10_printStarters 3 (some .int)) { frames := 3, cells := 0, slots := 0, locals := 73 } (xP [.ref (h0 + 0)] D g T h0 s0) (xQi D g h0 (fun r τ => xFr (fun k => k = 108) s0 τ ∧ (((IC τ) ∧ True) ∧ (True)))) 0 0 (xA h0) := by
  refine x_met hσ (by decide) (Nat.le_of_ble_eq_true rfl) ?_
  intro p e s m args below meth c hx hb hr hml hown hT hlk hnm hE hW ls hl
  have hl : lv_has ls 3 [(0, .ref (h0 + 0))] := hl
  obtain ⟨Q, eQ⟩ : ∃ Q, Q = MQ below (xQi D g h0 (fun r τ => xFr (fun k => k = 108) s0 τ ∧ (((IC τ) ∧ True) ∧ (True)))) args s 0 0 (xA h0) := ⟨_, rfl⟩
  rw [← eQ]
  generalize hHe : ([] : List Loc) = locs at hW ⊢
  obtain ⟨H, eH⟩ : ∃ H, H = s.heap := ⟨_, rfl⟩
  rw [← eH] at hW ⊢
  have hF : xFr (fun k => k = 108) s0 s0 := xFr.rf
  have k1_1 : s0 1 1 = s0 1 1 := rfl
  refine x_iconst hx hb dX10_printStarters_0 ?_
  refine lv_istore_n (lv' := [(1, .int (xJ 0)), (0, .ref (h0 + 0))]) hx hb dX10_printStarters_1 rfl hl (by decide) rfl (fun ls hl => ?_)
  refine x_iconst hx hb dX10_printStarters_2 ?_
  refine lv_istore_n (lv' := [(2, .int (xJ 0)), (1, .int (xJ 0)), (0, .ref (h0 + 0))]) hx hb dX10_printStarters_3 rfl hl (by decide) rfl (fun ls hl => ?_)
  have L4 : ∀ (fu : Nat) (i1_4 : Int) (i2_4 : Int) (s_4 : xS) (H : Heap) (locs : List Loc) (ls : Array Slot), (xR i1_4) → (xR i2_4) → (xFr (fun k => k = 108) s0 s_4) → (IC s_4) → (s_4 1 1 = s0 1 1) → (0 ≤ i2_4) → (i2_4 ≤ 10) → (10 + 1 - i2_4).toNat < fu → xW D g h0 s H locs s_4 → lv_has ls 3 [(0, .ref (h0 + 0)), (1, .int (xJ i1_4)), (2, .int (xJ i2_4))] → W p l e { frames := 3, cells := 0, slots := 0, locals := 73 } s m args below meth c H locs 0 0 Q (F0 m 4 ls []) := by
    intro fu
    induction fu with
    | zero => intro i1_4 i2_4 s_4 H locs ls ri1_4 ri2_4 hF_4 q4_0 q4_1 v4_0 v4_1 hm; exact absurd hm (Nat.not_lt_zero _)
    | succ fu ih4 =>
      intro i1_4 i2_4 s_4 H locs ls ri1_4 ri2_4 hF_4 q4_0 q4_1 v4_0 v4_1 hm hW hl
      refine x_iload_n hx hb hl 2 rfl dX10_printStarters_4 rfl ?_
      refine x_bipush hx hb dX10_printStarters_5 (by decide) ?_
      refine x_icmp_ge (tgt := 60) hx hb ri2_4 (by decide) dX10_printStarters_7 (by decide) (fun c1 => ?_) (fun c1 => ?_)
      · skip
        refine x_iload_n hx hb hl 1 rfl dX10_printStarters_60 rfl ?_
        rw [eQ]
        exact x_iret hx hb hr hlk hW ri1_4 ⟨hF_4, ⟨q4_0, trivial⟩, trivial⟩ dX10_printStarters_61
      refine x_aload_n hx hb hl 0 rfl dX10_printStarters_10 rfl ?_
      refine x_get (j := 8) (v := .ref (h0 + 136)) hx hb hown hT hE hW cls_X10 (Or.inl (by decide)) (so_0 h0 g _) (by decide) rfl wq520 dX10_printStarters_11 ?_
      refine x_iload_n hx hb hl 2 rfl dX10_printStarters_14 rfl ?_
      refine x_goi (x_runVN (As := [.int (xJ i2_4)]) hx hb hml hown hT hE hW hl.1 (Or.inl (by decide)) (so_136 h0 g _) rfl cf_X2_hasFelon wq862 wq53 wn910 (c_X2_hasFelon l D g T h0 s_4 hW.2.1 136 xd_136 i2_4 ri2_4 q4_0) ⟨rfl, rfl, ⟨by decide, by decide⟩, ⟨by decide, by decide⟩⟩ rfl rfl (Nat.le_of_ble_eq_true rfl) dX10_printStarters_15) hW (fun x2 s3 H locs rx2 hp4 hW => ?_)
      obtain ⟨es3, hp4⟩ := hp4
      subst es3
      have ghp4 := hp4
      refine x_if_eq (tgt := 54) hx hb rx2 dX10_printStarters_18 (by decide) (fun c5 => ?_) (fun c5 => ?_)
      · skip
        refine x_iinc (lv' := [(2, .int (xJ (i2_4 + 1))), (0, .ref (h0 + 0)), (1, .int (xJ i1_4))]) hx hb hl 2 rfl dX10_printStarters_54 (by decide) rfl (fun ls hl => ?_)
        refine lv_goto (tgt := 4) hx hb dX10_printStarters_57 (by decide) ?_
        exact ih4 i1_4 (i2_4 + 1) s_4 H locs ls ri1_4 (by omega) hF_4 q4_0 q4_1 (by omega) (by omega) (by omega) hW (lv_sub hl [1, 2, 0] rfl)
      refine x_aload_n hx hb hl 0 rfl dX10_printStarters_21 rfl ?_
      refine x_get (j := 1) (v := .ref (h0 + 3)) hx hb hown hT hE hW cls_X10 (Or.inl (by decide)) (so_0 h0 g _) (by decide) rfl wq513 dX10_printStarters_22 ?_
      refine x_aload_n hx hb hl 0 rfl dX10_printStarters_25 rfl ?_
      refine x_get (j := 8) (v := .ref (h0 + 136)) hx hb hown hT hE hW cls_X10 (Or.inl (by decide)) (so_0 h0 g _) (by decide) rfl wq520 dX10_printStarters_26 ?_
      refine x_getN (j := 3) (v := .ref (h0 + 142)) hx hb hown hT hE hW cls_X2 (Or.inl (by decide)) (so_136 h0 g _) (by decide) rfl wn391 dX10_printStarters_29 ?_
      refine x_iload_n hx hb hl 2 rfl dX10_printStarters_32 rfl ?_
      refine x_iald hx hb hE hW (Or.inl (by decide)) (sa_142 h0 g _) (by omega) (by decide) dX10_printStarters_33 ?_
      refine x_rd hW (fun x6 ex6 rx6 => ?_)
      refine x_aload_n hx hb hl 0 rfl dX10_printStarters_34 rfl ?_
      refine x_get (j := 0) (v := .ref (h0 + 1)) hx hb hown hT hE hW cls_X10 (Or.inl (by decide)) (so_0 h0 g _) (by decide) rfl wq512 dX10_printStarters_35 ?_
      refine x_iconst hx hb dX10_printStarters_38 ?_
      refine x_goi (x_runVN (As := [.int (xJ 0)]) hx hb hml hown hT hE hW hl.1 (Or.inl (by decide)) (so_1 h0 g _) rfl cf_X8_byteAt wq1084 wq90 wn1082 (c_X8_byteAt l D g T h0 s_4 hW.2.1 0 (by decide) q4_0) ⟨rfl, rfl, ⟨by decide, by decide⟩, ⟨by decide, by decide⟩⟩ rfl rfl (Nat.le_of_ble_eq_true rfl) dX10_printStarters_39) hW (fun x7 s8 H locs rx7 hp9 hW => ?_)
      obtain ⟨es8, hp9⟩ := hp9
      subst es8
      have ghp9 := hp9
      refine x_goi (x_runVN (As := [.int (xJ x6), .int (xJ x7)]) hx hb hml hown hT hE hW hl.1 (Or.inl (by decide)) (so_3 h0 g _) rfl cf_X6_isDryWalk wq1096 wq93 wn1094 (c_X6_isDryWalk l D g T h0 s_4 hW.2.1 x6 rx6 x7 rx7 q4_0) ⟨rfl, rfl, ⟨by decide, by decide⟩, ⟨by decide, by decide⟩⟩ rfl rfl (Nat.le_of_ble_eq_true rfl) dX10_printStarters_42) hW (fun x10 s11 H locs rx10 hp12 hW => ?_)
      obtain ⟨fs11, hp12⟩ := hp12
      have hF13 := hF_4.call fs11 (fun k h => by omega)
      have q14 : s11 1 1 = s0 1 1 := (congrFun (fs11 _ (by omega)) _).trans q4_1
      have ghp12 := hp12.2
      refine x_if_eq (tgt := 54) hx hb rx10 dX10_printStarters_45 (by decide) (fun c15 => ?_) (fun c15 => ?_)
      · skip
        refine x_iinc (lv' := [(2, .int (xJ (i2_4 + 1))), (0, .ref (h0 + 0)), (1, .int (xJ i1_4))]) hx hb hl 2 rfl dX10_printStarters_54 (by decide) rfl (fun ls hl => ?_)
        refine lv_goto (tgt := 4) hx hb dX10_printStarters_57 (by decide) ?_
        exact ih4 i1_4 (i2_4 + 1) s11 H locs ls ri1_4 (by omega) hF13 hp12.1.1 q14 (by omega) (by omega) (by omega) hW (lv_sub hl [1, 2, 0] rfl)
      refine x_iload_n hx hb hl 1 rfl dX10_printStarters_48 rfl ?_
      refine x_iconst hx hb dX10_printStarters_49 ?_
      refine x_iload_n hx hb hl 2 rfl dX10_printStarters_50 rfl ?_
      refine lv_ishl hx hb dX10_printStarters_51 ?_
      refine x_any (fun x16 rx16 => ?_)
      refine lv_ior hx hb dX10_printStarters_52 ?_
      refine x_any (fun x17 rx17 => ?_)
      refine lv_istore_n (lv' := [(1, .int (xJ x17)), (0, .ref (h0 + 0)), (2, .int (xJ i2_4))]) hx hb dX10_printStarters_53 rfl hl (by decide) rfl (fun ls hl => ?_)
      refine x_iinc (lv' := [(2, .int (xJ (i2_4 + 1))), (1, .int (xJ x17)), (0, .ref (h0 + 0))]) hx hb hl 2 rfl dX10_printStarters_54 (by decide) rfl (fun ls hl => ?_)
      refine lv_goto (tgt := 4) hx hb dX10_printStarters_57 (by decide) ?_
      exact ih4 x17 (i2_4 + 1) s11 H locs ls rx17 (by omega) hF13 hp12.1.1 q14 (by omega) (by omega) (by omega) hW (lv_sub hl [2, 1, 0] rfl)
  exact L4 ((10 + 1 - 0 : Int).toNat + 1) 0 0 s0 H locs ls (by decide) (by decide) hF p0 k1_1 (by omega) (by omega) (Nat.lt_succ_self _) hW (lv_sub hl [2, 1, 0] rfl)
set_option maxHeartbeats 4000000 in
set_option maxRecDepth 100000 in
theorem c_X10_printMakers (l : Launch) (D : va_G) (g : xG) (T : Nat × Nat × Nat) (h0 : Nat) (s0 : xS) (hσ : xRR s0) (n : Int) (rn : xR n) (p0 : IC s0) : Met l yX10_printMakers (xws yX10_printMakers cX10_printMakers 2 (some .int)) { frames := 4, cells := 0, slots := 0, locals := 95 } (xP [.ref (h0 + 0), .int (xJ n)] D g T h0 s0) (xQi D g h0 (fun r τ => xFr (fun k => k = 108) s0 τ ∧ (((IC τ) ∧ True) ∧ (True)))) 0 0 (xA h0) := by
  refine x_met hσ (by decide) (Nat.le_of_ble_eq_true rfl) ?_
  intro p e s m args below meth c hx hb hr hml hown hT hlk hnm hE hW ls hl
  have hl : lv_has ls 2 [(0, .ref (h0 + 0)), (1, .int (xJ n))] := hl
  obtain ⟨Q, eQ⟩ : ∃ Q, Q = MQ below (xQi D g h0 (fun r τ => xFr (fun k => k = 108) s0 τ ∧ (((IC τ) ∧ True) ∧ (True)))) args s 0 0 (xA h0) := ⟨_, rfl⟩
  rw [← eQ]
  generalize hHe : ([] : List Loc) = locs at hW ⊢
  obtain ⟨H, eH⟩ : ∃ H, H = s.heap := ⟨_, rfl⟩
  rw [← eH] at hW ⊢
  have hF : xFr (fun k => k = 108) s0 s0 := xFr.rf
  have k1_1 : s0 1 1 = s0 1 1 := rfl
  refine x_aload_n hx hb hl 0 rfl dX10_printMakers_0 rfl ?_
  refine x_iload_n hx hb hl 1 rfl dX10_printMakers_1 rfl ?_
  refine x_goi (x_runV (As := [.int (xJ n)]) hx hb hml hown hT hE hW hl.1 (Or.inl (by decide)) (so_0 h0 g _) rfl cf_X10_brokenPrint wq1092 wq92 wq1090 (c_X10_brokenPrint l D g T h0 s0 hW.2.1 n rn p0) ⟨rfl, rfl, ⟨by decide, by decide⟩, ⟨by decide, by decide⟩⟩ rfl rfl (Nat.le_of_ble_eq_true rfl) dX10_printMakers_2) hW (fun x1 s2 H locs rx1 hp3 hW => ?_)
  obtain ⟨fs2, hp3⟩ := hp3
  have hF4 := hF.call fs2 (fun k h => by omega)
  have q5 : s2 1 1 = s0 1 1 := (congrFun (fs2 _ (by omega)) _).trans k1_1
  have ghp3 := hp3.2
  refine x_iload_n hx hb hl 1 rfl dX10_printMakers_5 rfl ?_
  refine x_icmp_ne (tgt := 16) hx hb rx1 rn dX10_printMakers_6 (by decide) (fun c6 => ?_) (fun c6 => ?_)
  · skip
    refine x_iconst hx hb dX10_printMakers_16 ?_
    rw [eQ]
    exact x_iret hx hb hr hlk hW (by decide) ⟨hF4, ⟨hp3.1.1, trivial⟩, trivial⟩ dX10_printMakers_17
  refine x_aload_n hx hb hl 0 rfl dX10_printMakers_9 rfl ?_
  refine x_goi (x_runV (As := []) hx hb hml hown hT hE hW hl.1 (Or.inl (by decide)) (so_0 h0 g _) rfl cf_X10_printStarters wq1100 wq94 wq1098 (c_X10_printStarters l D g T h0 s2 hW.2.1 hp3.1.1) ⟨rfl, rfl, ⟨by decide, by decide⟩, ⟨by decide, by decide⟩⟩ rfl rfl (Nat.le_of_ble_eq_true rfl) dX10_printMakers_10) hW (fun x7 s8 H locs rx7 hp9 hW => ?_)
  obtain ⟨fs8, hp9⟩ := hp9
  have hF10 := hF4.call fs8 (fun k h => by omega)
  have q11 : s8 1 1 = s0 1 1 := (congrFun (fs8 _ (by omega)) _).trans q5
  have ghp9 := hp9.2
  refine lv_goto (tgt := 17) hx hb dX10_printMakers_13 (by decide) ?_
  rw [eQ]
  exact x_iret hx hb hr hlk hW rx7 ⟨hF10, ⟨hp9.1.1, trivial⟩, trivial⟩ dX10_printMakers_17
set_option maxHeartbeats 4000000 in
set_option maxRecDepth 100000 in
theorem c_X10_printsFailAt (l : Launch) (D : va_G) (g : xG) (T : Nat × Nat × Nat) (h0 : Nat) (s0 : xS) (hσ : xRR s0) (n : Int) (rn : xR n) (p0 : IC s0) : Met l yX10_printsFailAt (xws yX10_printsFailAt cX10_printsFailAt 3 (some .int)) { frames := 4, cells := 0, slots := 0, locals := 95 } (xP [.ref (h0 + 0), .int (xJ n)] D g T h0 s0) (xQi D g h0 (fun r τ => xFr (fun k => k = 108) s0 τ ∧ (((IC τ) ∧ True) ∧ (True)))) 0 0 (xA h0) := by
  refine x_met hσ (by decide) (Nat.le_of_ble_eq_true rfl) ?_
  intro p e s m args below meth c hx hb hr hml hown hT hlk hnm hE hW ls hl
  have hl : lv_has ls 3 [(0, .ref (h0 + 0)), (1, .int (xJ n))] := hl
  obtain ⟨Q, eQ⟩ : ∃ Q, Q = MQ below (xQi D g h0 (fun r τ => xFr (fun k => k = 108) s0 τ ∧ (((IC τ) ∧ True) ∧ (True)))) args s 0 0 (xA h0) := ⟨_, rfl⟩
  rw [← eQ]
  generalize hHe : ([] : List Loc) = locs at hW ⊢
  obtain ⟨H, eH⟩ : ∃ H, H = s.heap := ⟨_, rfl⟩
  rw [← eH] at hW ⊢
  have hF : xFr (fun k => k = 108) s0 s0 := xFr.rf
  have k1_1 : s0 1 1 = s0 1 1 := rfl
  refine x_aload_n hx hb hl 0 rfl dX10_printsFailAt_0 rfl ?_
  refine x_get (j := 8) (v := .ref (h0 + 136)) hx hb hown hT hE hW cls_X10 (Or.inl (by decide)) (so_0 h0 g _) (by decide) rfl wq520 dX10_printsFailAt_1 ?_
  refine x_getN (j := 3) (v := .ref (h0 + 142)) hx hb hown hT hE hW cls_X2 (Or.inl (by decide)) (so_136 h0 g _) (by decide) rfl wn391 dX10_printsFailAt_4 ?_
  refine x_goi (x_runS (As := [.ref (h0 + 142)]) hx hb hml hown hT hE hW hl.1 cf_X10_bitsOfTold wq1107 wq1106 (c_X10_bitsOfTold10 l D g T h0 s0 hW.2.1 142 (by decide) (by decide) (fun σ => sa_142 h0 g σ)) ⟨rfl, rfl, ⟨by decide, by decide⟩, ⟨by decide, by decide⟩⟩ rfl rfl (Nat.le_of_ble_eq_true rfl) dX10_printsFailAt_7) hW (fun x1 s2 H locs rx1 hp3 hW => ?_)
  obtain ⟨es2, hp3⟩ := hp3
  subst es2
  have ghp3 := hp3
  refine x_if_ne (tgt := 16) hx hb rx1 dX10_printsFailAt_10 (by decide) (fun c4 => ?_) (fun c4 => ?_)
  · skip
    refine x_aload_n hx hb hl 0 rfl dX10_printsFailAt_16 rfl ?_
    refine x_goi (x_runV (As := []) hx hb hml hown hT hE hW hl.1 (Or.inl (by decide)) (so_0 h0 g _) rfl cf_X10_printStarters wq1100 wq94 wq1098 (c_X10_printStarters l D g T h0 s0 hW.2.1 p0) ⟨rfl, rfl, ⟨by decide, by decide⟩, ⟨by decide, by decide⟩⟩ rfl rfl (Nat.le_of_ble_eq_true rfl) dX10_printsFailAt_17) hW (fun x5 s6 H locs rx5 hp7 hW => ?_)
    obtain ⟨fs6, hp7⟩ := hp7
    have hF8 := hF.call fs6 (fun k h => by omega)
    have q9 : s6 1 1 = s0 1 1 := (congrFun (fs6 _ (by omega)) _).trans k1_1
    have ghp7 := hp7.2
    refine x_if_ne (tgt := 25) hx hb rx5 dX10_printsFailAt_20 (by decide) (fun c10 => ?_) (fun c10 => ?_)
    · skip
      refine x_aload_n hx hb hl 0 rfl dX10_printsFailAt_25 rfl ?_
      refine x_iload_n hx hb hl 1 rfl dX10_printsFailAt_26 rfl ?_
      refine x_goi (x_runV (As := [.int (xJ n)]) hx hb hml hown hT hE hW hl.1 (Or.inl (by decide)) (so_0 h0 g _) rfl cf_X10_brokenPrint wq1092 wq92 wq1090 (c_X10_brokenPrint l D g T h0 s6 hW.2.1 n rn hp7.1.1) ⟨rfl, rfl, ⟨by decide, by decide⟩, ⟨by decide, by decide⟩⟩ rfl rfl (Nat.le_of_ble_eq_true rfl) dX10_printsFailAt_27) hW (fun x11 s12 H locs rx11 hp13 hW => ?_)
      obtain ⟨fs12, hp13⟩ := hp13
      have hF14 := hF8.call fs12 (fun k h => by omega)
      have q15 : s12 1 1 = s0 1 1 := (congrFun (fs12 _ (by omega)) _).trans q9
      have ghp13 := hp13.2
      refine lv_istore_n (lv' := [(2, .int (xJ x11)), (0, .ref (h0 + 0)), (1, .int (xJ n))]) hx hb dX10_printsFailAt_30 rfl hl (by decide) rfl (fun ls hl => ?_)
      refine x_iload_n hx hb hl 0 rfl dX10_printsFailAt_31 rfl ?_
      refine x_iload_n hx hb hl 2 rfl dX10_printsFailAt_32 rfl ?_
      refine x_icmp_ne (tgt := 41) hx hb rx11 rn dX10_printsFailAt_33 (by decide) (fun c16 => ?_) (fun c16 => ?_)
      · skip
        refine x_iload_n hx hb hl 0 rfl dX10_printsFailAt_41 rfl ?_
        rw [eQ]
        exact x_iret hx hb hr hlk hW rx11 ⟨hF14, ⟨hp13.1.1, trivial⟩, trivial⟩ dX10_printsFailAt_42
      refine x_bipush hx hb dX10_printsFailAt_36 (by decide) ?_
      refine lv_goto (tgt := 42) hx hb dX10_printsFailAt_38 (by decide) ?_
      rw [eQ]
      exact x_iret hx hb hr hlk hW (by decide) ⟨hF14, ⟨hp13.1.1, trivial⟩, trivial⟩ dX10_printsFailAt_42
    refine x_iconst hx hb dX10_printsFailAt_23 ?_
    rw [eQ]
    exact x_iret hx hb hr hlk hW (by decide) ⟨hF8, ⟨hp7.1.1, trivial⟩, trivial⟩ dX10_printsFailAt_24
  refine x_bipush hx hb dX10_printsFailAt_13 (by decide) ?_
  rw [eQ]
  exact x_iret hx hb hr hlk hW (by decide) ⟨hF, ⟨p0, trivial⟩, trivial⟩ dX10_printsFailAt_15
set_option maxHeartbeats 4000000 in
set_option maxRecDepth 100000 in
theorem c_X10_servedOutside (l : Launch) (D : va_G) (g : xG) (T : Nat × Nat × Nat) (h0 : Nat) (s0 : xS) (hσ : xRR s0) (x : Int) (rx : xR x) (n : Int) (rn : xR n) (hle : n ≤ s0 1 1 ∧ 0 ≤ n ∧ n ≤ 10) (p0 : IC s0) : Met l yX10_servedOutside (xws yX10_servedOutside cX10_servedOutside 5 (some .int)) { frames := 1, cells := 0, slots := 0, locals := 21 } (xP [.ref (h0 + 0), .int (xJ x), .int (xJ n)] D g T h0 s0) (xQi D g h0 (fun r τ => s0 = τ ∧ (r = zsum (s0 2) x n.toNat))) 0 0 (xA h0) := by
  refine x_met hσ (by decide) (Nat.le_of_ble_eq_true rfl) ?_
  intro p e s m args below meth c hx hb hr hml hown hT hlk hnm hE hW ls hl
  have hl : lv_has ls 5 [(0, .ref (h0 + 0)), (1, .int (xJ x)), (2, .int (xJ n))] := hl
  obtain ⟨Q, eQ⟩ : ∃ Q, Q = MQ below (xQi D g h0 (fun r τ => s0 = τ ∧ (r = zsum (s0 2) x n.toNat))) args s 0 0 (xA h0) := ⟨_, rfl⟩
  rw [← eQ]
  generalize hHe : ([] : List Loc) = locs at hW ⊢
  obtain ⟨H, eH⟩ : ∃ H, H = s.heap := ⟨_, rfl⟩
  rw [← eH] at hW ⊢
  have k1_1 : s0 1 1 = s0 1 1 := rfl
  have k1_1 : s0 1 1 = s0 1 1 := rfl
  refine x_iconst hx hb dX10_servedOutside_0 ?_
  refine lv_istore_n (lv' := [(3, .int (xJ 0)), (0, .ref (h0 + 0)), (1, .int (xJ x)), (2, .int (xJ n))]) hx hb dX10_servedOutside_1 rfl hl (by decide) rfl (fun ls hl => ?_)
  refine x_iconst hx hb dX10_servedOutside_2 ?_
  refine lv_istore (lv' := [(4, .int (xJ 0)), (3, .int (xJ 0)), (0, .ref (h0 + 0)), (1, .int (xJ x)), (2, .int (xJ n))]) hx hb dX10_servedOutside_3 hl (by decide) rfl (fun ls hl => ?_)
  have L5 : ∀ (fu : Nat) (i3_5 : Int) (i4_5 : Int) (H : Heap) (locs : List Loc) (ls : Array Slot), (xR i3_5) → (xR i4_5) → (0 ≤ i4_5 ∧ i4_5 ≤ n) → (i3_5 = zsum (s0 2) x (i4_5).toNat) → (0 ≤ i3_5 ∧ i3_5 ≤ 255 * i4_5) → (11 - i4_5).toNat < fu → xW D g h0 s H locs s0 → lv_has ls 5 [(0, .ref (h0 + 0)), (1, .int (xJ x)), (2, .int (xJ n)), (3, .int (xJ i3_5)), (4, .int (xJ i4_5))] → W p l e { frames := 1, cells := 0, slots := 0, locals := 21 } s m args below meth c H locs 0 0 Q (F0 m 5 ls []) := by
    intro fu
    induction fu with
    | zero => intro i3_5 i4_5 H locs ls ri3_5 ri4_5 v5_0 v5_1 v5_2 hm; exact absurd hm (Nat.not_lt_zero _)
    | succ fu ih5 =>
      intro i3_5 i4_5 H locs ls ri3_5 ri4_5 v5_0 v5_1 v5_2 hm hW hl
      refine x_iload hx hb hl 4 rfl dX10_servedOutside_5 ?_
      refine x_iload_n hx hb hl 2 rfl dX10_servedOutside_7 rfl ?_
      refine x_icmp_ge (tgt := 38) hx hb ri4_5 rn dX10_servedOutside_8 (by decide) (fun c1 => ?_) (fun c1 => ?_)
      · skip
        refine x_iload_n hx hb hl 3 rfl dX10_servedOutside_38 rfl ?_
        rw [eQ]
        exact x_iret hx hb hr hlk hW ri3_5 ⟨rfl, by rw [show n = i4_5 from by omega]; exact v5_1⟩ dX10_servedOutside_39
      refine x_iload_n hx hb hl 1 rfl dX10_servedOutside_11 rfl ?_
      refine x_iload hx hb hl 4 rfl dX10_servedOutside_12 ?_
      refine x_shr hx hb rx (by omega) dX10_servedOutside_14 (fun x2 ex2 rx2 => ?_)
      refine x_iconst hx hb dX10_servedOutside_15 ?_
      refine x_and1 hx hb rx2 dX10_servedOutside_16 ?_
      refine x_nm (fun x3 ex3 => ?_)
      refine x_if_ne (tgt := 32) hx hb (by omega) dX10_servedOutside_17 (by decide) (fun c4 => ?_) (fun c4 => ?_)
      · skip
        refine x_iinc (lv' := [(4, .int (xJ (i4_5 + 1))), (0, .ref (h0 + 0)), (1, .int (xJ x)), (2, .int (xJ n)), (3, .int (xJ i3_5))]) hx hb hl 4 rfl dX10_servedOutside_32 (by decide) rfl (fun ls hl => ?_)
        refine lv_goto (tgt := 5) hx hb dX10_servedOutside_35 (by decide) ?_
        exact ih5 i3_5 (i4_5 + 1) H locs ls ri3_5 (by omega) (by omega) (by first | (rw [zsum_n (by omega) (by omega)]; omega) | (rw [zsum_y (by omega) (by omega)]; omega)) (by omega) (by omega) hW (lv_sub hl [1, 2, 3, 4, 0] rfl)
      refine x_iload_n hx hb hl 3 rfl dX10_servedOutside_20 rfl ?_
      refine x_aload_n hx hb hl 0 rfl dX10_servedOutside_21 rfl ?_
      refine x_get (j := 0) (v := .ref (h0 + 1)) hx hb hown hT hE hW cls_X10 (Or.inl (by decide)) (so_0 h0 g _) (by decide) rfl wq512 dX10_servedOutside_22 ?_
      refine x_iload hx hb hl 4 rfl dX10_servedOutside_25 ?_
      refine x_goi (x_runVN (As := [.int (xJ i4_5)]) hx hb hml hown hT hE hW hl.1 (Or.inl (by decide)) (so_1 h0 g _) rfl cf_X8_byteAt wq1084 wq90 wn1082 (c_X8_byteAt l D g T h0 s0 hW.2.1 i4_5 ri4_5 p0) ⟨rfl, rfl, ⟨by decide, by decide⟩, ⟨by decide, by decide⟩⟩ rfl rfl (Nat.le_of_ble_eq_true rfl) dX10_servedOutside_27) hW (fun x5 s6 H locs rx5 hp7 hW => ?_)
      obtain ⟨es6, hp7⟩ := hp7
      subst es6
      have ghp7 := hp7
      refine x_iadd hx hb dX10_servedOutside_30 ?_
      refine x_nm (fun x8 ex8 => ?_)
      refine lv_istore_n (lv' := [(3, .int (xJ x8)), (0, .ref (h0 + 0)), (1, .int (xJ x)), (2, .int (xJ n)), (4, .int (xJ i4_5))]) hx hb dX10_servedOutside_31 rfl hl (by decide) rfl (fun ls hl => ?_)
      refine x_iinc (lv' := [(4, .int (xJ (i4_5 + 1))), (3, .int (xJ x8)), (0, .ref (h0 + 0)), (1, .int (xJ x)), (2, .int (xJ n))]) hx hb hl 4 rfl dX10_servedOutside_32 (by decide) rfl (fun ls hl => ?_)
      refine lv_goto (tgt := 5) hx hb dX10_servedOutside_35 (by decide) ?_
      exact ih5 x8 (i4_5 + 1) H locs ls (by omega) (by omega) (by omega) (by first | (rw [zsum_n (by omega) (by omega)]; omega) | (rw [zsum_y (by omega) (by omega)]; omega)) (by omega) (by omega) hW (lv_sub hl [2, 3, 4, 1, 0] rfl)
  exact L5 ((11 - 0 : Int).toNat + 1) 0 0 H locs ls (by decide) (by decide) (by omega) (rfl) (by omega) (Nat.lt_succ_self _) hW (lv_sub hl [2, 3, 4, 1, 0] rfl)
set_option maxHeartbeats 4000000 in
set_option maxRecDepth 100000 in
theorem c_X10_cloudySets (l : Launch) (D : va_G) (g : xG) (T : Nat × Nat × Nat) (h0 : Nat) (s0 : xS) (hσ : xRR s0) (n : Int) (rn : xR n) (w : Int) (rw : xR w) (x : Int) (rx : xR x) (hn : 1 ≤ n ∧ n ≤ 10) (hle : n ≤ s0 1 1) (p0 : IC s0) : Met l yX10_cloudySets (xws yX10_cloudySets cX10_cloudySets 8 (some .int)) { frames := 2, cells := 0, slots := 0, locals := 45 } (xP [.ref (h0 + 0), .int (xJ n), .int (xJ w), .int (xJ x)] D g T h0 s0) (xQi D g h0 (fun r τ => s0 = τ ∧ (r = zans (s0 2) n w x (-1)))) 0 0 (xA h0) := by
  refine x_met hσ (by decide) (Nat.le_of_ble_eq_true rfl) ?_
  intro p e s m args below meth c hx hb hr hml hown hT hlk hnm hE hW ls hl
  have hl : lv_has ls 8 [(0, .ref (h0 + 0)), (1, .int (xJ n)), (2, .int (xJ w)), (3, .int (xJ x))] := hl
  obtain ⟨Q, eQ⟩ : ∃ Q, Q = MQ below (xQi D g h0 (fun r τ => s0 = τ ∧ (r = zans (s0 2) n w x (-1)))) args s 0 0 (xA h0) := ⟨_, rfl⟩
  rw [← eQ]
  generalize hHe : ([] : List Loc) = locs at hW ⊢
  obtain ⟨H, eH⟩ : ∃ H, H = s.heap := ⟨_, rfl⟩
  rw [← eH] at hW ⊢
  have k1_1 : s0 1 1 = s0 1 1 := rfl
  have k1_1 : s0 1 1 = s0 1 1 := rfl
  have hpw := zpw_le (n := n) (by omega)
  refine x_iconst hx hb dX10_cloudySets_0 ?_
  refine lv_istore (lv' := [(4, .int (xJ 0)), (0, .ref (h0 + 0)), (1, .int (xJ n)), (2, .int (xJ w)), (3, .int (xJ x))]) hx hb dX10_cloudySets_1 hl (by decide) rfl (fun ls hl => ?_)
  refine x_bipush hx hb dX10_cloudySets_3 (by decide) ?_
  refine lv_istore (lv' := [(5, .int (xJ (-2))), (4, .int (xJ 0)), (0, .ref (h0 + 0)), (1, .int (xJ n)), (2, .int (xJ w)), (3, .int (xJ x))]) hx hb dX10_cloudySets_5 hl (by decide) rfl (fun ls hl => ?_)
  refine x_iconst hx hb dX10_cloudySets_7 ?_
  refine lv_istore (lv' := [(6, .int (xJ (-1))), (5, .int (xJ (-2))), (4, .int (xJ 0)), (0, .ref (h0 + 0)), (1, .int (xJ n)), (2, .int (xJ w)), (3, .int (xJ x))]) hx hb dX10_cloudySets_8 hl (by decide) rfl (fun ls hl => ?_)
  refine x_iconst hx hb dX10_cloudySets_10 ?_
  refine lv_istore (lv' := [(7, .int (xJ 0)), (6, .int (xJ (-1))), (5, .int (xJ (-2))), (4, .int (xJ 0)), (0, .ref (h0 + 0)), (1, .int (xJ n)), (2, .int (xJ w)), (3, .int (xJ x))]) hx hb dX10_cloudySets_11 hl (by decide) rfl (fun ls hl => ?_)
  have L13 : ∀ (fu : Nat) (i4_13 : Int) (i5_13 : Int) (i6_13 : Int) (i7_13 : Int) (H : Heap) (locs : List Loc) (ls : Array Slot), (xR i4_13) → (xR i5_13) → (xR i6_13) → (xR i7_13) → (0 ≤ i7_13 ∧ i7_13 ≤ zpw n) → (0 ≤ i4_13 ∧ i4_13 ≤ i7_13) → (i4_13 = zcm (s0 2) n w (i7_13).toNat) → (i5_13 = zcf (s0 2) n w (i7_13).toNat) → (i6_13 = zca (s0 2) n w (-1) (i7_13).toNat) → (1024 - i7_13).toNat < fu → xW D g h0 s H locs s0 → lv_has ls 8 [(0, .ref (h0 + 0)), (1, .int (xJ n)), (2, .int (xJ w)), (3, .int (xJ x)), (4, .int (xJ i4_13)), (5, .int (xJ i5_13)), (6, .int (xJ i6_13)), (7, .int (xJ i7_13))] → W p l e { frames := 2, cells := 0, slots := 0, locals := 45 } s m args below meth c H locs 0 0 Q (F0 m 13 ls []) := by
    intro fu
    induction fu with
    | zero => intro i4_13 i5_13 i6_13 i7_13 H locs ls ri4_13 ri5_13 ri6_13 ri7_13 v13_0 v13_1 v13_2 v13_3 v13_4 hm; exact absurd hm (Nat.not_lt_zero _)
    | succ fu ih13 =>
      intro i4_13 i5_13 i6_13 i7_13 H locs ls ri4_13 ri5_13 ri6_13 ri7_13 v13_0 v13_1 v13_2 v13_3 v13_4 hm hW hl
      refine x_iload hx hb hl 7 rfl dX10_cloudySets_13 ?_
      refine x_iconst hx hb dX10_cloudySets_15 ?_
      refine x_iload_n hx hb hl 1 rfl dX10_cloudySets_16 rfl ?_
      refine x_shl1 hx hb (by omega) dX10_cloudySets_17 (fun x1 ex1 bx1 => ?_)
      have P17 : x1 = zpw n := ex1
      refine x_icmp_ge (tgt := 60) hx hb ri7_13 (by omega) dX10_cloudySets_18 (by decide) (fun c2 => ?_) (fun c2 => ?_)
      · skip
        refine x_iload_n hx hb hl 3 rfl dX10_cloudySets_60 rfl ?_
        refine x_if_ne (tgt := 67) hx hb rx dX10_cloudySets_61 (by decide) (fun c3 => ?_) (fun c3 => ?_)
        · skip
          refine x_iload_n hx hb hl 3 rfl dX10_cloudySets_67 rfl ?_
          refine x_iconst hx hb dX10_cloudySets_68 ?_
          refine x_icmp_eq (tgt := 77) hx hb rx (by decide) dX10_cloudySets_69 (by decide) (fun c4 => ?_) (fun c4 => ?_)
          · skip
            refine x_iload hx hb hl 5 rfl dX10_cloudySets_77 ?_
            refine lv_goto (tgt := 84) hx hb dX10_cloudySets_79 (by decide) ?_
            rw [eQ]
            exact x_iret hx hb hr hlk hW ri5_13 ⟨rfl, zans_i (i := i7_13) (c := i4_13) (d := i5_13) (e := i6_13) (by omega) v13_2 v13_3 v13_4 (by omega)⟩ dX10_cloudySets_84
          refine x_iload hx hb hl 4 rfl dX10_cloudySets_72 ?_
          refine x_if_ne (tgt := 82) hx hb ri4_13 dX10_cloudySets_74 (by decide) (fun c5 => ?_) (fun c5 => ?_)
          · skip
            refine x_iload hx hb hl 6 rfl dX10_cloudySets_82 ?_
            rw [eQ]
            exact x_iret hx hb hr hlk hW ri6_13 ⟨rfl, zans_i (i := i7_13) (c := i4_13) (d := i5_13) (e := i6_13) (by omega) v13_2 v13_3 v13_4 (by omega)⟩ dX10_cloudySets_84
          refine x_iload hx hb hl 5 rfl dX10_cloudySets_77 ?_
          refine lv_goto (tgt := 84) hx hb dX10_cloudySets_79 (by decide) ?_
          rw [eQ]
          exact x_iret hx hb hr hlk hW ri5_13 ⟨rfl, zans_i (i := i7_13) (c := i4_13) (d := i5_13) (e := i6_13) (by omega) v13_2 v13_3 v13_4 (by omega)⟩ dX10_cloudySets_84
        refine x_iload hx hb hl 4 rfl dX10_cloudySets_64 ?_
        rw [eQ]
        exact x_iret hx hb hr hlk hW ri4_13 ⟨rfl, zans_i (i := i7_13) (c := i4_13) (d := i5_13) (e := i6_13) (by omega) v13_2 v13_3 v13_4 (by omega)⟩ dX10_cloudySets_66
      refine x_aload_n hx hb hl 0 rfl dX10_cloudySets_21 rfl ?_
      refine x_iload hx hb hl 7 rfl dX10_cloudySets_22 ?_
      refine x_iload_n hx hb hl 1 rfl dX10_cloudySets_24 rfl ?_
      refine x_goi (x_runV (As := [.int (xJ i7_13), .int (xJ n)]) hx hb hml hown hT hE hW hl.1 (Or.inl (by decide)) (so_0 h0 g _) rfl cf_X10_servedOutside wq1119 wq97 wq1117 (c_X10_servedOutside l D g T h0 s0 hW.2.1 i7_13 ri7_13 n rn (by omega) p0) ⟨rfl, rfl, ⟨by decide, by decide⟩, ⟨by decide, by decide⟩⟩ rfl rfl (Nat.le_of_ble_eq_true rfl) dX10_cloudySets_25) hW (fun x6 s7 H locs rx6 hp8 hW => ?_)
      obtain ⟨es7, hp8⟩ := hp8
      subst es7
      have ghp8 := hp8
      have Z25 := ghp8
      refine x_iload_n hx hb hl 2 rfl dX10_cloudySets_28 rfl ?_
      refine x_icmp_eq (tgt := 35) hx hb rx6 rw dX10_cloudySets_29 (by decide) (fun c9 => ?_) (fun c9 => ?_)
      · skip
        refine x_iload hx hb hl 4 rfl dX10_cloudySets_35 ?_
        refine x_if_ne (tgt := 44) hx hb ri4_13 dX10_cloudySets_37 (by decide) (fun c10 => ?_) (fun c10 => ?_)
        · skip
          refine x_iinc (lv' := [(4, .int (xJ (i4_13 + 1))), (0, .ref (h0 + 0)), (1, .int (xJ n)), (2, .int (xJ w)), (3, .int (xJ x)), (5, .int (xJ i5_13)), (6, .int (xJ i6_13)), (7, .int (xJ i7_13))]) hx hb hl 4 rfl dX10_cloudySets_44 (by decide) rfl (fun ls hl => ?_)
          refine x_iload hx hb hl 6 rfl dX10_cloudySets_47 ?_
          refine x_iload hx hb hl 7 rfl dX10_cloudySets_49 ?_
          refine x_zand hx hb dX10_cloudySets_51 (fun x11 ex11 rx11 => ?_)
          have Z51 : x11 = zand i6_13 i7_13 := ex11
          refine lv_istore (lv' := [(6, .int (xJ x11)), (4, .int (xJ (i4_13 + 1))), (0, .ref (h0 + 0)), (1, .int (xJ n)), (2, .int (xJ w)), (3, .int (xJ x)), (5, .int (xJ i5_13)), (7, .int (xJ i7_13))]) hx hb dX10_cloudySets_52 hl (by decide) rfl (fun ls hl => ?_)
          refine x_iinc (lv' := [(7, .int (xJ (i7_13 + 1))), (6, .int (xJ x11)), (4, .int (xJ (i4_13 + 1))), (0, .ref (h0 + 0)), (1, .int (xJ n)), (2, .int (xJ w)), (3, .int (xJ x)), (5, .int (xJ i5_13))]) hx hb hl 7 rfl dX10_cloudySets_54 (by decide) rfl (fun ls hl => ?_)
          refine lv_goto (tgt := 13) hx hb dX10_cloudySets_57 (by decide) ?_
          exact ih13 (i4_13 + 1) i5_13 x11 (i7_13 + 1) H locs ls (by omega) ri5_13 rx11 (by omega) (by omega) (by omega) (by first | (have z9 := zcs_n (f := s0 2) (n := n) (w := w) (a0 := -1) (i := i7_13) (by omega) (by omega); omega) | (have z9 := zcs_y (f := s0 2) (n := n) (w := w) (a0 := -1) (i := i7_13) (by omega) (by omega); omega)) (by first | (have z9 := zcs_n (f := s0 2) (n := n) (w := w) (a0 := -1) (i := i7_13) (by omega) (by omega); omega) | (have z9 := zcs_y (f := s0 2) (n := n) (w := w) (a0 := -1) (i := i7_13) (by omega) (by omega); omega)) (by first | (have z9 := zcs_n (f := s0 2) (n := n) (w := w) (a0 := -1) (i := i7_13) (by omega) (by omega); omega) | (have z9 := zcs_y (f := s0 2) (n := n) (w := w) (a0 := -1) (i := i7_13) (by omega) (by omega); rw [z9.2.2.2, ← v13_4]; exact Z51)) (by omega) hW (lv_sub hl [3, 4, 5, 6, 2, 7, 1, 0] rfl)
        refine x_iload hx hb hl 7 rfl dX10_cloudySets_40 ?_
        refine lv_istore (lv' := [(5, .int (xJ i7_13)), (0, .ref (h0 + 0)), (1, .int (xJ n)), (2, .int (xJ w)), (3, .int (xJ x)), (4, .int (xJ i4_13)), (6, .int (xJ i6_13)), (7, .int (xJ i7_13))]) hx hb dX10_cloudySets_42 hl (by decide) rfl (fun ls hl => ?_)
        refine x_iinc (lv' := [(4, .int (xJ (i4_13 + 1))), (5, .int (xJ i7_13)), (0, .ref (h0 + 0)), (1, .int (xJ n)), (2, .int (xJ w)), (3, .int (xJ x)), (6, .int (xJ i6_13)), (7, .int (xJ i7_13))]) hx hb hl 5 rfl dX10_cloudySets_44 (by decide) rfl (fun ls hl => ?_)
        refine x_iload hx hb hl 6 rfl dX10_cloudySets_47 ?_
        refine x_iload hx hb hl 7 rfl dX10_cloudySets_49 ?_
        refine x_zand hx hb dX10_cloudySets_51 (fun x12 ex12 rx12 => ?_)
        have Z51 : x12 = zand i6_13 i7_13 := ex12
        refine lv_istore (lv' := [(6, .int (xJ x12)), (4, .int (xJ (i4_13 + 1))), (5, .int (xJ i7_13)), (0, .ref (h0 + 0)), (1, .int (xJ n)), (2, .int (xJ w)), (3, .int (xJ x)), (7, .int (xJ i7_13))]) hx hb dX10_cloudySets_52 hl (by decide) rfl (fun ls hl => ?_)
        refine x_iinc (lv' := [(7, .int (xJ (i7_13 + 1))), (6, .int (xJ x12)), (4, .int (xJ (i4_13 + 1))), (5, .int (xJ i7_13)), (0, .ref (h0 + 0)), (1, .int (xJ n)), (2, .int (xJ w)), (3, .int (xJ x))]) hx hb hl 7 rfl dX10_cloudySets_54 (by decide) rfl (fun ls hl => ?_)
        refine lv_goto (tgt := 13) hx hb dX10_cloudySets_57 (by decide) ?_
        exact ih13 (i4_13 + 1) i7_13 x12 (i7_13 + 1) H locs ls (by omega) ri7_13 rx12 (by omega) (by omega) (by omega) (by first | (have z9 := zcs_n (f := s0 2) (n := n) (w := w) (a0 := -1) (i := i7_13) (by omega) (by omega); omega) | (have z9 := zcs_y (f := s0 2) (n := n) (w := w) (a0 := -1) (i := i7_13) (by omega) (by omega); omega)) (by first | (have z9 := zcs_n (f := s0 2) (n := n) (w := w) (a0 := -1) (i := i7_13) (by omega) (by omega); omega) | (have z9 := zcs_y (f := s0 2) (n := n) (w := w) (a0 := -1) (i := i7_13) (by omega) (by omega); omega)) (by first | (have z9 := zcs_n (f := s0 2) (n := n) (w := w) (a0 := -1) (i := i7_13) (by omega) (by omega); omega) | (have z9 := zcs_y (f := s0 2) (n := n) (w := w) (a0 := -1) (i := i7_13) (by omega) (by omega); rw [z9.2.2.2, ← v13_4]; exact Z51)) (by omega) hW (lv_sub hl [4, 5, 6, 7, 2, 3, 1, 0] rfl)
      refine lv_goto (tgt := 54) hx hb dX10_cloudySets_32 (by decide) ?_
      refine x_iinc (lv' := [(7, .int (xJ (i7_13 + 1))), (0, .ref (h0 + 0)), (1, .int (xJ n)), (2, .int (xJ w)), (3, .int (xJ x)), (4, .int (xJ i4_13)), (5, .int (xJ i5_13)), (6, .int (xJ i6_13))]) hx hb hl 7 rfl dX10_cloudySets_54 (by decide) rfl (fun ls hl => ?_)
      refine lv_goto (tgt := 13) hx hb dX10_cloudySets_57 (by decide) ?_
      exact ih13 i4_13 i5_13 i6_13 (i7_13 + 1) H locs ls ri4_13 ri5_13 ri6_13 (by omega) (by omega) (by omega) (by first | (have z9 := zcs_n (f := s0 2) (n := n) (w := w) (a0 := -1) (i := i7_13) (by omega) (by omega); omega) | (have z9 := zcs_y (f := s0 2) (n := n) (w := w) (a0 := -1) (i := i7_13) (by omega) (by omega); omega)) (by first | (have z9 := zcs_n (f := s0 2) (n := n) (w := w) (a0 := -1) (i := i7_13) (by omega) (by omega); omega) | (have z9 := zcs_y (f := s0 2) (n := n) (w := w) (a0 := -1) (i := i7_13) (by omega) (by omega); omega)) (by first | (have z9 := zcs_n (f := s0 2) (n := n) (w := w) (a0 := -1) (i := i7_13) (by omega) (by omega); omega) | (have z9 := zcs_y (f := s0 2) (n := n) (w := w) (a0 := -1) (i := i7_13) (by omega) (by omega); rw [z9.2.2.2, ← v13_4]; exact Z51)) (by omega) hW (lv_sub hl [1, 2, 3, 4, 5, 6, 7, 0] rfl)
  exact L13 ((1024 - 0 : Int).toNat + 1) 0 (-2) (-1) 0 H locs ls (by decide) (by decide) (by decide) (by decide) (by omega) (by omega) (rfl) (rfl) (rfl) (Nat.lt_succ_self _) hW (lv_sub hl [4, 5, 6, 7, 3, 2, 1, 0] rfl)
set_option maxHeartbeats 4000000 in
set_option maxRecDepth 100000 in
theorem c_X10_areAllPlaces (l : Launch) (D : va_G) (g : xG) (T : Nat × Nat × Nat) (h0 : Nat) (s0 : xS) (hσ : xRR s0) (n : Int) (rn : xR n) (q : Int) (rq : xR q) (hn : 1 ≤ n ∧ n ≤ 8) (hm : 0 ≤ q ∧ q ≤ 12) (p0 : IC s0) : Met l yX10_areAllPlaces (xws yX10_areAllPlaces cX10_areAllPlaces 4 (some .boolean)) { frames := 1, cells := 0, slots := 0, locals := 21 } (xP [.ref (h0 + 0), .int (xJ n), .int (xJ q)] D g T h0 s0) (xQi D g h0 (fun r τ => s0 = τ ∧ (r = 0 ∨ r = 1))) 0 0 (xA h0) := by
  refine x_met hσ (by decide) (Nat.le_of_ble_eq_true rfl) ?_
  intro p e s m args below meth c hx hb hr hml hown hT hlk hnm hE hW ls hl
  have hl : lv_has ls 4 [(0, .ref (h0 + 0)), (1, .int (xJ n)), (2, .int (xJ q))] := hl
  obtain ⟨Q, eQ⟩ : ∃ Q, Q = MQ below (xQi D g h0 (fun r τ => s0 = τ ∧ (r = 0 ∨ r = 1))) args s 0 0 (xA h0) := ⟨_, rfl⟩
  rw [← eQ]
  generalize hHe : ([] : List Loc) = locs at hW ⊢
  obtain ⟨H, eH⟩ : ∃ H, H = s.heap := ⟨_, rfl⟩
  rw [← eH] at hW ⊢
  have k1_1 : s0 1 1 = s0 1 1 := rfl
  refine x_iconst hx hb dX10_areAllPlaces_0 ?_
  refine lv_istore_n (lv' := [(3, .int (xJ 0)), (0, .ref (h0 + 0)), (1, .int (xJ n)), (2, .int (xJ q))]) hx hb dX10_areAllPlaces_1 rfl hl (by decide) rfl (fun ls hl => ?_)
  have L2 : ∀ (fu : Nat) (i3_2 : Int) (H : Heap) (locs : List Loc) (ls : Array Slot), (xR i3_2) → (0 ≤ i3_2) → (2 * q - i3_2).toNat < fu → xW D g h0 s H locs s0 → lv_has ls 4 [(0, .ref (h0 + 0)), (1, .int (xJ n)), (2, .int (xJ q)), (3, .int (xJ i3_2))] → W p l e { frames := 1, cells := 0, slots := 0, locals := 21 } s m args below meth c H locs 0 0 Q (F0 m 2 ls []) := by
    intro fu
    induction fu with
    | zero => intro i3_2 H locs ls ri3_2 v2_0 hm; exact absurd hm (Nat.not_lt_zero _)
    | succ fu ih2 =>
      intro i3_2 H locs ls ri3_2 v2_0 hm hW hl
      refine x_iload_n hx hb hl 3 rfl dX10_areAllPlaces_2 rfl ?_
      refine x_iconst hx hb dX10_areAllPlaces_3 ?_
      refine x_iload_n hx hb hl 2 rfl dX10_areAllPlaces_4 rfl ?_
      refine x_imul hx hb dX10_areAllPlaces_5 ?_
      refine x_icmp_ge (tgt := 35) hx hb ri3_2 (by omega) dX10_areAllPlaces_6 (by decide) (fun c1 => ?_) (fun c1 => ?_)
      · skip
        refine x_iconst hx hb dX10_areAllPlaces_35 ?_
        rw [eQ]
        exact x_zret hx hb hr hlk hW (by omega) ⟨rfl, by omega⟩ dX10_areAllPlaces_36
      refine x_aload_n hx hb hl 0 rfl dX10_areAllPlaces_9 rfl ?_
      refine x_get (j := 0) (v := .ref (h0 + 1)) hx hb hown hT hE hW cls_X10 (Or.inl (by decide)) (so_0 h0 g _) (by decide) rfl wq512 dX10_areAllPlaces_10 ?_
      refine x_iconst hx hb dX10_areAllPlaces_13 ?_
      refine x_iload_n hx hb hl 1 rfl dX10_areAllPlaces_14 rfl ?_
      refine x_imul hx hb dX10_areAllPlaces_15 ?_
      refine x_iconst hx hb dX10_areAllPlaces_16 ?_
      refine x_iadd hx hb dX10_areAllPlaces_17 ?_
      refine x_iload_n hx hb hl 3 rfl dX10_areAllPlaces_18 rfl ?_
      refine x_iadd hx hb dX10_areAllPlaces_19 ?_
      refine x_goi (x_runVN (As := [.int (xJ (((2 * n) + 1) + i3_2))]) hx hb hml hown hT hE hW hl.1 (Or.inl (by decide)) (so_1 h0 g _) rfl cf_X8_byteAt wq1084 wq90 wn1082 (c_X8_byteAt l D g T h0 s0 hW.2.1 (((2 * n) + 1) + i3_2) (by omega) p0) ⟨rfl, rfl, ⟨by decide, by decide⟩, ⟨by decide, by decide⟩⟩ rfl rfl (Nat.le_of_ble_eq_true rfl) dX10_areAllPlaces_20) hW (fun x2 s3 H locs rx2 hp4 hW => ?_)
      obtain ⟨es3, hp4⟩ := hp4
      subst es3
      have ghp4 := hp4
      refine x_iload_n hx hb hl 1 rfl dX10_areAllPlaces_23 rfl ?_
      refine x_icmp_lt (tgt := 29) hx hb rx2 rn dX10_areAllPlaces_24 (by decide) (fun c5 => ?_) (fun c5 => ?_)
      · skip
        refine x_iinc (lv' := [(3, .int (xJ (i3_2 + 1))), (0, .ref (h0 + 0)), (1, .int (xJ n)), (2, .int (xJ q))]) hx hb hl 3 rfl dX10_areAllPlaces_29 (by decide) rfl (fun ls hl => ?_)
        refine lv_goto (tgt := 2) hx hb dX10_areAllPlaces_32 (by decide) ?_
        exact ih2 (i3_2 + 1) H locs ls (by omega) (by omega) (by omega) hW (lv_sub hl [1, 2, 3, 0] rfl)
      refine x_iconst hx hb dX10_areAllPlaces_27 ?_
      rw [eQ]
      exact x_zret hx hb hr hlk hW (by omega) ⟨rfl, by omega⟩ dX10_areAllPlaces_28
  exact L2 ((2 * q - 0 : Int).toNat + 1) 0 H locs ls (by decide) (by omega) (Nat.lt_succ_self _) hW (lv_sub hl [1, 2, 3, 0] rfl)
set_option maxHeartbeats 4000000 in
set_option maxRecDepth 100000 in
theorem c_X10_joinGroups (l : Launch) (D : va_G) (g : xG) (T : Nat × Nat × Nat) (h0 : Nat) (s0 : xS) (hσ : xRR s0) (n : Int) (rn : xR n) (a : Int) (ra : xR a) (b : Int) (rb : xR b) (hn : 1 ≤ n ∧ n ≤ 8) (p0 : IC s0) : Met l yX10_joinGroups (xws yX10_joinGroups cX10_joinGroups 5 none) { frames := 0, cells := 0, slots := 0, locals := 0 } (xP [.ref (h0 + 0), .int (xJ n), .int (xJ a), .int (xJ b)] D g T h0 s0) (xQv D g h0 (fun τ => xFr (fun k => k = 267) s0 τ ∧ (((IC τ) ∧ True) ∧ (True)))) 0 0 (xA h0) := by
  refine x_met hσ (by decide) (Nat.le_of_ble_eq_true rfl) ?_
  intro p e s m args below meth c hx hb hr hml hown hT hlk hnm hE hW ls hl
  have hl : lv_has ls 5 [(0, .ref (h0 + 0)), (1, .int (xJ n)), (2, .int (xJ a)), (3, .int (xJ b))] := hl
  obtain ⟨Q, eQ⟩ : ∃ Q, Q = MQ below (xQv D g h0 (fun τ => xFr (fun k => k = 267) s0 τ ∧ (((IC τ) ∧ True) ∧ (True)))) args s 0 0 (xA h0) := ⟨_, rfl⟩
  rw [← eQ]
  generalize hHe : ([] : List Loc) = locs at hW ⊢
  obtain ⟨H, eH⟩ : ∃ H, H = s.heap := ⟨_, rfl⟩
  rw [← eH] at hW ⊢
  have hF : xFr (fun k => k = 267) s0 s0 := xFr.rf
  have k1_1 : s0 1 1 = s0 1 1 := rfl
  refine x_iconst hx hb dX10_joinGroups_0 ?_
  refine lv_istore (lv' := [(4, .int (xJ 0)), (0, .ref (h0 + 0)), (1, .int (xJ n)), (2, .int (xJ a)), (3, .int (xJ b))]) hx hb dX10_joinGroups_1 hl (by decide) rfl (fun ls hl => ?_)
  have L3 : ∀ (fu : Nat) (i4_3 : Int) (s_3 : xS) (H : Heap) (locs : List Loc) (ls : Array Slot), (xR i4_3) → (xFr (fun k => k = 267) s0 s_3) → (IC s_3) → (s_3 1 1 = s0 1 1) → (0 ≤ i4_3) → (n + 1 - i4_3).toNat < fu → xW D g h0 s H locs s_3 → lv_has ls 5 [(0, .ref (h0 + 0)), (1, .int (xJ n)), (2, .int (xJ a)), (3, .int (xJ b)), (4, .int (xJ i4_3))] → W p l e { frames := 0, cells := 0, slots := 0, locals := 0 } s m args below meth c H locs 0 0 Q (F0 m 3 ls []) := by
    intro fu
    induction fu with
    | zero => intro i4_3 s_3 H locs ls ri4_3 hF_3 q3_0 q3_1 v3_0 hm; exact absurd hm (Nat.not_lt_zero _)
    | succ fu ih3 =>
      intro i4_3 s_3 H locs ls ri4_3 hF_3 q3_0 q3_1 v3_0 hm hW hl
      refine x_iload hx hb hl 4 rfl dX10_joinGroups_3 ?_
      refine x_iload_n hx hb hl 1 rfl dX10_joinGroups_5 rfl ?_
      refine x_icmp_ge (tgt := 34) hx hb ri4_3 rn dX10_joinGroups_6 (by decide) (fun c1 => ?_) (fun c1 => ?_)
      · skip
        rw [eQ]
        exact x_vret hx hb hr hlk hW ⟨hF_3, ⟨q3_0, trivial⟩, trivial⟩ dX10_joinGroups_34
      refine x_aload_n hx hb hl 0 rfl dX10_joinGroups_9 rfl ?_
      refine x_get (j := 10) (v := .ref (h0 + 267)) hx hb hown hT hE hW cls_X10 (Or.inl (by decide)) (so_0 h0 g _) (by decide) rfl wq522 dX10_joinGroups_10 ?_
      refine x_iload hx hb hl 4 rfl dX10_joinGroups_13 ?_
      refine x_iald hx hb hE hW (Or.inl (by decide)) (sa_267 h0 g _) (by omega) (by decide) dX10_joinGroups_15 ?_
      refine x_rd hW (fun x2 ex2 rx2 => ?_)
      refine x_iload_n hx hb hl 3 rfl dX10_joinGroups_16 rfl ?_
      refine x_icmp_ne (tgt := 28) hx hb rx2 rb dX10_joinGroups_17 (by decide) (fun c3 => ?_) (fun c3 => ?_)
      · skip
        refine x_iinc (lv' := [(4, .int (xJ (i4_3 + 1))), (0, .ref (h0 + 0)), (1, .int (xJ n)), (2, .int (xJ a)), (3, .int (xJ b))]) hx hb hl 4 rfl dX10_joinGroups_28 (by decide) rfl (fun ls hl => ?_)
        refine lv_goto (tgt := 3) hx hb dX10_joinGroups_31 (by decide) ?_
        exact ih3 (i4_3 + 1) s_3 H locs ls (by omega) hF_3 q3_0 q3_1 (by omega) (by omega) hW (lv_sub hl [1, 2, 3, 4, 0] rfl)
      refine x_aload_n hx hb hl 0 rfl dX10_joinGroups_20 rfl ?_
      refine x_get (j := 10) (v := .ref (h0 + 267)) hx hb hown hT hE hW cls_X10 (Or.inl (by decide)) (so_0 h0 g _) (by decide) rfl wq522 dX10_joinGroups_21 ?_
      refine x_iload hx hb hl 4 rfl dX10_joinGroups_24 ?_
      refine x_iload_n hx hb hl 2 rfl dX10_joinGroups_26 rfl ?_
      refine x_iast hx hb hE hW (by decide) (fun σ => sa_267 h0 g σ) (by omega) (by decide) ra dX10_joinGroups_27 (fun H locs s4 es4 hW => ?_)
      have q5 : IC s4 := by rw [es4]; exact IC_o (by decide) q3_0
      have q6 : s4 1 1 = s0 1 1 := (show s4 1 1 = s_3 1 1 from by rw [es4, xU_k _ _ _ (by omega)]).trans q3_1
      have hF7 := hF_3.put es4 (by omega)
      refine x_iinc (lv' := [(4, .int (xJ (i4_3 + 1))), (0, .ref (h0 + 0)), (1, .int (xJ n)), (2, .int (xJ a)), (3, .int (xJ b))]) hx hb hl 4 rfl dX10_joinGroups_28 (by decide) rfl (fun ls hl => ?_)
      refine lv_goto (tgt := 3) hx hb dX10_joinGroups_31 (by decide) ?_
      exact ih3 (i4_3 + 1) s4 H locs ls (by omega) hF7 q5 q6 (by omega) (by omega) hW (lv_sub hl [1, 2, 3, 4, 0] rfl)
  exact L3 ((n + 1 - 0 : Int).toNat + 1) 0 s0 H locs ls (by decide) hF p0 k1_1 (by omega) (Nat.lt_succ_self _) hW (lv_sub hl [1, 2, 3, 4, 0] rfl)
set_option maxHeartbeats 4000000 in
set_option maxRecDepth 100000 in
theorem c_X10_longestOfGroup (l : Launch) (D : va_G) (g : xG) (T : Nat × Nat × Nat) (h0 : Nat) (s0 : xS) (hσ : xRR s0) (n : Int) (rn : xR n) (a : Int) (ra : xR a) (hn : 1 ≤ n ∧ n ≤ 8) (p0 : IC s0) : Met l yX10_longestOfGroup (xws yX10_longestOfGroup cX10_longestOfGroup 5 (some .int)) { frames := 1, cells := 0, slots := 0, locals := 21 } (xP [.ref (h0 + 0), .int (xJ n), .int (xJ a)] D g T h0 s0) (xQi D g h0 (fun r τ => s0 = τ ∧ (True))) 0 0 (xA h0) := by
  refine x_met hσ (by decide) (Nat.le_of_ble_eq_true rfl) ?_
  intro p e s m args below meth c hx hb hr hml hown hT hlk hnm hE hW ls hl
  have hl : lv_has ls 5 [(0, .ref (h0 + 0)), (1, .int (xJ n)), (2, .int (xJ a))] := hl
  obtain ⟨Q, eQ⟩ : ∃ Q, Q = MQ below (xQi D g h0 (fun r τ => s0 = τ ∧ (True))) args s 0 0 (xA h0) := ⟨_, rfl⟩
  rw [← eQ]
  generalize hHe : ([] : List Loc) = locs at hW ⊢
  obtain ⟨H, eH⟩ : ∃ H, H = s.heap := ⟨_, rfl⟩
  rw [← eH] at hW ⊢
  have k1_1 : s0 1 1 = s0 1 1 := rfl
  refine x_iconst hx hb dX10_longestOfGroup_0 ?_
  refine lv_istore_n (lv' := [(3, .int (xJ (-1))), (0, .ref (h0 + 0)), (1, .int (xJ n)), (2, .int (xJ a))]) hx hb dX10_longestOfGroup_1 rfl hl (by decide) rfl (fun ls hl => ?_)
  refine x_iconst hx hb dX10_longestOfGroup_2 ?_
  refine lv_istore (lv' := [(4, .int (xJ 0)), (3, .int (xJ (-1))), (0, .ref (h0 + 0)), (1, .int (xJ n)), (2, .int (xJ a))]) hx hb dX10_longestOfGroup_3 hl (by decide) rfl (fun ls hl => ?_)
  have L5 : ∀ (fu : Nat) (i3_5 : Int) (i4_5 : Int) (H : Heap) (locs : List Loc) (ls : Array Slot), (xR i3_5) → (xR i4_5) → (0 ≤ i4_5) → (n + 1 - i4_5).toNat < fu → xW D g h0 s H locs s0 → lv_has ls 5 [(0, .ref (h0 + 0)), (1, .int (xJ n)), (2, .int (xJ a)), (3, .int (xJ i3_5)), (4, .int (xJ i4_5))] → W p l e { frames := 1, cells := 0, slots := 0, locals := 21 } s m args below meth c H locs 0 0 Q (F0 m 5 ls []) := by
    intro fu
    induction fu with
    | zero => intro i3_5 i4_5 H locs ls ri3_5 ri4_5 v5_0 hm; exact absurd hm (Nat.not_lt_zero _)
    | succ fu ih5 =>
      intro i3_5 i4_5 H locs ls ri3_5 ri4_5 v5_0 hm hW hl
      refine x_iload hx hb hl 4 rfl dX10_longestOfGroup_5 ?_
      refine x_iload_n hx hb hl 1 rfl dX10_longestOfGroup_7 rfl ?_
      refine x_icmp_ge (tgt := 62) hx hb ri4_5 rn dX10_longestOfGroup_8 (by decide) (fun c1 => ?_) (fun c1 => ?_)
      · skip
        refine x_iload_n hx hb hl 3 rfl dX10_longestOfGroup_62 rfl ?_
        rw [eQ]
        exact x_iret hx hb hr hlk hW ri3_5 ⟨rfl, trivial⟩ dX10_longestOfGroup_63
      refine x_aload_n hx hb hl 0 rfl dX10_longestOfGroup_11 rfl ?_
      refine x_get (j := 10) (v := .ref (h0 + 267)) hx hb hown hT hE hW cls_X10 (Or.inl (by decide)) (so_0 h0 g _) (by decide) rfl wq522 dX10_longestOfGroup_12 ?_
      refine x_iload hx hb hl 4 rfl dX10_longestOfGroup_15 ?_
      refine x_iald hx hb hE hW (Or.inl (by decide)) (sa_267 h0 g _) (by omega) (by decide) dX10_longestOfGroup_17 ?_
      refine x_rd hW (fun x2 ex2 rx2 => ?_)
      refine x_iload_n hx hb hl 2 rfl dX10_longestOfGroup_18 rfl ?_
      refine x_icmp_ne (tgt := 56) hx hb rx2 ra dX10_longestOfGroup_19 (by decide) (fun c3 => ?_) (fun c3 => ?_)
      · skip
        refine x_iinc (lv' := [(4, .int (xJ (i4_5 + 1))), (0, .ref (h0 + 0)), (1, .int (xJ n)), (2, .int (xJ a)), (3, .int (xJ i3_5))]) hx hb hl 4 rfl dX10_longestOfGroup_56 (by decide) rfl (fun ls hl => ?_)
        refine lv_goto (tgt := 5) hx hb dX10_longestOfGroup_59 (by decide) ?_
        exact ih5 i3_5 (i4_5 + 1) H locs ls ri3_5 (by omega) (by omega) (by omega) hW (lv_sub hl [1, 2, 3, 4, 0] rfl)
      refine x_iload_n hx hb hl 3 rfl dX10_longestOfGroup_22 rfl ?_
      refine x_sipush hx hb dX10_longestOfGroup_23 (by decide) ?_
      refine x_aload_n hx hb hl 0 rfl dX10_longestOfGroup_26 rfl ?_
      refine x_get (j := 0) (v := .ref (h0 + 1)) hx hb hown hT hE hW cls_X10 (Or.inl (by decide)) (so_0 h0 g _) (by decide) rfl wq512 dX10_longestOfGroup_27 ?_
      refine x_iconst hx hb dX10_longestOfGroup_30 ?_
      refine x_iload hx hb hl 4 rfl dX10_longestOfGroup_31 ?_
      refine x_imul hx hb dX10_longestOfGroup_33 ?_
      refine x_goi (x_runVN (As := [.int (xJ (2 * i4_5))]) hx hb hml hown hT hE hW hl.1 (Or.inl (by decide)) (so_1 h0 g _) rfl cf_X8_byteAt wq1084 wq90 wn1082 (c_X8_byteAt l D g T h0 s0 hW.2.1 (2 * i4_5) (by omega) p0) ⟨rfl, rfl, ⟨by decide, by decide⟩, ⟨by decide, by decide⟩⟩ rfl rfl (Nat.le_of_ble_eq_true rfl) dX10_longestOfGroup_34) hW (fun x4 s5 H locs rx4 hp6 hW => ?_)
      obtain ⟨es5, hp6⟩ := hp6
      subst es5
      have ghp6 := hp6
      refine x_imul hx hb dX10_longestOfGroup_37 ?_
      refine x_aload_n hx hb hl 0 rfl dX10_longestOfGroup_38 rfl ?_
      refine x_get (j := 0) (v := .ref (h0 + 1)) hx hb hown hT hE hW cls_X10 (Or.inl (by decide)) (so_0 h0 g _) (by decide) rfl wq512 dX10_longestOfGroup_39 ?_
      refine x_iconst hx hb dX10_longestOfGroup_42 ?_
      refine x_iload hx hb hl 4 rfl dX10_longestOfGroup_43 ?_
      refine x_imul hx hb dX10_longestOfGroup_45 ?_
      refine x_iconst hx hb dX10_longestOfGroup_46 ?_
      refine x_iadd hx hb dX10_longestOfGroup_47 ?_
      refine x_goi (x_runVN (As := [.int (xJ ((2 * i4_5) + 1))]) hx hb hml hown hT hE hW hl.1 (Or.inl (by decide)) (so_1 h0 g _) rfl cf_X8_byteAt wq1084 wq90 wn1082 (c_X8_byteAt l D g T h0 s0 hW.2.1 ((2 * i4_5) + 1) (by omega) p0) ⟨rfl, rfl, ⟨by decide, by decide⟩, ⟨by decide, by decide⟩⟩ rfl rfl (Nat.le_of_ble_eq_true rfl) dX10_longestOfGroup_48) hW (fun x7 s8 H locs rx7 hp9 hW => ?_)
      obtain ⟨es8, hp9⟩ := hp9
      subst es8
      have ghp9 := hp9
      refine x_iadd hx hb dX10_longestOfGroup_51 ?_
      refine x_mmax hx hb hml hl.1 hown hT wq1073 wq594 wq180 wq595 ⟨by decide, Nat.le_of_ble_eq_true rfl, by decide, by decide⟩ ri3_5 (by omega) dX10_longestOfGroup_52 ?_
      refine x_nm (fun x10 ex10 => ?_)
      have fx10 : (x10 = i3_5 ∧ ((256 * x4) + x7) ≤ i3_5) ∨ (x10 = ((256 * x4) + x7) ∧ i3_5 ≤ ((256 * x4) + x7)) := by rw [ex10]; split <;> omega
      refine lv_istore_n (lv' := [(3, .int (xJ x10)), (0, .ref (h0 + 0)), (1, .int (xJ n)), (2, .int (xJ a)), (4, .int (xJ i4_5))]) hx hb dX10_longestOfGroup_55 rfl hl (by decide) rfl (fun ls hl => ?_)
      refine x_iinc (lv' := [(4, .int (xJ (i4_5 + 1))), (3, .int (xJ x10)), (0, .ref (h0 + 0)), (1, .int (xJ n)), (2, .int (xJ a))]) hx hb hl 4 rfl dX10_longestOfGroup_56 (by decide) rfl (fun ls hl => ?_)
      refine lv_goto (tgt := 5) hx hb dX10_longestOfGroup_59 (by decide) ?_
      exact ih5 x10 (i4_5 + 1) H locs ls (by omega) (by omega) (by omega) (by omega) hW (lv_sub hl [2, 3, 4, 1, 0] rfl)
  exact L5 ((n + 1 - 0 : Int).toNat + 1) (-1) 0 H locs ls (by decide) (by decide) (by omega) (Nat.lt_succ_self _) hW (lv_sub hl [2, 3, 4, 1, 0] rfl)
set_option maxHeartbeats 4000000 in
set_option maxRecDepth 100000 in
theorem c_X10_groupSentences (l : Launch) (D : va_G) (g : xG) (T : Nat × Nat × Nat) (h0 : Nat) (s0 : xS) (hσ : xRR s0) (n : Int) (rn : xR n) (q : Int) (rq : xR q) (hn : 1 ≤ n ∧ n ≤ 8) (hm : 0 ≤ q ∧ q ≤ 12) (p0 : IC s0) : Met l yX10_groupSentences (xws yX10_groupSentences cX10_groupSentences 6 none) { frames := 1, cells := 0, slots := 0, locals := 24 } (xP [.ref (h0 + 0), .int (xJ n), .int (xJ q)] D g T h0 s0) (xQv D g h0 (fun τ => xFr (fun k => k = 267) s0 τ ∧ (((IC τ) ∧ True) ∧ (True)))) 0 0 (xA h0) := by
  refine x_met hσ (by decide) (Nat.le_of_ble_eq_true rfl) ?_
  intro p e s m args below meth c hx hb hr hml hown hT hlk hnm hE hW ls hl
  have hl : lv_has ls 6 [(0, .ref (h0 + 0)), (1, .int (xJ n)), (2, .int (xJ q))] := hl
  obtain ⟨Q, eQ⟩ : ∃ Q, Q = MQ below (xQv D g h0 (fun τ => xFr (fun k => k = 267) s0 τ ∧ (((IC τ) ∧ True) ∧ (True)))) args s 0 0 (xA h0) := ⟨_, rfl⟩
  rw [← eQ]
  generalize hHe : ([] : List Loc) = locs at hW ⊢
  obtain ⟨H, eH⟩ : ∃ H, H = s.heap := ⟨_, rfl⟩
  rw [← eH] at hW ⊢
  have hF : xFr (fun k => k = 267) s0 s0 := xFr.rf
  have k1_1 : s0 1 1 = s0 1 1 := rfl
  refine x_iconst hx hb dX10_groupSentences_0 ?_
  refine lv_istore_n (lv' := [(3, .int (xJ 0)), (0, .ref (h0 + 0)), (1, .int (xJ n)), (2, .int (xJ q))]) hx hb dX10_groupSentences_1 rfl hl (by decide) rfl (fun ls hl => ?_)
  have L2 : ∀ (fu : Nat) (i3_2 : Int) (s_2 : xS) (H : Heap) (locs : List Loc) (ls : Array Slot), (xR i3_2) → (xFr (fun k => k = 267) s0 s_2) → (IC s_2) → (s_2 1 1 = s0 1 1) → (0 ≤ i3_2) → (n + 1 - i3_2).toNat < fu → xW D g h0 s H locs s_2 → lv_has ls 6 [(0, .ref (h0 + 0)), (1, .int (xJ n)), (2, .int (xJ q)), (3, .int (xJ i3_2))] → W p l e { frames := 1, cells := 0, slots := 0, locals := 24 } s m args below meth c H locs 0 0 Q (F0 m 2 ls []) := by
    intro fu
    induction fu with
    | zero => intro i3_2 s_2 H locs ls ri3_2 hF_2 q2_0 q2_1 v2_0 hm; exact absurd hm (Nat.not_lt_zero _)
    | succ fu ih2 =>
      intro i3_2 s_2 H locs ls ri3_2 hF_2 q2_0 q2_1 v2_0 hm hW hl
      refine x_iload_n hx hb hl 3 rfl dX10_groupSentences_2 rfl ?_
      refine x_iload_n hx hb hl 1 rfl dX10_groupSentences_3 rfl ?_
      refine x_icmp_ge (tgt := 26) hx hb ri3_2 rn dX10_groupSentences_4 (by decide) (fun c1 => ?_) (fun c1 => ?_)
      · skip
        refine x_iconst hx hb dX10_groupSentences_26 ?_
        refine lv_istore_n (lv' := [(3, .int (xJ 0)), (0, .ref (h0 + 0)), (1, .int (xJ n)), (2, .int (xJ q))]) hx hb dX10_groupSentences_27 rfl hl (by decide) rfl (fun ls hl => ?_)
        have L28 : ∀ (fu : Nat) (i3_28 : Int) (s_28 : xS) (H : Heap) (locs : List Loc) (ls : Array Slot), (xR i3_28) → (xFr (fun k => k = 267) s0 s_28) → (IC s_28) → (s_28 1 1 = s0 1 1) → (0 ≤ i3_28) → (q + 1 - i3_28).toNat < fu → xW D g h0 s H locs s_28 → lv_has ls 6 [(0, .ref (h0 + 0)), (1, .int (xJ n)), (2, .int (xJ q)), (3, .int (xJ i3_28))] → W p l e { frames := 1, cells := 0, slots := 0, locals := 24 } s m args below meth c H locs 0 0 Q (F0 m 28 ls []) := by
          intro fu
          induction fu with
          | zero => intro i3_28 s_28 H locs ls ri3_28 hF_28 q28_0 q28_1 v28_0 hm; exact absurd hm (Nat.not_lt_zero _)
          | succ fu ih28 =>
            intro i3_28 s_28 H locs ls ri3_28 hF_28 q28_0 q28_1 v28_0 hm hW hl
            refine x_iload_n hx hb hl 3 rfl dX10_groupSentences_28 rfl ?_
            refine x_iload_n hx hb hl 2 rfl dX10_groupSentences_29 rfl ?_
            refine x_icmp_ge (tgt := 118) hx hb ri3_28 rq dX10_groupSentences_30 (by decide) (fun c2 => ?_) (fun c2 => ?_)
            · skip
              rw [eQ]
              exact x_vret hx hb hr hlk hW ⟨hF_28, ⟨q28_0, trivial⟩, trivial⟩ dX10_groupSentences_118
            refine x_aload_n hx hb hl 0 rfl dX10_groupSentences_33 rfl ?_
            refine x_get (j := 0) (v := .ref (h0 + 1)) hx hb hown hT hE hW cls_X10 (Or.inl (by decide)) (so_0 h0 g _) (by decide) rfl wq512 dX10_groupSentences_34 ?_
            refine x_iconst hx hb dX10_groupSentences_37 ?_
            refine x_iload_n hx hb hl 1 rfl dX10_groupSentences_38 rfl ?_
            refine x_imul hx hb dX10_groupSentences_39 ?_
            refine x_iconst hx hb dX10_groupSentences_40 ?_
            refine x_iadd hx hb dX10_groupSentences_41 ?_
            refine x_iconst hx hb dX10_groupSentences_42 ?_
            refine x_iload_n hx hb hl 3 rfl dX10_groupSentences_43 rfl ?_
            refine x_imul hx hb dX10_groupSentences_44 ?_
            refine x_iadd hx hb dX10_groupSentences_45 ?_
            refine x_goi (x_runVN (As := [.int (xJ (((2 * n) + 1) + (2 * i3_28)))]) hx hb hml hown hT hE hW hl.1 (Or.inl (by decide)) (so_1 h0 g _) rfl cf_X8_byteAt wq1084 wq90 wn1082 (c_X8_byteAt l D g T h0 s_28 hW.2.1 (((2 * n) + 1) + (2 * i3_28)) (by omega) q28_0) ⟨rfl, rfl, ⟨by decide, by decide⟩, ⟨by decide, by decide⟩⟩ rfl rfl (Nat.le_of_ble_eq_true rfl) dX10_groupSentences_46) hW (fun x3 s4 H locs rx3 hp5 hW => ?_)
            obtain ⟨es4, hp5⟩ := hp5
            subst es4
            have ghp5 := hp5
            refine lv_istore (lv' := [(4, .int (xJ x3)), (0, .ref (h0 + 0)), (1, .int (xJ n)), (2, .int (xJ q)), (3, .int (xJ i3_28))]) hx hb dX10_groupSentences_49 hl (by decide) rfl (fun ls hl => ?_)
            refine x_aload_n hx hb hl 1 rfl dX10_groupSentences_51 rfl ?_
            refine x_get (j := 0) (v := .ref (h0 + 1)) hx hb hown hT hE hW cls_X10 (Or.inl (by decide)) (so_0 h0 g _) (by decide) rfl wq512 dX10_groupSentences_52 ?_
            refine x_iconst hx hb dX10_groupSentences_55 ?_
            refine x_iload_n hx hb hl 2 rfl dX10_groupSentences_56 rfl ?_
            refine x_imul hx hb dX10_groupSentences_57 ?_
            refine x_iconst hx hb dX10_groupSentences_58 ?_
            refine x_iadd hx hb dX10_groupSentences_59 ?_
            refine x_iconst hx hb dX10_groupSentences_60 ?_
            refine x_iload_n hx hb hl 4 rfl dX10_groupSentences_61 rfl ?_
            refine x_imul hx hb dX10_groupSentences_62 ?_
            refine x_iadd hx hb dX10_groupSentences_63 ?_
            refine x_goi (x_runVN (As := [.int (xJ (((2 * n) + 2) + (2 * i3_28)))]) hx hb hml hown hT hE hW hl.1 (Or.inl (by decide)) (so_1 h0 g _) rfl cf_X8_byteAt wq1084 wq90 wn1082 (c_X8_byteAt l D g T h0 s_28 hW.2.1 (((2 * n) + 2) + (2 * i3_28)) (by omega) q28_0) ⟨rfl, rfl, ⟨by decide, by decide⟩, ⟨by decide, by decide⟩⟩ rfl rfl (Nat.le_of_ble_eq_true rfl) dX10_groupSentences_64) hW (fun x6 s7 H locs rx6 hp8 hW => ?_)
            obtain ⟨es7, hp8⟩ := hp8
            subst es7
            have ghp8 := hp8
            refine lv_istore (lv' := [(5, .int (xJ x6)), (4, .int (xJ x3)), (0, .ref (h0 + 0)), (1, .int (xJ n)), (2, .int (xJ q)), (3, .int (xJ i3_28))]) hx hb dX10_groupSentences_67 hl (by decide) rfl (fun ls hl => ?_)
            refine x_iload hx hb hl 1 rfl dX10_groupSentences_69 ?_
            refine x_iconst hx hb dX10_groupSentences_71 ?_
            refine x_iload_n hx hb hl 3 rfl dX10_groupSentences_72 rfl ?_
            refine x_iconst hx hb dX10_groupSentences_73 ?_
            refine x_isub hx hb dX10_groupSentences_74 ?_
            refine x_goi (x_runS (As := [.int (xJ x3), .int (xJ 0), .int (xJ (n - 1))]) hx hb hml hown hT hE hW hl.1 cf_X10_isIn wq562 wq561 (c_X10_isIn l D g T h0 s_28 hW.2.1 x3 rx3 0 (by decide) (n - 1) (by omega)) ⟨rfl, rfl, ⟨by decide, by decide⟩, ⟨by decide, by decide⟩⟩ rfl rfl (Nat.le_of_ble_eq_true rfl) dX10_groupSentences_75) hW (fun x9 s10 H locs rx9 hp11 hW => ?_)
            obtain ⟨es10, hp11⟩ := hp11
            subst es10
            have ghp11 := hp11
            refine x_if_eq (tgt := 112) hx hb rx9 dX10_groupSentences_78 (by decide) (fun c12 => ?_) (fun c12 => ?_)
            · skip
              refine x_iinc (lv' := [(3, .int (xJ (i3_28 + 1))), (5, .int (xJ x6)), (4, .int (xJ x3)), (0, .ref (h0 + 0)), (1, .int (xJ n)), (2, .int (xJ q))]) hx hb hl 5 rfl dX10_groupSentences_112 (by decide) rfl (fun ls hl => ?_)
              refine lv_goto (tgt := 28) hx hb dX10_groupSentences_115 (by decide) ?_
              exact ih28 (i3_28 + 1) s_28 H locs ls (by omega) hF_28 q28_0 q28_1 (by omega) (by omega) hW (lv_sub hl [3, 4, 5, 0] rfl)
            refine x_iload hx hb hl 0 rfl dX10_groupSentences_81 ?_
            refine x_iconst hx hb dX10_groupSentences_83 ?_
            refine x_iload_n hx hb hl 3 rfl dX10_groupSentences_84 rfl ?_
            refine x_iconst hx hb dX10_groupSentences_85 ?_
            refine x_isub hx hb dX10_groupSentences_86 ?_
            refine x_goi (x_runS (As := [.int (xJ x6), .int (xJ 0), .int (xJ (n - 1))]) hx hb hml hown hT hE hW hl.1 cf_X10_isIn wq562 wq561 (c_X10_isIn l D g T h0 s_28 hW.2.1 x6 rx6 0 (by decide) (n - 1) (by omega)) ⟨rfl, rfl, ⟨by decide, by decide⟩, ⟨by decide, by decide⟩⟩ rfl rfl (Nat.le_of_ble_eq_true rfl) dX10_groupSentences_87) hW (fun x13 s14 H locs rx13 hp15 hW => ?_)
            obtain ⟨es14, hp15⟩ := hp15
            subst es14
            have ghp15 := hp15
            refine x_if_eq (tgt := 112) hx hb rx13 dX10_groupSentences_90 (by decide) (fun c16 => ?_) (fun c16 => ?_)
            · skip
              refine x_iinc (lv' := [(3, .int (xJ (i3_28 + 1))), (5, .int (xJ x6)), (4, .int (xJ x3)), (0, .ref (h0 + 0)), (1, .int (xJ n)), (2, .int (xJ q))]) hx hb hl 5 rfl dX10_groupSentences_112 (by decide) rfl (fun ls hl => ?_)
              refine lv_goto (tgt := 28) hx hb dX10_groupSentences_115 (by decide) ?_
              exact ih28 (i3_28 + 1) s_28 H locs ls (by omega) hF_28 q28_0 q28_1 (by omega) (by omega) hW (lv_sub hl [3, 4, 5, 0] rfl)
            refine x_aload_n hx hb hl 2 rfl dX10_groupSentences_93 rfl ?_
            refine x_iload_n hx hb hl 3 rfl dX10_groupSentences_94 rfl ?_
            refine x_aload_n hx hb hl 2 rfl dX10_groupSentences_95 rfl ?_
            refine x_get (j := 10) (v := .ref (h0 + 267)) hx hb hown hT hE hW cls_X10 (Or.inl (by decide)) (so_0 h0 g _) (by decide) rfl wq522 dX10_groupSentences_96 ?_
            refine x_iload hx hb hl 1 rfl dX10_groupSentences_99 ?_
            refine x_iald hx hb hE hW (Or.inl (by decide)) (sa_267 h0 g _) (by omega) (by decide) dX10_groupSentences_101 ?_
            refine x_rd hW (fun x17 ex17 rx17 => ?_)
            refine x_aload_n hx hb hl 2 rfl dX10_groupSentences_102 rfl ?_
            refine x_get (j := 10) (v := .ref (h0 + 267)) hx hb hown hT hE hW cls_X10 (Or.inl (by decide)) (so_0 h0 g _) (by decide) rfl wq522 dX10_groupSentences_103 ?_
            refine x_iload hx hb hl 0 rfl dX10_groupSentences_106 ?_
            refine x_iald hx hb hE hW (Or.inl (by decide)) (sa_267 h0 g _) (by omega) (by decide) dX10_groupSentences_108 ?_
            refine x_rd hW (fun x18 ex18 rx18 => ?_)
            refine x_gov (x_runV (As := [.int (xJ n), .int (xJ x17), .int (xJ x18)]) hx hb hml hown hT hE hW hl.1 (Or.inl (by decide)) (so_0 h0 g _) rfl cf_X10_joinGroups wq1139 wq101 wq1137 (c_X10_joinGroups l D g T h0 s_28 hW.2.1 n rn x17 rx17 x18 rx18 (by omega) q28_0) ⟨rfl, rfl, ⟨by decide, by decide⟩, ⟨by decide, by decide⟩⟩ rfl rfl (Nat.le_of_ble_eq_true rfl) dX10_groupSentences_109) hW (fun s20 H locs hp21 hW => ?_)
            obtain ⟨fs20, hp21⟩ := hp21
            have hF22 := hF_28.call fs20 (fun k h => by omega)
            have q23 : s20 1 1 = s0 1 1 := (congrFun (fs20 _ (by omega)) _).trans q28_1
            have ghp21 := hp21.2
            refine x_iinc (lv' := [(3, .int (xJ (i3_28 + 1))), (5, .int (xJ x6)), (4, .int (xJ x3)), (0, .ref (h0 + 0)), (1, .int (xJ n)), (2, .int (xJ q))]) hx hb hl 5 rfl dX10_groupSentences_112 (by decide) rfl (fun ls hl => ?_)
            refine lv_goto (tgt := 28) hx hb dX10_groupSentences_115 (by decide) ?_
            exact ih28 (i3_28 + 1) s20 H locs ls (by omega) hF22 hp21.1.1 q23 (by omega) (by omega) hW (lv_sub hl [3, 4, 5, 0] rfl)
        exact L28 ((q + 1 - 0 : Int).toNat + 1) 0 s_2 H locs ls (by decide) hF_2 q2_0 q2_1 (by omega) (Nat.lt_succ_self _) hW (lv_sub hl [1, 2, 3, 0] rfl)
      refine x_iload_n hx hb hl 3 rfl dX10_groupSentences_7 rfl ?_
      refine x_bipush hx hb dX10_groupSentences_8 (by decide) ?_
      refine x_icmp_ge (tgt := 26) hx hb ri3_2 (by decide) dX10_groupSentences_10 (by decide) (fun c24 => ?_) (fun c24 => ?_)
      · skip
        refine x_iconst hx hb dX10_groupSentences_26 ?_
        refine lv_istore_n (lv' := [(3, .int (xJ 0)), (0, .ref (h0 + 0)), (1, .int (xJ n)), (2, .int (xJ q))]) hx hb dX10_groupSentences_27 rfl hl (by decide) rfl (fun ls hl => ?_)
        have L28 : ∀ (fu : Nat) (i3_28 : Int) (s_28 : xS) (H : Heap) (locs : List Loc) (ls : Array Slot), (xR i3_28) → (xFr (fun k => k = 267) s0 s_28) → (IC s_28) → (s_28 1 1 = s0 1 1) → (0 ≤ i3_28) → (q + 1 - i3_28).toNat < fu → xW D g h0 s H locs s_28 → lv_has ls 6 [(0, .ref (h0 + 0)), (1, .int (xJ n)), (2, .int (xJ q)), (3, .int (xJ i3_28))] → W p l e { frames := 1, cells := 0, slots := 0, locals := 24 } s m args below meth c H locs 0 0 Q (F0 m 28 ls []) := by
          intro fu
          induction fu with
          | zero => intro i3_28 s_28 H locs ls ri3_28 hF_28 q28_0 q28_1 v28_0 hm; exact absurd hm (Nat.not_lt_zero _)
          | succ fu ih28 =>
            intro i3_28 s_28 H locs ls ri3_28 hF_28 q28_0 q28_1 v28_0 hm hW hl
            refine x_iload_n hx hb hl 3 rfl dX10_groupSentences_28 rfl ?_
            refine x_iload_n hx hb hl 2 rfl dX10_groupSentences_29 rfl ?_
            refine x_icmp_ge (tgt := 118) hx hb ri3_28 rq dX10_groupSentences_30 (by decide) (fun c25 => ?_) (fun c25 => ?_)
            · skip
              rw [eQ]
              exact x_vret hx hb hr hlk hW ⟨hF_28, ⟨q28_0, trivial⟩, trivial⟩ dX10_groupSentences_118
            refine x_aload_n hx hb hl 0 rfl dX10_groupSentences_33 rfl ?_
            refine x_get (j := 0) (v := .ref (h0 + 1)) hx hb hown hT hE hW cls_X10 (Or.inl (by decide)) (so_0 h0 g _) (by decide) rfl wq512 dX10_groupSentences_34 ?_
            refine x_iconst hx hb dX10_groupSentences_37 ?_
            refine x_iload_n hx hb hl 1 rfl dX10_groupSentences_38 rfl ?_
            refine x_imul hx hb dX10_groupSentences_39 ?_
            refine x_iconst hx hb dX10_groupSentences_40 ?_
            refine x_iadd hx hb dX10_groupSentences_41 ?_
            refine x_iconst hx hb dX10_groupSentences_42 ?_
            refine x_iload_n hx hb hl 3 rfl dX10_groupSentences_43 rfl ?_
            refine x_imul hx hb dX10_groupSentences_44 ?_
            refine x_iadd hx hb dX10_groupSentences_45 ?_
            refine x_goi (x_runVN (As := [.int (xJ (((2 * n) + 1) + (2 * i3_28)))]) hx hb hml hown hT hE hW hl.1 (Or.inl (by decide)) (so_1 h0 g _) rfl cf_X8_byteAt wq1084 wq90 wn1082 (c_X8_byteAt l D g T h0 s_28 hW.2.1 (((2 * n) + 1) + (2 * i3_28)) (by omega) q28_0) ⟨rfl, rfl, ⟨by decide, by decide⟩, ⟨by decide, by decide⟩⟩ rfl rfl (Nat.le_of_ble_eq_true rfl) dX10_groupSentences_46) hW (fun x26 s27 H locs rx26 hp28 hW => ?_)
            obtain ⟨es27, hp28⟩ := hp28
            subst es27
            have ghp28 := hp28
            refine lv_istore (lv' := [(4, .int (xJ x26)), (0, .ref (h0 + 0)), (1, .int (xJ n)), (2, .int (xJ q)), (3, .int (xJ i3_28))]) hx hb dX10_groupSentences_49 hl (by decide) rfl (fun ls hl => ?_)
            refine x_aload_n hx hb hl 1 rfl dX10_groupSentences_51 rfl ?_
            refine x_get (j := 0) (v := .ref (h0 + 1)) hx hb hown hT hE hW cls_X10 (Or.inl (by decide)) (so_0 h0 g _) (by decide) rfl wq512 dX10_groupSentences_52 ?_
            refine x_iconst hx hb dX10_groupSentences_55 ?_
            refine x_iload_n hx hb hl 2 rfl dX10_groupSentences_56 rfl ?_
            refine x_imul hx hb dX10_groupSentences_57 ?_
            refine x_iconst hx hb dX10_groupSentences_58 ?_
            refine x_iadd hx hb dX10_groupSentences_59 ?_
            refine x_iconst hx hb dX10_groupSentences_60 ?_
            refine x_iload_n hx hb hl 4 rfl dX10_groupSentences_61 rfl ?_
            refine x_imul hx hb dX10_groupSentences_62 ?_
            refine x_iadd hx hb dX10_groupSentences_63 ?_
            refine x_goi (x_runVN (As := [.int (xJ (((2 * n) + 2) + (2 * i3_28)))]) hx hb hml hown hT hE hW hl.1 (Or.inl (by decide)) (so_1 h0 g _) rfl cf_X8_byteAt wq1084 wq90 wn1082 (c_X8_byteAt l D g T h0 s_28 hW.2.1 (((2 * n) + 2) + (2 * i3_28)) (by omega) q28_0) ⟨rfl, rfl, ⟨by decide, by decide⟩, ⟨by decide, by decide⟩⟩ rfl rfl (Nat.le_of_ble_eq_true rfl) dX10_groupSentences_64) hW (fun x29 s30 H locs rx29 hp31 hW => ?_)
            obtain ⟨es30, hp31⟩ := hp31
            subst es30
            have ghp31 := hp31
            refine lv_istore (lv' := [(5, .int (xJ x29)), (4, .int (xJ x26)), (0, .ref (h0 + 0)), (1, .int (xJ n)), (2, .int (xJ q)), (3, .int (xJ i3_28))]) hx hb dX10_groupSentences_67 hl (by decide) rfl (fun ls hl => ?_)
            refine x_iload hx hb hl 1 rfl dX10_groupSentences_69 ?_
            refine x_iconst hx hb dX10_groupSentences_71 ?_
            refine x_iload_n hx hb hl 3 rfl dX10_groupSentences_72 rfl ?_
            refine x_iconst hx hb dX10_groupSentences_73 ?_
            refine x_isub hx hb dX10_groupSentences_74 ?_
            refine x_goi (x_runS (As := [.int (xJ x26), .int (xJ 0), .int (xJ (n - 1))]) hx hb hml hown hT hE hW hl.1 cf_X10_isIn wq562 wq561 (c_X10_isIn l D g T h0 s_28 hW.2.1 x26 rx26 0 (by decide) (n - 1) (by omega)) ⟨rfl, rfl, ⟨by decide, by decide⟩, ⟨by decide, by decide⟩⟩ rfl rfl (Nat.le_of_ble_eq_true rfl) dX10_groupSentences_75) hW (fun x32 s33 H locs rx32 hp34 hW => ?_)
            obtain ⟨es33, hp34⟩ := hp34
            subst es33
            have ghp34 := hp34
            refine x_if_eq (tgt := 112) hx hb rx32 dX10_groupSentences_78 (by decide) (fun c35 => ?_) (fun c35 => ?_)
            · skip
              refine x_iinc (lv' := [(3, .int (xJ (i3_28 + 1))), (5, .int (xJ x29)), (4, .int (xJ x26)), (0, .ref (h0 + 0)), (1, .int (xJ n)), (2, .int (xJ q))]) hx hb hl 5 rfl dX10_groupSentences_112 (by decide) rfl (fun ls hl => ?_)
              refine lv_goto (tgt := 28) hx hb dX10_groupSentences_115 (by decide) ?_
              exact ih28 (i3_28 + 1) s_28 H locs ls (by omega) hF_28 q28_0 q28_1 (by omega) (by omega) hW (lv_sub hl [3, 4, 5, 0] rfl)
            refine x_iload hx hb hl 0 rfl dX10_groupSentences_81 ?_
            refine x_iconst hx hb dX10_groupSentences_83 ?_
            refine x_iload_n hx hb hl 3 rfl dX10_groupSentences_84 rfl ?_
            refine x_iconst hx hb dX10_groupSentences_85 ?_
            refine x_isub hx hb dX10_groupSentences_86 ?_
            refine x_goi (x_runS (As := [.int (xJ x29), .int (xJ 0), .int (xJ (n - 1))]) hx hb hml hown hT hE hW hl.1 cf_X10_isIn wq562 wq561 (c_X10_isIn l D g T h0 s_28 hW.2.1 x29 rx29 0 (by decide) (n - 1) (by omega)) ⟨rfl, rfl, ⟨by decide, by decide⟩, ⟨by decide, by decide⟩⟩ rfl rfl (Nat.le_of_ble_eq_true rfl) dX10_groupSentences_87) hW (fun x36 s37 H locs rx36 hp38 hW => ?_)
            obtain ⟨es37, hp38⟩ := hp38
            subst es37
            have ghp38 := hp38
            refine x_if_eq (tgt := 112) hx hb rx36 dX10_groupSentences_90 (by decide) (fun c39 => ?_) (fun c39 => ?_)
            · skip
              refine x_iinc (lv' := [(3, .int (xJ (i3_28 + 1))), (5, .int (xJ x29)), (4, .int (xJ x26)), (0, .ref (h0 + 0)), (1, .int (xJ n)), (2, .int (xJ q))]) hx hb hl 5 rfl dX10_groupSentences_112 (by decide) rfl (fun ls hl => ?_)
              refine lv_goto (tgt := 28) hx hb dX10_groupSentences_115 (by decide) ?_
              exact ih28 (i3_28 + 1) s_28 H locs ls (by omega) hF_28 q28_0 q28_1 (by omega) (by omega) hW (lv_sub hl [3, 4, 5, 0] rfl)
            refine x_aload_n hx hb hl 2 rfl dX10_groupSentences_93 rfl ?_
            refine x_iload_n hx hb hl 3 rfl dX10_groupSentences_94 rfl ?_
            refine x_aload_n hx hb hl 2 rfl dX10_groupSentences_95 rfl ?_
            refine x_get (j := 10) (v := .ref (h0 + 267)) hx hb hown hT hE hW cls_X10 (Or.inl (by decide)) (so_0 h0 g _) (by decide) rfl wq522 dX10_groupSentences_96 ?_
            refine x_iload hx hb hl 1 rfl dX10_groupSentences_99 ?_
            refine x_iald hx hb hE hW (Or.inl (by decide)) (sa_267 h0 g _) (by omega) (by decide) dX10_groupSentences_101 ?_
            refine x_rd hW (fun x40 ex40 rx40 => ?_)
            refine x_aload_n hx hb hl 2 rfl dX10_groupSentences_102 rfl ?_
            refine x_get (j := 10) (v := .ref (h0 + 267)) hx hb hown hT hE hW cls_X10 (Or.inl (by decide)) (so_0 h0 g _) (by decide) rfl wq522 dX10_groupSentences_103 ?_
            refine x_iload hx hb hl 0 rfl dX10_groupSentences_106 ?_
            refine x_iald hx hb hE hW (Or.inl (by decide)) (sa_267 h0 g _) (by omega) (by decide) dX10_groupSentences_108 ?_
            refine x_rd hW (fun x41 ex41 rx41 => ?_)
            refine x_gov (x_runV (As := [.int (xJ n), .int (xJ x40), .int (xJ x41)]) hx hb hml hown hT hE hW hl.1 (Or.inl (by decide)) (so_0 h0 g _) rfl cf_X10_joinGroups wq1139 wq101 wq1137 (c_X10_joinGroups l D g T h0 s_28 hW.2.1 n rn x40 rx40 x41 rx41 (by omega) q28_0) ⟨rfl, rfl, ⟨by decide, by decide⟩, ⟨by decide, by decide⟩⟩ rfl rfl (Nat.le_of_ble_eq_true rfl) dX10_groupSentences_109) hW (fun s43 H locs hp44 hW => ?_)
            obtain ⟨fs43, hp44⟩ := hp44
            have hF45 := hF_28.call fs43 (fun k h => by omega)
            have q46 : s43 1 1 = s0 1 1 := (congrFun (fs43 _ (by omega)) _).trans q28_1
            have ghp44 := hp44.2
            refine x_iinc (lv' := [(3, .int (xJ (i3_28 + 1))), (5, .int (xJ x29)), (4, .int (xJ x26)), (0, .ref (h0 + 0)), (1, .int (xJ n)), (2, .int (xJ q))]) hx hb hl 5 rfl dX10_groupSentences_112 (by decide) rfl (fun ls hl => ?_)
            refine lv_goto (tgt := 28) hx hb dX10_groupSentences_115 (by decide) ?_
            exact ih28 (i3_28 + 1) s43 H locs ls (by omega) hF45 hp44.1.1 q46 (by omega) (by omega) hW (lv_sub hl [3, 4, 5, 0] rfl)
        exact L28 ((q + 1 - 0 : Int).toNat + 1) 0 s_2 H locs ls (by decide) hF_2 q2_0 q2_1 (by omega) (Nat.lt_succ_self _) hW (lv_sub hl [1, 2, 3, 0] rfl)
      refine x_aload_n hx hb hl 0 rfl dX10_groupSentences_13 rfl ?_
      refine x_get (j := 10) (v := .ref (h0 + 267)) hx hb hown hT hE hW cls_X10 (Or.inl (by decide)) (so_0 h0 g _) (by decide) rfl wq522 dX10_groupSentences_14 ?_
      refine x_iload_n hx hb hl 3 rfl dX10_groupSentences_17 rfl ?_
      refine x_iload_n hx hb hl 3 rfl dX10_groupSentences_18 rfl ?_
      refine x_iast hx hb hE hW (by decide) (fun σ => sa_267 h0 g σ) (by omega) (by decide) ri3_2 dX10_groupSentences_19 (fun H locs s47 es47 hW => ?_)
      have q48 : IC s47 := by rw [es47]; exact IC_o (by decide) q2_0
      have q49 : s47 1 1 = s0 1 1 := (show s47 1 1 = s_2 1 1 from by rw [es47, xU_k _ _ _ (by omega)]).trans q2_1
      have hF50 := hF_2.put es47 (by omega)
      refine x_iinc (lv' := [(3, .int (xJ (i3_2 + 1))), (0, .ref (h0 + 0)), (1, .int (xJ n)), (2, .int (xJ q))]) hx hb hl 3 rfl dX10_groupSentences_20 (by decide) rfl (fun ls hl => ?_)
      refine lv_goto (tgt := 2) hx hb dX10_groupSentences_23 (by decide) ?_
      exact ih2 (i3_2 + 1) s47 H locs ls (by omega) hF50 q48 q49 (by omega) (by omega) hW (lv_sub hl [1, 2, 3, 0] rfl)
  exact L2 ((n + 1 - 0 : Int).toNat + 1) 0 s0 H locs ls (by decide) hF p0 k1_1 (by omega) (Nat.lt_succ_self _) hW (lv_sub hl [1, 2, 3, 0] rfl)
set_option maxHeartbeats 4000000 in
set_option maxRecDepth 100000 in
theorem c_X10_sentencesTogether (l : Launch) (D : va_G) (g : xG) (T : Nat × Nat × Nat) (h0 : Nat) (s0 : xS) (hσ : xRR s0) (n : Int) (rn : xR n) (q : Int) (rq : xR q) (x : Int) (rx : xR x) (hn : 1 ≤ n ∧ n ≤ 8) (hm : 0 ≤ q ∧ q ≤ 12) (p0 : IC s0) : Met l yX10_sentencesTogether (xws yX10_sentencesTogether cX10_sentencesTogether 9 (some .int)) { frames := 2, cells := 0, slots := 0, locals := 49 } (xP [.ref (h0 + 0), .int (xJ n), .int (xJ q), .int (xJ x)] D g T h0 s0) (xQi D g h0 (fun r τ => xFr (fun k => k = 267) s0 τ ∧ (((IC τ) ∧ True) ∧ (True)))) 0 0 (xA h0) := by
  refine x_met hσ (by decide) (Nat.le_of_ble_eq_true rfl) ?_
  intro p e s m args below meth c hx hb hr hml hown hT hlk hnm hE hW ls hl
  have hl : lv_has ls 9 [(0, .ref (h0 + 0)), (1, .int (xJ n)), (2, .int (xJ q)), (3, .int (xJ x))] := hl
  obtain ⟨Q, eQ⟩ : ∃ Q, Q = MQ below (xQi D g h0 (fun r τ => xFr (fun k => k = 267) s0 τ ∧ (((IC τ) ∧ True) ∧ (True)))) args s 0 0 (xA h0) := ⟨_, rfl⟩
  rw [← eQ]
  generalize hHe : ([] : List Loc) = locs at hW ⊢
  obtain ⟨H, eH⟩ : ∃ H, H = s.heap := ⟨_, rfl⟩
  rw [← eH] at hW ⊢
  have hF : xFr (fun k => k = 267) s0 s0 := xFr.rf
  have k1_1 : s0 1 1 = s0 1 1 := rfl
  refine x_aload_n hx hb hl 0 rfl dX10_sentencesTogether_0 rfl ?_
  refine x_iload_n hx hb hl 1 rfl dX10_sentencesTogether_1 rfl ?_
  refine x_iload_n hx hb hl 2 rfl dX10_sentencesTogether_2 rfl ?_
  refine x_gov (x_runV (As := [.int (xJ n), .int (xJ q)]) hx hb hml hown hT hE hW hl.1 (Or.inl (by decide)) (so_0 h0 g _) rfl cf_X10_groupSentences wq1135 wq100 wq1133 (c_X10_groupSentences l D g T h0 s0 hW.2.1 n rn q rq (by omega) (by omega) p0) ⟨rfl, rfl, ⟨by decide, by decide⟩, ⟨by decide, by decide⟩⟩ rfl rfl (Nat.le_of_ble_eq_true rfl) dX10_sentencesTogether_3) hW (fun s2 H locs hp3 hW => ?_)
  obtain ⟨fs2, hp3⟩ := hp3
  have hF4 := hF.call fs2 (fun k h => by omega)
  have q5 : s2 1 1 = s0 1 1 := (congrFun (fs2 _ (by omega)) _).trans k1_1
  have ghp3 := hp3.2
  refine x_iconst hx hb dX10_sentencesTogether_6 ?_
  refine lv_istore (lv' := [(4, .int (xJ 0)), (0, .ref (h0 + 0)), (1, .int (xJ n)), (2, .int (xJ q)), (3, .int (xJ x))]) hx hb dX10_sentencesTogether_7 hl (by decide) rfl (fun ls hl => ?_)
  refine x_iconst hx hb dX10_sentencesTogether_9 ?_
  refine lv_istore (lv' := [(5, .int (xJ 0)), (4, .int (xJ 0)), (0, .ref (h0 + 0)), (1, .int (xJ n)), (2, .int (xJ q)), (3, .int (xJ x))]) hx hb dX10_sentencesTogether_10 hl (by decide) rfl (fun ls hl => ?_)
  refine x_iconst hx hb dX10_sentencesTogether_12 ?_
  refine lv_istore (lv' := [(6, .int (xJ 0)), (5, .int (xJ 0)), (4, .int (xJ 0)), (0, .ref (h0 + 0)), (1, .int (xJ n)), (2, .int (xJ q)), (3, .int (xJ x))]) hx hb dX10_sentencesTogether_13 hl (by decide) rfl (fun ls hl => ?_)
  refine x_iconst hx hb dX10_sentencesTogether_15 ?_
  refine lv_istore (lv' := [(7, .int (xJ 0)), (6, .int (xJ 0)), (5, .int (xJ 0)), (4, .int (xJ 0)), (0, .ref (h0 + 0)), (1, .int (xJ n)), (2, .int (xJ q)), (3, .int (xJ x))]) hx hb dX10_sentencesTogether_16 hl (by decide) rfl (fun ls hl => ?_)
  have L18 : ∀ (fu : Nat) (i4_18 : Int) (i5_18 : Int) (i6_18 : Int) (i7_18 : Int) (H : Heap) (locs : List Loc) (ls : Array Slot), (xR i4_18) → (xR i5_18) → (xR i6_18) → (xR i7_18) → (0 ≤ i7_18) → (0 ≤ i5_18 ∧ i5_18 ≤ i7_18) → (n + 1 - i7_18).toNat < fu → xW D g h0 s H locs s2 → lv_has ls 9 [(0, .ref (h0 + 0)), (1, .int (xJ n)), (3, .int (xJ x)), (4, .int (xJ i4_18)), (5, .int (xJ i5_18)), (6, .int (xJ i6_18)), (7, .int (xJ i7_18))] → W p l e { frames := 2, cells := 0, slots := 0, locals := 49 } s m args below meth c H locs 0 0 Q (F0 m 18 ls []) := by
    intro fu
    induction fu with
    | zero => intro i4_18 i5_18 i6_18 i7_18 H locs ls ri4_18 ri5_18 ri6_18 ri7_18 v18_0 v18_1 hm; exact absurd hm (Nat.not_lt_zero _)
    | succ fu ih18 =>
      intro i4_18 i5_18 i6_18 i7_18 H locs ls ri4_18 ri5_18 ri6_18 ri7_18 v18_0 v18_1 hm hW hl
      refine x_iload hx hb hl 6 rfl dX10_sentencesTogether_18 ?_
      refine x_iload_n hx hb hl 1 rfl dX10_sentencesTogether_20 rfl ?_
      refine x_icmp_ge (tgt := 64) hx hb ri7_18 rn dX10_sentencesTogether_21 (by decide) (fun c6 => ?_) (fun c6 => ?_)
      · skip
        refine x_iload_n hx hb hl 2 rfl dX10_sentencesTogether_64 rfl ?_
        refine x_if_ne (tgt := 73) hx hb rx dX10_sentencesTogether_65 (by decide) (fun c7 => ?_) (fun c7 => ?_)
        · skip
          refine x_iload_n hx hb hl 2 rfl dX10_sentencesTogether_73 rfl ?_
          refine x_iconst hx hb dX10_sentencesTogether_74 ?_
          refine x_icmp_ne (tgt := 83) hx hb rx (by decide) dX10_sentencesTogether_75 (by decide) (fun c8 => ?_) (fun c8 => ?_)
          · skip
            refine x_iload hx hb hl 5 rfl dX10_sentencesTogether_83 ?_
            rw [eQ]
            exact x_iret hx hb hr hlk hW ri6_18 ⟨hF4, ⟨hp3.1.1, trivial⟩, trivial⟩ dX10_sentencesTogether_85
          refine x_iload hx hb hl 4 rfl dX10_sentencesTogether_78 ?_
          refine lv_goto (tgt := 85) hx hb dX10_sentencesTogether_80 (by decide) ?_
          rw [eQ]
          exact x_iret hx hb hr hlk hW ri5_18 ⟨hF4, ⟨hp3.1.1, trivial⟩, trivial⟩ dX10_sentencesTogether_85
        refine x_iload hx hb hl 3 rfl dX10_sentencesTogether_68 ?_
        refine lv_goto (tgt := 85) hx hb dX10_sentencesTogether_70 (by decide) ?_
        rw [eQ]
        exact x_iret hx hb hr hlk hW ri4_18 ⟨hF4, ⟨hp3.1.1, trivial⟩, trivial⟩ dX10_sentencesTogether_85
      refine x_aload_n hx hb hl 0 rfl dX10_sentencesTogether_24 rfl ?_
      refine x_iload_n hx hb hl 1 rfl dX10_sentencesTogether_25 rfl ?_
      refine x_iload hx hb hl 6 rfl dX10_sentencesTogether_26 ?_
      refine x_goi (x_runV (As := [.int (xJ n), .int (xJ i7_18)]) hx hb hml hown hT hE hW hl.1 (Or.inl (by decide)) (so_0 h0 g _) rfl cf_X10_longestOfGroup wq1143 wq102 wq1141 (c_X10_longestOfGroup l D g T h0 s2 hW.2.1 n rn i7_18 ri7_18 (by omega) hp3.1.1) ⟨rfl, rfl, ⟨by decide, by decide⟩, ⟨by decide, by decide⟩⟩ rfl rfl (Nat.le_of_ble_eq_true rfl) dX10_sentencesTogether_28) hW (fun x9 s10 H locs rx9 hp11 hW => ?_)
      obtain ⟨es10, hp11⟩ := hp11
      subst es10
      have ghp11 := hp11
      refine lv_istore (lv' := [(8, .int (xJ x9)), (0, .ref (h0 + 0)), (1, .int (xJ n)), (3, .int (xJ x)), (4, .int (xJ i4_18)), (5, .int (xJ i5_18)), (6, .int (xJ i6_18)), (7, .int (xJ i7_18))]) hx hb dX10_sentencesTogether_31 hl (by decide) rfl (fun ls hl => ?_)
      refine x_iload hx hb hl 0 rfl dX10_sentencesTogether_33 ?_
      refine x_iconst hx hb dX10_sentencesTogether_35 ?_
      have J58 : ∀ (i4_58 : Int) (i5_58 : Int) (i6_58 : Int) (ls : Array Slot), (xR i4_58) → (xR i5_58) → (xR i6_58) → (0 ≤ i5_58 ∧ i5_58 ≤ i7_18 + 1) → lv_has ls 9 [(0, .ref (h0 + 0)), (1, .int (xJ n)), (3, .int (xJ x)), (4, .int (xJ i4_58)), (5, .int (xJ i5_58)), (6, .int (xJ i6_58)), (7, .int (xJ i7_18))] → W p l e { frames := 2, cells := 0, slots := 0, locals := 49 } s m args below meth c H locs 0 0 Q (F0 m 58 ls []) := by
        intro i4_58 i5_58 i6_58 ls ri4_58 ri5_58 ri6_58 v58_0  hl
        refine x_iinc (lv' := [(7, .int (xJ (i7_18 + 1))), (0, .ref (h0 + 0)), (1, .int (xJ n)), (3, .int (xJ x)), (4, .int (xJ i4_58)), (5, .int (xJ i5_58)), (6, .int (xJ i6_58))]) hx hb hl 6 rfl dX10_sentencesTogether_58 (by decide) rfl (fun ls hl => ?_)
        refine lv_goto (tgt := 18) hx hb dX10_sentencesTogether_61 (by decide) ?_
        exact ih18 i4_58 i5_58 i6_58 (i7_18 + 1) H locs ls ri4_58 ri5_58 ri6_58 (by omega) (by omega) (by omega) (by omega) hW (lv_sub hl [1, 2, 3, 4, 5, 6, 0] rfl)
      refine x_icmp_eq (tgt := 58) hx hb rx9 (by decide) dX10_sentencesTogether_36 (by decide) (fun c12 => ?_) (fun c12 => ?_)
      · skip
        exact J58 i4_18 i5_18 i6_18 ls ri4_18 ri5_18 ri6_18 (by omega)  (lv_sub hl [1, 2, 3, 4, 5, 6, 7] rfl)
      refine x_iinc (lv' := [(5, .int (xJ (i5_18 + 1))), (8, .int (xJ x9)), (0, .ref (h0 + 0)), (1, .int (xJ n)), (3, .int (xJ x)), (4, .int (xJ i4_18)), (6, .int (xJ i6_18)), (7, .int (xJ i7_18))]) hx hb hl 5 rfl dX10_sentencesTogether_39 (by decide) rfl (fun ls hl => ?_)
      refine x_iload hx hb hl 5 rfl dX10_sentencesTogether_42 ?_
      refine x_iload hx hb hl 1 rfl dX10_sentencesTogether_44 ?_
      refine x_iadd hx hb dX10_sentencesTogether_46 ?_
      refine x_any (fun x13 rx13 => ?_)
      refine lv_istore (lv' := [(4, .int (xJ x13)), (5, .int (xJ (i5_18 + 1))), (8, .int (xJ x9)), (0, .ref (h0 + 0)), (1, .int (xJ n)), (3, .int (xJ x)), (6, .int (xJ i6_18)), (7, .int (xJ i7_18))]) hx hb dX10_sentencesTogether_47 hl (by decide) rfl (fun ls hl => ?_)
      refine x_iload hx hb hl 6 rfl dX10_sentencesTogether_49 ?_
      refine x_iload hx hb hl 2 rfl dX10_sentencesTogether_51 ?_
      refine x_mmax hx hb hml hl.1 hown hT wq1073 wq594 wq180 wq595 ⟨by decide, Nat.le_of_ble_eq_true rfl, by decide, by decide⟩ ri6_18 rx9 dX10_sentencesTogether_53 ?_
      refine x_nm (fun x14 ex14 => ?_)
      have fx14 : (x14 = i6_18 ∧ x9 ≤ i6_18) ∨ (x14 = x9 ∧ i6_18 ≤ x9) := by rw [ex14]; split <;> omega
      refine lv_istore (lv' := [(6, .int (xJ x14)), (4, .int (xJ x13)), (5, .int (xJ (i5_18 + 1))), (8, .int (xJ x9)), (0, .ref (h0 + 0)), (1, .int (xJ n)), (3, .int (xJ x)), (7, .int (xJ i7_18))]) hx hb dX10_sentencesTogether_56 hl (by decide) rfl (fun ls hl => ?_)
      exact J58 x13 (i5_18 + 1) x14 ls rx13 (by omega) (by omega) (by omega)  (lv_sub hl [4, 5, 6, 1, 2, 0, 7] rfl)
  exact L18 ((n + 1 - 0 : Int).toNat + 1) 0 0 0 0 H locs ls (by decide) (by decide) (by decide) (by decide) (by omega) (by omega) (Nat.lt_succ_self _) hW (lv_sub hl [4, 5, 7, 3, 2, 1, 0] rfl)
set_option maxHeartbeats 4000000 in
set_option maxRecDepth 100000 in
theorem c_X10_feed (l : Launch) (D : va_G) (g : xG) (T : Nat × Nat × Nat) (h0 : Nat) (s0 : xS) (hσ : xRR s0) (v1 : Int) (rv1 : xR v1) (v2 : Int) (rv2 : xR v2) (v3 : Int) (rv3 : xR v3) (v4 : Int) (rv4 : xR v4) (v5 : Int) (rv5 : xR v5) (p0 : IC s0) : Met l yX10_feed (xws yX10_feed cX10_feed 6 (some .int)) { frames := 1, cells := 0, slots := 0, locals := 22 } (xP [.ref (h0 + 0), .int (xJ v1), .int (xJ v2), .int (xJ v3), .int (xJ v4), .int (xJ v5)] D g T h0 s0) (xQi D g h0 (fun r τ => xFr (fun k => k = 1 ∨ k = 2) s0 τ ∧ (((IC τ) ∧ True) ∧ ((s0 1 1 ≤ 240 ∧ τ 1 1 = s0 1 1 + 20 ∧ r = s0 1 1 + 20 ∧ τ 2 = xfeed (s0 2) (s0 1 1) v1 v2 v3 v4 v5) ∨ (240 < s0 1 1 ∧ τ 1 1 = s0 1 1 ∧ r = -1 ∧ τ 2 = s0 2))))) 0 0 (xA h0) := by
  refine x_met hσ (by decide) (Nat.le_of_ble_eq_true rfl) ?_
  intro p e s m args below meth c hx hb hr hml hown hT hlk hnm hE hW ls hl
  have hl : lv_has ls 6 [(0, .ref (h0 + 0)), (1, .int (xJ v1)), (2, .int (xJ v2)), (3, .int (xJ v3)), (4, .int (xJ v4)), (5, .int (xJ v5))] := hl
  obtain ⟨Q, eQ⟩ : ∃ Q, Q = MQ below (xQi D g h0 (fun r τ => xFr (fun k => k = 1 ∨ k = 2) s0 τ ∧ (((IC τ) ∧ True) ∧ ((s0 1 1 ≤ 240 ∧ τ 1 1 = s0 1 1 + 20 ∧ r = s0 1 1 + 20 ∧ τ 2 = xfeed (s0 2) (s0 1 1) v1 v2 v3 v4 v5) ∨ (240 < s0 1 1 ∧ τ 1 1 = s0 1 1 ∧ r = -1 ∧ τ 2 = s0 2))))) args s 0 0 (xA h0) := ⟨_, rfl⟩
  rw [← eQ]
  generalize hHe : ([] : List Loc) = locs at hW ⊢
  obtain ⟨H, eH⟩ : ∃ H, H = s.heap := ⟨_, rfl⟩
  rw [← eH] at hW ⊢
  have hF : xFr (fun k => k = 1 ∨ k = 2) s0 s0 := xFr.rf
  have k1_1 : s0 1 1 = s0 1 1 := rfl
  refine x_aload_n hx hb hl 0 rfl dX10_feed_0 rfl ?_
  refine x_get (j := 0) (v := .ref (h0 + 1)) hx hb hown hT hE hW cls_X10 (Or.inl (by decide)) (so_0 h0 g _) (by decide) rfl wq512 dX10_feed_1 ?_
  refine x_getN (j := 1) (v := .int (xJ (s0 1 1))) hx hb hown hT hE hW cls_X8 (Or.inl (by decide)) (so_1 h0 g _) (by decide) rfl wn198 dX10_feed_4 ?_
  refine x_rd hW (fun x1 ex1 rx1 => ?_)
  have bx1 : 0 ≤ x1 ∧ x1 ≤ 260 := by rw [ex1]; exact IC.t p0
  have fx1 : x1 = s0 1 1 := ex1.trans k1_1
  refine x_sipush hx hb dX10_feed_7 (by decide) ?_
  refine x_icmp_le (tgt := 15) hx hb rx1 (by decide) dX10_feed_10 (by decide) (fun c2 => ?_) (fun c2 => ?_)
  · skip
    refine x_aload_n hx hb hl 0 rfl dX10_feed_15 rfl ?_
    refine x_get (j := 0) (v := .ref (h0 + 1)) hx hb hown hT hE hW cls_X10 (Or.inl (by decide)) (so_0 h0 g _) (by decide) rfl wq512 dX10_feed_16 ?_
    refine x_iload_n hx hb hl 1 rfl dX10_feed_19 rfl ?_
    refine x_gov (x_runVN (As := [.int (xJ v1)]) hx hb hml hown hT hE hW hl.1 (Or.inl (by decide)) (so_1 h0 g _) rfl cf_X8_putNumber wq555 wq0 wn553 (c_X8_putNumber l D g T h0 s0 hW.2.1 v1 rv1 (s0 1 1) (by omega) p0 k1_1) ⟨rfl, rfl, ⟨by decide, by decide⟩, ⟨by decide, by decide⟩⟩ rfl rfl (Nat.le_of_ble_eq_true rfl) dX10_feed_20) hW (fun s4 H locs hp5 hW => ?_)
    obtain ⟨fs4, hp5⟩ := hp5
    have hF6 := hF.call fs4 (fun k h => by omega)
    have ghp5 := hp5.2
    have B20 := ghp5
    refine x_aload_n hx hb hl 0 rfl dX10_feed_23 rfl ?_
    refine x_get (j := 0) (v := .ref (h0 + 1)) hx hb hown hT hE hW cls_X10 (Or.inl (by decide)) (so_0 h0 g _) (by decide) rfl wq512 dX10_feed_24 ?_
    refine x_iload_n hx hb hl 2 rfl dX10_feed_27 rfl ?_
    refine x_gov (x_runVN (As := [.int (xJ v2)]) hx hb hml hown hT hE hW hl.1 (Or.inl (by decide)) (so_1 h0 g _) rfl cf_X8_putNumber wq555 wq0 wn553 (c_X8_putNumber l D g T h0 s4 hW.2.1 v2 rv2 ((s0 1 1) + 4) (by omega) hp5.1.1 hp5.1.2.1) ⟨rfl, rfl, ⟨by decide, by decide⟩, ⟨by decide, by decide⟩⟩ rfl rfl (Nat.le_of_ble_eq_true rfl) dX10_feed_28) hW (fun s8 H locs hp9 hW => ?_)
    obtain ⟨fs8, hp9⟩ := hp9
    have hF10 := hF6.call fs8 (fun k h => by omega)
    have ghp9 := hp9.2
    have B28 := ghp9
    rw [B20] at B28
    refine x_aload_n hx hb hl 0 rfl dX10_feed_31 rfl ?_
    refine x_get (j := 0) (v := .ref (h0 + 1)) hx hb hown hT hE hW cls_X10 (Or.inl (by decide)) (so_0 h0 g _) (by decide) rfl wq512 dX10_feed_32 ?_
    refine x_iload_n hx hb hl 3 rfl dX10_feed_35 rfl ?_
    refine x_gov (x_runVN (As := [.int (xJ v3)]) hx hb hml hown hT hE hW hl.1 (Or.inl (by decide)) (so_1 h0 g _) rfl cf_X8_putNumber wq555 wq0 wn553 (c_X8_putNumber l D g T h0 s8 hW.2.1 v3 rv3 (((s0 1 1) + 4) + 4) (by omega) hp9.1.1 hp9.1.2.1) ⟨rfl, rfl, ⟨by decide, by decide⟩, ⟨by decide, by decide⟩⟩ rfl rfl (Nat.le_of_ble_eq_true rfl) dX10_feed_36) hW (fun s12 H locs hp13 hW => ?_)
    obtain ⟨fs12, hp13⟩ := hp13
    have hF14 := hF10.call fs12 (fun k h => by omega)
    have ghp13 := hp13.2
    have B36 := ghp13
    rw [B28] at B36
    refine x_aload_n hx hb hl 0 rfl dX10_feed_39 rfl ?_
    refine x_get (j := 0) (v := .ref (h0 + 1)) hx hb hown hT hE hW cls_X10 (Or.inl (by decide)) (so_0 h0 g _) (by decide) rfl wq512 dX10_feed_40 ?_
    refine x_iload hx hb hl 4 rfl dX10_feed_43 ?_
    refine x_gov (x_runVN (As := [.int (xJ v4)]) hx hb hml hown hT hE hW hl.1 (Or.inl (by decide)) (so_1 h0 g _) rfl cf_X8_putNumber wq555 wq0 wn553 (c_X8_putNumber l D g T h0 s12 hW.2.1 v4 rv4 ((((s0 1 1) + 4) + 4) + 4) (by omega) hp13.1.1 hp13.1.2.1) ⟨rfl, rfl, ⟨by decide, by decide⟩, ⟨by decide, by decide⟩⟩ rfl rfl (Nat.le_of_ble_eq_true rfl) dX10_feed_45) hW (fun s16 H locs hp17 hW => ?_)
    obtain ⟨fs16, hp17⟩ := hp17
    have hF18 := hF14.call fs16 (fun k h => by omega)
    have ghp17 := hp17.2
    have B45 := ghp17
    rw [B36] at B45
    refine x_aload_n hx hb hl 0 rfl dX10_feed_48 rfl ?_
    refine x_get (j := 0) (v := .ref (h0 + 1)) hx hb hown hT hE hW cls_X10 (Or.inl (by decide)) (so_0 h0 g _) (by decide) rfl wq512 dX10_feed_49 ?_
    refine x_iload hx hb hl 5 rfl dX10_feed_52 ?_
    refine x_gov (x_runVN (As := [.int (xJ v5)]) hx hb hml hown hT hE hW hl.1 (Or.inl (by decide)) (so_1 h0 g _) rfl cf_X8_putNumber wq555 wq0 wn553 (c_X8_putNumber l D g T h0 s16 hW.2.1 v5 rv5 (((((s0 1 1) + 4) + 4) + 4) + 4) (by omega) hp17.1.1 hp17.1.2.1) ⟨rfl, rfl, ⟨by decide, by decide⟩, ⟨by decide, by decide⟩⟩ rfl rfl (Nat.le_of_ble_eq_true rfl) dX10_feed_54) hW (fun s20 H locs hp21 hW => ?_)
    obtain ⟨fs20, hp21⟩ := hp21
    have hF22 := hF18.call fs20 (fun k h => by omega)
    have ghp21 := hp21.2
    have B54 := ghp21
    rw [B45] at B54
    refine x_aload_n hx hb hl 0 rfl dX10_feed_57 rfl ?_
    refine x_get (j := 0) (v := .ref (h0 + 1)) hx hb hown hT hE hW cls_X10 (Or.inl (by decide)) (so_0 h0 g _) (by decide) rfl wq512 dX10_feed_58 ?_
    refine x_getN (j := 1) (v := .int (xJ (s20 1 1))) hx hb hown hT hE hW cls_X8 (Or.inl (by decide)) (so_1 h0 g _) (by decide) rfl wn198 dX10_feed_61 ?_
    refine x_rd hW (fun x23 ex23 rx23 => ?_)
    have bx23 : 0 ≤ x23 ∧ x23 ≤ 260 := by rw [ex23]; exact IC.t hp21.1.1
    have fx23 : x23 = ((((((s0 1 1) + 4) + 4) + 4) + 4) + 4) := ex23.trans hp21.1.2.1
    rw [eQ]
    exact x_iret hx hb hr hlk hW rx23 ⟨hF22, ⟨hp21.1.1, trivial⟩, Or.inl ⟨by omega, by omega, by omega, B54⟩⟩ dX10_feed_64
  refine x_iconst hx hb dX10_feed_13 ?_
  rw [eQ]
  exact x_iret hx hb hr hlk hW (by decide) ⟨hF, ⟨p0, trivial⟩, Or.inr ⟨by omega, by omega, by omega, rfl⟩⟩ dX10_feed_14
set_option maxHeartbeats 4000000 in
set_option maxRecDepth 100000 in
theorem c_X10_law (l : Launch) (D : va_G) (g : xG) (T : Nat × Nat × Nat) (h0 : Nat) (s0 : xS) (hσ : xRR s0) (n : Int) (rn : xR n) (p0 : IC s0) : Met l yX10_law (xws yX10_law cX10_law 3 (some .int)) { frames := 26, cells := 0, slots := 0, locals := 595 } (xP [.ref (h0 + 0), .int (xJ n)] D g T h0 s0) (xQi D g h0 (fun r τ => xFr (fun k => k = 1 ∨ k = 109 ∨ k = 110 ∨ k = 111 ∨ k = 112 ∨ k = 113 ∨ k = 114 ∨ k = 118 ∨ k = 119 ∨ k = 120 ∨ k = 121 ∨ k = 122 ∨ k = 123) s0 τ ∧ (((IC τ) ∧ True) ∧ (((n < 1 ∨ 240 < n ∨ s0 1 1 < n) ∧ τ 1 1 = s0 1 1 ∧ r = -1) ∨ (¬ (n < 1 ∨ 240 < n ∨ s0 1 1 < n) ∧ τ 1 1 = 0))))) 0 0 (xA h0) := by
  refine x_met hσ (by decide) (Nat.le_of_ble_eq_true rfl) ?_
  intro p e s m args below meth c hx hb hr hml hown hT hlk hnm hE hW ls hl
  have hl : lv_has ls 3 [(0, .ref (h0 + 0)), (1, .int (xJ n))] := hl
  obtain ⟨Q, eQ⟩ : ∃ Q, Q = MQ below (xQi D g h0 (fun r τ => xFr (fun k => k = 1 ∨ k = 109 ∨ k = 110 ∨ k = 111 ∨ k = 112 ∨ k = 113 ∨ k = 114 ∨ k = 118 ∨ k = 119 ∨ k = 120 ∨ k = 121 ∨ k = 122 ∨ k = 123) s0 τ ∧ (((IC τ) ∧ True) ∧ (((n < 1 ∨ 240 < n ∨ s0 1 1 < n) ∧ τ 1 1 = s0 1 1 ∧ r = -1) ∨ (¬ (n < 1 ∨ 240 < n ∨ s0 1 1 < n) ∧ τ 1 1 = 0))))) args s 0 0 (xA h0) := ⟨_, rfl⟩
  rw [← eQ]
  generalize hHe : ([] : List Loc) = locs at hW ⊢
  obtain ⟨H, eH⟩ : ∃ H, H = s.heap := ⟨_, rfl⟩
  rw [← eH] at hW ⊢
  have hF : xFr (fun k => k = 1 ∨ k = 109 ∨ k = 110 ∨ k = 111 ∨ k = 112 ∨ k = 113 ∨ k = 114 ∨ k = 118 ∨ k = 119 ∨ k = 120 ∨ k = 121 ∨ k = 122 ∨ k = 123) s0 s0 := xFr.rf
  have k1_1 : s0 1 1 = s0 1 1 := rfl
  refine x_iload_n hx hb hl 1 rfl dX10_law_0 rfl ?_
  refine x_iconst hx hb dX10_law_1 ?_
  refine x_sipush hx hb dX10_law_2 (by decide) ?_
  refine x_goi (x_runS (As := [.int (xJ n), .int (xJ 1), .int (xJ 240)]) hx hb hml hown hT hE hW hl.1 cf_X10_isIn wq562 wq561 (c_X10_isIn l D g T h0 s0 hW.2.1 n rn 1 (by decide) 240 (by decide)) ⟨rfl, rfl, ⟨by decide, by decide⟩, ⟨by decide, by decide⟩⟩ rfl rfl (Nat.le_of_ble_eq_true rfl) dX10_law_5) hW (fun x1 s2 H locs rx1 hp3 hW => ?_)
  obtain ⟨es2, hp3⟩ := hp3
  subst es2
  have ghp3 := hp3
  refine x_if_eq (tgt := 22) hx hb rx1 dX10_law_8 (by decide) (fun c4 => ?_) (fun c4 => ?_)
  · skip
    refine x_iconst hx hb dX10_law_22 ?_
    rw [eQ]
    exact x_iret hx hb hr hlk hW (by decide) ⟨hF, ⟨p0, trivial⟩, by omega⟩ dX10_law_23
  refine x_iload_n hx hb hl 1 rfl dX10_law_11 rfl ?_
  refine x_aload_n hx hb hl 0 rfl dX10_law_12 rfl ?_
  refine x_get (j := 0) (v := .ref (h0 + 1)) hx hb hown hT hE hW cls_X10 (Or.inl (by decide)) (so_0 h0 g _) (by decide) rfl wq512 dX10_law_13 ?_
  refine x_getN (j := 1) (v := .int (xJ (s0 1 1))) hx hb hown hT hE hW cls_X8 (Or.inl (by decide)) (so_1 h0 g _) (by decide) rfl wn198 dX10_law_16 ?_
  refine x_rd hW (fun x5 ex5 rx5 => ?_)
  have bx5 : 0 ≤ x5 ∧ x5 ≤ 260 := by rw [ex5]; exact IC.t p0
  have fx5 : x5 = s0 1 1 := ex5.trans k1_1
  refine x_icmp_le (tgt := 24) hx hb rn rx5 dX10_law_19 (by decide) (fun c6 => ?_) (fun c6 => ?_)
  · skip
    refine x_aload_n hx hb hl 0 rfl dX10_law_24 rfl ?_
    refine x_get (j := 0) (v := .ref (h0 + 1)) hx hb hown hT hE hW cls_X10 (Or.inl (by decide)) (so_0 h0 g _) (by decide) rfl wq512 dX10_law_25 ?_
    refine x_iload_n hx hb hl 1 rfl dX10_law_28 rfl ?_
    refine x_gov (x_runVN (As := [.int (xJ n)]) hx hb hml hown hT hE hW hl.1 (Or.inl (by decide)) (so_1 h0 g _) rfl cf_X8_open wq566 wq1 wn564 (c_X8_open l D g T h0 s0 hW.2.1 n rn p0) ⟨rfl, rfl, ⟨by decide, by decide⟩, ⟨by decide, by decide⟩⟩ rfl rfl (Nat.le_of_ble_eq_true rfl) dX10_law_29) hW (fun s8 H locs hp9 hW => ?_)
    obtain ⟨fs8, hp9⟩ := hp9
    have hF10 := hF.call fs8 (fun k h => by omega)
    have ghp9 := hp9.2
    refine x_aload_n hx hb hl 0 rfl dX10_law_32 rfl ?_
    refine x_get (j := 3) (v := .ref (h0 + 117)) hx hb hown hT hE hW cls_X10 (Or.inl (by decide)) (so_0 h0 g _) (by decide) rfl wq515 dX10_law_33 ?_
    refine x_goi (x_runVN (As := []) hx hb hml hown hT hE hW hl.1 (Or.inl (by decide)) (so_117 h0 g _) rfl cf_X5_readWhole wq635 wq13 wn633 (c_X5_readWhole l D g T h0 s8 hW.2.1 hp9.1.1) ⟨rfl, rfl, ⟨by decide, by decide⟩, ⟨by decide, by decide⟩⟩ rfl rfl (Nat.le_of_ble_eq_true rfl) dX10_law_36) hW (fun x11 s12 H locs rx11 hp13 hW => ?_)
    obtain ⟨fs12, hp13⟩ := hp13
    have hF14 := hF10.call fs12 (fun k h => by omega)
    have ghp13 := hp13.2
    refine lv_istore_n (lv' := [(2, .int (xJ x11)), (0, .ref (h0 + 0)), (1, .int (xJ n))]) hx hb dX10_law_39 rfl hl (by decide) rfl (fun ls hl => ?_)
    refine x_aload_n hx hb hl 1 rfl dX10_law_40 rfl ?_
    refine x_get (j := 0) (v := .ref (h0 + 1)) hx hb hown hT hE hW cls_X10 (Or.inl (by decide)) (so_0 h0 g _) (by decide) rfl wq512 dX10_law_41 ?_
    refine x_gov (x_runVN (As := []) hx hb hml hown hT hE hW hl.1 (Or.inl (by decide)) (so_1 h0 g _) rfl cf_X8_drop wq607 wq7 wn605 (c_X8_drop l D g T h0 s12 hW.2.1 hp13.1.1) ⟨rfl, rfl, ⟨by decide, by decide⟩, ⟨by decide, by decide⟩⟩ rfl rfl (Nat.le_of_ble_eq_true rfl) dX10_law_44) hW (fun s16 H locs hp17 hW => ?_)
    obtain ⟨fs16, hp17⟩ := hp17
    have hF18 := hF14.call fs16 (fun k h => by omega)
    have ghp17 := hp17.2
    refine x_iload_n hx hb hl 0 rfl dX10_law_47 rfl ?_
    refine x_if_ne (tgt := 59) hx hb rx11 dX10_law_48 (by decide) (fun c19 => ?_) (fun c19 => ?_)
    · skip
      refine x_aload_n hx hb hl 1 rfl dX10_law_59 rfl ?_
      refine x_get (j := 2) (v := .ref (h0 + 109)) hx hb hown hT hE hW cls_X10 (Or.inl (by decide)) (so_0 h0 g _) (by decide) rfl wq514 dX10_law_60 ?_
      refine x_aload_n hx hb hl 1 rfl dX10_law_63 rfl ?_
      refine x_get (j := 3) (v := .ref (h0 + 117)) hx hb hown hT hE hW cls_X10 (Or.inl (by decide)) (so_0 h0 g _) (by decide) rfl wq515 dX10_law_64 ?_
      refine x_getN (j := 1) (v := .ref (h0 + 118)) hx hb hown hT hE hW cls_X5 (Or.inl (by decide)) (so_117 h0 g _) (by decide) rfl wn295 dX10_law_67 ?_
      refine x_gov (x_runVN (As := [.ref (h0 + 118)]) hx hb hml hown hT hE hW hl.1 (Or.inl (by decide)) (so_109 h0 g _) rfl cf_X4_copyFrom wq696 wq26 wn694 (c_X4_copyFrom l D g T h0 s16 hW.2.1 hp17.1.1) ⟨rfl, rfl, ⟨by decide, by decide⟩, ⟨by decide, by decide⟩⟩ rfl rfl (Nat.le_of_ble_eq_true rfl) dX10_law_70) hW (fun s21 H locs hp22 hW => ?_)
      obtain ⟨fs21, hp22⟩ := hp22
      have hF23 := hF18.call fs21 (fun k h => by omega)
      have q24 : s21 1 1 = 0 := (congrFun (fs21 _ (by omega)) _).trans hp17.1.2.1
      have ghp22 := hp22.2
      refine x_aload_n hx hb hl 1 rfl dX10_law_73 rfl ?_
      refine x_get (j := 2) (v := .ref (h0 + 109)) hx hb hown hT hE hW cls_X10 (Or.inl (by decide)) (so_0 h0 g _) (by decide) rfl wq514 dX10_law_74 ?_
      refine x_getN (j := 6) (v := .int (xJ (s21 109 6))) hx hb hown hT hE hW cls_X4 (Or.inl (by decide)) (so_109 h0 g _) (by decide) rfl wn263 dX10_law_77 ?_
      refine x_rd hW (fun x25 ex25 rx25 => ?_)
      have bx25 : 0 ≤ x25 ∧ x25 ≤ 16 := by rw [ex25]; exact (IC.l1 hp22.1.1).2
      rw [eQ]
      exact x_iret hx hb hr hlk hW rx25 ⟨hF23, ⟨hp22.1.1, trivial⟩, by omega⟩ dX10_law_80
    refine x_aload_n hx hb hl 1 rfl dX10_law_51 rfl ?_
    refine x_get (j := 0) (v := .ref (h0 + 1)) hx hb hown hT hE hW cls_X10 (Or.inl (by decide)) (so_0 h0 g _) (by decide) rfl wq512 dX10_law_52 ?_
    refine x_getN (j := 4) (v := .int (xJ (s16 1 4))) hx hb hown hT hE hW cls_X8 (Or.inl (by decide)) (so_1 h0 g _) (by decide) rfl wn205 dX10_law_55 ?_
    refine x_rd hW (fun x26 ex26 rx26 => ?_)
    rw [eQ]
    exact x_iret hx hb hr hlk hW rx26 ⟨hF18, ⟨hp17.1.1, trivial⟩, by omega⟩ dX10_law_58
  refine x_iconst hx hb dX10_law_22 ?_
  rw [eQ]
  exact x_iret hx hb hr hlk hW (by decide) ⟨hF, ⟨p0, trivial⟩, by omega⟩ dX10_law_23
set_option maxHeartbeats 4000000 in
set_option maxRecDepth 100000 in
theorem c_X10_judge (l : Launch) (D : va_G) (g : xG) (T : Nat × Nat × Nat) (h0 : Nat) (s0 : xS) (hσ : xRR s0) (j : Int) (rj : xR j) (x : Int) (rx : xR x) (y : Int) (ry : xR y) (p0 : IC s0) : Met l yX10_judge (xws yX10_judge cX10_judge 5 (some .boolean)) { frames := 3, cells := 0, slots := 0, locals := 66 } (xP [.ref (h0 + 0), .int (xJ j), .int (xJ x), .int (xJ y)] D g T h0 s0) (xQi D g h0 (fun r τ => xFr (fun k => k = 137) s0 τ ∧ (((IC τ) ∧ True) ∧ (r = 0 ∨ r = 1)))) 0 0 (xA h0) := by
  refine x_met hσ (by decide) (Nat.le_of_ble_eq_true rfl) ?_
  intro p e s m args below meth c hx hb hr hml hown hT hlk hnm hE hW ls hl
  have hl : lv_has ls 5 [(0, .ref (h0 + 0)), (1, .int (xJ j)), (2, .int (xJ x)), (3, .int (xJ y))] := hl
  obtain ⟨Q, eQ⟩ : ∃ Q, Q = MQ below (xQi D g h0 (fun r τ => xFr (fun k => k = 137) s0 τ ∧ (((IC τ) ∧ True) ∧ (r = 0 ∨ r = 1)))) args s 0 0 (xA h0) := ⟨_, rfl⟩
  rw [← eQ]
  generalize hHe : ([] : List Loc) = locs at hW ⊢
  obtain ⟨H, eH⟩ : ∃ H, H = s.heap := ⟨_, rfl⟩
  rw [← eH] at hW ⊢
  have hF : xFr (fun k => k = 137) s0 s0 := xFr.rf
  have k1_1 : s0 1 1 = s0 1 1 := rfl
  refine x_aload_n hx hb hl 0 rfl dX10_judge_0 rfl ?_
  refine x_get (j := 1) (v := .ref (h0 + 3)) hx hb hown hT hE hW cls_X10 (Or.inl (by decide)) (so_0 h0 g _) (by decide) rfl wq513 dX10_judge_1 ?_
  refine x_iload_n hx hb hl 2 rfl dX10_judge_4 rfl ?_
  refine x_iload_n hx hb hl 3 rfl dX10_judge_5 rfl ?_
  refine x_goi (x_runVN (As := [.int (xJ x), .int (xJ y)]) hx hb hml hown hT hE hW hl.1 (Or.inl (by decide)) (so_3 h0 g _) rfl cf_X6_openSpot wq705 wq27 wn703 (c_X6_openSpot l D g T h0 s0 hW.2.1 x rx y ry p0) ⟨rfl, rfl, ⟨by decide, by decide⟩, ⟨by decide, by decide⟩⟩ rfl rfl (Nat.le_of_ble_eq_true rfl) dX10_judge_6) hW (fun x1 s2 H locs rx1 hp3 hW => ?_)
  obtain ⟨es2, hp3⟩ := hp3
  subst es2
  have ghp3 := hp3
  refine lv_istore (lv' := [(4, .int (xJ x1)), (0, .ref (h0 + 0)), (1, .int (xJ j)), (2, .int (xJ x)), (3, .int (xJ y))]) hx hb dX10_judge_9 hl (by decide) rfl (fun ls hl => ?_)
  refine x_iload_n hx hb hl 2 rfl dX10_judge_11 rfl ?_
  refine x_iconst hx hb dX10_judge_12 ?_
  refine x_iconst hx hb dX10_judge_13 ?_
  refine x_goi (x_runS (As := [.int (xJ j), .int (xJ 0), .int (xJ 1)]) hx hb hml hown hT hE hW hl.1 cf_X10_isIn wq562 wq561 (c_X10_isIn l D g T h0 s0 hW.2.1 j rj 0 (by decide) 1 (by decide)) ⟨rfl, rfl, ⟨by decide, by decide⟩, ⟨by decide, by decide⟩⟩ rfl rfl (Nat.le_of_ble_eq_true rfl) dX10_judge_14) hW (fun x4 s5 H locs rx4 hp6 hW => ?_)
  obtain ⟨es5, hp6⟩ := hp6
  subst es5
  have ghp6 := hp6
  refine x_if_eq (tgt := 42) hx hb rx4 dX10_judge_17 (by decide) (fun c7 => ?_) (fun c7 => ?_)
  · skip
    refine x_iconst hx hb dX10_judge_42 ?_
    rw [eQ]
    exact x_zret hx hb hr hlk hW (by omega) ⟨hF, ⟨p0, trivial⟩, by omega⟩ dX10_judge_43
  refine x_iload hx hb hl 0 rfl dX10_judge_20 ?_
  refine x_iconst hx hb dX10_judge_22 ?_
  refine x_icmp_eq (tgt := 42) hx hb rx1 (by decide) dX10_judge_23 (by decide) (fun c8 => ?_) (fun c8 => ?_)
  · skip
    refine x_iconst hx hb dX10_judge_42 ?_
    rw [eQ]
    exact x_zret hx hb hr hlk hW (by omega) ⟨hF, ⟨p0, trivial⟩, by omega⟩ dX10_judge_43
  refine x_aload_n hx hb hl 1 rfl dX10_judge_26 rfl ?_
  refine x_get (j := 8) (v := .ref (h0 + 136)) hx hb hown hT hE hW cls_X10 (Or.inl (by decide)) (so_0 h0 g _) (by decide) rfl wq520 dX10_judge_27 ?_
  refine x_getN (j := 0) (v := .ref (h0 + 137)) hx hb hown hT hE hW cls_X2 (Or.inl (by decide)) (so_136 h0 g _) (by decide) rfl wn385 dX10_judge_30 ?_
  refine x_iconst hx hb dX10_judge_33 ?_
  refine x_iload_n hx hb hl 2 rfl dX10_judge_34 rfl ?_
  refine x_isub hx hb dX10_judge_35 ?_
  refine x_iald hx hb hE hW (Or.inl (by decide)) (sa_137 h0 g _) (by omega) (by decide) dX10_judge_36 ?_
  refine x_rd hW (fun x9 ex9 rx9 => ?_)
  refine x_iload hx hb hl 0 rfl dX10_judge_37 ?_
  refine x_icmp_ne (tgt := 44) hx hb rx9 rx1 dX10_judge_39 (by decide) (fun c10 => ?_) (fun c10 => ?_)
  · skip
    refine x_aload_n hx hb hl 1 rfl dX10_judge_44 rfl ?_
    refine x_get (j := 8) (v := .ref (h0 + 136)) hx hb hown hT hE hW cls_X10 (Or.inl (by decide)) (so_0 h0 g _) (by decide) rfl wq520 dX10_judge_45 ?_
    refine x_getN (j := 0) (v := .ref (h0 + 137)) hx hb hown hT hE hW cls_X2 (Or.inl (by decide)) (so_136 h0 g _) (by decide) rfl wn385 dX10_judge_48 ?_
    refine x_iload_n hx hb hl 2 rfl dX10_judge_51 rfl ?_
    refine x_iload hx hb hl 0 rfl dX10_judge_52 ?_
    refine x_iast hx hb hE hW (by decide) (fun σ => sa_137 h0 g σ) (by omega) (by decide) rx1 dX10_judge_54 (fun H locs s11 es11 hW => ?_)
    have q12 : IC s11 := by rw [es11]; exact IC_o (by decide) p0
    have q13 : s11 1 1 = s0 1 1 := (show s11 1 1 = s0 1 1 from by rw [es11, xU_k _ _ _ (by omega)]).trans k1_1
    have hF14 := hF.put es11 (by omega)
    refine x_iconst hx hb dX10_judge_55 ?_
    rw [eQ]
    exact x_zret hx hb hr hlk hW (by omega) ⟨hF14, ⟨q12, trivial⟩, by omega⟩ dX10_judge_56
  refine x_iconst hx hb dX10_judge_42 ?_
  rw [eQ]
  exact x_zret hx hb hr hlk hW (by omega) ⟨hF, ⟨p0, trivial⟩, by omega⟩ dX10_judge_43
set_option maxHeartbeats 4000000 in
set_option maxRecDepth 100000 in
theorem c_X10_walk (l : Launch) (D : va_G) (g : xG) (T : Nat × Nat × Nat) (h0 : Nat) (s0 : xS) (hσ : xRR s0) (j : Int) (rj : xR j) (n : Int) (rn : xR n) (hz : 0 ≤ s0 999996 0 ∧ s0 999996 0 ≤ 900000) (p0 : IC s0) : Met l yX10_walk (xws yX10_walk cX10_walk 4 (some .int)) { frames := 8, cells := 1, slots := 60, locals := 188 } (xP [.ref (h0 + 0), .int (xJ j), .int (xJ n)] D g T h0 s0) (xQi D g h0 (fun r τ => xFr (fun k => 310 ≤ k ∨ k = 1 ∨ k = 126 ∨ k = 127 ∨ k = 138 ∨ k = 141) s0 τ ∧ (((IC τ) ∧ True) ∧ ((τ 999996 0 = s0 999996 0 ∨ τ 999996 0 = s0 999996 0 + 1) ∧ (((j < 0 ∨ 1 < j ∨ n < 1 ∨ 80 < n ∨ s0 1 1 < n) ∧ τ 1 1 = s0 1 1 ∧ r = -1) ∨ (¬ (j < 0 ∨ 1 < j ∨ n < 1 ∨ 80 < n ∨ s0 1 1 < n) ∧ τ 1 1 = 0)))))) 1 60 (xA h0) := by
  refine x_met hσ (by decide) (Nat.le_of_ble_eq_true rfl) ?_
  intro p e s m args below meth c hx hb hr hml hown hT hlk hnm hE hW ls hl
  have hl : lv_has ls 4 [(0, .ref (h0 + 0)), (1, .int (xJ j)), (2, .int (xJ n))] := hl
  obtain ⟨Q, eQ⟩ : ∃ Q, Q = MQ below (xQi D g h0 (fun r τ => xFr (fun k => 310 ≤ k ∨ k = 1 ∨ k = 126 ∨ k = 127 ∨ k = 138 ∨ k = 141) s0 τ ∧ (((IC τ) ∧ True) ∧ ((τ 999996 0 = s0 999996 0 ∨ τ 999996 0 = s0 999996 0 + 1) ∧ (((j < 0 ∨ 1 < j ∨ n < 1 ∨ 80 < n ∨ s0 1 1 < n) ∧ τ 1 1 = s0 1 1 ∧ r = -1) ∨ (¬ (j < 0 ∨ 1 < j ∨ n < 1 ∨ 80 < n ∨ s0 1 1 < n) ∧ τ 1 1 = 0)))))) args s 1 60 (xA h0) := ⟨_, rfl⟩
  rw [← eQ]
  generalize hHe : ([] : List Loc) = locs at hW ⊢
  obtain ⟨H, eH⟩ : ∃ H, H = s.heap := ⟨_, rfl⟩
  rw [← eH] at hW ⊢
  have hF : xFr (fun k => 310 ≤ k ∨ k = 1 ∨ k = 126 ∨ k = 127 ∨ k = 138 ∨ k = 141) s0 s0 := xFr.rf
  have k1_1 : s0 1 1 = s0 1 1 := rfl
  have k999996_0 : s0 999996 0 = s0 999996 0 := rfl
  refine x_iload_n hx hb hl 1 rfl dX10_walk_0 rfl ?_
  refine x_iconst hx hb dX10_walk_1 ?_
  refine x_iconst hx hb dX10_walk_2 ?_
  refine x_goi (x_runS (As := [.int (xJ j), .int (xJ 0), .int (xJ 1)]) hx hb hml hown hT hE hW hl.1 cf_X10_isIn wq562 wq561 (c_X10_isIn l D g T h0 s0 hW.2.1 j rj 0 (by decide) 1 (by decide)) ⟨rfl, rfl, ⟨by decide, by decide⟩, ⟨by decide, by decide⟩⟩ rfl rfl (Nat.le_of_ble_eq_true rfl) dX10_walk_3) hW (fun x1 s2 H locs rx1 hp3 hW => ?_)
  obtain ⟨es2, hp3⟩ := hp3
  subst es2
  have ghp3 := hp3
  refine x_if_eq (tgt := 30) hx hb rx1 dX10_walk_6 (by decide) (fun c4 => ?_) (fun c4 => ?_)
  · skip
    refine x_iconst hx hb dX10_walk_30 ?_
    refine W.widen (k := 1) (n := 60) (Nat.le_of_ble_eq_true rfl) (Nat.le_of_ble_eq_true rfl) ?_
    rw [eQ]
    exact x_iret hx hb hr hlk hW (by decide) ⟨hF, ⟨p0, trivial⟩, by omega⟩ dX10_walk_31
  refine x_iload_n hx hb hl 2 rfl dX10_walk_9 rfl ?_
  refine x_iconst hx hb dX10_walk_10 ?_
  refine x_bipush hx hb dX10_walk_11 (by decide) ?_
  refine x_goi (x_runS (As := [.int (xJ n), .int (xJ 1), .int (xJ 80)]) hx hb hml hown hT hE hW hl.1 cf_X10_isIn wq562 wq561 (c_X10_isIn l D g T h0 s0 hW.2.1 n rn 1 (by decide) 80 (by decide)) ⟨rfl, rfl, ⟨by decide, by decide⟩, ⟨by decide, by decide⟩⟩ rfl rfl (Nat.le_of_ble_eq_true rfl) dX10_walk_13) hW (fun x5 s6 H locs rx5 hp7 hW => ?_)
  obtain ⟨es6, hp7⟩ := hp7
  subst es6
  have ghp7 := hp7
  refine x_if_eq (tgt := 30) hx hb rx5 dX10_walk_16 (by decide) (fun c8 => ?_) (fun c8 => ?_)
  · skip
    refine x_iconst hx hb dX10_walk_30 ?_
    refine W.widen (k := 1) (n := 60) (Nat.le_of_ble_eq_true rfl) (Nat.le_of_ble_eq_true rfl) ?_
    rw [eQ]
    exact x_iret hx hb hr hlk hW (by decide) ⟨hF, ⟨p0, trivial⟩, by omega⟩ dX10_walk_31
  refine x_iload_n hx hb hl 2 rfl dX10_walk_19 rfl ?_
  refine x_aload_n hx hb hl 0 rfl dX10_walk_20 rfl ?_
  refine x_get (j := 0) (v := .ref (h0 + 1)) hx hb hown hT hE hW cls_X10 (Or.inl (by decide)) (so_0 h0 g _) (by decide) rfl wq512 dX10_walk_21 ?_
  refine x_getN (j := 1) (v := .int (xJ (s0 1 1))) hx hb hown hT hE hW cls_X8 (Or.inl (by decide)) (so_1 h0 g _) (by decide) rfl wn198 dX10_walk_24 ?_
  refine x_rd hW (fun x9 ex9 rx9 => ?_)
  have bx9 : 0 ≤ x9 ∧ x9 ≤ 260 := by rw [ex9]; exact IC.t p0
  have fx9 : x9 = s0 1 1 := ex9.trans k1_1
  refine x_icmp_le (tgt := 32) hx hb rn rx9 dX10_walk_27 (by decide) (fun c10 => ?_) (fun c10 => ?_)
  · skip
    refine x_aload_n hx hb hl 0 rfl dX10_walk_32 rfl ?_
    refine x_get (j := 0) (v := .ref (h0 + 1)) hx hb hown hT hE hW cls_X10 (Or.inl (by decide)) (so_0 h0 g _) (by decide) rfl wq512 dX10_walk_33 ?_
    refine x_iload_n hx hb hl 2 rfl dX10_walk_36 rfl ?_
    refine x_gov (x_runVN (As := [.int (xJ n)]) hx hb hml hown hT hE hW hl.1 (Or.inl (by decide)) (so_1 h0 g _) rfl cf_X8_open wq566 wq1 wn564 (c_X8_open l D g T h0 s0 hW.2.1 n rn p0) ⟨rfl, rfl, ⟨by decide, by decide⟩, ⟨by decide, by decide⟩⟩ rfl rfl (Nat.le_of_ble_eq_true rfl) dX10_walk_37) hW (fun s12 H locs hp13 hW => ?_)
    obtain ⟨fs12, hp13⟩ := hp13
    have hF14 := hF.call fs12 (fun k h => by omega)
    have q15 : s12 999996 0 = s0 999996 0 := (congrFun (fs12 _ (by omega)) _).trans k999996_0
    have ghp13 := hp13.2
    refine x_aload_n hx hb hl 0 rfl dX10_walk_40 rfl ?_
    refine x_get (j := 4) (v := .ref (h0 + 126)) hx hb hown hT hE hW cls_X10 (Or.inl (by decide)) (so_0 h0 g _) (by decide) rfl wq516 dX10_walk_41 ?_
    refine x_goi (x_runVN (As := []) hx hb hml hown hT hE hW hl.1 (Or.inl (by decide)) (so_126 h0 g _) rfl cf_X9_readWhole wq717 wq28 wn715 (c_X9_readWhole l D g T h0 s12 hW.2.1 hp13.1.1) ⟨rfl, rfl, ⟨by decide, by decide⟩, ⟨by decide, by decide⟩⟩ rfl rfl (Nat.le_of_ble_eq_true rfl) dX10_walk_44) hW (fun x16 s17 H locs rx16 hp18 hW => ?_)
    obtain ⟨fs17, hp18⟩ := hp18
    have hF19 := hF14.call fs17 (fun k h => by omega)
    have q20 : s17 999996 0 = s0 999996 0 := (congrFun (fs17 _ (by omega)) _).trans q15
    have ghp18 := hp18.2
    refine lv_istore_n (lv' := [(3, .int (xJ x16)), (0, .ref (h0 + 0)), (1, .int (xJ j)), (2, .int (xJ n))]) hx hb dX10_walk_47 rfl hl (by decide) rfl (fun ls hl => ?_)
    refine x_aload_n hx hb hl 1 rfl dX10_walk_48 rfl ?_
    refine x_get (j := 0) (v := .ref (h0 + 1)) hx hb hown hT hE hW cls_X10 (Or.inl (by decide)) (so_0 h0 g _) (by decide) rfl wq512 dX10_walk_49 ?_
    refine x_gov (x_runVN (As := []) hx hb hml hown hT hE hW hl.1 (Or.inl (by decide)) (so_1 h0 g _) rfl cf_X8_drop wq607 wq7 wn605 (c_X8_drop l D g T h0 s17 hW.2.1 hp18.1.1) ⟨rfl, rfl, ⟨by decide, by decide⟩, ⟨by decide, by decide⟩⟩ rfl rfl (Nat.le_of_ble_eq_true rfl) dX10_walk_52) hW (fun s22 H locs hp23 hW => ?_)
    obtain ⟨fs22, hp23⟩ := hp23
    have hF24 := hF19.call fs22 (fun k h => by omega)
    have q25 : s22 999996 0 = s0 999996 0 := (congrFun (fs22 _ (by omega)) _).trans q20
    have ghp23 := hp23.2
    refine x_iload_n hx hb hl 0 rfl dX10_walk_55 rfl ?_
    refine x_if_ne (tgt := 67) hx hb rx16 dX10_walk_56 (by decide) (fun c26 => ?_) (fun c26 => ?_)
    · skip
      refine x_aload_n hx hb hl 1 rfl dX10_walk_67 rfl ?_
      refine x_get (j := 8) (v := .ref (h0 + 136)) hx hb hown hT hE hW cls_X10 (Or.inl (by decide)) (so_0 h0 g _) (by decide) rfl wq520 dX10_walk_68 ?_
      refine x_iload_n hx hb hl 2 rfl dX10_walk_71 rfl ?_
      refine x_aload_n hx hb hl 1 rfl dX10_walk_72 rfl ?_
      refine x_get (j := 4) (v := .ref (h0 + 126)) hx hb hown hT hE hW cls_X10 (Or.inl (by decide)) (so_0 h0 g _) (by decide) rfl wq516 dX10_walk_73 ?_
      refine x_gor (x_runVN (As := []) hx hb hml hown hT hE hW hl.1 (Or.inl (by decide)) (so_126 h0 g _) rfl cf_X9_copyOfSteps wq739 wq32 wn737 (c_X9_copyOfSteps l D g T h0 s22 hW.2.1 (by omega) hp23.1.1) ⟨rfl, rfl, ⟨by decide, by decide⟩, ⟨by decide, by decide⟩⟩ rfl rfl (Nat.le_of_ble_eq_true rfl) dX10_walk_76) hW (fun x27 s28 H locs hp29 hW => ?_)
      obtain ⟨fs28, hp29⟩ := hp29
      have hF30 := hF24.call fs28 (fun k h => by omega)
      have q31 : s28 1 1 = 0 := (congrFun (fs28 _ (by omega)) _).trans hp23.1.2.1
      have ghp29 := hp29.2
      refine x_gov (x_runVN (As := [.int (xJ j), .ref (h0 + x27)]) hx hb hml hown hT hE hW hl.1 (Or.inl (by decide)) (so_136 h0 g _) rfl cf_X2_setWalk wq745 wq33 wn743 (c_X2_setWalk l D g T h0 s28 hW.2.1 136 xd_136 j rj ((x27 : Nat) : Int) (by omega) (ghp29.2.1) hp29.1.1) ⟨rfl, rfl, ⟨by decide, by decide⟩, ⟨by decide, by decide⟩⟩ rfl rfl (Nat.le_of_ble_eq_true rfl) dX10_walk_79) hW (fun s33 H locs hp34 hW => ?_)
      obtain ⟨fs33, hp34⟩ := hp34
      have hF35 := hF30.call fs33 (fun k h => by omega)
      have q36 : s33 1 1 = 0 := (congrFun (fs33 _ (by omega)) _).trans q31
      have q37 : s33 999996 0 = s22 999996 0 + 1 := (congrFun (fs33 _ (by omega)) _).trans ghp29.2.2.1
      have ghp34 := hp34.2
      refine x_aload_n hx hb hl 1 rfl dX10_walk_82 rfl ?_
      refine x_get (j := 4) (v := .ref (h0 + 126)) hx hb hown hT hE hW cls_X10 (Or.inl (by decide)) (so_0 h0 g _) (by decide) rfl wq516 dX10_walk_83 ?_
      refine x_getN (j := 2) (v := .int (xJ (s33 126 2))) hx hb hown hT hE hW cls_X9 (Or.inl (by decide)) (so_126 h0 g _) (by decide) rfl wn310 dX10_walk_86 ?_
      refine x_rd hW (fun x38 ex38 rx38 => ?_)
      have bx38 : 0 ≤ x38 ∧ x38 ≤ 60 := by rw [ex38]; exact IC.y hp34.1.1
      refine W.widen (k := 1) (n := 60) (Nat.le_of_ble_eq_true rfl) (Nat.le_of_ble_eq_true rfl) ?_
      rw [eQ]
      exact x_iret hx hb hr hlk hW rx38 ⟨hF35, ⟨hp34.1.1, trivial⟩, by omega⟩ dX10_walk_89
    refine x_aload_n hx hb hl 1 rfl dX10_walk_59 rfl ?_
    refine x_get (j := 0) (v := .ref (h0 + 1)) hx hb hown hT hE hW cls_X10 (Or.inl (by decide)) (so_0 h0 g _) (by decide) rfl wq512 dX10_walk_60 ?_
    refine x_getN (j := 4) (v := .int (xJ (s22 1 4))) hx hb hown hT hE hW cls_X8 (Or.inl (by decide)) (so_1 h0 g _) (by decide) rfl wn205 dX10_walk_63 ?_
    refine x_rd hW (fun x39 ex39 rx39 => ?_)
    refine W.widen (k := 1) (n := 60) (Nat.le_of_ble_eq_true rfl) (Nat.le_of_ble_eq_true rfl) ?_
    rw [eQ]
    exact x_iret hx hb hr hlk hW rx39 ⟨hF24, ⟨hp23.1.1, trivial⟩, by omega⟩ dX10_walk_66
  refine x_iconst hx hb dX10_walk_30 ?_
  refine W.widen (k := 1) (n := 60) (Nat.le_of_ble_eq_true rfl) (Nat.le_of_ble_eq_true rfl) ?_
  rw [eQ]
  exact x_iret hx hb hr hlk hW (by decide) ⟨hF, ⟨p0, trivial⟩, by omega⟩ dX10_walk_31
set_option maxHeartbeats 4000000 in
set_option maxRecDepth 100000 in
theorem c_X10_tried (l : Launch) (D : va_G) (g : xG) (T : Nat × Nat × Nat) (h0 : Nat) (s0 : xS) (hσ : xRR s0) (n : Int) (rn : xR n) (x : Int) (rx : xR x) (p0 : IC s0) : Met l yX10_tried (xws yX10_tried cX10_tried 5 (some .int)) { frames := 6, cells := 0, slots := 0, locals := 155 } (xP [.ref (h0 + 0), .int (xJ n), .int (xJ x)] D g T h0 s0) (xQi D g h0 (fun r τ => xFr (fun k => (7 ≤ k ∧ k < 107) ∨ k = 107 ∨ k = 115 ∨ k = 116 ∨ k = 130 ∨ k = 131 ∨ k = 132 ∨ k = 133 ∨ k = 134 ∨ k = 135 ∨ k = 158 ∨ k = 159 ∨ k = 160 ∨ k = 163 ∨ k = 164 ∨ k = 165 ∨ k = 166 ∨ k = 167) s0 τ ∧ (((IC τ) ∧ True) ∧ (True)))) 0 0 (xA h0) := by
  refine x_met hσ (by decide) (Nat.le_of_ble_eq_true rfl) ?_
  intro p e s m args below meth c hx hb hr hml hown hT hlk hnm hE hW ls hl
  have hl : lv_has ls 5 [(0, .ref (h0 + 0)), (1, .int (xJ n)), (2, .int (xJ x))] := hl
  obtain ⟨Q, eQ⟩ : ∃ Q, Q = MQ below (xQi D g h0 (fun r τ => xFr (fun k => (7 ≤ k ∧ k < 107) ∨ k = 107 ∨ k = 115 ∨ k = 116 ∨ k = 130 ∨ k = 131 ∨ k = 132 ∨ k = 133 ∨ k = 134 ∨ k = 135 ∨ k = 158 ∨ k = 159 ∨ k = 160 ∨ k = 163 ∨ k = 164 ∨ k = 165 ∨ k = 166 ∨ k = 167) s0 τ ∧ (((IC τ) ∧ True) ∧ (True)))) args s 0 0 (xA h0) := ⟨_, rfl⟩
  rw [← eQ]
  generalize hHe : ([] : List Loc) = locs at hW ⊢
  obtain ⟨H, eH⟩ : ∃ H, H = s.heap := ⟨_, rfl⟩
  rw [← eH] at hW ⊢
  have hF : xFr (fun k => (7 ≤ k ∧ k < 107) ∨ k = 107 ∨ k = 115 ∨ k = 116 ∨ k = 130 ∨ k = 131 ∨ k = 132 ∨ k = 133 ∨ k = 134 ∨ k = 135 ∨ k = 158 ∨ k = 159 ∨ k = 160 ∨ k = 163 ∨ k = 164 ∨ k = 165 ∨ k = 166 ∨ k = 167) s0 s0 := xFr.rf
  have k1_1 : s0 1 1 = s0 1 1 := rfl
  refine x_iload_n hx hb hl 1 rfl dX10_tried_0 rfl ?_
  refine x_iconst hx hb dX10_tried_1 ?_
  refine x_bipush hx hb dX10_tried_2 (by decide) ?_
  refine x_goi (x_runS (As := [.int (xJ n), .int (xJ 1), .int (xJ 120)]) hx hb hml hown hT hE hW hl.1 cf_X10_isIn wq562 wq561 (c_X10_isIn l D g T h0 s0 hW.2.1 n rn 1 (by decide) 120 (by decide)) ⟨rfl, rfl, ⟨by decide, by decide⟩, ⟨by decide, by decide⟩⟩ rfl rfl (Nat.le_of_ble_eq_true rfl) dX10_tried_4) hW (fun x1 s2 H locs rx1 hp3 hW => ?_)
  obtain ⟨es2, hp3⟩ := hp3
  subst es2
  have ghp3 := hp3
  refine x_if_eq (tgt := 18) hx hb rx1 dX10_tried_7 (by decide) (fun c4 => ?_) (fun c4 => ?_)
  · skip
    refine x_iconst hx hb dX10_tried_18 ?_
    rw [eQ]
    exact x_iret hx hb hr hlk hW (by decide) ⟨hF, ⟨p0, trivial⟩, trivial⟩ dX10_tried_19
  refine x_aload_n hx hb hl 0 rfl dX10_tried_10 rfl ?_
  refine x_iload_n hx hb hl 2 rfl dX10_tried_11 rfl ?_
  refine x_goi (x_runV (As := [.int (xJ x)]) hx hb hml hown hT hE hW hl.1 (Or.inl (by decide)) (so_0 h0 g _) rfl cf_X10_canBeTried wq908 wq62 wq906 (c_X10_canBeTried l D g T h0 s0 hW.2.1 x rx p0) ⟨rfl, rfl, ⟨by decide, by decide⟩, ⟨by decide, by decide⟩⟩ rfl rfl (Nat.le_of_ble_eq_true rfl) dX10_tried_12) hW (fun x5 s6 H locs rx5 hp7 hW => ?_)
  obtain ⟨es6, hp7⟩ := hp7
  subst es6
  have ghp7 := hp7
  refine x_if_ne (tgt := 20) hx hb rx5 dX10_tried_15 (by decide) (fun c8 => ?_) (fun c8 => ?_)
  · skip
    refine x_aload_n hx hb hl 0 rfl dX10_tried_20 rfl ?_
    refine x_get (j := 6) (v := .ref (h0 + 156)) hx hb hown hT hE hW cls_X10 (Or.inl (by decide)) (so_0 h0 g _) (by decide) rfl wq518 dX10_tried_21 ?_
    refine x_gor (x_runVN (As := []) hx hb hml hown hT hE hW hl.1 (Or.inl (by decide)) (so_156 h0 g _) rfl cf_X3_copyOfNow wq914 wq63 wn912 (c_X3_copyOfNow l D g T h0 s0 hW.2.1 p0) ⟨rfl, rfl, ⟨by decide, by decide⟩, ⟨by decide, by decide⟩⟩ rfl rfl (Nat.le_of_ble_eq_true rfl) dX10_tried_24) hW (fun x9 s10 H locs hp11 hW => ?_)
    obtain ⟨ex9, hp11⟩ := hp11
    subst ex9
    obtain ⟨fs10, hp11⟩ := hp11
    have hF12 := hF.call fs10 (fun k h => by omega)
    have q13 : s10 1 1 = s0 1 1 := (congrFun (fs10 _ (by omega)) _).trans k1_1
    have ghp11 := hp11.2
    refine lv_astore_n (lv' := [(3, .ref (h0 + 158)), (0, .ref (h0 + 0)), (1, .int (xJ n)), (2, .int (xJ x))]) hx hb dX10_tried_27 rfl hl (by decide) rfl (fun ls hl => ?_)
    refine x_aload_n hx hb hl 1 rfl dX10_tried_28 rfl ?_
    refine x_get (j := 5) (v := .ref (h0 + 128)) hx hb hown hT hE hW cls_X10 (Or.inl (by decide)) (so_0 h0 g _) (by decide) rfl wq517 dX10_tried_29 ?_
    refine x_aload_n hx hb hl 0 rfl dX10_tried_32 rfl ?_
    refine x_iload_n hx hb hl 2 rfl dX10_tried_33 rfl ?_
    refine x_iconst hx hb dX10_tried_34 ?_
    refine x_goi (x_runVN (As := [.ref (h0 + 158), .int (xJ n), .int (xJ (-1))]) hx hb hml hown hT hE hW hl.1 (Or.inl (by decide)) (so_128 h0 g _) rfl cf_X0_goOn wq761 wq34 wn759 (c_X0_goOn l D g T h0 s10 hW.2.1 158 xd_158 n rn (-1) (by decide) hp11.1.1) ⟨rfl, rfl, ⟨by decide, by decide⟩, ⟨by decide, by decide⟩⟩ rfl rfl (Nat.le_of_ble_eq_true rfl) dX10_tried_35) hW (fun x14 s15 H locs rx14 hp16 hW => ?_)
    obtain ⟨fs15, hp16⟩ := hp16
    have hF17 := hF12.call fs15 (fun k h => by omega)
    have q18 : s15 1 1 = s0 1 1 := (congrFun (fs15 _ (by omega)) _).trans q13
    have ghp16 := hp16.2
    refine lv_istore (lv' := [(4, .int (xJ x14)), (3, .ref (h0 + 158)), (0, .ref (h0 + 0)), (1, .int (xJ n)), (2, .int (xJ x))]) hx hb dX10_tried_38 hl (by decide) rfl (fun ls hl => ?_)
    refine x_iload_n hx hb hl 4 rfl dX10_tried_40 rfl ?_
    rcases (show (x < 0 ∨ 5 < x) ∨ x = 0 ∨ x = 1 ∨ x = 2 ∨ x = 3 ∨ x = 4 ∨ x = 5 from by omega) with c19 | c19 | c19 | c19 | c19 | c19 | c19
    · refine x_tabOut (tgt := 108) hx hb rx dX10_tried_41 c19 (by decide) ?_
      refine x_iload_n hx hb hl 4 rfl dX10_tried_108 rfl ?_
      refine x_bipush hx hb dX10_tried_109 (by decide) ?_
      refine x_bipush hx hb dX10_tried_111 (by decide) ?_
      refine x_goi (x_runS (As := [.int (xJ x), .int (xJ 10), .int (xJ 19)]) hx hb hml hown hT hE hW hl.1 cf_X10_isIn wq562 wq561 (c_X10_isIn l D g T h0 s15 hW.2.1 x rx 10 (by decide) 19 (by decide)) ⟨rfl, rfl, ⟨by decide, by decide⟩, ⟨by decide, by decide⟩⟩ rfl rfl (Nat.le_of_ble_eq_true rfl) dX10_tried_113) hW (fun x20 s21 H locs rx20 hp22 hW => ?_)
      obtain ⟨es21, hp22⟩ := hp22
      subst es21
      have ghp22 := hp22
      refine x_if_eq (tgt := 129) hx hb rx20 dX10_tried_116 (by decide) (fun c23 => ?_) (fun c23 => ?_)
      · skip
        refine x_iload_n hx hb hl 4 rfl dX10_tried_129 rfl ?_
        refine x_bipush hx hb dX10_tried_130 (by decide) ?_
        refine x_bipush hx hb dX10_tried_132 (by decide) ?_
        refine x_goi (x_runS (As := [.int (xJ x), .int (xJ 20), .int (xJ 29)]) hx hb hml hown hT hE hW hl.1 cf_X10_isIn wq562 wq561 (c_X10_isIn l D g T h0 s15 hW.2.1 x rx 20 (by decide) 29 (by decide)) ⟨rfl, rfl, ⟨by decide, by decide⟩, ⟨by decide, by decide⟩⟩ rfl rfl (Nat.le_of_ble_eq_true rfl) dX10_tried_134) hW (fun x24 s25 H locs rx24 hp26 hW => ?_)
        obtain ⟨es25, hp26⟩ := hp26
        subst es25
        have ghp26 := hp26
        refine x_if_eq (tgt := 150) hx hb rx24 dX10_tried_137 (by decide) (fun c27 => ?_) (fun c27 => ?_)
        · skip
          refine x_iload_n hx hb hl 4 rfl dX10_tried_150 rfl ?_
          refine x_bipush hx hb dX10_tried_151 (by decide) ?_
          refine x_bipush hx hb dX10_tried_153 (by decide) ?_
          refine x_goi (x_runS (As := [.int (xJ x), .int (xJ 30), .int (xJ 31)]) hx hb hml hown hT hE hW hl.1 cf_X10_isIn wq562 wq561 (c_X10_isIn l D g T h0 s15 hW.2.1 x rx 30 (by decide) 31 (by decide)) ⟨rfl, rfl, ⟨by decide, by decide⟩, ⟨by decide, by decide⟩⟩ rfl rfl (Nat.le_of_ble_eq_true rfl) dX10_tried_155) hW (fun x28 s29 H locs rx28 hp30 hW => ?_)
          obtain ⟨es29, hp30⟩ := hp30
          subst es29
          have ghp30 := hp30
          refine x_if_eq (tgt := 173) hx hb rx28 dX10_tried_158 (by decide) (fun c31 => ?_) (fun c31 => ?_)
          · skip
            refine x_iconst hx hb dX10_tried_173 ?_
            rw [eQ]
            exact x_iret hx hb hr hlk hW (by decide) ⟨hF17, ⟨hp16.1.1, trivial⟩, trivial⟩ dX10_tried_174
          refine x_aload_n hx hb hl 1 rfl dX10_tried_161 rfl ?_
          refine x_getN (j := 0) (v := .ref (h0 + 159)) hx hb hown hT hE hW cls_X2 (Or.inl (by decide)) (so_158 h0 g _) (by decide) rfl wn385 dX10_tried_162 ?_
          refine x_iload_n hx hb hl 4 rfl dX10_tried_165 rfl ?_
          refine x_bipush hx hb dX10_tried_166 (by decide) ?_
          refine x_isub hx hb dX10_tried_168 ?_
          refine x_iald hx hb hE hW (Or.inl (by decide)) (sa_159 h0 g _) (by omega) (by decide) dX10_tried_169 ?_
          refine x_rd hW (fun x32 ex32 rx32 => ?_)
          refine lv_goto (tgt := 174) hx hb dX10_tried_170 (by decide) ?_
          rw [eQ]
          exact x_iret hx hb hr hlk hW rx32 ⟨hF17, ⟨hp16.1.1, trivial⟩, trivial⟩ dX10_tried_174
        refine x_aload_n hx hb hl 1 rfl dX10_tried_140 rfl ?_
        refine x_getN (j := 4) (v := .ref (h0 + 165)) hx hb hown hT hE hW cls_X2 (Or.inl (by decide)) (so_158 h0 g _) (by decide) rfl wn394 dX10_tried_141 ?_
        refine x_iload_n hx hb hl 4 rfl dX10_tried_144 rfl ?_
        refine x_bipush hx hb dX10_tried_145 (by decide) ?_
        refine x_isub hx hb dX10_tried_147 ?_
        refine x_iald hx hb hE hW (Or.inl (by decide)) (sa_165 h0 g _) (by omega) (by decide) dX10_tried_148 ?_
        refine x_rd hW (fun x33 ex33 rx33 => ?_)
        rw [eQ]
        exact x_iret hx hb hr hlk hW rx33 ⟨hF17, ⟨hp16.1.1, trivial⟩, trivial⟩ dX10_tried_149
      refine x_aload_n hx hb hl 1 rfl dX10_tried_119 rfl ?_
      refine x_getN (j := 3) (v := .ref (h0 + 164)) hx hb hown hT hE hW cls_X2 (Or.inl (by decide)) (so_158 h0 g _) (by decide) rfl wn391 dX10_tried_120 ?_
      refine x_iload_n hx hb hl 4 rfl dX10_tried_123 rfl ?_
      refine x_bipush hx hb dX10_tried_124 (by decide) ?_
      refine x_isub hx hb dX10_tried_126 ?_
      refine x_iald hx hb hE hW (Or.inl (by decide)) (sa_164 h0 g _) (by omega) (by decide) dX10_tried_127 ?_
      refine x_rd hW (fun x34 ex34 rx34 => ?_)
      rw [eQ]
      exact x_iret hx hb hr hlk hW rx34 ⟨hF17, ⟨hp16.1.1, trivial⟩, trivial⟩ dX10_tried_128
    · refine x_tabIn (v := 0) (tgt := 80) hx hb rx c19 dX10_tried_41 (by decide) rfl (by decide) ?_
      refine x_iload hx hb hl 0 rfl dX10_tried_80 ?_
      rw [eQ]
      exact x_iret hx hb hr hlk hW rx14 ⟨hF17, ⟨hp16.1.1, trivial⟩, trivial⟩ dX10_tried_82
    · refine x_tabIn (v := 1) (tgt := 83) hx hb rx c19 dX10_tried_41 (by decide) rfl (by decide) ?_
      refine x_aload_n hx hb hl 1 rfl dX10_tried_83 rfl ?_
      refine x_getN (j := 9) (v := .int (xJ (s15 158 9))) hx hb hown hT hE hW cls_X2 (Or.inl (by decide)) (so_158 h0 g _) (by decide) rfl wn407 dX10_tried_84 ?_
      refine x_rd hW (fun x35 ex35 rx35 => ?_)
      rw [eQ]
      exact x_iret hx hb hr hlk hW rx35 ⟨hF17, ⟨hp16.1.1, trivial⟩, trivial⟩ dX10_tried_87
    · refine x_tabIn (v := 2) (tgt := 88) hx hb rx c19 dX10_tried_41 (by decide) rfl (by decide) ?_
      refine x_aload_n hx hb hl 1 rfl dX10_tried_88 rfl ?_
      refine x_goi (x_runVN (As := []) hx hb hml hown hT hE hW hl.1 (Or.inl (by decide)) (so_158 h0 g _) rfl cf_X2_howManyDrowned wq926 wq66 wn924 (c_X2_howManyDrowned l D g T h0 s15 hW.2.1 158 xd_158 hp16.1.1) ⟨rfl, rfl, ⟨by decide, by decide⟩, ⟨by decide, by decide⟩⟩ rfl rfl (Nat.le_of_ble_eq_true rfl) dX10_tried_89) hW (fun x36 s37 H locs rx36 hp38 hW => ?_)
      obtain ⟨es37, hp38⟩ := hp38
      subst es37
      have ghp38 := hp38
      rw [eQ]
      exact x_iret hx hb hr hlk hW rx36 ⟨hF17, ⟨hp16.1.1, trivial⟩, trivial⟩ dX10_tried_92
    · refine x_tabIn (v := 3) (tgt := 93) hx hb rx c19 dX10_tried_41 (by decide) rfl (by decide) ?_
      refine x_aload_n hx hb hl 1 rfl dX10_tried_93 rfl ?_
      refine x_getN (j := 10) (v := .int (xJ (s15 158 10))) hx hb hown hT hE hW cls_X2 (Or.inl (by decide)) (so_158 h0 g _) (by decide) rfl wn411 dX10_tried_94 ?_
      refine x_rd hW (fun x39 ex39 rx39 => ?_)
      rw [eQ]
      exact x_iret hx hb hr hlk hW rx39 ⟨hF17, ⟨hp16.1.1, trivial⟩, trivial⟩ dX10_tried_97
    · refine x_tabIn (v := 4) (tgt := 98) hx hb rx c19 dX10_tried_41 (by decide) rfl (by decide) ?_
      refine x_aload_n hx hb hl 1 rfl dX10_tried_98 rfl ?_
      refine x_getN (j := 11) (v := .int (xJ (s15 158 11))) hx hb hown hT hE hW cls_X2 (Or.inl (by decide)) (so_158 h0 g _) (by decide) rfl wn413 dX10_tried_99 ?_
      refine x_rd hW (fun x40 ex40 rx40 => ?_)
      rw [eQ]
      exact x_iret hx hb hr hlk hW rx40 ⟨hF17, ⟨hp16.1.1, trivial⟩, trivial⟩ dX10_tried_102
    · refine x_tabIn (v := 5) (tgt := 103) hx hb rx c19 dX10_tried_41 (by decide) rfl (by decide) ?_
      refine x_aload_n hx hb hl 1 rfl dX10_tried_103 rfl ?_
      refine x_goi (x_runVN (As := []) hx hb hml hown hT hE hW hl.1 (Or.inl (by decide)) (so_158 h0 g _) rfl cf_X2_howManyOweNothing wq930 wq67 wn928 (c_X2_howManyOweNothing l D g T h0 s15 hW.2.1 158 xd_158 hp16.1.1) ⟨rfl, rfl, ⟨by decide, by decide⟩, ⟨by decide, by decide⟩⟩ rfl rfl (Nat.le_of_ble_eq_true rfl) dX10_tried_104) hW (fun x41 s42 H locs rx41 hp43 hW => ?_)
      obtain ⟨es42, hp43⟩ := hp43
      subst es42
      have ghp43 := hp43
      rw [eQ]
      exact x_iret hx hb hr hlk hW rx41 ⟨hF17, ⟨hp16.1.1, trivial⟩, trivial⟩ dX10_tried_107
  refine x_iconst hx hb dX10_tried_18 ?_
  rw [eQ]
  exact x_iret hx hb hr hlk hW (by decide) ⟨hF, ⟨p0, trivial⟩, trivial⟩ dX10_tried_19
set_option maxHeartbeats 4000000 in
set_option maxRecDepth 100000 in
theorem c_X10_felonIs (l : Launch) (D : va_G) (g : xG) (T : Nat × Nat × Nat) (h0 : Nat) (s0 : xS) (hσ : xRR s0) (f : Int) (rf : xR f) (x : Int) (rx : xR x) (p0 : IC s0) : Met l yX10_felonIs (xws yX10_felonIs cX10_felonIs 3 (some .int)) { frames := 6, cells := 0, slots := 0, locals := 142 } (xP [.ref (h0 + 0), .int (xJ f), .int (xJ x)] D g T h0 s0) (xQi D g h0 (fun r τ => xFr (fun k => k = 115 ∨ k = 116 ∨ k = 130 ∨ k = 131 ∨ k = 132 ∨ k = 133) s0 τ ∧ (((IC τ) ∧ True) ∧ (True)))) 0 0 (xA h0) := by
  refine x_met hσ (by decide) (Nat.le_of_ble_eq_true rfl) ?_
  intro p e s m args below meth c hx hb hr hml hown hT hlk hnm hE hW ls hl
  have hl : lv_has ls 3 [(0, .ref (h0 + 0)), (1, .int (xJ f)), (2, .int (xJ x))] := hl
  obtain ⟨Q, eQ⟩ : ∃ Q, Q = MQ below (xQi D g h0 (fun r τ => xFr (fun k => k = 115 ∨ k = 116 ∨ k = 130 ∨ k = 131 ∨ k = 132 ∨ k = 133) s0 τ ∧ (((IC τ) ∧ True) ∧ (True)))) args s 0 0 (xA h0) := ⟨_, rfl⟩
  rw [← eQ]
  generalize hHe : ([] : List Loc) = locs at hW ⊢
  obtain ⟨H, eH⟩ : ∃ H, H = s.heap := ⟨_, rfl⟩
  rw [← eH] at hW ⊢
  have hF : xFr (fun k => k = 115 ∨ k = 116 ∨ k = 130 ∨ k = 131 ∨ k = 132 ∨ k = 133) s0 s0 := xFr.rf
  have k1_1 : s0 1 1 = s0 1 1 := rfl
  refine x_aload_n hx hb hl 0 rfl dX10_felonIs_0 rfl ?_
  refine x_get (j := 8) (v := .ref (h0 + 136)) hx hb hown hT hE hW cls_X10 (Or.inl (by decide)) (so_0 h0 g _) (by decide) rfl wq520 dX10_felonIs_1 ?_
  refine x_iload_n hx hb hl 1 rfl dX10_felonIs_4 rfl ?_
  refine x_goi (x_runVN (As := [.int (xJ f)]) hx hb hml hown hT hE hW hl.1 (Or.inl (by decide)) (so_136 h0 g _) rfl cf_X2_hasFelon wq862 wq53 wn910 (c_X2_hasFelon l D g T h0 s0 hW.2.1 136 xd_136 f rf p0) ⟨rfl, rfl, ⟨by decide, by decide⟩, ⟨by decide, by decide⟩⟩ rfl rfl (Nat.le_of_ble_eq_true rfl) dX10_felonIs_5) hW (fun x1 s2 H locs rx1 hp3 hW => ?_)
  obtain ⟨es2, hp3⟩ := hp3
  subst es2
  have ghp3 := hp3
  refine x_if_ne (tgt := 13) hx hb rx1 dX10_felonIs_8 (by decide) (fun c4 => ?_) (fun c4 => ?_)
  · skip
    refine x_iload_n hx hb hl 2 rfl dX10_felonIs_13 rfl ?_
    rcases (show (x < 0 ∨ 5 < x) ∨ x = 0 ∨ x = 1 ∨ x = 2 ∨ x = 3 ∨ x = 4 ∨ x = 5 from by omega) with c5 | c5 | c5 | c5 | c5 | c5 | c5
    · refine x_tabOut (tgt := 134) hx hb rx dX10_felonIs_14 c5 (by decide) ?_
      refine x_iconst hx hb dX10_felonIs_134 ?_
      rw [eQ]
      exact x_iret hx hb hr hlk hW (by decide) ⟨hF, ⟨p0, trivial⟩, trivial⟩ dX10_felonIs_135
    · refine x_tabIn (v := 0) (tgt := 52) hx hb rx c5 dX10_felonIs_14 (by decide) rfl (by decide) ?_
      refine x_aload_n hx hb hl 0 rfl dX10_felonIs_52 rfl ?_
      refine x_get (j := 8) (v := .ref (h0 + 136)) hx hb hown hT hE hW cls_X10 (Or.inl (by decide)) (so_0 h0 g _) (by decide) rfl wq520 dX10_felonIs_53 ?_
      refine x_getN (j := 3) (v := .ref (h0 + 142)) hx hb hown hT hE hW cls_X2 (Or.inl (by decide)) (so_136 h0 g _) (by decide) rfl wn391 dX10_felonIs_56 ?_
      refine x_iload_n hx hb hl 1 rfl dX10_felonIs_59 rfl ?_
      refine x_iald hx hb hE hW (Or.inl (by decide)) (sa_142 h0 g _) (by omega) (by decide) dX10_felonIs_60 ?_
      refine x_rd hW (fun x6 ex6 rx6 => ?_)
      rw [eQ]
      exact x_iret hx hb hr hlk hW rx6 ⟨hF, ⟨p0, trivial⟩, trivial⟩ dX10_felonIs_61
    · refine x_tabIn (v := 1) (tgt := 62) hx hb rx c5 dX10_felonIs_14 (by decide) rfl (by decide) ?_
      refine x_aload_n hx hb hl 0 rfl dX10_felonIs_62 rfl ?_
      refine x_get (j := 8) (v := .ref (h0 + 136)) hx hb hown hT hE hW cls_X10 (Or.inl (by decide)) (so_0 h0 g _) (by decide) rfl wq520 dX10_felonIs_63 ?_
      refine x_getN (j := 4) (v := .ref (h0 + 143)) hx hb hown hT hE hW cls_X2 (Or.inl (by decide)) (so_136 h0 g _) (by decide) rfl wn394 dX10_felonIs_66 ?_
      refine x_iload_n hx hb hl 1 rfl dX10_felonIs_69 rfl ?_
      refine x_iald hx hb hE hW (Or.inl (by decide)) (sa_143 h0 g _) (by omega) (by decide) dX10_felonIs_70 ?_
      refine x_rd hW (fun x7 ex7 rx7 => ?_)
      rw [eQ]
      exact x_iret hx hb hr hlk hW rx7 ⟨hF, ⟨p0, trivial⟩, trivial⟩ dX10_felonIs_71
    · refine x_tabIn (v := 2) (tgt := 72) hx hb rx c5 dX10_felonIs_14 (by decide) rfl (by decide) ?_
      refine x_aload_n hx hb hl 0 rfl dX10_felonIs_72 rfl ?_
      refine x_get (j := 8) (v := .ref (h0 + 136)) hx hb hown hT hE hW cls_X10 (Or.inl (by decide)) (so_0 h0 g _) (by decide) rfl wq520 dX10_felonIs_73 ?_
      refine x_getN (j := 5) (v := .ref (h0 + 144)) hx hb hown hT hE hW cls_X2 (Or.inl (by decide)) (so_136 h0 g _) (by decide) rfl wn397 dX10_felonIs_76 ?_
      refine x_iload_n hx hb hl 1 rfl dX10_felonIs_79 rfl ?_
      refine x_iald hx hb hE hW (Or.inl (by decide)) (sa_144 h0 g _) (by omega) (by decide) dX10_felonIs_80 ?_
      refine x_rd hW (fun x8 ex8 rx8 => ?_)
      rw [eQ]
      exact x_iret hx hb hr hlk hW rx8 ⟨hF, ⟨p0, trivial⟩, trivial⟩ dX10_felonIs_81
    · refine x_tabIn (v := 3) (tgt := 82) hx hb rx c5 dX10_felonIs_14 (by decide) rfl (by decide) ?_
      refine x_aload_n hx hb hl 0 rfl dX10_felonIs_82 rfl ?_
      refine x_get (j := 8) (v := .ref (h0 + 136)) hx hb hown hT hE hW cls_X10 (Or.inl (by decide)) (so_0 h0 g _) (by decide) rfl wq520 dX10_felonIs_83 ?_
      refine x_getN (j := 6) (v := .ref (h0 + 145)) hx hb hown hT hE hW cls_X2 (Or.inl (by decide)) (so_136 h0 g _) (by decide) rfl wn399 dX10_felonIs_86 ?_
      refine x_iload_n hx hb hl 1 rfl dX10_felonIs_89 rfl ?_
      refine x_zald hx hb hE hW (Or.inl (by decide)) (sa_145 h0 g _) (by omega) (by decide) dX10_felonIs_90 ?_
      refine x_rd hW (fun x9 ex9 rx9 => ?_)
      have bx9 : x9 = 0 ∨ x9 = 1 := by rw [ex9]; exact IC.b p0 xd_136 _ (by omega) (by omega)
      refine x_if_eq (tgt := 98) hx hb rx9 dX10_felonIs_91 (by decide) (fun c10 => ?_) (fun c10 => ?_)
      · skip
        refine x_iconst hx hb dX10_felonIs_98 ?_
        rw [eQ]
        exact x_iret hx hb hr hlk hW (by decide) ⟨hF, ⟨p0, trivial⟩, trivial⟩ dX10_felonIs_99
      refine x_iconst hx hb dX10_felonIs_94 ?_
      refine lv_goto (tgt := 99) hx hb dX10_felonIs_95 (by decide) ?_
      rw [eQ]
      exact x_iret hx hb hr hlk hW (by decide) ⟨hF, ⟨p0, trivial⟩, trivial⟩ dX10_felonIs_99
    · refine x_tabIn (v := 4) (tgt := 100) hx hb rx c5 dX10_felonIs_14 (by decide) rfl (by decide) ?_
      refine x_aload_n hx hb hl 0 rfl dX10_felonIs_100 rfl ?_
      refine x_get (j := 5) (v := .ref (h0 + 128)) hx hb hown hT hE hW cls_X10 (Or.inl (by decide)) (so_0 h0 g _) (by decide) rfl wq517 dX10_felonIs_101 ?_
      refine x_aload_n hx hb hl 0 rfl dX10_felonIs_104 rfl ?_
      refine x_get (j := 8) (v := .ref (h0 + 136)) hx hb hown hT hE hW cls_X10 (Or.inl (by decide)) (so_0 h0 g _) (by decide) rfl wq520 dX10_felonIs_105 ?_
      refine x_iload_n hx hb hl 1 rfl dX10_felonIs_108 rfl ?_
      refine x_goi (x_runVN (As := [.ref (h0 + 136), .int (xJ f)]) hx hb hml hown hT hE hW hl.1 (Or.inl (by decide)) (so_128 h0 g _) rfl cf_X0_reachOf wq879 wq57 wn936 (c_X0_reachOf l D g T h0 s0 hW.2.1 136 xd_136 f rf p0) ⟨rfl, rfl, ⟨by decide, by decide⟩, ⟨by decide, by decide⟩⟩ rfl rfl (Nat.le_of_ble_eq_true rfl) dX10_felonIs_109) hW (fun x11 s12 H locs rx11 hp13 hW => ?_)
      obtain ⟨fs12, hp13⟩ := hp13
      have hF14 := hF.call fs12 (fun k h => by omega)
      have q15 : s12 1 1 = s0 1 1 := (congrFun (fs12 _ (by omega)) _).trans k1_1
      have ghp13 := hp13.2
      rw [eQ]
      exact x_iret hx hb hr hlk hW rx11 ⟨hF14, ⟨hp13.1.1, trivial⟩, trivial⟩ dX10_felonIs_112
    · refine x_tabIn (v := 5) (tgt := 113) hx hb rx c5 dX10_felonIs_14 (by decide) rfl (by decide) ?_
      refine x_aload_n hx hb hl 0 rfl dX10_felonIs_113 rfl ?_
      refine x_get (j := 5) (v := .ref (h0 + 128)) hx hb hown hT hE hW cls_X10 (Or.inl (by decide)) (so_0 h0 g _) (by decide) rfl wq517 dX10_felonIs_114 ?_
      refine x_aload_n hx hb hl 0 rfl dX10_felonIs_117 rfl ?_
      refine x_get (j := 8) (v := .ref (h0 + 136)) hx hb hown hT hE hW cls_X10 (Or.inl (by decide)) (so_0 h0 g _) (by decide) rfl wq520 dX10_felonIs_118 ?_
      refine x_aload_n hx hb hl 0 rfl dX10_felonIs_121 rfl ?_
      refine x_get (j := 8) (v := .ref (h0 + 136)) hx hb hown hT hE hW cls_X10 (Or.inl (by decide)) (so_0 h0 g _) (by decide) rfl wq520 dX10_felonIs_122 ?_
      refine x_getN (j := 3) (v := .ref (h0 + 142)) hx hb hown hT hE hW cls_X2 (Or.inl (by decide)) (so_136 h0 g _) (by decide) rfl wn391 dX10_felonIs_125 ?_
      refine x_iload_n hx hb hl 1 rfl dX10_felonIs_128 rfl ?_
      refine x_iald hx hb hE hW (Or.inl (by decide)) (sa_142 h0 g _) (by omega) (by decide) dX10_felonIs_129 ?_
      refine x_rd hW (fun x16 ex16 rx16 => ?_)
      refine x_goi (x_runVN (As := [.ref (h0 + 136), .int (xJ x16)]) hx hb hml hown hT hE hW hl.1 (Or.inl (by decide)) (so_128 h0 g _) rfl cf_X0_shadowsAt wq939 wq68 wn937 (c_X0_shadowsAt l D g T h0 s0 hW.2.1 136 xd_136 x16 rx16 p0) ⟨rfl, rfl, ⟨by decide, by decide⟩, ⟨by decide, by decide⟩⟩ rfl rfl (Nat.le_of_ble_eq_true rfl) dX10_felonIs_130) hW (fun x17 s18 H locs rx17 hp19 hW => ?_)
      obtain ⟨fs18, hp19⟩ := hp19
      have hF20 := hF.call fs18 (fun k h => by omega)
      have q21 : s18 1 1 = s0 1 1 := (congrFun (fs18 _ (by omega)) _).trans k1_1
      have ghp19 := hp19.2
      rw [eQ]
      exact x_iret hx hb hr hlk hW rx17 ⟨hF20, ⟨hp19.1.1, trivial⟩, trivial⟩ dX10_felonIs_133
  refine x_iconst hx hb dX10_felonIs_11 ?_
  rw [eQ]
  exact x_iret hx hb hr hlk hW (by decide) ⟨hF, ⟨p0, trivial⟩, trivial⟩ dX10_felonIs_12
set_option maxHeartbeats 4000000 in
set_option maxRecDepth 100000 in
theorem c_X10_shade (l : Launch) (D : va_G) (g : xG) (T : Nat × Nat × Nat) (h0 : Nat) (s0 : xS) (hσ : xRR s0) (x : Int) (rx : xR x) (y : Int) (ry : xR y) (p0 : IC s0) : Met l yX10_shade (xws yX10_shade cX10_shade 4 (some .int)) { frames := 6, cells := 0, slots := 0, locals := 142 } (xP [.ref (h0 + 0), .int (xJ x), .int (xJ y)] D g T h0 s0) (xQi D g h0 (fun r τ => xFr (fun k => k = 115 ∨ k = 116 ∨ k = 130 ∨ k = 131 ∨ k = 132 ∨ k = 133) s0 τ ∧ (((IC τ) ∧ True) ∧ (True)))) 0 0 (xA h0) := by
  refine x_met hσ (by decide) (Nat.le_of_ble_eq_true rfl) ?_
  intro p e s m args below meth c hx hb hr hml hown hT hlk hnm hE hW ls hl
  have hl : lv_has ls 4 [(0, .ref (h0 + 0)), (1, .int (xJ x)), (2, .int (xJ y))] := hl
  obtain ⟨Q, eQ⟩ : ∃ Q, Q = MQ below (xQi D g h0 (fun r τ => xFr (fun k => k = 115 ∨ k = 116 ∨ k = 130 ∨ k = 131 ∨ k = 132 ∨ k = 133) s0 τ ∧ (((IC τ) ∧ True) ∧ (True)))) args s 0 0 (xA h0) := ⟨_, rfl⟩
  rw [← eQ]
  generalize hHe : ([] : List Loc) = locs at hW ⊢
  obtain ⟨H, eH⟩ : ∃ H, H = s.heap := ⟨_, rfl⟩
  rw [← eH] at hW ⊢
  have hF : xFr (fun k => k = 115 ∨ k = 116 ∨ k = 130 ∨ k = 131 ∨ k = 132 ∨ k = 133) s0 s0 := xFr.rf
  have k1_1 : s0 1 1 = s0 1 1 := rfl
  refine x_iload_n hx hb hl 1 rfl dX10_shade_0 rfl ?_
  refine x_iload_n hx hb hl 2 rfl dX10_shade_1 rfl ?_
  refine x_goi (x_runSN (As := [.int (xJ x), .int (xJ y)]) hx hb hml hown hT hE hW hl.1 cf_X6_spotAt wq708 wn949 (c_X6_spotAt l D g T h0 s0 hW.2.1 x rx y ry) ⟨rfl, rfl, ⟨by decide, by decide⟩, ⟨by decide, by decide⟩⟩ rfl rfl (Nat.le_of_ble_eq_true rfl) dX10_shade_2) hW (fun x1 s2 H locs rx1 hp3 hW => ?_)
  obtain ⟨es2, hp3⟩ := hp3
  subst es2
  have ghp3 := hp3
  refine lv_istore_n (lv' := [(3, .int (xJ x1)), (0, .ref (h0 + 0)), (1, .int (xJ x)), (2, .int (xJ y))]) hx hb dX10_shade_5 rfl hl (by decide) rfl (fun ls hl => ?_)
  refine x_iload_n hx hb hl 0 rfl dX10_shade_6 rfl ?_
  refine x_iconst hx hb dX10_shade_7 ?_
  refine x_icmp_ne (tgt := 15) hx hb rx1 (by decide) dX10_shade_8 (by decide) (fun c4 => ?_) (fun c4 => ?_)
  · skip
    refine x_aload_n hx hb hl 1 rfl dX10_shade_15 rfl ?_
    refine x_get (j := 5) (v := .ref (h0 + 128)) hx hb hown hT hE hW cls_X10 (Or.inl (by decide)) (so_0 h0 g _) (by decide) rfl wq517 dX10_shade_16 ?_
    refine x_aload_n hx hb hl 1 rfl dX10_shade_19 rfl ?_
    refine x_get (j := 8) (v := .ref (h0 + 136)) hx hb hown hT hE hW cls_X10 (Or.inl (by decide)) (so_0 h0 g _) (by decide) rfl wq520 dX10_shade_20 ?_
    refine x_iload_n hx hb hl 0 rfl dX10_shade_23 rfl ?_
    refine x_goi (x_runVN (As := [.ref (h0 + 136), .int (xJ x1)]) hx hb hml hown hT hE hW hl.1 (Or.inl (by decide)) (so_128 h0 g _) rfl cf_X0_shadowsAt wq939 wq68 wn937 (c_X0_shadowsAt l D g T h0 s0 hW.2.1 136 xd_136 x1 rx1 p0) ⟨rfl, rfl, ⟨by decide, by decide⟩, ⟨by decide, by decide⟩⟩ rfl rfl (Nat.le_of_ble_eq_true rfl) dX10_shade_24) hW (fun x5 s6 H locs rx5 hp7 hW => ?_)
    obtain ⟨fs6, hp7⟩ := hp7
    have hF8 := hF.call fs6 (fun k h => by omega)
    have q9 : s6 1 1 = s0 1 1 := (congrFun (fs6 _ (by omega)) _).trans k1_1
    have ghp7 := hp7.2
    rw [eQ]
    exact x_iret hx hb hr hlk hW rx5 ⟨hF8, ⟨hp7.1.1, trivial⟩, trivial⟩ dX10_shade_27
  refine x_iconst hx hb dX10_shade_11 ?_
  refine lv_goto (tgt := 27) hx hb dX10_shade_12 (by decide) ?_
  rw [eQ]
  exact x_iret hx hb hr hlk hW (by decide) ⟨hF, ⟨p0, trivial⟩, trivial⟩ dX10_shade_27
set_option maxHeartbeats 4000000 in
set_option maxRecDepth 100000 in
theorem c_X10_atOnce (l : Launch) (D : va_G) (g : xG) (T : Nat × Nat × Nat) (h0 : Nat) (s0 : xS) (hσ : xRR s0) (x : Int) (rx : xR x) (p0 : IC s0) : Met l yX10_atOnce (xws yX10_atOnce cX10_atOnce 2 (some .int)) { frames := 6, cells := 0, slots := 0, locals := 146 } (xP [.ref (h0 + 0), .int (xJ x)] D g T h0 s0) (xQi D g h0 (fun r τ => xFr (fun k => (7 ≤ k ∧ k < 107) ∨ k = 107 ∨ k = 115 ∨ k = 116 ∨ k = 130 ∨ k = 131 ∨ k = 132 ∨ k = 133 ∨ k = 262 ∨ k = 263 ∨ k = 264 ∨ k = 265 ∨ k = 266) s0 τ ∧ (((IC τ) ∧ True) ∧ (True)))) 0 0 (xA h0) := by
  refine x_met hσ (by decide) (Nat.le_of_ble_eq_true rfl) ?_
  intro p e s m args below meth c hx hb hr hml hown hT hlk hnm hE hW ls hl
  have hl : lv_has ls 2 [(0, .ref (h0 + 0)), (1, .int (xJ x))] := hl
  obtain ⟨Q, eQ⟩ : ∃ Q, Q = MQ below (xQi D g h0 (fun r τ => xFr (fun k => (7 ≤ k ∧ k < 107) ∨ k = 107 ∨ k = 115 ∨ k = 116 ∨ k = 130 ∨ k = 131 ∨ k = 132 ∨ k = 133 ∨ k = 262 ∨ k = 263 ∨ k = 264 ∨ k = 265 ∨ k = 266) s0 τ ∧ (((IC τ) ∧ True) ∧ (True)))) args s 0 0 (xA h0) := ⟨_, rfl⟩
  rw [← eQ]
  generalize hHe : ([] : List Loc) = locs at hW ⊢
  obtain ⟨H, eH⟩ : ∃ H, H = s.heap := ⟨_, rfl⟩
  rw [← eH] at hW ⊢
  have hF : xFr (fun k => (7 ≤ k ∧ k < 107) ∨ k = 107 ∨ k = 115 ∨ k = 116 ∨ k = 130 ∨ k = 131 ∨ k = 132 ∨ k = 133 ∨ k = 262 ∨ k = 263 ∨ k = 264 ∨ k = 265 ∨ k = 266) s0 s0 := xFr.rf
  have k1_1 : s0 1 1 = s0 1 1 := rfl
  refine x_iload_n hx hb hl 1 rfl dX10_atOnce_0 rfl ?_
  refine x_iconst hx hb dX10_atOnce_1 ?_
  refine x_iconst hx hb dX10_atOnce_2 ?_
  refine x_goi (x_runS (As := [.int (xJ x), .int (xJ 0), .int (xJ 2)]) hx hb hml hown hT hE hW hl.1 cf_X10_isIn wq562 wq561 (c_X10_isIn l D g T h0 s0 hW.2.1 x rx 0 (by decide) 2 (by decide)) ⟨rfl, rfl, ⟨by decide, by decide⟩, ⟨by decide, by decide⟩⟩ rfl rfl (Nat.le_of_ble_eq_true rfl) dX10_atOnce_3) hW (fun x1 s2 H locs rx1 hp3 hW => ?_)
  obtain ⟨es2, hp3⟩ := hp3
  subst es2
  have ghp3 := hp3
  refine x_if_ne (tgt := 11) hx hb rx1 dX10_atOnce_6 (by decide) (fun c4 => ?_) (fun c4 => ?_)
  · skip
    refine x_aload_n hx hb hl 0 rfl dX10_atOnce_11 rfl ?_
    refine x_get (j := 5) (v := .ref (h0 + 128)) hx hb hown hT hE hW cls_X10 (Or.inl (by decide)) (so_0 h0 g _) (by decide) rfl wq517 dX10_atOnce_12 ?_
    refine x_aload_n hx hb hl 0 rfl dX10_atOnce_15 rfl ?_
    refine x_get (j := 8) (v := .ref (h0 + 136)) hx hb hown hT hE hW cls_X10 (Or.inl (by decide)) (so_0 h0 g _) (by decide) rfl wq520 dX10_atOnce_16 ?_
    refine x_gov (x_runVN (As := [.ref (h0 + 136)]) hx hb hml hown hT hE hW hl.1 (Or.inl (by decide)) (so_128 h0 g _) rfl cf_X0_castCloudless wq943 wq69 wn954 (c_X0_castCloudless l D g T h0 s0 hW.2.1 136 xd_136 p0) ⟨rfl, rfl, ⟨by decide, by decide⟩, ⟨by decide, by decide⟩⟩ rfl rfl (Nat.le_of_ble_eq_true rfl) dX10_atOnce_19) hW (fun s6 H locs hp7 hW => ?_)
    obtain ⟨fs6, hp7⟩ := hp7
    have hF8 := hF.call fs6 (fun k h => by omega)
    have q9 : s6 1 1 = s0 1 1 := (congrFun (fs6 _ (by omega)) _).trans k1_1
    have ghp7 := hp7.2
    refine x_iload_n hx hb hl 1 rfl dX10_atOnce_22 rfl ?_
    refine x_if_ne (tgt := 38) hx hb rx dX10_atOnce_23 (by decide) (fun c10 => ?_) (fun c10 => ?_)
    · skip
      refine x_iload_n hx hb hl 1 rfl dX10_atOnce_38 rfl ?_
      refine x_iconst hx hb dX10_atOnce_39 ?_
      refine x_icmp_ne (tgt := 56) hx hb rx (by decide) dX10_atOnce_40 (by decide) (fun c11 => ?_) (fun c11 => ?_)
      · skip
        refine x_aload_n hx hb hl 0 rfl dX10_atOnce_56 rfl ?_
        refine x_get (j := 5) (v := .ref (h0 + 128)) hx hb hown hT hE hW cls_X10 (Or.inl (by decide)) (so_0 h0 g _) (by decide) rfl wq517 dX10_atOnce_57 ?_
        refine x_getN (j := 3) (v := .ref (h0 + 130)) hx hb hown hT hE hW cls_X0 (Or.inl (by decide)) (so_128 h0 g _) (by decide) rfl wn360 dX10_atOnce_60 ?_
        refine x_goi (x_runVN (As := []) hx hb hml hown hT hE hW hl.1 (Or.inl (by decide)) (so_130 h0 g _) rfl cf_X7_howManyInMore wq978 wq74 wn976 (c_X7_howManyInMore l D g T h0 s6 hW.2.1 hp7.1.1) ⟨rfl, rfl, ⟨by decide, by decide⟩, ⟨by decide, by decide⟩⟩ rfl rfl (Nat.le_of_ble_eq_true rfl) dX10_atOnce_63) hW (fun x12 s13 H locs rx12 hp14 hW => ?_)
        obtain ⟨es13, hp14⟩ := hp14
        subst es13
        have ghp14 := hp14
        rw [eQ]
        exact x_iret hx hb hr hlk hW rx12 ⟨hF8, ⟨hp7.1.1, trivial⟩, trivial⟩ dX10_atOnce_66
      refine x_aload_n hx hb hl 0 rfl dX10_atOnce_43 rfl ?_
      refine x_get (j := 5) (v := .ref (h0 + 128)) hx hb hown hT hE hW cls_X10 (Or.inl (by decide)) (so_0 h0 g _) (by decide) rfl wq517 dX10_atOnce_44 ?_
      refine x_getN (j := 3) (v := .ref (h0 + 130)) hx hb hown hT hE hW cls_X0 (Or.inl (by decide)) (so_128 h0 g _) (by decide) rfl wn360 dX10_atOnce_47 ?_
      refine x_getN (j := 3) (v := .int (xJ (s6 130 3))) hx hb hown hT hE hW cls_X7 (Or.inl (by decide)) (so_130 h0 g _) (by decide) rfl wn341 dX10_atOnce_50 ?_
      refine x_rd hW (fun x15 ex15 rx15 => ?_)
      have bx15 : 0 ≤ x15 ∧ x15 ≤ 100 := by rw [ex15]; exact IC.z hp7.1.1
      refine lv_goto (tgt := 66) hx hb dX10_atOnce_53 (by decide) ?_
      rw [eQ]
      exact x_iret hx hb hr hlk hW rx15 ⟨hF8, ⟨hp7.1.1, trivial⟩, trivial⟩ dX10_atOnce_66
    refine x_aload_n hx hb hl 0 rfl dX10_atOnce_26 rfl ?_
    refine x_get (j := 7) (v := .ref (h0 + 261)) hx hb hown hT hE hW cls_X10 (Or.inl (by decide)) (so_0 h0 g _) (by decide) rfl wq519 dX10_atOnce_27 ?_
    refine x_aload_n hx hb hl 0 rfl dX10_atOnce_30 rfl ?_
    refine x_get (j := 8) (v := .ref (h0 + 136)) hx hb hown hT hE hW cls_X10 (Or.inl (by decide)) (so_0 h0 g _) (by decide) rfl wq520 dX10_atOnce_31 ?_
    refine x_goi (x_runVN (As := [.ref (h0 + 136)]) hx hb hml hown hT hE hW hl.1 (Or.inl (by decide)) (so_261 h0 g _) rfl cf_X1_most wq957 wq70 wn955 (c_X1_most l D g T h0 s6 hW.2.1 136 xd_136 hp7.1.1) ⟨rfl, rfl, ⟨by decide, by decide⟩, ⟨by decide, by decide⟩⟩ rfl rfl (Nat.le_of_ble_eq_true rfl) dX10_atOnce_34) hW (fun x16 s17 H locs rx16 hp18 hW => ?_)
    obtain ⟨fs17, hp18⟩ := hp18
    have hF19 := hF8.call fs17 (fun k h => by omega)
    have q20 : s17 1 1 = s0 1 1 := (congrFun (fs17 _ (by omega)) _).trans q9
    have ghp18 := hp18.2
    rw [eQ]
    exact x_iret hx hb hr hlk hW rx16 ⟨hF19, ⟨hp18.1.1, trivial⟩, trivial⟩ dX10_atOnce_37
  refine x_iconst hx hb dX10_atOnce_9 ?_
  rw [eQ]
  exact x_iret hx hb hr hlk hW (by decide) ⟨hF, ⟨p0, trivial⟩, trivial⟩ dX10_atOnce_10
set_option maxHeartbeats 4000000 in
set_option maxRecDepth 100000 in
theorem c_X10_fewest (l : Launch) (D : va_G) (g : xG) (T : Nat × Nat × Nat) (h0 : Nat) (s0 : xS) (hσ : xRR s0) (f : Int) (rf : xR f) (n : Int) (rn : xR n) (k : Int) (rk : xR k) (p0 : IC s0) : Met l yX10_fewest (xws yX10_fewest cX10_fewest 4 (some .int)) { frames := 6, cells := 0, slots := 0, locals := 146 } (xP [.ref (h0 + 0), .int (xJ f), .int (xJ n), .int (xJ k)] D g T h0 s0) (xQi D g h0 (fun r τ => xFr (fun k => (228 ≤ k ∧ k < 259) ∨ k = 115 ∨ k = 116 ∨ k = 130 ∨ k = 131 ∨ k = 132 ∨ k = 133 ∨ k = 158 ∨ k = 159 ∨ k = 160 ∨ k = 163 ∨ k = 164 ∨ k = 165 ∨ k = 166 ∨ k = 167 ∨ k = 228 ∨ k = 259 ∨ k = 260) s0 τ ∧ (((IC τ) ∧ True) ∧ (True)))) 0 0 (xA h0) := by
  refine x_met hσ (by decide) (Nat.le_of_ble_eq_true rfl) ?_
  intro p e s m args below meth c hx hb hr hml hown hT hlk hnm hE hW ls hl
  have hl : lv_has ls 4 [(0, .ref (h0 + 0)), (1, .int (xJ f)), (2, .int (xJ n)), (3, .int (xJ k))] := hl
  obtain ⟨Q, eQ⟩ : ∃ Q, Q = MQ below (xQi D g h0 (fun r τ => xFr (fun k => (228 ≤ k ∧ k < 259) ∨ k = 115 ∨ k = 116 ∨ k = 130 ∨ k = 131 ∨ k = 132 ∨ k = 133 ∨ k = 158 ∨ k = 159 ∨ k = 160 ∨ k = 163 ∨ k = 164 ∨ k = 165 ∨ k = 166 ∨ k = 167 ∨ k = 228 ∨ k = 259 ∨ k = 260) s0 τ ∧ (((IC τ) ∧ True) ∧ (True)))) args s 0 0 (xA h0) := ⟨_, rfl⟩
  rw [← eQ]
  generalize hHe : ([] : List Loc) = locs at hW ⊢
  obtain ⟨H, eH⟩ : ∃ H, H = s.heap := ⟨_, rfl⟩
  rw [← eH] at hW ⊢
  have hF : xFr (fun k => (228 ≤ k ∧ k < 259) ∨ k = 115 ∨ k = 116 ∨ k = 130 ∨ k = 131 ∨ k = 132 ∨ k = 133 ∨ k = 158 ∨ k = 159 ∨ k = 160 ∨ k = 163 ∨ k = 164 ∨ k = 165 ∨ k = 166 ∨ k = 167 ∨ k = 228 ∨ k = 259 ∨ k = 260) s0 s0 := xFr.rf
  have k1_1 : s0 1 1 = s0 1 1 := rfl
  refine x_aload_n hx hb hl 0 rfl dX10_fewest_0 rfl ?_
  refine x_get (j := 8) (v := .ref (h0 + 136)) hx hb hown hT hE hW cls_X10 (Or.inl (by decide)) (so_0 h0 g _) (by decide) rfl wq520 dX10_fewest_1 ?_
  refine x_iload_n hx hb hl 1 rfl dX10_fewest_4 rfl ?_
  refine x_goi (x_runVN (As := [.int (xJ f)]) hx hb hml hown hT hE hW hl.1 (Or.inl (by decide)) (so_136 h0 g _) rfl cf_X2_hasFelon wq862 wq53 wn910 (c_X2_hasFelon l D g T h0 s0 hW.2.1 136 xd_136 f rf p0) ⟨rfl, rfl, ⟨by decide, by decide⟩, ⟨by decide, by decide⟩⟩ rfl rfl (Nat.le_of_ble_eq_true rfl) dX10_fewest_5) hW (fun x1 s2 H locs rx1 hp3 hW => ?_)
  obtain ⟨es2, hp3⟩ := hp3
  subst es2
  have ghp3 := hp3
  refine x_if_eq (tgt := 30) hx hb rx1 dX10_fewest_8 (by decide) (fun c4 => ?_) (fun c4 => ?_)
  · skip
    refine x_iconst hx hb dX10_fewest_30 ?_
    rw [eQ]
    exact x_iret hx hb hr hlk hW (by decide) ⟨hF, ⟨p0, trivial⟩, trivial⟩ dX10_fewest_31
  refine x_iload_n hx hb hl 2 rfl dX10_fewest_11 rfl ?_
  refine x_iconst hx hb dX10_fewest_12 ?_
  refine x_bipush hx hb dX10_fewest_13 (by decide) ?_
  refine x_goi (x_runS (As := [.int (xJ n), .int (xJ 1), .int (xJ 30)]) hx hb hml hown hT hE hW hl.1 cf_X10_isIn wq562 wq561 (c_X10_isIn l D g T h0 s0 hW.2.1 n rn 1 (by decide) 30 (by decide)) ⟨rfl, rfl, ⟨by decide, by decide⟩, ⟨by decide, by decide⟩⟩ rfl rfl (Nat.le_of_ble_eq_true rfl) dX10_fewest_15) hW (fun x5 s6 H locs rx5 hp7 hW => ?_)
  obtain ⟨es6, hp7⟩ := hp7
  subst es6
  have ghp7 := hp7
  refine x_if_eq (tgt := 30) hx hb rx5 dX10_fewest_18 (by decide) (fun c8 => ?_) (fun c8 => ?_)
  · skip
    refine x_iconst hx hb dX10_fewest_30 ?_
    rw [eQ]
    exact x_iret hx hb hr hlk hW (by decide) ⟨hF, ⟨p0, trivial⟩, trivial⟩ dX10_fewest_31
  refine x_iload_n hx hb hl 3 rfl dX10_fewest_21 rfl ?_
  refine x_iconst hx hb dX10_fewest_22 ?_
  refine x_iload_n hx hb hl 2 rfl dX10_fewest_23 rfl ?_
  refine x_goi (x_runS (As := [.int (xJ k), .int (xJ 1), .int (xJ n)]) hx hb hml hown hT hE hW hl.1 cf_X10_isIn wq562 wq561 (c_X10_isIn l D g T h0 s0 hW.2.1 k rk 1 (by decide) n rn) ⟨rfl, rfl, ⟨by decide, by decide⟩, ⟨by decide, by decide⟩⟩ rfl rfl (Nat.le_of_ble_eq_true rfl) dX10_fewest_24) hW (fun x9 s10 H locs rx9 hp11 hW => ?_)
  obtain ⟨es10, hp11⟩ := hp11
  subst es10
  have ghp11 := hp11
  refine x_if_ne (tgt := 32) hx hb rx9 dX10_fewest_27 (by decide) (fun c12 => ?_) (fun c12 => ?_)
  · skip
    refine x_aload_n hx hb hl 0 rfl dX10_fewest_32 rfl ?_
    refine x_get (j := 6) (v := .ref (h0 + 156)) hx hb hown hT hE hW cls_X10 (Or.inl (by decide)) (so_0 h0 g _) (by decide) rfl wq518 dX10_fewest_33 ?_
    refine x_aload_n hx hb hl 0 rfl dX10_fewest_36 rfl ?_
    refine x_get (j := 8) (v := .ref (h0 + 136)) hx hb hown hT hE hW cls_X10 (Or.inl (by decide)) (so_0 h0 g _) (by decide) rfl wq520 dX10_fewest_37 ?_
    refine x_getN (j := 3) (v := .ref (h0 + 142)) hx hb hown hT hE hW cls_X2 (Or.inl (by decide)) (so_136 h0 g _) (by decide) rfl wn391 dX10_fewest_40 ?_
    refine x_iload_n hx hb hl 1 rfl dX10_fewest_43 rfl ?_
    refine x_iald hx hb hE hW (Or.inl (by decide)) (sa_142 h0 g _) (by omega) (by decide) dX10_fewest_44 ?_
    refine x_rd hW (fun x13 ex13 rx13 => ?_)
    refine x_iload_n hx hb hl 2 rfl dX10_fewest_45 rfl ?_
    refine x_iload_n hx hb hl 3 rfl dX10_fewest_46 rfl ?_
    refine x_goi (x_runVN (As := [.int (xJ x13), .int (xJ n), .int (xJ k)]) hx hb hml hown hT hE hW hl.1 (Or.inl (by decide)) (so_156 h0 g _) rfl cf_X3_fewestSteps wq987 wq75 wn985 (c_X3_fewestSteps l D g T h0 s0 hW.2.1 x13 rx13 n rn k rk p0) ⟨rfl, rfl, ⟨by decide, by decide⟩, ⟨by decide, by decide⟩⟩ rfl rfl (Nat.le_of_ble_eq_true rfl) dX10_fewest_47) hW (fun x14 s15 H locs rx14 hp16 hW => ?_)
    obtain ⟨fs15, hp16⟩ := hp16
    have hF17 := hF.call fs15 (fun k h => by omega)
    have q18 : s15 1 1 = s0 1 1 := (congrFun (fs15 _ (by omega)) _).trans k1_1
    have ghp16 := hp16.2
    rw [eQ]
    exact x_iret hx hb hr hlk hW rx14 ⟨hF17, ⟨hp16.1.1, trivial⟩, trivial⟩ dX10_fewest_50
  refine x_iconst hx hb dX10_fewest_30 ?_
  rw [eQ]
  exact x_iret hx hb hr hlk hW (by decide) ⟨hF, ⟨p0, trivial⟩, trivial⟩ dX10_fewest_31
set_option maxHeartbeats 4000000 in
set_option maxRecDepth 100000 in
theorem c_X10_home (l : Launch) (D : va_G) (g : xG) (T : Nat × Nat × Nat) (h0 : Nat) (s0 : xS) (hσ : xRR s0) (j : Int) (rj : xR j) (n : Int) (rn : xR n) (x : Int) (rx : xR x) (p0 : IC s0) : Met l yX10_home (xws yX10_home cX10_home 5 (some .int)) { frames := 7, cells := 0, slots := 0, locals := 183 } (xP [.ref (h0 + 0), .int (xJ j), .int (xJ n), .int (xJ x)] D g T h0 s0) (xQi D g h0 (fun r τ => xFr (fun k => (158 ≤ k ∧ k < 218) ∨ (7 ≤ k ∧ k < 107) ∨ k = 107 ∨ k = 115 ∨ k = 116 ∨ k = 130 ∨ k = 131 ∨ k = 132 ∨ k = 133 ∨ k = 134 ∨ k = 135 ∨ k = 158 ∨ k = 159 ∨ k = 160 ∨ k = 163 ∨ k = 164 ∨ k = 165 ∨ k = 166 ∨ k = 167 ∨ k = 224 ∨ k = 225) s0 τ ∧ (((IC τ) ∧ True) ∧ (True)))) 0 0 (xA h0) := by
  refine x_met hσ (by decide) (Nat.le_of_ble_eq_true rfl) ?_
  intro p e s m args below meth c hx hb hr hml hown hT hlk hnm hE hW ls hl
  have hl : lv_has ls 5 [(0, .ref (h0 + 0)), (1, .int (xJ j)), (2, .int (xJ n)), (3, .int (xJ x))] := hl
  obtain ⟨Q, eQ⟩ : ∃ Q, Q = MQ below (xQi D g h0 (fun r τ => xFr (fun k => (158 ≤ k ∧ k < 218) ∨ (7 ≤ k ∧ k < 107) ∨ k = 107 ∨ k = 115 ∨ k = 116 ∨ k = 130 ∨ k = 131 ∨ k = 132 ∨ k = 133 ∨ k = 134 ∨ k = 135 ∨ k = 158 ∨ k = 159 ∨ k = 160 ∨ k = 163 ∨ k = 164 ∨ k = 165 ∨ k = 166 ∨ k = 167 ∨ k = 224 ∨ k = 225) s0 τ ∧ (((IC τ) ∧ True) ∧ (True)))) args s 0 0 (xA h0) := ⟨_, rfl⟩
  rw [← eQ]
  generalize hHe : ([] : List Loc) = locs at hW ⊢
  obtain ⟨H, eH⟩ : ∃ H, H = s.heap := ⟨_, rfl⟩
  rw [← eH] at hW ⊢
  have hF : xFr (fun k => (158 ≤ k ∧ k < 218) ∨ (7 ≤ k ∧ k < 107) ∨ k = 107 ∨ k = 115 ∨ k = 116 ∨ k = 130 ∨ k = 131 ∨ k = 132 ∨ k = 133 ∨ k = 134 ∨ k = 135 ∨ k = 158 ∨ k = 159 ∨ k = 160 ∨ k = 163 ∨ k = 164 ∨ k = 165 ∨ k = 166 ∨ k = 167 ∨ k = 224 ∨ k = 225) s0 s0 := xFr.rf
  have k1_1 : s0 1 1 = s0 1 1 := rfl
  refine x_aload_n hx hb hl 0 rfl dX10_home_0 rfl ?_
  refine x_get (j := 8) (v := .ref (h0 + 136)) hx hb hown hT hE hW cls_X10 (Or.inl (by decide)) (so_0 h0 g _) (by decide) rfl wq520 dX10_home_1 ?_
  refine x_iload_n hx hb hl 1 rfl dX10_home_4 rfl ?_
  refine x_goi (x_runVN (As := [.int (xJ j)]) hx hb hml hown hT hE hW hl.1 (Or.inl (by decide)) (so_136 h0 g _) rfl cf_X2_hasJudge wq773 wq37 wn911 (c_X2_hasJudge l D g T h0 s0 hW.2.1 136 xd_136 j rj p0) ⟨rfl, rfl, ⟨by decide, by decide⟩, ⟨by decide, by decide⟩⟩ rfl rfl (Nat.le_of_ble_eq_true rfl) dX10_home_5) hW (fun x1 s2 H locs rx1 hp3 hW => ?_)
  obtain ⟨es2, hp3⟩ := hp3
  subst es2
  have ghp3 := hp3
  refine x_if_eq (tgt := 20) hx hb rx1 dX10_home_8 (by decide) (fun c4 => ?_) (fun c4 => ?_)
  · skip
    refine x_iconst hx hb dX10_home_20 ?_
    rw [eQ]
    exact x_iret hx hb hr hlk hW (by decide) ⟨hF, ⟨p0, trivial⟩, trivial⟩ dX10_home_21
  refine x_iload_n hx hb hl 2 rfl dX10_home_11 rfl ?_
  refine x_iconst hx hb dX10_home_12 ?_
  refine x_iconst hx hb dX10_home_13 ?_
  refine x_goi (x_runS (As := [.int (xJ n), .int (xJ 1), .int (xJ 5)]) hx hb hml hown hT hE hW hl.1 cf_X10_isIn wq562 wq561 (c_X10_isIn l D g T h0 s0 hW.2.1 n rn 1 (by decide) 5 (by decide)) ⟨rfl, rfl, ⟨by decide, by decide⟩, ⟨by decide, by decide⟩⟩ rfl rfl (Nat.le_of_ble_eq_true rfl) dX10_home_14) hW (fun x5 s6 H locs rx5 hp7 hW => ?_)
  obtain ⟨es6, hp7⟩ := hp7
  subst es6
  have ghp7 := hp7
  refine x_if_ne (tgt := 22) hx hb rx5 dX10_home_17 (by decide) (fun c8 => ?_) (fun c8 => ?_)
  · skip
    refine x_iload_n hx hb hl 3 rfl dX10_home_22 rfl ?_
    refine x_bipush hx hb dX10_home_23 (by decide) ?_
    refine x_icmp_eq (tgt := 41) hx hb rx (by decide) dX10_home_25 (by decide) (fun c9 => ?_) (fun c9 => ?_)
    · skip
      refine x_aload_n hx hb hl 0 rfl dX10_home_41 rfl ?_
      refine x_get (j := 6) (v := .ref (h0 + 156)) hx hb hown hT hE hW cls_X10 (Or.inl (by decide)) (so_0 h0 g _) (by decide) rfl wq518 dX10_home_42 ?_
      refine x_iload_n hx hb hl 1 rfl dX10_home_45 rfl ?_
      refine x_iload_n hx hb hl 2 rfl dX10_home_46 rfl ?_
      refine x_goi (x_runVN (As := [.int (xJ j), .int (xJ n)]) hx hb hml hown hT hE hW hl.1 (Or.inl (by decide)) (so_156 h0 g _) rfl cf_X3_leastOwedWay wq1020 wq80 wn1018 (c_X3_leastOwedWay l D g T h0 s0 hW.2.1 j rj n rn (by omega) p0) ⟨rfl, rfl, ⟨by decide, by decide⟩, ⟨by decide, by decide⟩⟩ rfl rfl (Nat.le_of_ble_eq_true rfl) dX10_home_47) hW (fun x10 s11 H locs rx10 hp12 hW => ?_)
      obtain ⟨fs11, hp12⟩ := hp12
      have hF13 := hF.call fs11 (fun k h => by omega)
      have q14 : s11 1 1 = s0 1 1 := (congrFun (fs11 _ (by omega)) _).trans k1_1
      have ghp12 := hp12.2
      refine lv_istore (lv' := [(4, .int (xJ x10)), (0, .ref (h0 + 0)), (1, .int (xJ j)), (2, .int (xJ n)), (3, .int (xJ x))]) hx hb dX10_home_50 hl (by decide) rfl (fun ls hl => ?_)
      refine x_iload_n hx hb hl 4 rfl dX10_home_52 rfl ?_
      refine x_bipush hx hb dX10_home_53 (by decide) ?_
      refine x_icmp_ne (tgt := 63) hx hb rx (by decide) dX10_home_55 (by decide) (fun c15 => ?_) (fun c15 => ?_)
      · skip
        refine x_aload_n hx hb hl 1 rfl dX10_home_63 rfl ?_
        refine x_get (j := 6) (v := .ref (h0 + 156)) hx hb hown hT hE hW cls_X10 (Or.inl (by decide)) (so_0 h0 g _) (by decide) rfl wq518 dX10_home_64 ?_
        refine x_getN (j := 5) (v := .ref (h0 + 225)) hx hb hown hT hE hW cls_X3 (Or.inl (by decide)) (so_156 h0 g _) (by decide) rfl wn456 dX10_home_67 ?_
        refine x_iload_n hx hb hl 4 rfl dX10_home_70 rfl ?_
        refine x_iald hx hb hE hW (Or.inl (by decide)) (sa_225 h0 g _) (by omega) (by decide) dX10_home_71 ?_
        refine x_rd hW (fun x16 ex16 rx16 => ?_)
        rw [eQ]
        exact x_iret hx hb hr hlk hW rx16 ⟨hF13, ⟨hp12.1.1, trivial⟩, trivial⟩ dX10_home_72
      refine x_iload hx hb hl 0 rfl dX10_home_58 ?_
      refine lv_goto (tgt := 72) hx hb dX10_home_60 (by decide) ?_
      rw [eQ]
      exact x_iret hx hb hr hlk hW rx10 ⟨hF13, ⟨hp12.1.1, trivial⟩, trivial⟩ dX10_home_72
    refine x_iload_n hx hb hl 3 rfl dX10_home_28 rfl ?_
    refine x_iconst hx hb dX10_home_29 ?_
    refine x_iload_n hx hb hl 2 rfl dX10_home_30 rfl ?_
    refine x_iconst hx hb dX10_home_31 ?_
    refine x_isub hx hb dX10_home_32 ?_
    refine x_goi (x_runS (As := [.int (xJ x), .int (xJ 0), .int (xJ (n - 1))]) hx hb hml hown hT hE hW hl.1 cf_X10_isIn wq562 wq561 (c_X10_isIn l D g T h0 s0 hW.2.1 x rx 0 (by decide) (n - 1) (by omega)) ⟨rfl, rfl, ⟨by decide, by decide⟩, ⟨by decide, by decide⟩⟩ rfl rfl (Nat.le_of_ble_eq_true rfl) dX10_home_33) hW (fun x17 s18 H locs rx17 hp19 hW => ?_)
    obtain ⟨es18, hp19⟩ := hp19
    subst es18
    have ghp19 := hp19
    refine x_if_ne (tgt := 41) hx hb rx17 dX10_home_36 (by decide) (fun c20 => ?_) (fun c20 => ?_)
    · skip
      refine x_aload_n hx hb hl 0 rfl dX10_home_41 rfl ?_
      refine x_get (j := 6) (v := .ref (h0 + 156)) hx hb hown hT hE hW cls_X10 (Or.inl (by decide)) (so_0 h0 g _) (by decide) rfl wq518 dX10_home_42 ?_
      refine x_iload_n hx hb hl 1 rfl dX10_home_45 rfl ?_
      refine x_iload_n hx hb hl 2 rfl dX10_home_46 rfl ?_
      refine x_goi (x_runVN (As := [.int (xJ j), .int (xJ n)]) hx hb hml hown hT hE hW hl.1 (Or.inl (by decide)) (so_156 h0 g _) rfl cf_X3_leastOwedWay wq1020 wq80 wn1018 (c_X3_leastOwedWay l D g T h0 s0 hW.2.1 j rj n rn (by omega) p0) ⟨rfl, rfl, ⟨by decide, by decide⟩, ⟨by decide, by decide⟩⟩ rfl rfl (Nat.le_of_ble_eq_true rfl) dX10_home_47) hW (fun x21 s22 H locs rx21 hp23 hW => ?_)
      obtain ⟨fs22, hp23⟩ := hp23
      have hF24 := hF.call fs22 (fun k h => by omega)
      have q25 : s22 1 1 = s0 1 1 := (congrFun (fs22 _ (by omega)) _).trans k1_1
      have ghp23 := hp23.2
      refine lv_istore (lv' := [(4, .int (xJ x21)), (0, .ref (h0 + 0)), (1, .int (xJ j)), (2, .int (xJ n)), (3, .int (xJ x))]) hx hb dX10_home_50 hl (by decide) rfl (fun ls hl => ?_)
      refine x_iload_n hx hb hl 4 rfl dX10_home_52 rfl ?_
      refine x_bipush hx hb dX10_home_53 (by decide) ?_
      refine x_icmp_ne (tgt := 63) hx hb rx (by decide) dX10_home_55 (by decide) (fun c26 => ?_) (fun c26 => ?_)
      · skip
        refine x_aload_n hx hb hl 1 rfl dX10_home_63 rfl ?_
        refine x_get (j := 6) (v := .ref (h0 + 156)) hx hb hown hT hE hW cls_X10 (Or.inl (by decide)) (so_0 h0 g _) (by decide) rfl wq518 dX10_home_64 ?_
        refine x_getN (j := 5) (v := .ref (h0 + 225)) hx hb hown hT hE hW cls_X3 (Or.inl (by decide)) (so_156 h0 g _) (by decide) rfl wn456 dX10_home_67 ?_
        refine x_iload_n hx hb hl 4 rfl dX10_home_70 rfl ?_
        refine x_iald hx hb hE hW (Or.inl (by decide)) (sa_225 h0 g _) (by omega) (by decide) dX10_home_71 ?_
        refine x_rd hW (fun x27 ex27 rx27 => ?_)
        rw [eQ]
        exact x_iret hx hb hr hlk hW rx27 ⟨hF24, ⟨hp23.1.1, trivial⟩, trivial⟩ dX10_home_72
      refine x_iload hx hb hl 0 rfl dX10_home_58 ?_
      refine lv_goto (tgt := 72) hx hb dX10_home_60 (by decide) ?_
      rw [eQ]
      exact x_iret hx hb hr hlk hW rx21 ⟨hF24, ⟨hp23.1.1, trivial⟩, trivial⟩ dX10_home_72
    refine x_iconst hx hb dX10_home_39 ?_
    rw [eQ]
    exact x_iret hx hb hr hlk hW (by decide) ⟨hF, ⟨p0, trivial⟩, trivial⟩ dX10_home_40
  refine x_iconst hx hb dX10_home_20 ?_
  rw [eQ]
  exact x_iret hx hb hr hlk hW (by decide) ⟨hF, ⟨p0, trivial⟩, trivial⟩ dX10_home_21
set_option maxHeartbeats 4000000 in
set_option maxRecDepth 100000 in
theorem c_X10_first (l : Launch) (D : va_G) (g : xG) (T : Nat × Nat × Nat) (h0 : Nat) (s0 : xS) (hσ : xRR s0) (n : Int) (rn : xR n) (x : Int) (rx : xR x) (p0 : IC s0) : Met l yX10_first (xws yX10_first cX10_first 4 (some .int)) { frames := 7, cells := 0, slots := 0, locals := 179 } (xP [.ref (h0 + 0), .int (xJ n), .int (xJ x)] D g T h0 s0) (xQi D g h0 (fun r τ => xFr (fun k => (7 ≤ k ∧ k < 107) ∨ k = 107 ∨ k = 115 ∨ k = 116 ∨ k = 130 ∨ k = 131 ∨ k = 132 ∨ k = 133 ∨ k = 134 ∨ k = 135 ∨ k = 156 ∨ k = 158 ∨ k = 159 ∨ k = 160 ∨ k = 163 ∨ k = 164 ∨ k = 165 ∨ k = 166 ∨ k = 167) s0 τ ∧ (((IC τ) ∧ True) ∧ (True)))) 0 0 (xA h0) := by
  refine x_met hσ (by decide) (Nat.le_of_ble_eq_true rfl) ?_
  intro p e s m args below meth c hx hb hr hml hown hT hlk hnm hE hW ls hl
  have hl : lv_has ls 4 [(0, .ref (h0 + 0)), (1, .int (xJ n)), (2, .int (xJ x))] := hl
  obtain ⟨Q, eQ⟩ : ∃ Q, Q = MQ below (xQi D g h0 (fun r τ => xFr (fun k => (7 ≤ k ∧ k < 107) ∨ k = 107 ∨ k = 115 ∨ k = 116 ∨ k = 130 ∨ k = 131 ∨ k = 132 ∨ k = 133 ∨ k = 134 ∨ k = 135 ∨ k = 156 ∨ k = 158 ∨ k = 159 ∨ k = 160 ∨ k = 163 ∨ k = 164 ∨ k = 165 ∨ k = 166 ∨ k = 167) s0 τ ∧ (((IC τ) ∧ True) ∧ (True)))) args s 0 0 (xA h0) := ⟨_, rfl⟩
  rw [← eQ]
  generalize hHe : ([] : List Loc) = locs at hW ⊢
  obtain ⟨H, eH⟩ : ∃ H, H = s.heap := ⟨_, rfl⟩
  rw [← eH] at hW ⊢
  have hF : xFr (fun k => (7 ≤ k ∧ k < 107) ∨ k = 107 ∨ k = 115 ∨ k = 116 ∨ k = 130 ∨ k = 131 ∨ k = 132 ∨ k = 133 ∨ k = 134 ∨ k = 135 ∨ k = 156 ∨ k = 158 ∨ k = 159 ∨ k = 160 ∨ k = 163 ∨ k = 164 ∨ k = 165 ∨ k = 166 ∨ k = 167) s0 s0 := xFr.rf
  have k1_1 : s0 1 1 = s0 1 1 := rfl
  refine x_iload_n hx hb hl 1 rfl dX10_first_0 rfl ?_
  refine x_iconst hx hb dX10_first_1 ?_
  refine x_bipush hx hb dX10_first_2 (by decide) ?_
  refine x_goi (x_runS (As := [.int (xJ n), .int (xJ 1), .int (xJ 60)]) hx hb hml hown hT hE hW hl.1 cf_X10_isIn wq562 wq561 (c_X10_isIn l D g T h0 s0 hW.2.1 n rn 1 (by decide) 60 (by decide)) ⟨rfl, rfl, ⟨by decide, by decide⟩, ⟨by decide, by decide⟩⟩ rfl rfl (Nat.le_of_ble_eq_true rfl) dX10_first_4) hW (fun x1 s2 H locs rx1 hp3 hW => ?_)
  obtain ⟨es2, hp3⟩ := hp3
  subst es2
  have ghp3 := hp3
  refine x_if_eq (tgt := 19) hx hb rx1 dX10_first_7 (by decide) (fun c4 => ?_) (fun c4 => ?_)
  · skip
    refine x_iconst hx hb dX10_first_19 ?_
    rw [eQ]
    exact x_iret hx hb hr hlk hW (by decide) ⟨hF, ⟨p0, trivial⟩, trivial⟩ dX10_first_20
  refine x_iload_n hx hb hl 2 rfl dX10_first_10 rfl ?_
  refine x_iconst hx hb dX10_first_11 ?_
  refine x_iconst hx hb dX10_first_12 ?_
  refine x_goi (x_runS (As := [.int (xJ x), .int (xJ 0), .int (xJ 1)]) hx hb hml hown hT hE hW hl.1 cf_X10_isIn wq562 wq561 (c_X10_isIn l D g T h0 s0 hW.2.1 x rx 0 (by decide) 1 (by decide)) ⟨rfl, rfl, ⟨by decide, by decide⟩, ⟨by decide, by decide⟩⟩ rfl rfl (Nat.le_of_ble_eq_true rfl) dX10_first_13) hW (fun x5 s6 H locs rx5 hp7 hW => ?_)
  obtain ⟨es6, hp7⟩ := hp7
  subst es6
  have ghp7 := hp7
  refine x_if_ne (tgt := 21) hx hb rx5 dX10_first_16 (by decide) (fun c8 => ?_) (fun c8 => ?_)
  · skip
    refine x_aload_n hx hb hl 0 rfl dX10_first_21 rfl ?_
    refine x_get (j := 6) (v := .ref (h0 + 156)) hx hb hown hT hE hW cls_X10 (Or.inl (by decide)) (so_0 h0 g _) (by decide) rfl wq518 dX10_first_22 ?_
    refine x_iload_n hx hb hl 1 rfl dX10_first_25 rfl ?_
    refine x_goi (x_runVN (As := [.int (xJ n)]) hx hb hml hown hT hE hW hl.1 (Or.inl (by decide)) (so_156 h0 g _) rfl cf_X3_bestAhead wq1039 wq83 wn1037 (c_X3_bestAhead l D g T h0 s0 hW.2.1 n rn p0) ⟨rfl, rfl, ⟨by decide, by decide⟩, ⟨by decide, by decide⟩⟩ rfl rfl (Nat.le_of_ble_eq_true rfl) dX10_first_26) hW (fun x9 s10 H locs rx9 hp11 hW => ?_)
    obtain ⟨fs10, hp11⟩ := hp11
    have hF12 := hF.call fs10 (fun k h => by omega)
    have q13 : s10 1 1 = s0 1 1 := (congrFun (fs10 _ (by omega)) _).trans k1_1
    have ghp11 := hp11.2
    refine lv_istore_n (lv' := [(3, .int (xJ x9)), (0, .ref (h0 + 0)), (1, .int (xJ n)), (2, .int (xJ x))]) hx hb dX10_first_29 rfl hl (by decide) rfl (fun ls hl => ?_)
    refine x_iload_n hx hb hl 3 rfl dX10_first_30 rfl ?_
    refine x_if_ne (tgt := 44) hx hb rx dX10_first_31 (by decide) (fun c14 => ?_) (fun c14 => ?_)
    · skip
      refine x_iload_n hx hb hl 0 rfl dX10_first_44 rfl ?_
      rw [eQ]
      exact x_iret hx hb hr hlk hW rx9 ⟨hF12, ⟨hp11.1.1, trivial⟩, trivial⟩ dX10_first_45
    refine x_aload_n hx hb hl 1 rfl dX10_first_34 rfl ?_
    refine x_get (j := 6) (v := .ref (h0 + 156)) hx hb hown hT hE hW cls_X10 (Or.inl (by decide)) (so_0 h0 g _) (by decide) rfl wq518 dX10_first_35 ?_
    refine x_getN (j := 6) (v := .int (xJ (s10 156 6))) hx hb hown hT hE hW cls_X3 (Or.inl (by decide)) (so_156 h0 g _) (by decide) rfl wn458 dX10_first_38 ?_
    refine x_rd hW (fun x15 ex15 rx15 => ?_)
    refine lv_goto (tgt := 45) hx hb dX10_first_41 (by decide) ?_
    rw [eQ]
    exact x_iret hx hb hr hlk hW rx15 ⟨hF12, ⟨hp11.1.1, trivial⟩, trivial⟩ dX10_first_45
  refine x_iconst hx hb dX10_first_19 ?_
  rw [eQ]
  exact x_iret hx hb hr hlk hW (by decide) ⟨hF, ⟨p0, trivial⟩, trivial⟩ dX10_first_20
set_option maxHeartbeats 4000000 in
set_option maxRecDepth 100000 in
theorem c_X10_dark (l : Launch) (D : va_G) (g : xG) (T : Nat × Nat × Nat) (h0 : Nat) (s0 : xS) (hσ : xRR s0) (n : Int) (rn : xR n) (x : Int) (rx : xR x) (p0 : IC s0) : Met l yX10_dark (xws yX10_dark cX10_dark 4 (some .int)) { frames := 6, cells := 0, slots := 0, locals := 145 } (xP [.ref (h0 + 0), .int (xJ n), .int (xJ x)] D g T h0 s0) (xQi D g h0 (fun r τ => xFr (fun k => k = 115 ∨ k = 116 ∨ k = 130 ∨ k = 131 ∨ k = 132 ∨ k = 133 ∨ k = 158 ∨ k = 159 ∨ k = 160 ∨ k = 163 ∨ k = 164 ∨ k = 165 ∨ k = 166 ∨ k = 167 ∨ k = 226) s0 τ ∧ (((IC τ) ∧ True) ∧ (True)))) 0 0 (xA h0) := by
  refine x_met hσ (by decide) (Nat.le_of_ble_eq_true rfl) ?_
  intro p e s m args below meth c hx hb hr hml hown hT hlk hnm hE hW ls hl
  have hl : lv_has ls 4 [(0, .ref (h0 + 0)), (1, .int (xJ n)), (2, .int (xJ x))] := hl
  obtain ⟨Q, eQ⟩ : ∃ Q, Q = MQ below (xQi D g h0 (fun r τ => xFr (fun k => k = 115 ∨ k = 116 ∨ k = 130 ∨ k = 131 ∨ k = 132 ∨ k = 133 ∨ k = 158 ∨ k = 159 ∨ k = 160 ∨ k = 163 ∨ k = 164 ∨ k = 165 ∨ k = 166 ∨ k = 167 ∨ k = 226) s0 τ ∧ (((IC τ) ∧ True) ∧ (True)))) args s 0 0 (xA h0) := ⟨_, rfl⟩
  rw [← eQ]
  generalize hHe : ([] : List Loc) = locs at hW ⊢
  obtain ⟨H, eH⟩ : ∃ H, H = s.heap := ⟨_, rfl⟩
  rw [← eH] at hW ⊢
  have hF : xFr (fun k => k = 115 ∨ k = 116 ∨ k = 130 ∨ k = 131 ∨ k = 132 ∨ k = 133 ∨ k = 158 ∨ k = 159 ∨ k = 160 ∨ k = 163 ∨ k = 164 ∨ k = 165 ∨ k = 166 ∨ k = 167 ∨ k = 226) s0 s0 := xFr.rf
  have k1_1 : s0 1 1 = s0 1 1 := rfl
  refine x_iload_n hx hb hl 1 rfl dX10_dark_0 rfl ?_
  refine x_iconst hx hb dX10_dark_1 ?_
  refine x_bipush hx hb dX10_dark_2 (by decide) ?_
  refine x_goi (x_runS (As := [.int (xJ n), .int (xJ 1), .int (xJ 60)]) hx hb hml hown hT hE hW hl.1 cf_X10_isIn wq562 wq561 (c_X10_isIn l D g T h0 s0 hW.2.1 n rn 1 (by decide) 60 (by decide)) ⟨rfl, rfl, ⟨by decide, by decide⟩, ⟨by decide, by decide⟩⟩ rfl rfl (Nat.le_of_ble_eq_true rfl) dX10_dark_4) hW (fun x1 s2 H locs rx1 hp3 hW => ?_)
  obtain ⟨es2, hp3⟩ := hp3
  subst es2
  have ghp3 := hp3
  refine x_if_eq (tgt := 19) hx hb rx1 dX10_dark_7 (by decide) (fun c4 => ?_) (fun c4 => ?_)
  · skip
    refine x_iconst hx hb dX10_dark_19 ?_
    rw [eQ]
    exact x_iret hx hb hr hlk hW (by decide) ⟨hF, ⟨p0, trivial⟩, trivial⟩ dX10_dark_20
  refine x_iload_n hx hb hl 2 rfl dX10_dark_10 rfl ?_
  refine x_iconst hx hb dX10_dark_11 ?_
  refine x_iconst hx hb dX10_dark_12 ?_
  refine x_goi (x_runS (As := [.int (xJ x), .int (xJ 0), .int (xJ 2)]) hx hb hml hown hT hE hW hl.1 cf_X10_isIn wq562 wq561 (c_X10_isIn l D g T h0 s0 hW.2.1 x rx 0 (by decide) 2 (by decide)) ⟨rfl, rfl, ⟨by decide, by decide⟩, ⟨by decide, by decide⟩⟩ rfl rfl (Nat.le_of_ble_eq_true rfl) dX10_dark_13) hW (fun x5 s6 H locs rx5 hp7 hW => ?_)
  obtain ⟨es6, hp7⟩ := hp7
  subst es6
  have ghp7 := hp7
  refine x_if_ne (tgt := 21) hx hb rx5 dX10_dark_16 (by decide) (fun c8 => ?_) (fun c8 => ?_)
  · skip
    refine x_aload_n hx hb hl 0 rfl dX10_dark_21 rfl ?_
    refine x_get (j := 6) (v := .ref (h0 + 156)) hx hb hown hT hE hW cls_X10 (Or.inl (by decide)) (so_0 h0 g _) (by decide) rfl wq518 dX10_dark_22 ?_
    refine x_iload_n hx hb hl 1 rfl dX10_dark_25 rfl ?_
    refine x_gov (x_runVN (As := [.int (xJ n)]) hx hb hml hown hT hE hW hl.1 (Or.inl (by decide)) (so_156 h0 g _) rfl cf_X3_countShadedMinutes wq1048 wq84 wn1046 (c_X3_countShadedMinutes l D g T h0 s0 hW.2.1 n rn p0) ⟨rfl, rfl, ⟨by decide, by decide⟩, ⟨by decide, by decide⟩⟩ rfl rfl (Nat.le_of_ble_eq_true rfl) dX10_dark_26) hW (fun s10 H locs hp11 hW => ?_)
    obtain ⟨fs10, hp11⟩ := hp11
    have hF12 := hF.call fs10 (fun k h => by omega)
    have q13 : s10 1 1 = s0 1 1 := (congrFun (fs10 _ (by omega)) _).trans k1_1
    have ghp11 := hp11.2
    refine x_iload_n hx hb hl 2 rfl dX10_dark_29 rfl ?_
    refine x_if_ne (tgt := 41) hx hb rx dX10_dark_30 (by decide) (fun c14 => ?_) (fun c14 => ?_)
    · skip
      refine x_aload_n hx hb hl 0 rfl dX10_dark_41 rfl ?_
      refine x_get (j := 6) (v := .ref (h0 + 156)) hx hb hown hT hE hW cls_X10 (Or.inl (by decide)) (so_0 h0 g _) (by decide) rfl wq518 dX10_dark_42 ?_
      refine x_goi (x_runVN (As := []) hx hb hml hown hT hE hW hl.1 (Or.inl (by decide)) (so_156 h0 g _) rfl cf_X3_mostShaded wq1057 wq86 wn1055 (c_X3_mostShaded l D g T h0 s10 hW.2.1 hp11.1.1) ⟨rfl, rfl, ⟨by decide, by decide⟩, ⟨by decide, by decide⟩⟩ rfl rfl (Nat.le_of_ble_eq_true rfl) dX10_dark_45) hW (fun x15 s16 H locs rx15 hp17 hW => ?_)
      obtain ⟨es16, hp17⟩ := hp17
      subst es16
      have ghp17 := hp17
      refine lv_istore_n (lv' := [(3, .int (xJ x15)), (0, .ref (h0 + 0)), (1, .int (xJ n)), (2, .int (xJ x))]) hx hb dX10_dark_48 rfl hl (by decide) rfl (fun ls hl => ?_)
      refine x_iload_n hx hb hl 3 rfl dX10_dark_49 rfl ?_
      refine x_iconst hx hb dX10_dark_50 ?_
      refine x_icmp_ne (tgt := 66) hx hb rx (by decide) dX10_dark_51 (by decide) (fun c18 => ?_) (fun c18 => ?_)
      · skip
        refine x_iload_n hx hb hl 0 rfl dX10_dark_66 rfl ?_
        refine x_iconst hx hb dX10_dark_67 ?_
        refine x_icmp_ne (tgt := 75) hx hb rx15 (by decide) dX10_dark_68 (by decide) (fun c19 => ?_) (fun c19 => ?_)
        · skip
          refine x_aload_n hx hb hl 1 rfl dX10_dark_75 rfl ?_
          refine x_get (j := 6) (v := .ref (h0 + 156)) hx hb hown hT hE hW cls_X10 (Or.inl (by decide)) (so_0 h0 g _) (by decide) rfl wq518 dX10_dark_76 ?_
          refine x_getN (j := 7) (v := .ref (h0 + 226)) hx hb hown hT hE hW cls_X3 (Or.inl (by decide)) (so_156 h0 g _) (by decide) rfl wn460 dX10_dark_79 ?_
          refine x_iload_n hx hb hl 0 rfl dX10_dark_82 rfl ?_
          refine x_iald hx hb hE hW (Or.inl (by decide)) (sa_226 h0 g _) (by omega) (by decide) dX10_dark_83 ?_
          refine x_rd hW (fun x20 ex20 rx20 => ?_)
          rw [eQ]
          exact x_iret hx hb hr hlk hW rx20 ⟨hF12, ⟨hp11.1.1, trivial⟩, trivial⟩ dX10_dark_84
        refine x_iconst hx hb dX10_dark_71 ?_
        refine lv_goto (tgt := 84) hx hb dX10_dark_72 (by decide) ?_
        rw [eQ]
        exact x_iret hx hb hr hlk hW (by decide) ⟨hF12, ⟨hp11.1.1, trivial⟩, trivial⟩ dX10_dark_84
      refine x_iload_n hx hb hl 0 rfl dX10_dark_54 rfl ?_
      refine x_iconst hx hb dX10_dark_55 ?_
      refine x_icmp_ne (tgt := 64) hx hb rx15 (by decide) dX10_dark_56 (by decide) (fun c21 => ?_) (fun c21 => ?_)
      · skip
        refine x_iload_n hx hb hl 0 rfl dX10_dark_64 rfl ?_
        rw [eQ]
        exact x_iret hx hb hr hlk hW rx15 ⟨hF12, ⟨hp11.1.1, trivial⟩, trivial⟩ dX10_dark_65
      refine x_bipush hx hb dX10_dark_59 (by decide) ?_
      refine lv_goto (tgt := 65) hx hb dX10_dark_61 (by decide) ?_
      rw [eQ]
      exact x_iret hx hb hr hlk hW (by decide) ⟨hF12, ⟨hp11.1.1, trivial⟩, trivial⟩ dX10_dark_65
    refine x_aload_n hx hb hl 0 rfl dX10_dark_33 rfl ?_
    refine x_get (j := 6) (v := .ref (h0 + 156)) hx hb hown hT hE hW cls_X10 (Or.inl (by decide)) (so_0 h0 g _) (by decide) rfl wq518 dX10_dark_34 ?_
    refine x_goi (x_runVN (As := []) hx hb hml hown hT hE hW hl.1 (Or.inl (by decide)) (so_156 h0 g _) rfl cf_X3_howManyNeverShaded wq1052 wq85 wn1050 (c_X3_howManyNeverShaded l D g T h0 s10 hW.2.1 hp11.1.1) ⟨rfl, rfl, ⟨by decide, by decide⟩, ⟨by decide, by decide⟩⟩ rfl rfl (Nat.le_of_ble_eq_true rfl) dX10_dark_37) hW (fun x22 s23 H locs rx22 hp24 hW => ?_)
    obtain ⟨es23, hp24⟩ := hp24
    subst es23
    have ghp24 := hp24
    rw [eQ]
    exact x_iret hx hb hr hlk hW rx22 ⟨hF12, ⟨hp11.1.1, trivial⟩, trivial⟩ dX10_dark_40
  refine x_iconst hx hb dX10_dark_19 ?_
  rw [eQ]
  exact x_iret hx hb hr hlk hW (by decide) ⟨hF, ⟨p0, trivial⟩, trivial⟩ dX10_dark_20
set_option maxHeartbeats 4000000 in
set_option maxRecDepth 100000 in
theorem c_X10_hung (l : Launch) (D : va_G) (g : xG) (T : Nat × Nat × Nat) (h0 : Nat) (s0 : xS) (hσ : xRR s0) (x : Int) (rx : xR x) (p0 : IC s0) : Met l yX10_hung (xws yX10_hung cX10_hung 6 (some .int)) { frames := 5, cells := 0, slots := 0, locals := 121 } (xP [.ref (h0 + 0), .int (xJ x)] D g T h0 s0) (xQi D g h0 (fun r τ => xFr (fun k => k = 115 ∨ k = 116 ∨ k = 130 ∨ k = 131 ∨ k = 132 ∨ k = 133) s0 τ ∧ (((IC τ) ∧ True) ∧ (True)))) 0 0 (xA h0) := by
  refine x_met hσ (by decide) (Nat.le_of_ble_eq_true rfl) ?_
  intro p e s m args below meth c hx hb hr hml hown hT hlk hnm hE hW ls hl
  have hl : lv_has ls 6 [(0, .ref (h0 + 0)), (1, .int (xJ x))] := hl
  obtain ⟨Q, eQ⟩ : ∃ Q, Q = MQ below (xQi D g h0 (fun r τ => xFr (fun k => k = 115 ∨ k = 116 ∨ k = 130 ∨ k = 131 ∨ k = 132 ∨ k = 133) s0 τ ∧ (((IC τ) ∧ True) ∧ (True)))) args s 0 0 (xA h0) := ⟨_, rfl⟩
  rw [← eQ]
  generalize hHe : ([] : List Loc) = locs at hW ⊢
  obtain ⟨H, eH⟩ : ∃ H, H = s.heap := ⟨_, rfl⟩
  rw [← eH] at hW ⊢
  have hF : xFr (fun k => k = 115 ∨ k = 116 ∨ k = 130 ∨ k = 131 ∨ k = 132 ∨ k = 133) s0 s0 := xFr.rf
  have k1_1 : s0 1 1 = s0 1 1 := rfl
  refine x_iload_n hx hb hl 1 rfl dX10_hung_0 rfl ?_
  refine x_iconst hx hb dX10_hung_1 ?_
  refine x_iconst hx hb dX10_hung_2 ?_
  refine x_goi (x_runS (As := [.int (xJ x), .int (xJ 0), .int (xJ 1)]) hx hb hml hown hT hE hW hl.1 cf_X10_isIn wq562 wq561 (c_X10_isIn l D g T h0 s0 hW.2.1 x rx 0 (by decide) 1 (by decide)) ⟨rfl, rfl, ⟨by decide, by decide⟩, ⟨by decide, by decide⟩⟩ rfl rfl (Nat.le_of_ble_eq_true rfl) dX10_hung_3) hW (fun x1 s2 H locs rx1 hp3 hW => ?_)
  obtain ⟨es2, hp3⟩ := hp3
  subst es2
  have ghp3 := hp3
  refine x_if_ne (tgt := 11) hx hb rx1 dX10_hung_6 (by decide) (fun c4 => ?_) (fun c4 => ?_)
  · skip
    refine x_bipush hx hb dX10_hung_11 (by decide) ?_
    refine lv_istore_n (lv' := [(2, .int (xJ (-2))), (0, .ref (h0 + 0)), (1, .int (xJ x))]) hx hb dX10_hung_13 rfl hl (by decide) rfl (fun ls hl => ?_)
    refine x_iconst hx hb dX10_hung_14 ?_
    refine lv_istore_n (lv' := [(3, .int (xJ (-1))), (2, .int (xJ (-2))), (0, .ref (h0 + 0)), (1, .int (xJ x))]) hx hb dX10_hung_15 rfl hl (by decide) rfl (fun ls hl => ?_)
    refine x_iconst hx hb dX10_hung_16 ?_
    refine lv_istore (lv' := [(4, .int (xJ 0)), (3, .int (xJ (-1))), (2, .int (xJ (-2))), (0, .ref (h0 + 0)), (1, .int (xJ x))]) hx hb dX10_hung_17 hl (by decide) rfl (fun ls hl => ?_)
    have L19 : ∀ (fu : Nat) (i2_19 : Int) (i3_19 : Int) (i4_19 : Int) (s_19 : xS) (H : Heap) (locs : List Loc) (ls : Array Slot), (xR i2_19) → (xR i3_19) → (xR i4_19) → (xFr (fun k => k = 115 ∨ k = 116 ∨ k = 130 ∨ k = 131 ∨ k = 132 ∨ k = 133) s0 s_19) → (IC s_19) → (s_19 1 1 = s0 1 1) → (0 ≤ i4_19) → (i4_19 ≤ 100) → (100 + 1 - i4_19).toNat < fu → xW D g h0 s H locs s_19 → lv_has ls 6 [(0, .ref (h0 + 0)), (1, .int (xJ x)), (2, .int (xJ i2_19)), (3, .int (xJ i3_19)), (4, .int (xJ i4_19))] → W p l e { frames := 5, cells := 0, slots := 0, locals := 121 } s m args below meth c H locs 0 0 Q (F0 m 19 ls []) := by
      intro fu
      induction fu with
      | zero => intro i2_19 i3_19 i4_19 s_19 H locs ls ri2_19 ri3_19 ri4_19 hF_19 q19_0 q19_1 v19_0 v19_1 hm; exact absurd hm (Nat.not_lt_zero _)
      | succ fu ih19 =>
        intro i2_19 i3_19 i4_19 s_19 H locs ls ri2_19 ri3_19 ri4_19 hF_19 q19_0 q19_1 v19_0 v19_1 hm hW hl
        refine x_iload hx hb hl 4 rfl dX10_hung_19 ?_
        refine x_bipush hx hb dX10_hung_21 (by decide) ?_
        refine x_icmp_ge (tgt := 71) hx hb ri4_19 (by decide) dX10_hung_23 (by decide) (fun c5 => ?_) (fun c5 => ?_)
        · skip
          refine x_iload_n hx hb hl 1 rfl dX10_hung_71 rfl ?_
          refine x_if_ne (tgt := 79) hx hb rx dX10_hung_72 (by decide) (fun c6 => ?_) (fun c6 => ?_)
          · skip
            refine x_iload_n hx hb hl 3 rfl dX10_hung_79 rfl ?_
            refine x_iconst hx hb dX10_hung_80 ?_
            refine x_mmax hx hb hml hl.1 hown hT wq1073 wq594 wq180 wq595 ⟨by decide, Nat.le_of_ble_eq_true rfl, by decide, by decide⟩ ri3_19 (by decide) dX10_hung_81 ?_
            refine x_nm (fun x7 ex7 => ?_)
            have fx7 : (x7 = i3_19 ∧ 0 ≤ i3_19) ∨ (x7 = 0 ∧ i3_19 ≤ 0) := by rw [ex7]; split <;> omega
            rw [eQ]
            exact x_iret hx hb hr hlk hW (by omega) ⟨hF_19, ⟨q19_0, trivial⟩, trivial⟩ dX10_hung_84
          refine x_iload_n hx hb hl 2 rfl dX10_hung_75 rfl ?_
          refine lv_goto (tgt := 84) hx hb dX10_hung_76 (by decide) ?_
          rw [eQ]
          exact x_iret hx hb hr hlk hW ri2_19 ⟨hF_19, ⟨q19_0, trivial⟩, trivial⟩ dX10_hung_84
        refine x_aload_n hx hb hl 0 rfl dX10_hung_26 rfl ?_
        refine x_iload hx hb hl 4 rfl dX10_hung_27 ?_
        refine x_goi (x_runV (As := [.int (xJ i4_19)]) hx hb hml hown hT hE hW hl.1 (Or.inl (by decide)) (so_0 h0 g _) rfl cf_X10_isFreeForLamp wq1065 wq87 wq1063 (c_X10_isFreeForLamp l D g T h0 s_19 hW.2.1 i4_19 ri4_19 q19_0) ⟨rfl, rfl, ⟨by decide, by decide⟩, ⟨by decide, by decide⟩⟩ rfl rfl (Nat.le_of_ble_eq_true rfl) dX10_hung_29) hW (fun x8 s9 H locs rx8 hp10 hW => ?_)
        obtain ⟨es9, hp10⟩ := hp10
        subst es9
        have ghp10 := hp10
        refine x_if_ne (tgt := 38) hx hb rx8 dX10_hung_32 (by decide) (fun c11 => ?_) (fun c11 => ?_)
        · skip
          refine x_aload_n hx hb hl 0 rfl dX10_hung_38 rfl ?_
          refine x_get (j := 5) (v := .ref (h0 + 128)) hx hb hown hT hE hW cls_X10 (Or.inl (by decide)) (so_0 h0 g _) (by decide) rfl wq517 dX10_hung_39 ?_
          refine x_aload_n hx hb hl 0 rfl dX10_hung_42 rfl ?_
          refine x_get (j := 8) (v := .ref (h0 + 136)) hx hb hown hT hE hW cls_X10 (Or.inl (by decide)) (so_0 h0 g _) (by decide) rfl wq520 dX10_hung_43 ?_
          refine x_iload hx hb hl 4 rfl dX10_hung_46 ?_
          refine x_goi (x_runVN (As := [.ref (h0 + 136), .int (xJ i4_19)]) hx hb hml hown hT hE hW hl.1 (Or.inl (by decide)) (so_128 h0 g _) rfl cf_X0_spotsInLampShadows wq1071 wq88 wn1069 (c_X0_spotsInLampShadows l D g T h0 s_19 hW.2.1 136 xd_136 i4_19 ri4_19 q19_0) ⟨rfl, rfl, ⟨by decide, by decide⟩, ⟨by decide, by decide⟩⟩ rfl rfl (Nat.le_of_ble_eq_true rfl) dX10_hung_48) hW (fun x12 s13 H locs rx12 hp14 hW => ?_)
          obtain ⟨fs13, hp14⟩ := hp14
          have hF15 := hF_19.call fs13 (fun k h => by omega)
          have q16 : s13 1 1 = s0 1 1 := (congrFun (fs13 _ (by omega)) _).trans q19_1
          have ghp14 := hp14.2
          refine lv_istore (lv' := [(5, .int (xJ x12)), (0, .ref (h0 + 0)), (1, .int (xJ x)), (2, .int (xJ i2_19)), (3, .int (xJ i3_19)), (4, .int (xJ i4_19))]) hx hb dX10_hung_51 hl (by decide) rfl (fun ls hl => ?_)
          refine x_iload hx hb hl 0 rfl dX10_hung_53 ?_
          refine x_iload_n hx hb hl 4 rfl dX10_hung_55 rfl ?_
          refine x_icmp_le (tgt := 65) hx hb rx12 ri3_19 dX10_hung_56 (by decide) (fun c17 => ?_) (fun c17 => ?_)
          · skip
            refine x_iinc (lv' := [(4, .int (xJ (i4_19 + 1))), (5, .int (xJ x12)), (0, .ref (h0 + 0)), (1, .int (xJ x)), (2, .int (xJ i2_19)), (3, .int (xJ i3_19))]) hx hb hl 5 rfl dX10_hung_65 (by decide) rfl (fun ls hl => ?_)
            refine lv_goto (tgt := 19) hx hb dX10_hung_68 (by decide) ?_
            exact ih19 i2_19 i3_19 (i4_19 + 1) s13 H locs ls ri2_19 ri3_19 (by omega) hF15 hp14.1.1 q16 (by omega) (by omega) (by omega) hW (lv_sub hl [2, 3, 4, 5, 0] rfl)
          refine x_iload hx hb hl 0 rfl dX10_hung_59 ?_
          refine lv_istore_n (lv' := [(3, .int (xJ x12)), (5, .int (xJ x12)), (0, .ref (h0 + 0)), (1, .int (xJ x)), (2, .int (xJ i2_19)), (4, .int (xJ i4_19))]) hx hb dX10_hung_61 rfl hl (by decide) rfl (fun ls hl => ?_)
          refine x_iload hx hb hl 5 rfl dX10_hung_62 ?_
          refine lv_istore_n (lv' := [(2, .int (xJ i4_19)), (3, .int (xJ x12)), (5, .int (xJ x12)), (0, .ref (h0 + 0)), (1, .int (xJ x)), (4, .int (xJ i4_19))]) hx hb dX10_hung_64 rfl hl (by decide) rfl (fun ls hl => ?_)
          refine x_iinc (lv' := [(4, .int (xJ (i4_19 + 1))), (2, .int (xJ i4_19)), (3, .int (xJ x12)), (5, .int (xJ x12)), (0, .ref (h0 + 0)), (1, .int (xJ x))]) hx hb hl 5 rfl dX10_hung_65 (by decide) rfl (fun ls hl => ?_)
          refine lv_goto (tgt := 19) hx hb dX10_hung_68 (by decide) ?_
          exact ih19 i4_19 x12 (i4_19 + 1) s13 H locs ls ri4_19 rx12 (by omega) hF15 hp14.1.1 q16 (by omega) (by omega) (by omega) hW (lv_sub hl [4, 5, 1, 2, 0] rfl)
        refine lv_goto (tgt := 65) hx hb dX10_hung_35 (by decide) ?_
        refine x_iinc (lv' := [(4, .int (xJ (i4_19 + 1))), (0, .ref (h0 + 0)), (1, .int (xJ x)), (2, .int (xJ i2_19)), (3, .int (xJ i3_19))]) hx hb hl 4 rfl dX10_hung_65 (by decide) rfl (fun ls hl => ?_)
        refine lv_goto (tgt := 19) hx hb dX10_hung_68 (by decide) ?_
        exact ih19 i2_19 i3_19 (i4_19 + 1) s_19 H locs ls ri2_19 ri3_19 (by omega) hF_19 q19_0 q19_1 (by omega) (by omega) (by omega) hW (lv_sub hl [1, 2, 3, 4, 0] rfl)
    exact L19 ((100 + 1 - 0 : Int).toNat + 1) (-2) (-1) 0 s0 H locs ls (by decide) (by decide) (by decide) hF p0 k1_1 (by omega) (by omega) (Nat.lt_succ_self _) hW (lv_sub hl [3, 4, 2, 1, 0] rfl)
  refine x_iconst hx hb dX10_hung_9 ?_
  rw [eQ]
  exact x_iret hx hb hr hlk hW (by decide) ⟨hF, ⟨p0, trivial⟩, trivial⟩ dX10_hung_10
set_option maxHeartbeats 4000000 in
set_option maxRecDepth 100000 in
theorem c_X10_prints (l : Launch) (D : va_G) (g : xG) (T : Nat × Nat × Nat) (h0 : Nat) (s0 : xS) (hσ : xRR s0) (n : Int) (rn : xR n) (x : Int) (rx : xR x) (p0 : IC s0) : Met l yX10_prints (xws yX10_prints cX10_prints 4 (some .int)) { frames := 5, cells := 0, slots := 0, locals := 117 } (xP [.ref (h0 + 0), .int (xJ n), .int (xJ x)] D g T h0 s0) (xQi D g h0 (fun r τ => xFr (fun k => k = 1 ∨ k = 108) s0 τ ∧ (((IC τ) ∧ True) ∧ (((n < 2 ∨ 20 < n ∨ x < 0 ∨ 1 < x ∨ s0 1 1 < n) ∧ τ 1 1 = s0 1 1 ∧ r = -1) ∨ (¬ (n < 2 ∨ 20 < n ∨ x < 0 ∨ 1 < x ∨ s0 1 1 < n) ∧ τ 1 1 = 0))))) 0 0 (xA h0) := by
  refine x_met hσ (by decide) (Nat.le_of_ble_eq_true rfl) ?_
  intro p e s m args below meth c hx hb hr hml hown hT hlk hnm hE hW ls hl
  have hl : lv_has ls 4 [(0, .ref (h0 + 0)), (1, .int (xJ n)), (2, .int (xJ x))] := hl
  obtain ⟨Q, eQ⟩ : ∃ Q, Q = MQ below (xQi D g h0 (fun r τ => xFr (fun k => k = 1 ∨ k = 108) s0 τ ∧ (((IC τ) ∧ True) ∧ (((n < 2 ∨ 20 < n ∨ x < 0 ∨ 1 < x ∨ s0 1 1 < n) ∧ τ 1 1 = s0 1 1 ∧ r = -1) ∨ (¬ (n < 2 ∨ 20 < n ∨ x < 0 ∨ 1 < x ∨ s0 1 1 < n) ∧ τ 1 1 = 0))))) args s 0 0 (xA h0) := ⟨_, rfl⟩
  rw [← eQ]
  generalize hHe : ([] : List Loc) = locs at hW ⊢
  obtain ⟨H, eH⟩ : ∃ H, H = s.heap := ⟨_, rfl⟩
  rw [← eH] at hW ⊢
  have hF : xFr (fun k => k = 1 ∨ k = 108) s0 s0 := xFr.rf
  have k1_1 : s0 1 1 = s0 1 1 := rfl
  refine x_iload_n hx hb hl 1 rfl dX10_prints_0 rfl ?_
  refine x_iconst hx hb dX10_prints_1 ?_
  refine x_bipush hx hb dX10_prints_2 (by decide) ?_
  refine x_goi (x_runS (As := [.int (xJ n), .int (xJ 2), .int (xJ 20)]) hx hb hml hown hT hE hW hl.1 cf_X10_isIn wq562 wq561 (c_X10_isIn l D g T h0 s0 hW.2.1 n rn 2 (by decide) 20 (by decide)) ⟨rfl, rfl, ⟨by decide, by decide⟩, ⟨by decide, by decide⟩⟩ rfl rfl (Nat.le_of_ble_eq_true rfl) dX10_prints_4) hW (fun x1 s2 H locs rx1 hp3 hW => ?_)
  obtain ⟨es2, hp3⟩ := hp3
  subst es2
  have ghp3 := hp3
  refine x_if_eq (tgt := 30) hx hb rx1 dX10_prints_7 (by decide) (fun c4 => ?_) (fun c4 => ?_)
  · skip
    refine x_iconst hx hb dX10_prints_30 ?_
    rw [eQ]
    exact x_iret hx hb hr hlk hW (by decide) ⟨hF, ⟨p0, trivial⟩, by omega⟩ dX10_prints_31
  refine x_iload_n hx hb hl 2 rfl dX10_prints_10 rfl ?_
  refine x_iconst hx hb dX10_prints_11 ?_
  refine x_iconst hx hb dX10_prints_12 ?_
  refine x_goi (x_runS (As := [.int (xJ x), .int (xJ 0), .int (xJ 1)]) hx hb hml hown hT hE hW hl.1 cf_X10_isIn wq562 wq561 (c_X10_isIn l D g T h0 s0 hW.2.1 x rx 0 (by decide) 1 (by decide)) ⟨rfl, rfl, ⟨by decide, by decide⟩, ⟨by decide, by decide⟩⟩ rfl rfl (Nat.le_of_ble_eq_true rfl) dX10_prints_13) hW (fun x5 s6 H locs rx5 hp7 hW => ?_)
  obtain ⟨es6, hp7⟩ := hp7
  subst es6
  have ghp7 := hp7
  refine x_if_eq (tgt := 30) hx hb rx5 dX10_prints_16 (by decide) (fun c8 => ?_) (fun c8 => ?_)
  · skip
    refine x_iconst hx hb dX10_prints_30 ?_
    rw [eQ]
    exact x_iret hx hb hr hlk hW (by decide) ⟨hF, ⟨p0, trivial⟩, by omega⟩ dX10_prints_31
  refine x_iload_n hx hb hl 1 rfl dX10_prints_19 rfl ?_
  refine x_aload_n hx hb hl 0 rfl dX10_prints_20 rfl ?_
  refine x_get (j := 0) (v := .ref (h0 + 1)) hx hb hown hT hE hW cls_X10 (Or.inl (by decide)) (so_0 h0 g _) (by decide) rfl wq512 dX10_prints_21 ?_
  refine x_getN (j := 1) (v := .int (xJ (s0 1 1))) hx hb hown hT hE hW cls_X8 (Or.inl (by decide)) (so_1 h0 g _) (by decide) rfl wn198 dX10_prints_24 ?_
  refine x_rd hW (fun x9 ex9 rx9 => ?_)
  have bx9 : 0 ≤ x9 ∧ x9 ≤ 260 := by rw [ex9]; exact IC.t p0
  have fx9 : x9 = s0 1 1 := ex9.trans k1_1
  refine x_icmp_le (tgt := 32) hx hb rn rx9 dX10_prints_27 (by decide) (fun c10 => ?_) (fun c10 => ?_)
  · skip
    refine x_iconst hx hb dX10_prints_32 ?_
    refine lv_istore_n (lv' := [(3, .int (xJ (-1))), (0, .ref (h0 + 0)), (1, .int (xJ n)), (2, .int (xJ x))]) hx hb dX10_prints_33 rfl hl (by decide) rfl (fun ls hl => ?_)
    refine x_aload_n hx hb hl 1 rfl dX10_prints_34 rfl ?_
    refine x_iload_n hx hb hl 2 rfl dX10_prints_35 rfl ?_
    refine x_iconst hx hb dX10_prints_36 ?_
    refine x_bipush hx hb dX10_prints_37 (by decide) ?_
    refine x_goi (x_runV (As := [.int (xJ n), .int (xJ 0), .int (xJ 99)]) hx hb hml hown hT hE hW hl.1 (Or.inl (by decide)) (so_0 h0 g _) rfl cf_X10_hasBytesBeyond wq1080 wq89 wq1078 (c_X10_hasBytesBeyond l D g T h0 s0 hW.2.1 n rn 0 (by decide) 99 (by decide) (by omega) p0) ⟨rfl, rfl, ⟨by decide, by decide⟩, ⟨by decide, by decide⟩⟩ rfl rfl (Nat.le_of_ble_eq_true rfl) dX10_prints_39) hW (fun x11 s12 H locs rx11 hp13 hW => ?_)
    obtain ⟨es12, hp13⟩ := hp13
    subst es12
    have ghp13 := hp13
    refine x_if_eq (tgt := 51) hx hb rx11 dX10_prints_42 (by decide) (fun c14 => ?_) (fun c14 => ?_)
    · skip
      refine x_iload_n hx hb hl 3 rfl dX10_prints_51 rfl ?_
      refine x_if_ne (tgt := 64) hx hb rx dX10_prints_52 (by decide) (fun c15 => ?_) (fun c15 => ?_)
      · skip
        refine x_aload_n hx hb hl 1 rfl dX10_prints_64 rfl ?_
        refine x_iload_n hx hb hl 2 rfl dX10_prints_65 rfl ?_
        refine x_goi (x_runV (As := [.int (xJ n)]) hx hb hml hown hT hE hW hl.1 (Or.inl (by decide)) (so_0 h0 g _) rfl cf_X10_printsFailAt wq1104 wq95 wq1102 (c_X10_printsFailAt l D g T h0 s0 hW.2.1 n rn p0) ⟨rfl, rfl, ⟨by decide, by decide⟩, ⟨by decide, by decide⟩⟩ rfl rfl (Nat.le_of_ble_eq_true rfl) dX10_prints_66) hW (fun x16 s17 H locs rx16 hp18 hW => ?_)
        obtain ⟨fs17, hp18⟩ := hp18
        have hF19 := hF.call fs17 (fun k h => by omega)
        have q20 : s17 1 1 = s0 1 1 := (congrFun (fs17 _ (by omega)) _).trans k1_1
        have ghp18 := hp18.2
        refine lv_istore_n (lv' := [(3, .int (xJ x16)), (0, .ref (h0 + 0)), (1, .int (xJ n)), (2, .int (xJ x))]) hx hb dX10_prints_69 rfl hl (by decide) rfl (fun ls hl => ?_)
        refine x_aload_n hx hb hl 1 rfl dX10_prints_70 rfl ?_
        refine x_get (j := 0) (v := .ref (h0 + 1)) hx hb hown hT hE hW cls_X10 (Or.inl (by decide)) (so_0 h0 g _) (by decide) rfl wq512 dX10_prints_71 ?_
        refine x_gov (x_runVN (As := []) hx hb hml hown hT hE hW hl.1 (Or.inl (by decide)) (so_1 h0 g _) rfl cf_X8_drop wq607 wq7 wn605 (c_X8_drop l D g T h0 s17 hW.2.1 hp18.1.1) ⟨rfl, rfl, ⟨by decide, by decide⟩, ⟨by decide, by decide⟩⟩ rfl rfl (Nat.le_of_ble_eq_true rfl) dX10_prints_74) hW (fun s22 H locs hp23 hW => ?_)
        obtain ⟨fs22, hp23⟩ := hp23
        have hF24 := hF19.call fs22 (fun k h => by omega)
        have ghp23 := hp23.2
        refine x_iload_n hx hb hl 0 rfl dX10_prints_77 rfl ?_
        rw [eQ]
        exact x_iret hx hb hr hlk hW rx16 ⟨hF24, ⟨hp23.1.1, trivial⟩, by omega⟩ dX10_prints_78
      refine x_aload_n hx hb hl 1 rfl dX10_prints_55 rfl ?_
      refine x_iload_n hx hb hl 2 rfl dX10_prints_56 rfl ?_
      refine x_goi (x_runV (As := [.int (xJ n)]) hx hb hml hown hT hE hW hl.1 (Or.inl (by decide)) (so_0 h0 g _) rfl cf_X10_printMakers wq1088 wq91 wq1086 (c_X10_printMakers l D g T h0 s0 hW.2.1 n rn p0) ⟨rfl, rfl, ⟨by decide, by decide⟩, ⟨by decide, by decide⟩⟩ rfl rfl (Nat.le_of_ble_eq_true rfl) dX10_prints_57) hW (fun x25 s26 H locs rx25 hp27 hW => ?_)
      obtain ⟨fs26, hp27⟩ := hp27
      have hF28 := hF.call fs26 (fun k h => by omega)
      have q29 : s26 1 1 = s0 1 1 := (congrFun (fs26 _ (by omega)) _).trans k1_1
      have ghp27 := hp27.2
      refine lv_istore_n (lv' := [(3, .int (xJ x25)), (0, .ref (h0 + 0)), (1, .int (xJ n)), (2, .int (xJ x))]) hx hb dX10_prints_60 rfl hl (by decide) rfl (fun ls hl => ?_)
      refine lv_goto (tgt := 70) hx hb dX10_prints_61 (by decide) ?_
      refine x_aload_n hx hb hl 1 rfl dX10_prints_70 rfl ?_
      refine x_get (j := 0) (v := .ref (h0 + 1)) hx hb hown hT hE hW cls_X10 (Or.inl (by decide)) (so_0 h0 g _) (by decide) rfl wq512 dX10_prints_71 ?_
      refine x_gov (x_runVN (As := []) hx hb hml hown hT hE hW hl.1 (Or.inl (by decide)) (so_1 h0 g _) rfl cf_X8_drop wq607 wq7 wn605 (c_X8_drop l D g T h0 s26 hW.2.1 hp27.1.1) ⟨rfl, rfl, ⟨by decide, by decide⟩, ⟨by decide, by decide⟩⟩ rfl rfl (Nat.le_of_ble_eq_true rfl) dX10_prints_74) hW (fun s31 H locs hp32 hW => ?_)
      obtain ⟨fs31, hp32⟩ := hp32
      have hF33 := hF28.call fs31 (fun k h => by omega)
      have ghp32 := hp32.2
      refine x_iload_n hx hb hl 0 rfl dX10_prints_77 rfl ?_
      rw [eQ]
      exact x_iret hx hb hr hlk hW rx25 ⟨hF33, ⟨hp32.1.1, trivial⟩, by omega⟩ dX10_prints_78
    refine x_bipush hx hb dX10_prints_45 (by decide) ?_
    refine lv_istore_n (lv' := [(3, .int (xJ (-3))), (0, .ref (h0 + 0)), (1, .int (xJ n)), (2, .int (xJ x))]) hx hb dX10_prints_47 rfl hl (by decide) rfl (fun ls hl => ?_)
    refine lv_goto (tgt := 70) hx hb dX10_prints_48 (by decide) ?_
    refine x_aload_n hx hb hl 1 rfl dX10_prints_70 rfl ?_
    refine x_get (j := 0) (v := .ref (h0 + 1)) hx hb hown hT hE hW cls_X10 (Or.inl (by decide)) (so_0 h0 g _) (by decide) rfl wq512 dX10_prints_71 ?_
    refine x_gov (x_runVN (As := []) hx hb hml hown hT hE hW hl.1 (Or.inl (by decide)) (so_1 h0 g _) rfl cf_X8_drop wq607 wq7 wn605 (c_X8_drop l D g T h0 s0 hW.2.1 p0) ⟨rfl, rfl, ⟨by decide, by decide⟩, ⟨by decide, by decide⟩⟩ rfl rfl (Nat.le_of_ble_eq_true rfl) dX10_prints_74) hW (fun s35 H locs hp36 hW => ?_)
    obtain ⟨fs35, hp36⟩ := hp36
    have hF37 := hF.call fs35 (fun k h => by omega)
    have ghp36 := hp36.2
    refine x_iload_n hx hb hl 0 rfl dX10_prints_77 rfl ?_
    rw [eQ]
    exact x_iret hx hb hr hlk hW (by decide) ⟨hF37, ⟨hp36.1.1, trivial⟩, by omega⟩ dX10_prints_78
  refine x_iconst hx hb dX10_prints_30 ?_
  rw [eQ]
  exact x_iret hx hb hr hlk hW (by decide) ⟨hF, ⟨p0, trivial⟩, by omega⟩ dX10_prints_31
set_option maxHeartbeats 4000000 in
set_option maxRecDepth 100000 in
theorem c_X10_cloudy (l : Launch) (D : va_G) (g : xG) (T : Nat × Nat × Nat) (h0 : Nat) (s0 : xS) (hσ : xRR s0) (n : Int) (rn : xR n) (w : Int) (rw : xR w) (x : Int) (rx : xR x) (p0 : IC s0) : Met l yX10_cloudy (xws yX10_cloudy cX10_cloudy 5 (some .int)) { frames := 3, cells := 0, slots := 0, locals := 72 } (xP [.ref (h0 + 0), .int (xJ n), .int (xJ w), .int (xJ x)] D g T h0 s0) (xQi D g h0 (fun r τ => xFr (fun k => k = 1) s0 τ ∧ (((IC τ) ∧ True) ∧ (((n < 1 ∨ 10 < n ∨ w < 0 ∨ 90 < w ∨ x < 0 ∨ 2 < x ∨ s0 1 1 < n) ∧ τ 1 1 = s0 1 1 ∧ r = -1) ∨ (¬ (n < 1 ∨ 10 < n ∨ w < 0 ∨ 90 < w ∨ x < 0 ∨ 2 < x ∨ s0 1 1 < n) ∧ τ 1 1 = 0 ∧ ((zbad (s0 2) n 1 9 ∧ r = -3) ∨ (¬ zbad (s0 2) n 1 9 ∧ r = zans (s0 2) n w x (-1)))))))) 0 0 (xA h0) := by
  refine x_met hσ (by decide) (Nat.le_of_ble_eq_true rfl) ?_
  intro p e s m args below meth c hx hb hr hml hown hT hlk hnm hE hW ls hl
  have hl : lv_has ls 5 [(0, .ref (h0 + 0)), (1, .int (xJ n)), (2, .int (xJ w)), (3, .int (xJ x))] := hl
  obtain ⟨Q, eQ⟩ : ∃ Q, Q = MQ below (xQi D g h0 (fun r τ => xFr (fun k => k = 1) s0 τ ∧ (((IC τ) ∧ True) ∧ (((n < 1 ∨ 10 < n ∨ w < 0 ∨ 90 < w ∨ x < 0 ∨ 2 < x ∨ s0 1 1 < n) ∧ τ 1 1 = s0 1 1 ∧ r = -1) ∨ (¬ (n < 1 ∨ 10 < n ∨ w < 0 ∨ 90 < w ∨ x < 0 ∨ 2 < x ∨ s0 1 1 < n) ∧ τ 1 1 = 0 ∧ ((zbad (s0 2) n 1 9 ∧ r = -3) ∨ (¬ zbad (s0 2) n 1 9 ∧ r = zans (s0 2) n w x (-1)))))))) args s 0 0 (xA h0) := ⟨_, rfl⟩
  rw [← eQ]
  generalize hHe : ([] : List Loc) = locs at hW ⊢
  obtain ⟨H, eH⟩ : ∃ H, H = s.heap := ⟨_, rfl⟩
  rw [← eH] at hW ⊢
  have hF : xFr (fun k => k = 1) s0 s0 := xFr.rf
  have k1_1 : s0 1 1 = s0 1 1 := rfl
  refine x_iload_n hx hb hl 1 rfl dX10_cloudy_0 rfl ?_
  refine x_iconst hx hb dX10_cloudy_1 ?_
  refine x_bipush hx hb dX10_cloudy_2 (by decide) ?_
  refine x_goi (x_runS (As := [.int (xJ n), .int (xJ 1), .int (xJ 10)]) hx hb hml hown hT hE hW hl.1 cf_X10_isIn wq562 wq561 (c_X10_isIn l D g T h0 s0 hW.2.1 n rn 1 (by decide) 10 (by decide)) ⟨rfl, rfl, ⟨by decide, by decide⟩, ⟨by decide, by decide⟩⟩ rfl rfl (Nat.le_of_ble_eq_true rfl) dX10_cloudy_4) hW (fun x1 s2 H locs rx1 hp3 hW => ?_)
  obtain ⟨es2, hp3⟩ := hp3
  subst es2
  have ghp3 := hp3
  refine x_if_eq (tgt := 40) hx hb rx1 dX10_cloudy_7 (by decide) (fun c4 => ?_) (fun c4 => ?_)
  · skip
    refine x_iconst hx hb dX10_cloudy_40 ?_
    rw [eQ]
    exact x_iret hx hb hr hlk hW (by decide) ⟨hF, ⟨p0, trivial⟩, Or.inl ⟨by omega, by omega, by omega⟩⟩ dX10_cloudy_41
  refine x_iload_n hx hb hl 2 rfl dX10_cloudy_10 rfl ?_
  refine x_iconst hx hb dX10_cloudy_11 ?_
  refine x_bipush hx hb dX10_cloudy_12 (by decide) ?_
  refine x_goi (x_runS (As := [.int (xJ w), .int (xJ 0), .int (xJ 90)]) hx hb hml hown hT hE hW hl.1 cf_X10_isIn wq562 wq561 (c_X10_isIn l D g T h0 s0 hW.2.1 w rw 0 (by decide) 90 (by decide)) ⟨rfl, rfl, ⟨by decide, by decide⟩, ⟨by decide, by decide⟩⟩ rfl rfl (Nat.le_of_ble_eq_true rfl) dX10_cloudy_14) hW (fun x5 s6 H locs rx5 hp7 hW => ?_)
  obtain ⟨es6, hp7⟩ := hp7
  subst es6
  have ghp7 := hp7
  refine x_if_eq (tgt := 40) hx hb rx5 dX10_cloudy_17 (by decide) (fun c8 => ?_) (fun c8 => ?_)
  · skip
    refine x_iconst hx hb dX10_cloudy_40 ?_
    rw [eQ]
    exact x_iret hx hb hr hlk hW (by decide) ⟨hF, ⟨p0, trivial⟩, Or.inl ⟨by omega, by omega, by omega⟩⟩ dX10_cloudy_41
  refine x_iload_n hx hb hl 3 rfl dX10_cloudy_20 rfl ?_
  refine x_iconst hx hb dX10_cloudy_21 ?_
  refine x_iconst hx hb dX10_cloudy_22 ?_
  refine x_goi (x_runS (As := [.int (xJ x), .int (xJ 0), .int (xJ 2)]) hx hb hml hown hT hE hW hl.1 cf_X10_isIn wq562 wq561 (c_X10_isIn l D g T h0 s0 hW.2.1 x rx 0 (by decide) 2 (by decide)) ⟨rfl, rfl, ⟨by decide, by decide⟩, ⟨by decide, by decide⟩⟩ rfl rfl (Nat.le_of_ble_eq_true rfl) dX10_cloudy_23) hW (fun x9 s10 H locs rx9 hp11 hW => ?_)
  obtain ⟨es10, hp11⟩ := hp11
  subst es10
  have ghp11 := hp11
  refine x_if_eq (tgt := 40) hx hb rx9 dX10_cloudy_26 (by decide) (fun c12 => ?_) (fun c12 => ?_)
  · skip
    refine x_iconst hx hb dX10_cloudy_40 ?_
    rw [eQ]
    exact x_iret hx hb hr hlk hW (by decide) ⟨hF, ⟨p0, trivial⟩, Or.inl ⟨by omega, by omega, by omega⟩⟩ dX10_cloudy_41
  refine x_iload_n hx hb hl 1 rfl dX10_cloudy_29 rfl ?_
  refine x_aload_n hx hb hl 0 rfl dX10_cloudy_30 rfl ?_
  refine x_get (j := 0) (v := .ref (h0 + 1)) hx hb hown hT hE hW cls_X10 (Or.inl (by decide)) (so_0 h0 g _) (by decide) rfl wq512 dX10_cloudy_31 ?_
  refine x_getN (j := 1) (v := .int (xJ (s0 1 1))) hx hb hown hT hE hW cls_X8 (Or.inl (by decide)) (so_1 h0 g _) (by decide) rfl wn198 dX10_cloudy_34 ?_
  refine x_rd hW (fun x13 ex13 rx13 => ?_)
  have bx13 : 0 ≤ x13 ∧ x13 ≤ 260 := by rw [ex13]; exact IC.t p0
  have fx13 : x13 = s0 1 1 := ex13.trans k1_1
  refine x_icmp_le (tgt := 42) hx hb rn rx13 dX10_cloudy_37 (by decide) (fun c14 => ?_) (fun c14 => ?_)
  · skip
    refine x_aload_n hx hb hl 0 rfl dX10_cloudy_42 rfl ?_
    refine x_iload_n hx hb hl 1 rfl dX10_cloudy_43 rfl ?_
    refine x_iconst hx hb dX10_cloudy_44 ?_
    refine x_bipush hx hb dX10_cloudy_45 (by decide) ?_
    refine x_goi (x_runV (As := [.int (xJ n), .int (xJ 1), .int (xJ 9)]) hx hb hml hown hT hE hW hl.1 (Or.inl (by decide)) (so_0 h0 g _) rfl cf_X10_hasBytesBeyond wq1080 wq89 wq1078 (c_X10_hasBytesBeyond l D g T h0 s0 hW.2.1 n rn 1 (by decide) 9 (by decide) (by omega) p0) ⟨rfl, rfl, ⟨by decide, by decide⟩, ⟨by decide, by decide⟩⟩ rfl rfl (Nat.le_of_ble_eq_true rfl) dX10_cloudy_47) hW (fun x15 s16 H locs rx15 hp17 hW => ?_)
    obtain ⟨es16, hp17⟩ := hp17
    subst es16
    have ghp17 := hp17
    have H47 := ghp17
    refine x_if_eq (tgt := 58) hx hb rx15 dX10_cloudy_50 (by decide) (fun c18 => ?_) (fun c18 => ?_)
    · skip
      refine x_aload_n hx hb hl 0 rfl dX10_cloudy_58 rfl ?_
      refine x_iload_n hx hb hl 1 rfl dX10_cloudy_59 rfl ?_
      refine x_iload_n hx hb hl 2 rfl dX10_cloudy_60 rfl ?_
      refine x_iload_n hx hb hl 3 rfl dX10_cloudy_61 rfl ?_
      refine x_goi (x_runV (As := [.int (xJ n), .int (xJ w), .int (xJ x)]) hx hb hml hown hT hE hW hl.1 (Or.inl (by decide)) (so_0 h0 g _) rfl cf_X10_cloudySets wq1115 wq96 wq1113 (c_X10_cloudySets l D g T h0 s0 hW.2.1 n rn w rw x rx (by omega) (by omega) p0) ⟨rfl, rfl, ⟨by decide, by decide⟩, ⟨by decide, by decide⟩⟩ rfl rfl (Nat.le_of_ble_eq_true rfl) dX10_cloudy_62) hW (fun x19 s20 H locs rx19 hp21 hW => ?_)
      obtain ⟨es20, hp21⟩ := hp21
      subst es20
      have ghp21 := hp21
      have H62 := ghp21
      refine lv_istore (lv' := [(4, .int (xJ x19)), (0, .ref (h0 + 0)), (1, .int (xJ n)), (2, .int (xJ w)), (3, .int (xJ x))]) hx hb dX10_cloudy_65 hl (by decide) rfl (fun ls hl => ?_)
      refine x_aload_n hx hb hl 1 rfl dX10_cloudy_67 rfl ?_
      refine x_get (j := 0) (v := .ref (h0 + 1)) hx hb hown hT hE hW cls_X10 (Or.inl (by decide)) (so_0 h0 g _) (by decide) rfl wq512 dX10_cloudy_68 ?_
      refine x_gov (x_runVN (As := []) hx hb hml hown hT hE hW hl.1 (Or.inl (by decide)) (so_1 h0 g _) rfl cf_X8_drop wq607 wq7 wn605 (c_X8_drop l D g T h0 s0 hW.2.1 p0) ⟨rfl, rfl, ⟨by decide, by decide⟩, ⟨by decide, by decide⟩⟩ rfl rfl (Nat.le_of_ble_eq_true rfl) dX10_cloudy_71) hW (fun s23 H locs hp24 hW => ?_)
      obtain ⟨fs23, hp24⟩ := hp24
      have hF25 := hF.call fs23 (fun k h => by omega)
      have ghp24 := hp24.2
      refine x_iload hx hb hl 0 rfl dX10_cloudy_74 ?_
      rw [eQ]
      exact x_iret hx hb hr hlk hW rx19 ⟨hF25, ⟨hp24.1.1, trivial⟩, by first | exact Or.inr ⟨by omega, by omega, Or.inl ⟨(H47.resolve_right (fun q => by omega)).2, by omega⟩⟩ | exact Or.inr ⟨by omega, by omega, Or.inr ⟨(H47.resolve_left (fun q => by omega)).2, H62⟩⟩⟩ dX10_cloudy_76
    refine x_bipush hx hb dX10_cloudy_53 (by decide) ?_
    refine lv_goto (tgt := 65) hx hb dX10_cloudy_55 (by decide) ?_
    refine lv_istore (lv' := [(4, .int (xJ (-3))), (0, .ref (h0 + 0)), (1, .int (xJ n)), (2, .int (xJ w)), (3, .int (xJ x))]) hx hb dX10_cloudy_65 hl (by decide) rfl (fun ls hl => ?_)
    refine x_aload_n hx hb hl 1 rfl dX10_cloudy_67 rfl ?_
    refine x_get (j := 0) (v := .ref (h0 + 1)) hx hb hown hT hE hW cls_X10 (Or.inl (by decide)) (so_0 h0 g _) (by decide) rfl wq512 dX10_cloudy_68 ?_
    refine x_gov (x_runVN (As := []) hx hb hml hown hT hE hW hl.1 (Or.inl (by decide)) (so_1 h0 g _) rfl cf_X8_drop wq607 wq7 wn605 (c_X8_drop l D g T h0 s0 hW.2.1 p0) ⟨rfl, rfl, ⟨by decide, by decide⟩, ⟨by decide, by decide⟩⟩ rfl rfl (Nat.le_of_ble_eq_true rfl) dX10_cloudy_71) hW (fun s27 H locs hp28 hW => ?_)
    obtain ⟨fs27, hp28⟩ := hp28
    have hF29 := hF.call fs27 (fun k h => by omega)
    have ghp28 := hp28.2
    refine x_iload hx hb hl 0 rfl dX10_cloudy_74 ?_
    rw [eQ]
    exact x_iret hx hb hr hlk hW (by decide) ⟨hF29, ⟨hp28.1.1, trivial⟩, by first | exact Or.inr ⟨by omega, by omega, Or.inl ⟨(H47.resolve_right (fun q => by omega)).2, by omega⟩⟩ | exact Or.inr ⟨by omega, by omega, Or.inr ⟨(H47.resolve_left (fun q => by omega)).2, H62⟩⟩⟩ dX10_cloudy_76
  refine x_iconst hx hb dX10_cloudy_40 ?_
  rw [eQ]
  exact x_iret hx hb hr hlk hW (by decide) ⟨hF, ⟨p0, trivial⟩, Or.inl ⟨by omega, by omega, by omega⟩⟩ dX10_cloudy_41
set_option maxHeartbeats 4000000 in
set_option maxRecDepth 100000 in
theorem c_X10_together (l : Launch) (D : va_G) (g : xG) (T : Nat × Nat × Nat) (h0 : Nat) (s0 : xS) (hσ : xRR s0) (n : Int) (rn : xR n) (x : Int) (rx : xR x) (p0 : IC s0) : Met l yX10_together (xws yX10_together cX10_together 5 (some .int)) { frames := 3, cells := 0, slots := 0, locals := 77 } (xP [.ref (h0 + 0), .int (xJ n), .int (xJ x)] D g T h0 s0) (xQi D g h0 (fun r τ => xFr (fun k => k = 1 ∨ k = 267) s0 τ ∧ (((IC τ) ∧ True) ∧ (((n < 1 ∨ 8 < n ∨ x < 0 ∨ 2 < x ∨ s0 1 1 < 2 * n + 1 ∨ s0 1 1 < 2 * n + 1 + 2 * s0 2 (2 * n)) ∧ τ 1 1 = s0 1 1 ∧ r = -1) ∨ (¬ (n < 1 ∨ 8 < n ∨ x < 0 ∨ 2 < x ∨ s0 1 1 < 2 * n + 1 ∨ s0 1 1 < 2 * n + 1 + 2 * s0 2 (2 * n)) ∧ τ 1 1 = 0))))) 0 0 (xA h0) := by
  refine x_met hσ (by decide) (Nat.le_of_ble_eq_true rfl) ?_
  intro p e s m args below meth c hx hb hr hml hown hT hlk hnm hE hW ls hl
  have hl : lv_has ls 5 [(0, .ref (h0 + 0)), (1, .int (xJ n)), (2, .int (xJ x))] := hl
  obtain ⟨Q, eQ⟩ : ∃ Q, Q = MQ below (xQi D g h0 (fun r τ => xFr (fun k => k = 1 ∨ k = 267) s0 τ ∧ (((IC τ) ∧ True) ∧ (((n < 1 ∨ 8 < n ∨ x < 0 ∨ 2 < x ∨ s0 1 1 < 2 * n + 1 ∨ s0 1 1 < 2 * n + 1 + 2 * s0 2 (2 * n)) ∧ τ 1 1 = s0 1 1 ∧ r = -1) ∨ (¬ (n < 1 ∨ 8 < n ∨ x < 0 ∨ 2 < x ∨ s0 1 1 < 2 * n + 1 ∨ s0 1 1 < 2 * n + 1 + 2 * s0 2 (2 * n)) ∧ τ 1 1 = 0))))) args s 0 0 (xA h0) := ⟨_, rfl⟩
  rw [← eQ]
  generalize hHe : ([] : List Loc) = locs at hW ⊢
  obtain ⟨H, eH⟩ : ∃ H, H = s.heap := ⟨_, rfl⟩
  rw [← eH] at hW ⊢
  have hF : xFr (fun k => k = 1 ∨ k = 267) s0 s0 := xFr.rf
  have k1_1 : s0 1 1 = s0 1 1 := rfl
  refine x_iload_n hx hb hl 1 rfl dX10_together_0 rfl ?_
  refine x_iconst hx hb dX10_together_1 ?_
  refine x_bipush hx hb dX10_together_2 (by decide) ?_
  refine x_goi (x_runS (As := [.int (xJ n), .int (xJ 1), .int (xJ 8)]) hx hb hml hown hT hE hW hl.1 cf_X10_isIn wq562 wq561 (c_X10_isIn l D g T h0 s0 hW.2.1 n rn 1 (by decide) 8 (by decide)) ⟨rfl, rfl, ⟨by decide, by decide⟩, ⟨by decide, by decide⟩⟩ rfl rfl (Nat.le_of_ble_eq_true rfl) dX10_together_4) hW (fun x1 s2 H locs rx1 hp3 hW => ?_)
  obtain ⟨es2, hp3⟩ := hp3
  subst es2
  have ghp3 := hp3
  refine x_if_eq (tgt := 34) hx hb rx1 dX10_together_7 (by decide) (fun c4 => ?_) (fun c4 => ?_)
  · skip
    refine x_iconst hx hb dX10_together_34 ?_
    rw [eQ]
    exact x_iret hx hb hr hlk hW (by decide) ⟨hF, ⟨p0, trivial⟩, by omega⟩ dX10_together_35
  refine x_iload_n hx hb hl 2 rfl dX10_together_10 rfl ?_
  refine x_iconst hx hb dX10_together_11 ?_
  refine x_iconst hx hb dX10_together_12 ?_
  refine x_goi (x_runS (As := [.int (xJ x), .int (xJ 0), .int (xJ 2)]) hx hb hml hown hT hE hW hl.1 cf_X10_isIn wq562 wq561 (c_X10_isIn l D g T h0 s0 hW.2.1 x rx 0 (by decide) 2 (by decide)) ⟨rfl, rfl, ⟨by decide, by decide⟩, ⟨by decide, by decide⟩⟩ rfl rfl (Nat.le_of_ble_eq_true rfl) dX10_together_13) hW (fun x5 s6 H locs rx5 hp7 hW => ?_)
  obtain ⟨es6, hp7⟩ := hp7
  subst es6
  have ghp7 := hp7
  refine x_if_eq (tgt := 34) hx hb rx5 dX10_together_16 (by decide) (fun c8 => ?_) (fun c8 => ?_)
  · skip
    refine x_iconst hx hb dX10_together_34 ?_
    rw [eQ]
    exact x_iret hx hb hr hlk hW (by decide) ⟨hF, ⟨p0, trivial⟩, by omega⟩ dX10_together_35
  refine x_aload_n hx hb hl 0 rfl dX10_together_19 rfl ?_
  refine x_get (j := 0) (v := .ref (h0 + 1)) hx hb hown hT hE hW cls_X10 (Or.inl (by decide)) (so_0 h0 g _) (by decide) rfl wq512 dX10_together_20 ?_
  refine x_getN (j := 1) (v := .int (xJ (s0 1 1))) hx hb hown hT hE hW cls_X8 (Or.inl (by decide)) (so_1 h0 g _) (by decide) rfl wn198 dX10_together_23 ?_
  refine x_rd hW (fun x9 ex9 rx9 => ?_)
  have bx9 : 0 ≤ x9 ∧ x9 ≤ 260 := by rw [ex9]; exact IC.t p0
  have fx9 : x9 = s0 1 1 := ex9.trans k1_1
  refine x_iconst hx hb dX10_together_26 ?_
  refine x_iload_n hx hb hl 1 rfl dX10_together_27 rfl ?_
  refine x_imul hx hb dX10_together_28 ?_
  refine x_iconst hx hb dX10_together_29 ?_
  refine x_iadd hx hb dX10_together_30 ?_
  refine x_icmp_ge (tgt := 36) hx hb rx9 (by omega) dX10_together_31 (by decide) (fun c10 => ?_) (fun c10 => ?_)
  · skip
    refine x_aload_n hx hb hl 0 rfl dX10_together_36 rfl ?_
    refine x_get (j := 0) (v := .ref (h0 + 1)) hx hb hown hT hE hW cls_X10 (Or.inl (by decide)) (so_0 h0 g _) (by decide) rfl wq512 dX10_together_37 ?_
    refine x_iconst hx hb dX10_together_40 ?_
    refine x_iload_n hx hb hl 1 rfl dX10_together_41 rfl ?_
    refine x_imul hx hb dX10_together_42 ?_
    refine x_goi (x_runVN (As := [.int (xJ (2 * n))]) hx hb hml hown hT hE hW hl.1 (Or.inl (by decide)) (so_1 h0 g _) rfl cf_X8_byteAt wq1084 wq90 wn1082 (c_X8_byteAt l D g T h0 s0 hW.2.1 (2 * n) (by omega) p0) ⟨rfl, rfl, ⟨by decide, by decide⟩, ⟨by decide, by decide⟩⟩ rfl rfl (Nat.le_of_ble_eq_true rfl) dX10_together_43) hW (fun x11 s12 H locs rx11 hp13 hW => ?_)
    obtain ⟨es12, hp13⟩ := hp13
    subst es12
    have ghp13 := hp13
    refine lv_istore_n (lv' := [(3, .int (xJ x11)), (0, .ref (h0 + 0)), (1, .int (xJ n)), (2, .int (xJ x))]) hx hb dX10_together_46 rfl hl (by decide) rfl (fun ls hl => ?_)
    refine x_aload_n hx hb hl 1 rfl dX10_together_47 rfl ?_
    refine x_get (j := 0) (v := .ref (h0 + 1)) hx hb hown hT hE hW cls_X10 (Or.inl (by decide)) (so_0 h0 g _) (by decide) rfl wq512 dX10_together_48 ?_
    refine x_getN (j := 1) (v := .int (xJ (s0 1 1))) hx hb hown hT hE hW cls_X8 (Or.inl (by decide)) (so_1 h0 g _) (by decide) rfl wn198 dX10_together_51 ?_
    refine x_rd hW (fun x14 ex14 rx14 => ?_)
    have bx14 : 0 ≤ x14 ∧ x14 ≤ 260 := by rw [ex14]; exact IC.t p0
    have fx14 : x14 = s0 1 1 := ex14.trans k1_1
    refine x_iconst hx hb dX10_together_54 ?_
    refine x_iload_n hx hb hl 2 rfl dX10_together_55 rfl ?_
    refine x_imul hx hb dX10_together_56 ?_
    refine x_iconst hx hb dX10_together_57 ?_
    refine x_iadd hx hb dX10_together_58 ?_
    refine x_iconst hx hb dX10_together_59 ?_
    refine x_iload_n hx hb hl 0 rfl dX10_together_60 rfl ?_
    refine x_imul hx hb dX10_together_61 ?_
    refine x_iadd hx hb dX10_together_62 ?_
    refine x_icmp_ge (tgt := 68) hx hb rx14 (by omega) dX10_together_63 (by decide) (fun c15 => ?_) (fun c15 => ?_)
    · skip
      refine x_bipush hx hb dX10_together_68 (by decide) ?_
      refine lv_istore (lv' := [(4, .int (xJ (-2))), (3, .int (xJ x11)), (0, .ref (h0 + 0)), (1, .int (xJ n)), (2, .int (xJ x))]) hx hb dX10_together_70 hl (by decide) rfl (fun ls hl => ?_)
      refine x_iload_n hx hb hl 1 rfl dX10_together_72 rfl ?_
      refine x_bipush hx hb dX10_together_73 (by decide) ?_
      refine x_icmp_gt (tgt := 96) hx hb rx11 (by decide) dX10_together_75 (by decide) (fun c16 => ?_) (fun c16 => ?_)
      · skip
        refine x_aload_n hx hb hl 2 rfl dX10_together_96 rfl ?_
        refine x_get (j := 0) (v := .ref (h0 + 1)) hx hb hown hT hE hW cls_X10 (Or.inl (by decide)) (so_0 h0 g _) (by decide) rfl wq512 dX10_together_97 ?_
        refine x_gov (x_runVN (As := []) hx hb hml hown hT hE hW hl.1 (Or.inl (by decide)) (so_1 h0 g _) rfl cf_X8_drop wq607 wq7 wn605 (c_X8_drop l D g T h0 s0 hW.2.1 p0) ⟨rfl, rfl, ⟨by decide, by decide⟩, ⟨by decide, by decide⟩⟩ rfl rfl (Nat.le_of_ble_eq_true rfl) dX10_together_100) hW (fun s18 H locs hp19 hW => ?_)
        obtain ⟨fs18, hp19⟩ := hp19
        have hF20 := hF.call fs18 (fun k h => by omega)
        have ghp19 := hp19.2
        refine x_iload hx hb hl 0 rfl dX10_together_103 ?_
        rw [eQ]
        exact x_iret hx hb hr hlk hW (by decide) ⟨hF20, ⟨hp19.1.1, trivial⟩, by omega⟩ dX10_together_105
      refine x_aload_n hx hb hl 2 rfl dX10_together_78 rfl ?_
      refine x_iload_n hx hb hl 3 rfl dX10_together_79 rfl ?_
      refine x_iload_n hx hb hl 1 rfl dX10_together_80 rfl ?_
      refine x_goi (x_runV (As := [.int (xJ n), .int (xJ x11)]) hx hb hml hown hT hE hW hl.1 (Or.inl (by decide)) (so_0 h0 g _) rfl cf_X10_areAllPlaces wq1127 wq98 wq1125 (c_X10_areAllPlaces l D g T h0 s0 hW.2.1 n rn x11 rx11 (by omega) (by omega) p0) ⟨rfl, rfl, ⟨by decide, by decide⟩, ⟨by decide, by decide⟩⟩ rfl rfl (Nat.le_of_ble_eq_true rfl) dX10_together_81) hW (fun x21 s22 H locs rx21 hp23 hW => ?_)
      obtain ⟨es22, hp23⟩ := hp23
      subst es22
      have ghp23 := hp23
      refine x_if_eq (tgt := 96) hx hb rx21 dX10_together_84 (by decide) (fun c24 => ?_) (fun c24 => ?_)
      · skip
        refine x_aload_n hx hb hl 2 rfl dX10_together_96 rfl ?_
        refine x_get (j := 0) (v := .ref (h0 + 1)) hx hb hown hT hE hW cls_X10 (Or.inl (by decide)) (so_0 h0 g _) (by decide) rfl wq512 dX10_together_97 ?_
        refine x_gov (x_runVN (As := []) hx hb hml hown hT hE hW hl.1 (Or.inl (by decide)) (so_1 h0 g _) rfl cf_X8_drop wq607 wq7 wn605 (c_X8_drop l D g T h0 s0 hW.2.1 p0) ⟨rfl, rfl, ⟨by decide, by decide⟩, ⟨by decide, by decide⟩⟩ rfl rfl (Nat.le_of_ble_eq_true rfl) dX10_together_100) hW (fun s26 H locs hp27 hW => ?_)
        obtain ⟨fs26, hp27⟩ := hp27
        have hF28 := hF.call fs26 (fun k h => by omega)
        have ghp27 := hp27.2
        refine x_iload hx hb hl 0 rfl dX10_together_103 ?_
        rw [eQ]
        exact x_iret hx hb hr hlk hW (by decide) ⟨hF28, ⟨hp27.1.1, trivial⟩, by omega⟩ dX10_together_105
      refine x_aload_n hx hb hl 2 rfl dX10_together_87 rfl ?_
      refine x_iload_n hx hb hl 3 rfl dX10_together_88 rfl ?_
      refine x_iload_n hx hb hl 1 rfl dX10_together_89 rfl ?_
      refine x_iload_n hx hb hl 4 rfl dX10_together_90 rfl ?_
      refine x_goi (x_runV (As := [.int (xJ n), .int (xJ x11), .int (xJ x)]) hx hb hml hown hT hE hW hl.1 (Or.inl (by decide)) (so_0 h0 g _) rfl cf_X10_sentencesTogether wq1131 wq99 wq1129 (c_X10_sentencesTogether l D g T h0 s0 hW.2.1 n rn x11 rx11 x rx (by omega) (by omega) p0) ⟨rfl, rfl, ⟨by decide, by decide⟩, ⟨by decide, by decide⟩⟩ rfl rfl (Nat.le_of_ble_eq_true rfl) dX10_together_91) hW (fun x29 s30 H locs rx29 hp31 hW => ?_)
      obtain ⟨fs30, hp31⟩ := hp31
      have hF32 := hF.call fs30 (fun k h => by omega)
      have q33 : s30 1 1 = s0 1 1 := (congrFun (fs30 _ (by omega)) _).trans k1_1
      have ghp31 := hp31.2
      refine lv_istore (lv' := [(4, .int (xJ x29)), (3, .int (xJ x11)), (0, .ref (h0 + 0)), (1, .int (xJ n)), (2, .int (xJ x))]) hx hb dX10_together_94 hl (by decide) rfl (fun ls hl => ?_)
      refine x_aload_n hx hb hl 2 rfl dX10_together_96 rfl ?_
      refine x_get (j := 0) (v := .ref (h0 + 1)) hx hb hown hT hE hW cls_X10 (Or.inl (by decide)) (so_0 h0 g _) (by decide) rfl wq512 dX10_together_97 ?_
      refine x_gov (x_runVN (As := []) hx hb hml hown hT hE hW hl.1 (Or.inl (by decide)) (so_1 h0 g _) rfl cf_X8_drop wq607 wq7 wn605 (c_X8_drop l D g T h0 s30 hW.2.1 hp31.1.1) ⟨rfl, rfl, ⟨by decide, by decide⟩, ⟨by decide, by decide⟩⟩ rfl rfl (Nat.le_of_ble_eq_true rfl) dX10_together_100) hW (fun s35 H locs hp36 hW => ?_)
      obtain ⟨fs35, hp36⟩ := hp36
      have hF37 := hF32.call fs35 (fun k h => by omega)
      have ghp36 := hp36.2
      refine x_iload hx hb hl 0 rfl dX10_together_103 ?_
      rw [eQ]
      exact x_iret hx hb hr hlk hW rx29 ⟨hF37, ⟨hp36.1.1, trivial⟩, by omega⟩ dX10_together_105
    refine x_iconst hx hb dX10_together_66 ?_
    rw [eQ]
    exact x_iret hx hb hr hlk hW (by decide) ⟨hF, ⟨p0, trivial⟩, by omega⟩ dX10_together_67
  refine x_iconst hx hb dX10_together_34 ?_
  rw [eQ]
  exact x_iret hx hb hr hlk hW (by decide) ⟨hF, ⟨p0, trivial⟩, by omega⟩ dX10_together_35
set_option maxHeartbeats 4000000 in
set_option maxRecDepth 100000 in
theorem c_X10_servedBy (l : Launch) (D : va_G) (g : xG) (T : Nat × Nat × Nat) (h0 : Nat) (s0 : xS) (hσ : xRR s0) (n : Int) (rn : xR n) (x : Int) (rx : xR x) (p0 : IC s0) : Met l yX10_servedBy (xws yX10_servedBy cX10_servedBy 4 (some .int)) { frames := 6, cells := 0, slots := 0, locals := 155 } (xP [.ref (h0 + 0), .int (xJ n), .int (xJ x)] D g T h0 s0) (xQi D g h0 (fun r τ => xFr (fun k => (7 ≤ k ∧ k < 107) ∨ k = 107 ∨ k = 115 ∨ k = 116 ∨ k = 130 ∨ k = 131 ∨ k = 132 ∨ k = 133 ∨ k = 134 ∨ k = 135 ∨ k = 158 ∨ k = 159 ∨ k = 160 ∨ k = 163 ∨ k = 164 ∨ k = 165 ∨ k = 166 ∨ k = 167) s0 τ ∧ (((IC τ) ∧ True) ∧ (True)))) 0 0 (xA h0) := by
  refine x_met hσ (by decide) (Nat.le_of_ble_eq_true rfl) ?_
  intro p e s m args below meth c hx hb hr hml hown hT hlk hnm hE hW ls hl
  have hl : lv_has ls 4 [(0, .ref (h0 + 0)), (1, .int (xJ n)), (2, .int (xJ x))] := hl
  obtain ⟨Q, eQ⟩ : ∃ Q, Q = MQ below (xQi D g h0 (fun r τ => xFr (fun k => (7 ≤ k ∧ k < 107) ∨ k = 107 ∨ k = 115 ∨ k = 116 ∨ k = 130 ∨ k = 131 ∨ k = 132 ∨ k = 133 ∨ k = 134 ∨ k = 135 ∨ k = 158 ∨ k = 159 ∨ k = 160 ∨ k = 163 ∨ k = 164 ∨ k = 165 ∨ k = 166 ∨ k = 167) s0 τ ∧ (((IC τ) ∧ True) ∧ (True)))) args s 0 0 (xA h0) := ⟨_, rfl⟩
  rw [← eQ]
  generalize hHe : ([] : List Loc) = locs at hW ⊢
  obtain ⟨H, eH⟩ : ∃ H, H = s.heap := ⟨_, rfl⟩
  rw [← eH] at hW ⊢
  have hF : xFr (fun k => (7 ≤ k ∧ k < 107) ∨ k = 107 ∨ k = 115 ∨ k = 116 ∨ k = 130 ∨ k = 131 ∨ k = 132 ∨ k = 133 ∨ k = 134 ∨ k = 135 ∨ k = 158 ∨ k = 159 ∨ k = 160 ∨ k = 163 ∨ k = 164 ∨ k = 165 ∨ k = 166 ∨ k = 167) s0 s0 := xFr.rf
  have k1_1 : s0 1 1 = s0 1 1 := rfl
  refine x_iload_n hx hb hl 1 rfl dX10_servedBy_0 rfl ?_
  refine x_iconst hx hb dX10_servedBy_1 ?_
  refine x_bipush hx hb dX10_servedBy_2 (by decide) ?_
  refine x_goi (x_runS (As := [.int (xJ n), .int (xJ 1), .int (xJ 60)]) hx hb hml hown hT hE hW hl.1 cf_X10_isIn wq562 wq561 (c_X10_isIn l D g T h0 s0 hW.2.1 n rn 1 (by decide) 60 (by decide)) ⟨rfl, rfl, ⟨by decide, by decide⟩, ⟨by decide, by decide⟩⟩ rfl rfl (Nat.le_of_ble_eq_true rfl) dX10_servedBy_4) hW (fun x1 s2 H locs rx1 hp3 hW => ?_)
  obtain ⟨es2, hp3⟩ := hp3
  subst es2
  have ghp3 := hp3
  refine x_if_eq (tgt := 19) hx hb rx1 dX10_servedBy_7 (by decide) (fun c4 => ?_) (fun c4 => ?_)
  · skip
    refine x_iconst hx hb dX10_servedBy_19 ?_
    rw [eQ]
    exact x_iret hx hb hr hlk hW (by decide) ⟨hF, ⟨p0, trivial⟩, trivial⟩ dX10_servedBy_20
  refine x_iload_n hx hb hl 2 rfl dX10_servedBy_10 rfl ?_
  refine x_iconst hx hb dX10_servedBy_11 ?_
  refine x_iconst hx hb dX10_servedBy_12 ?_
  refine x_goi (x_runS (As := [.int (xJ x), .int (xJ 0), .int (xJ 2)]) hx hb hml hown hT hE hW hl.1 cf_X10_isIn wq562 wq561 (c_X10_isIn l D g T h0 s0 hW.2.1 x rx 0 (by decide) 2 (by decide)) ⟨rfl, rfl, ⟨by decide, by decide⟩, ⟨by decide, by decide⟩⟩ rfl rfl (Nat.le_of_ble_eq_true rfl) dX10_servedBy_13) hW (fun x5 s6 H locs rx5 hp7 hW => ?_)
  obtain ⟨es6, hp7⟩ := hp7
  subst es6
  have ghp7 := hp7
  refine x_if_ne (tgt := 21) hx hb rx5 dX10_servedBy_16 (by decide) (fun c8 => ?_) (fun c8 => ?_)
  · skip
    refine x_iload_n hx hb hl 2 rfl dX10_servedBy_21 rfl ?_
    refine x_iconst hx hb dX10_servedBy_22 ?_
    have J37 : ∀ (H : Heap) (locs : List Loc) (ls : Array Slot), xW D g h0 s H locs s0 → lv_has ls 4 [(0, .ref (h0 + 0)), (1, .int (xJ n)), (2, .int (xJ x))] → W p l e { frames := 6, cells := 0, slots := 0, locals := 155 } s m args below meth c H locs 0 0 Q (F0 m 37 ls []) := by
      intro H locs ls  hW hl
      refine x_iload_n hx hb hl 2 rfl dX10_servedBy_37 rfl ?_
      have J54 : ∀ (H : Heap) (locs : List Loc) (ls : Array Slot), xW D g h0 s H locs s0 → lv_has ls 4 [(0, .ref (h0 + 0)), (1, .int (xJ n)), (2, .int (xJ x))] → W p l e { frames := 6, cells := 0, slots := 0, locals := 155 } s m args below meth c H locs 0 0 Q (F0 m 54 ls []) := by
        intro H locs ls  hW hl
        refine x_aload_n hx hb hl 0 rfl dX10_servedBy_54 rfl ?_
        refine x_get (j := 6) (v := .ref (h0 + 156)) hx hb hown hT hE hW cls_X10 (Or.inl (by decide)) (so_0 h0 g _) (by decide) rfl wq518 dX10_servedBy_55 ?_
        refine x_gor (x_runVN (As := []) hx hb hml hown hT hE hW hl.1 (Or.inl (by decide)) (so_156 h0 g _) rfl cf_X3_copyOfNow wq914 wq63 wn912 (c_X3_copyOfNow l D g T h0 s0 hW.2.1 p0) ⟨rfl, rfl, ⟨by decide, by decide⟩, ⟨by decide, by decide⟩⟩ rfl rfl (Nat.le_of_ble_eq_true rfl) dX10_servedBy_58) hW (fun x9 s10 H locs hp11 hW => ?_)
        obtain ⟨ex9, hp11⟩ := hp11
        subst ex9
        obtain ⟨fs10, hp11⟩ := hp11
        have hF12 := hF.call fs10 (fun k h => by omega)
        have q13 : s10 1 1 = s0 1 1 := (congrFun (fs10 _ (by omega)) _).trans k1_1
        have ghp11 := hp11.2
        refine lv_astore_n (lv' := [(3, .ref (h0 + 158)), (0, .ref (h0 + 0)), (1, .int (xJ n)), (2, .int (xJ x))]) hx hb dX10_servedBy_61 rfl hl (by decide) rfl (fun ls hl => ?_)
        refine x_iload_n hx hb hl 3 rfl dX10_servedBy_62 rfl ?_
        refine x_iconst hx hb dX10_servedBy_63 ?_
        refine x_icmp_ge (tgt := 76) hx hb rx (by decide) dX10_servedBy_64 (by decide) (fun c14 => ?_) (fun c14 => ?_)
        · skip
          refine x_aload_n hx hb hl 1 rfl dX10_servedBy_76 rfl ?_
          refine x_get (j := 5) (v := .ref (h0 + 128)) hx hb hown hT hE hW cls_X10 (Or.inl (by decide)) (so_0 h0 g _) (by decide) rfl wq517 dX10_servedBy_77 ?_
          refine x_aload_n hx hb hl 0 rfl dX10_servedBy_80 rfl ?_
          refine x_iload_n hx hb hl 2 rfl dX10_servedBy_81 rfl ?_
          refine x_iconst hx hb dX10_servedBy_82 ?_
          refine x_goi (x_runVN (As := [.ref (h0 + 158), .int (xJ n), .int (xJ (-1))]) hx hb hml hown hT hE hW hl.1 (Or.inl (by decide)) (so_128 h0 g _) rfl cf_X0_goOn wq761 wq34 wn759 (c_X0_goOn l D g T h0 s10 hW.2.1 158 xd_158 n rn (-1) (by decide) hp11.1.1) ⟨rfl, rfl, ⟨by decide, by decide⟩, ⟨by decide, by decide⟩⟩ rfl rfl (Nat.le_of_ble_eq_true rfl) dX10_servedBy_83) hW (fun x15 s16 H locs rx15 hp17 hW => ?_)
          obtain ⟨fs16, hp17⟩ := hp17
          have hF18 := hF12.call fs16 (fun k h => by omega)
          have q19 : s16 1 1 = s0 1 1 := (congrFun (fs16 _ (by omega)) _).trans q13
          have ghp17 := hp17.2
          rw [eQ]
          exact x_iret hx hb hr hlk hW rx15 ⟨hF18, ⟨hp17.1.1, trivial⟩, trivial⟩ dX10_servedBy_86
        refine x_aload_n hx hb hl 0 rfl dX10_servedBy_67 rfl ?_
        refine x_getN (j := 0) (v := .ref (h0 + 159)) hx hb hown hT hE hW cls_X2 (Or.inl (by decide)) (so_158 h0 g _) (by decide) rfl wn385 dX10_servedBy_68 ?_
        refine x_iconst hx hb dX10_servedBy_71 ?_
        refine x_iload_n hx hb hl 3 rfl dX10_servedBy_72 rfl ?_
        refine x_isub hx hb dX10_servedBy_73 ?_
        refine x_iconst hx hb dX10_servedBy_74 ?_
        refine x_iast hx hb hE hW (by decide) (fun σ => sa_159 h0 g σ) (by omega) (by decide) (by decide) dX10_servedBy_75 (fun H locs s20 es20 hW => ?_)
        have q21 : s20 1 1 = s0 1 1 := (show s20 1 1 = s10 1 1 from by rw [es20, xU_k _ _ _ (by omega)]).trans q13
        have q22 : IC s20 := by rw [es20]; exact IC_o (by decide) hp11.1.1
        have hF23 := hF12.put es20 (by omega)
        refine x_aload_n hx hb hl 1 rfl dX10_servedBy_76 rfl ?_
        refine x_get (j := 5) (v := .ref (h0 + 128)) hx hb hown hT hE hW cls_X10 (Or.inl (by decide)) (so_0 h0 g _) (by decide) rfl wq517 dX10_servedBy_77 ?_
        refine x_aload_n hx hb hl 0 rfl dX10_servedBy_80 rfl ?_
        refine x_iload_n hx hb hl 2 rfl dX10_servedBy_81 rfl ?_
        refine x_iconst hx hb dX10_servedBy_82 ?_
        refine x_goi (x_runVN (As := [.ref (h0 + 158), .int (xJ n), .int (xJ (-1))]) hx hb hml hown hT hE hW hl.1 (Or.inl (by decide)) (so_128 h0 g _) rfl cf_X0_goOn wq761 wq34 wn759 (c_X0_goOn l D g T h0 s20 hW.2.1 158 xd_158 n rn (-1) (by decide) q22) ⟨rfl, rfl, ⟨by decide, by decide⟩, ⟨by decide, by decide⟩⟩ rfl rfl (Nat.le_of_ble_eq_true rfl) dX10_servedBy_83) hW (fun x24 s25 H locs rx24 hp26 hW => ?_)
        obtain ⟨fs25, hp26⟩ := hp26
        have hF27 := hF23.call fs25 (fun k h => by omega)
        have q28 : s25 1 1 = s0 1 1 := (congrFun (fs25 _ (by omega)) _).trans q21
        have ghp26 := hp26.2
        rw [eQ]
        exact x_iret hx hb hr hlk hW rx24 ⟨hF27, ⟨hp26.1.1, trivial⟩, trivial⟩ dX10_servedBy_86
      refine x_if_eq (tgt := 54) hx hb rx dX10_servedBy_38 (by decide) (fun c29 => ?_) (fun c29 => ?_)
      · skip
        exact J54 H locs ls  hW (lv_sub hl [0, 1, 2] rfl)
      refine x_aload_n hx hb hl 0 rfl dX10_servedBy_41 rfl ?_
      refine x_get (j := 8) (v := .ref (h0 + 136)) hx hb hown hT hE hW cls_X10 (Or.inl (by decide)) (so_0 h0 g _) (by decide) rfl wq520 dX10_servedBy_42 ?_
      refine x_iconst hx hb dX10_servedBy_45 ?_
      refine x_goi (x_runVN (As := [.int (xJ 1)]) hx hb hml hown hT hE hW hl.1 (Or.inl (by decide)) (so_136 h0 g _) rfl cf_X2_hasJudge wq773 wq37 wn911 (c_X2_hasJudge l D g T h0 s0 hW.2.1 136 xd_136 1 (by decide) p0) ⟨rfl, rfl, ⟨by decide, by decide⟩, ⟨by decide, by decide⟩⟩ rfl rfl (Nat.le_of_ble_eq_true rfl) dX10_servedBy_46) hW (fun x30 s31 H locs rx30 hp32 hW => ?_)
      obtain ⟨es31, hp32⟩ := hp32
      subst es31
      have ghp32 := hp32
      refine x_if_ne (tgt := 54) hx hb rx30 dX10_servedBy_49 (by decide) (fun c33 => ?_) (fun c33 => ?_)
      · skip
        exact J54 H locs ls  hW (lv_sub hl [0, 1, 2] rfl)
      refine x_iconst hx hb dX10_servedBy_52 ?_
      rw [eQ]
      exact x_iret hx hb hr hlk hW (by decide) ⟨hF, ⟨p0, trivial⟩, trivial⟩ dX10_servedBy_53
    refine x_icmp_eq (tgt := 37) hx hb rx (by decide) dX10_servedBy_23 (by decide) (fun c34 => ?_) (fun c34 => ?_)
    · skip
      exact J37 H locs ls  hW (lv_sub hl [0, 1, 2] rfl)
    refine x_aload_n hx hb hl 0 rfl dX10_servedBy_26 rfl ?_
    refine x_get (j := 8) (v := .ref (h0 + 136)) hx hb hown hT hE hW cls_X10 (Or.inl (by decide)) (so_0 h0 g _) (by decide) rfl wq520 dX10_servedBy_27 ?_
    refine x_iconst hx hb dX10_servedBy_30 ?_
    refine x_goi (x_runVN (As := [.int (xJ 0)]) hx hb hml hown hT hE hW hl.1 (Or.inl (by decide)) (so_136 h0 g _) rfl cf_X2_hasJudge wq773 wq37 wn911 (c_X2_hasJudge l D g T h0 s0 hW.2.1 136 xd_136 0 (by decide) p0) ⟨rfl, rfl, ⟨by decide, by decide⟩, ⟨by decide, by decide⟩⟩ rfl rfl (Nat.le_of_ble_eq_true rfl) dX10_servedBy_31) hW (fun x35 s36 H locs rx35 hp37 hW => ?_)
    obtain ⟨es36, hp37⟩ := hp37
    subst es36
    have ghp37 := hp37
    refine x_if_eq (tgt := 52) hx hb rx35 dX10_servedBy_34 (by decide) (fun c38 => ?_) (fun c38 => ?_)
    · skip
      refine x_iconst hx hb dX10_servedBy_52 ?_
      rw [eQ]
      exact x_iret hx hb hr hlk hW (by decide) ⟨hF, ⟨p0, trivial⟩, trivial⟩ dX10_servedBy_53
    exact J37 H locs ls  hW (lv_sub hl [0, 1, 2] rfl)
  refine x_iconst hx hb dX10_servedBy_19 ?_
  rw [eQ]
  exact x_iret hx hb hr hlk hW (by decide) ⟨hF, ⟨p0, trivial⟩, trivial⟩ dX10_servedBy_20
set_option maxHeartbeats 4000000 in
set_option maxRecDepth 100000 in
theorem c_X10_check (l : Launch) (D : va_G) (g : xG) (T : Nat × Nat × Nat) (h0 : Nat) (s0 : xS) (hσ : xRR s0) (n : Int) (rn : xR n) (p0 : IC s0) : Met l yX10_check (xws yX10_check cX10_check 4 (some .int)) { frames := 2, cells := 0, slots := 0, locals := 44 } (xP [.ref (h0 + 0), .int (xJ n)] D g T h0 s0) (xQi D g h0 (fun r τ => xFr (fun k => k = 1) s0 τ ∧ (((IC τ) ∧ True) ∧ (((n < 0 ∨ 10 < n ∨ s0 1 1 < 4 * n) ∧ τ 1 1 = s0 1 1 ∧ r = -2) ∨ (¬ (n < 0 ∨ 10 < n ∨ s0 1 1 < 4 * n) ∧ τ 1 1 = 0))))) 0 0 (xA h0) := by
  refine x_met hσ (by decide) (Nat.le_of_ble_eq_true rfl) ?_
  intro p e s m args below meth c hx hb hr hml hown hT hlk hnm hE hW ls hl
  have hl : lv_has ls 4 [(0, .ref (h0 + 0)), (1, .int (xJ n))] := hl
  obtain ⟨Q, eQ⟩ : ∃ Q, Q = MQ below (xQi D g h0 (fun r τ => xFr (fun k => k = 1) s0 τ ∧ (((IC τ) ∧ True) ∧ (((n < 0 ∨ 10 < n ∨ s0 1 1 < 4 * n) ∧ τ 1 1 = s0 1 1 ∧ r = -2) ∨ (¬ (n < 0 ∨ 10 < n ∨ s0 1 1 < 4 * n) ∧ τ 1 1 = 0))))) args s 0 0 (xA h0) := ⟨_, rfl⟩
  rw [← eQ]
  generalize hHe : ([] : List Loc) = locs at hW ⊢
  obtain ⟨H, eH⟩ : ∃ H, H = s.heap := ⟨_, rfl⟩
  rw [← eH] at hW ⊢
  have hF : xFr (fun k => k = 1) s0 s0 := xFr.rf
  have k1_1 : s0 1 1 = s0 1 1 := rfl
  refine x_iload_n hx hb hl 1 rfl dX10_check_0 rfl ?_
  refine x_iconst hx hb dX10_check_1 ?_
  refine x_bipush hx hb dX10_check_2 (by decide) ?_
  refine x_goi (x_runS (As := [.int (xJ n), .int (xJ 0), .int (xJ 10)]) hx hb hml hown hT hE hW hl.1 cf_X10_isIn wq562 wq561 (c_X10_isIn l D g T h0 s0 hW.2.1 n rn 0 (by decide) 10 (by decide)) ⟨rfl, rfl, ⟨by decide, by decide⟩, ⟨by decide, by decide⟩⟩ rfl rfl (Nat.le_of_ble_eq_true rfl) dX10_check_4) hW (fun x1 s2 H locs rx1 hp3 hW => ?_)
  obtain ⟨es2, hp3⟩ := hp3
  subst es2
  have ghp3 := hp3
  refine x_if_eq (tgt := 23) hx hb rx1 dX10_check_7 (by decide) (fun c4 => ?_) (fun c4 => ?_)
  · skip
    refine x_bipush hx hb dX10_check_23 (by decide) ?_
    rw [eQ]
    exact x_iret hx hb hr hlk hW (by decide) ⟨hF, ⟨p0, trivial⟩, by omega⟩ dX10_check_25
  refine x_iconst hx hb dX10_check_10 ?_
  refine x_iload_n hx hb hl 1 rfl dX10_check_11 rfl ?_
  refine x_imul hx hb dX10_check_12 ?_
  refine x_aload_n hx hb hl 0 rfl dX10_check_13 rfl ?_
  refine x_get (j := 0) (v := .ref (h0 + 1)) hx hb hown hT hE hW cls_X10 (Or.inl (by decide)) (so_0 h0 g _) (by decide) rfl wq512 dX10_check_14 ?_
  refine x_getN (j := 1) (v := .int (xJ (s0 1 1))) hx hb hown hT hE hW cls_X8 (Or.inl (by decide)) (so_1 h0 g _) (by decide) rfl wn198 dX10_check_17 ?_
  refine x_rd hW (fun x5 ex5 rx5 => ?_)
  have bx5 : 0 ≤ x5 ∧ x5 ≤ 260 := by rw [ex5]; exact IC.t p0
  have fx5 : x5 = s0 1 1 := ex5.trans k1_1
  refine x_icmp_le (tgt := 26) hx hb (by omega) rx5 dX10_check_20 (by decide) (fun c6 => ?_) (fun c6 => ?_)
  · skip
    refine x_iconst hx hb dX10_check_26 ?_
    refine lv_istore_n (lv' := [(2, .int (xJ (-1))), (0, .ref (h0 + 0)), (1, .int (xJ n))]) hx hb dX10_check_27 rfl hl (by decide) rfl (fun ls hl => ?_)
    refine x_iconst hx hb dX10_check_28 ?_
    refine lv_istore_n (lv' := [(3, .int (xJ 0)), (2, .int (xJ (-1))), (0, .ref (h0 + 0)), (1, .int (xJ n))]) hx hb dX10_check_29 rfl hl (by decide) rfl (fun ls hl => ?_)
    have L30 : ∀ (fu : Nat) (i2_30 : Int) (i3_30 : Int) (H : Heap) (locs : List Loc) (ls : Array Slot), (xR i2_30) → (xR i3_30) → (0 ≤ i3_30) → (n + 1 - i3_30).toNat < fu → xW D g h0 s H locs s0 → lv_has ls 4 [(0, .ref (h0 + 0)), (1, .int (xJ n)), (2, .int (xJ i2_30)), (3, .int (xJ i3_30))] → W p l e { frames := 2, cells := 0, slots := 0, locals := 44 } s m args below meth c H locs 0 0 Q (F0 m 30 ls []) := by
      intro fu
      induction fu with
      | zero => intro i2_30 i3_30 H locs ls ri2_30 ri3_30 v30_0 hm; exact absurd hm (Nat.not_lt_zero _)
      | succ fu ih30 =>
        intro i2_30 i3_30 H locs ls ri2_30 ri3_30 v30_0 hm hW hl
        refine x_iload_n hx hb hl 3 rfl dX10_check_30 rfl ?_
        refine x_iload_n hx hb hl 1 rfl dX10_check_31 rfl ?_
        refine x_icmp_ge (tgt := 70) hx hb ri3_30 rn dX10_check_32 (by decide) (fun c7 => ?_) (fun c7 => ?_)
        · skip
          refine x_aload_n hx hb hl 0 rfl dX10_check_70 rfl ?_
          refine x_get (j := 0) (v := .ref (h0 + 1)) hx hb hown hT hE hW cls_X10 (Or.inl (by decide)) (so_0 h0 g _) (by decide) rfl wq512 dX10_check_71 ?_
          refine x_gov (x_runVN (As := []) hx hb hml hown hT hE hW hl.1 (Or.inl (by decide)) (so_1 h0 g _) rfl cf_X8_drop wq607 wq7 wn605 (c_X8_drop l D g T h0 s0 hW.2.1 p0) ⟨rfl, rfl, ⟨by decide, by decide⟩, ⟨by decide, by decide⟩⟩ rfl rfl (Nat.le_of_ble_eq_true rfl) dX10_check_74) hW (fun s9 H locs hp10 hW => ?_)
          obtain ⟨fs9, hp10⟩ := hp10
          have hF11 := hF.call fs9 (fun k h => by omega)
          have ghp10 := hp10.2
          refine x_iload_n hx hb hl 2 rfl dX10_check_77 rfl ?_
          rw [eQ]
          exact x_iret hx hb hr hlk hW ri2_30 ⟨hF11, ⟨hp10.1.1, trivial⟩, by omega⟩ dX10_check_78
        refine x_iload_n hx hb hl 2 rfl dX10_check_35 rfl ?_
        refine x_iconst hx hb dX10_check_36 ?_
        refine x_icmp_ne (tgt := 70) hx hb ri2_30 (by decide) dX10_check_37 (by decide) (fun c12 => ?_) (fun c12 => ?_)
        · skip
          refine x_aload_n hx hb hl 0 rfl dX10_check_70 rfl ?_
          refine x_get (j := 0) (v := .ref (h0 + 1)) hx hb hown hT hE hW cls_X10 (Or.inl (by decide)) (so_0 h0 g _) (by decide) rfl wq512 dX10_check_71 ?_
          refine x_gov (x_runVN (As := []) hx hb hml hown hT hE hW hl.1 (Or.inl (by decide)) (so_1 h0 g _) rfl cf_X8_drop wq607 wq7 wn605 (c_X8_drop l D g T h0 s0 hW.2.1 p0) ⟨rfl, rfl, ⟨by decide, by decide⟩, ⟨by decide, by decide⟩⟩ rfl rfl (Nat.le_of_ble_eq_true rfl) dX10_check_74) hW (fun s14 H locs hp15 hW => ?_)
          obtain ⟨fs14, hp15⟩ := hp15
          have hF16 := hF.call fs14 (fun k h => by omega)
          have ghp15 := hp15.2
          refine x_iload_n hx hb hl 2 rfl dX10_check_77 rfl ?_
          rw [eQ]
          exact x_iret hx hb hr hlk hW ri2_30 ⟨hF16, ⟨hp15.1.1, trivial⟩, by omega⟩ dX10_check_78
        refine x_aload_n hx hb hl 0 rfl dX10_check_40 rfl ?_
        refine x_get (j := 0) (v := .ref (h0 + 1)) hx hb hown hT hE hW cls_X10 (Or.inl (by decide)) (so_0 h0 g _) (by decide) rfl wq512 dX10_check_41 ?_
        refine x_iconst hx hb dX10_check_44 ?_
        refine x_iload_n hx hb hl 3 rfl dX10_check_45 rfl ?_
        refine x_imul hx hb dX10_check_46 ?_
        refine x_goi (x_runVN (As := [.int (xJ (4 * i3_30))]) hx hb hml hown hT hE hW hl.1 (Or.inl (by decide)) (so_1 h0 g _) rfl cf_X8_numberAt wq1169 wq103 wn1167 (c_X8_numberAt l D g T h0 s0 hW.2.1 (4 * i3_30) (by omega) (by omega) p0) ⟨rfl, rfl, ⟨by decide, by decide⟩, ⟨by decide, by decide⟩⟩ rfl rfl (Nat.le_of_ble_eq_true rfl) dX10_check_47) hW (fun x17 s18 H locs rx17 hp19 hW => ?_)
        obtain ⟨es18, hp19⟩ := hp19
        subst es18
        have ghp19 := hp19
        refine x_aload_n hx hb hl 0 rfl dX10_check_50 rfl ?_
        refine x_get (j := 8) (v := .ref (h0 + 136)) hx hb hown hT hE hW cls_X10 (Or.inl (by decide)) (so_0 h0 g _) (by decide) rfl wq520 dX10_check_51 ?_
        refine x_getN (j := 4) (v := .ref (h0 + 143)) hx hb hown hT hE hW cls_X2 (Or.inl (by decide)) (so_136 h0 g _) (by decide) rfl wn394 dX10_check_54 ?_
        refine x_iload_n hx hb hl 3 rfl dX10_check_57 rfl ?_
        refine x_iald hx hb hE hW (Or.inl (by decide)) (sa_143 h0 g _) (by omega) (by decide) dX10_check_58 ?_
        refine x_rd hW (fun x20 ex20 rx20 => ?_)
        refine x_icmp_eq (tgt := 64) hx hb rx17 rx20 dX10_check_59 (by decide) (fun c21 => ?_) (fun c21 => ?_)
        · skip
          refine x_iinc (lv' := [(3, .int (xJ (i3_30 + 1))), (0, .ref (h0 + 0)), (1, .int (xJ n)), (2, .int (xJ i2_30))]) hx hb hl 3 rfl dX10_check_64 (by decide) rfl (fun ls hl => ?_)
          refine lv_goto (tgt := 30) hx hb dX10_check_67 (by decide) ?_
          exact ih30 i2_30 (i3_30 + 1) H locs ls ri2_30 (by omega) (by omega) (by omega) hW (lv_sub hl [1, 2, 3, 0] rfl)
        refine x_iload_n hx hb hl 3 rfl dX10_check_62 rfl ?_
        refine lv_istore_n (lv' := [(2, .int (xJ i3_30)), (0, .ref (h0 + 0)), (1, .int (xJ n)), (3, .int (xJ i3_30))]) hx hb dX10_check_63 rfl hl (by decide) rfl (fun ls hl => ?_)
        refine x_iinc (lv' := [(3, .int (xJ (i3_30 + 1))), (2, .int (xJ i3_30)), (0, .ref (h0 + 0)), (1, .int (xJ n))]) hx hb hl 3 rfl dX10_check_64 (by decide) rfl (fun ls hl => ?_)
        refine lv_goto (tgt := 30) hx hb dX10_check_67 (by decide) ?_
        exact ih30 i3_30 (i3_30 + 1) H locs ls ri3_30 (by omega) (by omega) (by omega) hW (lv_sub hl [2, 3, 1, 0] rfl)
    exact L30 ((n + 1 - 0 : Int).toNat + 1) (-1) 0 H locs ls (by decide) (by decide) (by omega) (Nat.lt_succ_self _) hW (lv_sub hl [2, 3, 1, 0] rfl)
  refine x_bipush hx hb dX10_check_23 (by decide) ?_
  rw [eQ]
  exact x_iret hx hb hr hlk hW (by decide) ⟨hF, ⟨p0, trivial⟩, by omega⟩ dX10_check_25
set_option maxHeartbeats 4000000 in
set_option maxRecDepth 100000 in
theorem c_X10_count (l : Launch) (D : va_G) (g : xG) (T : Nat × Nat × Nat) (h0 : Nat) (s0 : xS) (hσ : xRR s0) (x : Int) (rx : xR x) (p0 : IC s0) : Met l yX10_count (xws yX10_count cX10_count 2 (some .int)) { frames := 3, cells := 0, slots := 0, locals := 72 } (xP [.ref (h0 + 0), .int (xJ x)] D g T h0 s0) (xQi D g h0 (fun r τ => xFr (fun k => k = 115 ∨ k = 116) s0 τ ∧ (((IC τ) ∧ True) ∧ (True)))) 0 0 (xA h0) := by
  refine x_met hσ (by decide) (Nat.le_of_ble_eq_true rfl) ?_
  intro p e s m args below meth c hx hb hr hml hown hT hlk hnm hE hW ls hl
  have hl : lv_has ls 2 [(0, .ref (h0 + 0)), (1, .int (xJ x))] := hl
  obtain ⟨Q, eQ⟩ : ∃ Q, Q = MQ below (xQi D g h0 (fun r τ => xFr (fun k => k = 115 ∨ k = 116) s0 τ ∧ (((IC τ) ∧ True) ∧ (True)))) args s 0 0 (xA h0) := ⟨_, rfl⟩
  rw [← eQ]
  generalize hHe : ([] : List Loc) = locs at hW ⊢
  obtain ⟨H, eH⟩ : ∃ H, H = s.heap := ⟨_, rfl⟩
  rw [← eH] at hW ⊢
  have hF : xFr (fun k => k = 115 ∨ k = 116) s0 s0 := xFr.rf
  have k1_1 : s0 1 1 = s0 1 1 := rfl
  refine x_iload_n hx hb hl 1 rfl dX10_count_0 rfl ?_
  rcases (show (x < 0 ∨ 8 < x) ∨ x = 0 ∨ x = 1 ∨ x = 2 ∨ x = 3 ∨ x = 4 ∨ x = 5 ∨ x = 6 ∨ x = 7 ∨ x = 8 from by omega) with c1 | c1 | c1 | c1 | c1 | c1 | c1 | c1 | c1 | c1
  · refine x_tabOut (tgt := 148) hx hb rx dX10_count_1 c1 (by decide) ?_
    refine x_iload_n hx hb hl 1 rfl dX10_count_148 rfl ?_
    refine x_bipush hx hb dX10_count_149 (by decide) ?_
    refine x_bipush hx hb dX10_count_151 (by decide) ?_
    refine x_goi (x_runS (As := [.int (xJ x), .int (xJ 10), .int (xJ 11)]) hx hb hml hown hT hE hW hl.1 cf_X10_isIn wq562 wq561 (c_X10_isIn l D g T h0 s0 hW.2.1 x rx 10 (by decide) 11 (by decide)) ⟨rfl, rfl, ⟨by decide, by decide⟩, ⟨by decide, by decide⟩⟩ rfl rfl (Nat.le_of_ble_eq_true rfl) dX10_count_153) hW (fun x2 s3 H locs rx2 hp4 hW => ?_)
    obtain ⟨es3, hp4⟩ := hp4
    subst es3
    have ghp4 := hp4
    refine x_if_eq (tgt := 172) hx hb rx2 dX10_count_156 (by decide) (fun c5 => ?_) (fun c5 => ?_)
    · skip
      refine x_iload_n hx hb hl 1 rfl dX10_count_172 rfl ?_
      refine x_bipush hx hb dX10_count_173 (by decide) ?_
      refine x_bipush hx hb dX10_count_175 (by decide) ?_
      refine x_goi (x_runS (As := [.int (xJ x), .int (xJ 20), .int (xJ 21)]) hx hb hml hown hT hE hW hl.1 cf_X10_isIn wq562 wq561 (c_X10_isIn l D g T h0 s0 hW.2.1 x rx 20 (by decide) 21 (by decide)) ⟨rfl, rfl, ⟨by decide, by decide⟩, ⟨by decide, by decide⟩⟩ rfl rfl (Nat.le_of_ble_eq_true rfl) dX10_count_177) hW (fun x6 s7 H locs rx6 hp8 hW => ?_)
      obtain ⟨es7, hp8⟩ := hp8
      subst es7
      have ghp8 := hp8
      refine x_if_eq (tgt := 195) hx hb rx6 dX10_count_180 (by decide) (fun c9 => ?_) (fun c9 => ?_)
      · skip
        refine x_iload_n hx hb hl 1 rfl dX10_count_195 rfl ?_
        refine x_bipush hx hb dX10_count_196 (by decide) ?_
        refine x_bipush hx hb dX10_count_198 (by decide) ?_
        refine x_goi (x_runS (As := [.int (xJ x), .int (xJ 30), .int (xJ 33)]) hx hb hml hown hT hE hW hl.1 cf_X10_isIn wq562 wq561 (c_X10_isIn l D g T h0 s0 hW.2.1 x rx 30 (by decide) 33 (by decide)) ⟨rfl, rfl, ⟨by decide, by decide⟩, ⟨by decide, by decide⟩⟩ rfl rfl (Nat.le_of_ble_eq_true rfl) dX10_count_200) hW (fun x10 s11 H locs rx10 hp12 hW => ?_)
        obtain ⟨es11, hp12⟩ := hp12
        subst es11
        have ghp12 := hp12
        refine x_if_eq (tgt := 219) hx hb rx10 dX10_count_203 (by decide) (fun c13 => ?_) (fun c13 => ?_)
        · skip
          refine x_iload_n hx hb hl 1 rfl dX10_count_219 rfl ?_
          refine x_bipush hx hb dX10_count_220 (by decide) ?_
          refine x_sipush hx hb dX10_count_222 (by decide) ?_
          refine x_goi (x_runS (As := [.int (xJ x), .int (xJ 100), .int (xJ 199)]) hx hb hml hown hT hE hW hl.1 cf_X10_isIn wq562 wq561 (c_X10_isIn l D g T h0 s0 hW.2.1 x rx 100 (by decide) 199 (by decide)) ⟨rfl, rfl, ⟨by decide, by decide⟩, ⟨by decide, by decide⟩⟩ rfl rfl (Nat.le_of_ble_eq_true rfl) dX10_count_225) hW (fun x14 s15 H locs rx14 hp16 hW => ?_)
          obtain ⟨es15, hp16⟩ := hp16
          subst es15
          have ghp16 := hp16
          refine x_if_eq (tgt := 245) hx hb rx14 dX10_count_228 (by decide) (fun c17 => ?_) (fun c17 => ?_)
          · skip
            refine x_iconst hx hb dX10_count_245 ?_
            rw [eQ]
            exact x_iret hx hb hr hlk hW (by decide) ⟨hF, ⟨p0, trivial⟩, trivial⟩ dX10_count_246
          refine x_aload_n hx hb hl 0 rfl dX10_count_231 rfl ?_
          refine x_get (j := 1) (v := .ref (h0 + 3)) hx hb hown hT hE hW cls_X10 (Or.inl (by decide)) (so_0 h0 g _) (by decide) rfl wq513 dX10_count_232 ?_
          refine x_iload_n hx hb hl 1 rfl dX10_count_235 rfl ?_
          refine x_bipush hx hb dX10_count_236 (by decide) ?_
          refine x_isub hx hb dX10_count_238 ?_
          refine x_goi (x_runVN (As := [.int (xJ (x - 100))]) hx hb hml hown hT hE hW hl.1 (Or.inl (by decide)) (so_3 h0 g _) rfl cf_X6_kindAt wq619 wq10 wn1067 (c_X6_kindAt l D g T h0 s0 hW.2.1 (x - 100) (by omega) p0) ⟨rfl, rfl, ⟨by decide, by decide⟩, ⟨by decide, by decide⟩⟩ rfl rfl (Nat.le_of_ble_eq_true rfl) dX10_count_239) hW (fun x18 s19 H locs rx18 hp20 hW => ?_)
          obtain ⟨es19, hp20⟩ := hp20
          subst es19
          have ghp20 := hp20
          refine lv_goto (tgt := 246) hx hb dX10_count_242 (by decide) ?_
          rw [eQ]
          exact x_iret hx hb hr hlk hW rx18 ⟨hF, ⟨p0, trivial⟩, trivial⟩ dX10_count_246
        refine x_aload_n hx hb hl 0 rfl dX10_count_206 rfl ?_
        refine x_get (j := 5) (v := .ref (h0 + 128)) hx hb hown hT hE hW cls_X10 (Or.inl (by decide)) (so_0 h0 g _) (by decide) rfl wq517 dX10_count_207 ?_
        refine x_getN (j := 2) (v := .ref (h0 + 129)) hx hb hown hT hE hW cls_X0 (Or.inl (by decide)) (so_128 h0 g _) (by decide) rfl wn356 dX10_count_210 ?_
        refine x_iload_n hx hb hl 1 rfl dX10_count_213 rfl ?_
        refine x_bipush hx hb dX10_count_214 (by decide) ?_
        refine x_isub hx hb dX10_count_216 ?_
        refine x_iald hx hb hE hW (Or.inl (by decide)) (sa_129 h0 g _) (by omega) (by decide) dX10_count_217 ?_
        refine x_rd hW (fun x21 ex21 rx21 => ?_)
        rw [eQ]
        exact x_iret hx hb hr hlk hW rx21 ⟨hF, ⟨p0, trivial⟩, trivial⟩ dX10_count_218
      refine x_aload_n hx hb hl 0 rfl dX10_count_183 rfl ?_
      refine x_get (j := 8) (v := .ref (h0 + 136)) hx hb hown hT hE hW cls_X10 (Or.inl (by decide)) (so_0 h0 g _) (by decide) rfl wq520 dX10_count_184 ?_
      refine x_iload_n hx hb hl 1 rfl dX10_count_187 rfl ?_
      refine x_bipush hx hb dX10_count_188 (by decide) ?_
      refine x_isub hx hb dX10_count_190 ?_
      refine x_goi (x_runVN (As := [.int (xJ (x - 20))]) hx hb hml hown hT hE hW hl.1 (Or.inl (by decide)) (so_136 h0 g _) rfl cf_X2_stepsLeft wq781 wq39 wn1178 (c_X2_stepsLeft l D g T h0 s0 hW.2.1 136 xd_136 (x - 20) (by omega) p0) ⟨rfl, rfl, ⟨by decide, by decide⟩, ⟨by decide, by decide⟩⟩ rfl rfl (Nat.le_of_ble_eq_true rfl) dX10_count_191) hW (fun x22 s23 H locs rx22 hp24 hW => ?_)
      obtain ⟨es23, hp24⟩ := hp24
      subst es23
      have ghp24 := hp24
      rw [eQ]
      exact x_iret hx hb hr hlk hW rx22 ⟨hF, ⟨p0, trivial⟩, trivial⟩ dX10_count_194
    refine x_aload_n hx hb hl 0 rfl dX10_count_159 rfl ?_
    refine x_get (j := 8) (v := .ref (h0 + 136)) hx hb hown hT hE hW cls_X10 (Or.inl (by decide)) (so_0 h0 g _) (by decide) rfl wq520 dX10_count_160 ?_
    refine x_getN (j := 0) (v := .ref (h0 + 137)) hx hb hown hT hE hW cls_X2 (Or.inl (by decide)) (so_136 h0 g _) (by decide) rfl wn385 dX10_count_163 ?_
    refine x_iload_n hx hb hl 1 rfl dX10_count_166 rfl ?_
    refine x_bipush hx hb dX10_count_167 (by decide) ?_
    refine x_isub hx hb dX10_count_169 ?_
    refine x_iald hx hb hE hW (Or.inl (by decide)) (sa_137 h0 g _) (by omega) (by decide) dX10_count_170 ?_
    refine x_rd hW (fun x25 ex25 rx25 => ?_)
    rw [eQ]
    exact x_iret hx hb hr hlk hW rx25 ⟨hF, ⟨p0, trivial⟩, trivial⟩ dX10_count_171
  · refine x_tabIn (v := 0) (tgt := 52) hx hb rx c1 dX10_count_1 (by decide) rfl (by decide) ?_
    refine x_aload_n hx hb hl 0 rfl dX10_count_52 rfl ?_
    refine x_get (j := 8) (v := .ref (h0 + 136)) hx hb hown hT hE hW cls_X10 (Or.inl (by decide)) (so_0 h0 g _) (by decide) rfl wq520 dX10_count_53 ?_
    refine x_getN (j := 7) (v := .int (xJ (s0 136 7))) hx hb hown hT hE hW cls_X2 (Or.inl (by decide)) (so_136 h0 g _) (by decide) rfl wn403 dX10_count_56 ?_
    refine x_rd hW (fun x26 ex26 rx26 => ?_)
    have bx26 : 0 ≤ x26 ∧ x26 ≤ 9999 := by rw [ex26]; exact IC.m p0 xd_136
    rw [eQ]
    exact x_iret hx hb hr hlk hW rx26 ⟨hF, ⟨p0, trivial⟩, trivial⟩ dX10_count_59
  · refine x_tabIn (v := 1) (tgt := 60) hx hb rx c1 dX10_count_1 (by decide) rfl (by decide) ?_
    refine x_aload_n hx hb hl 0 rfl dX10_count_60 rfl ?_
    refine x_get (j := 8) (v := .ref (h0 + 136)) hx hb hown hT hE hW cls_X10 (Or.inl (by decide)) (so_0 h0 g _) (by decide) rfl wq520 dX10_count_61 ?_
    refine x_getN (j := 0) (v := .ref (h0 + 137)) hx hb hown hT hE hW cls_X2 (Or.inl (by decide)) (so_136 h0 g _) (by decide) rfl wn385 dX10_count_64 ?_
    refine x_goi (x_runS (As := [.ref (h0 + 137)]) hx hb hml hown hT hE hW hl.1 cf_X10_bitsOfTold wq1107 wq1106 (c_X10_bitsOfTold2 l D g T h0 s0 hW.2.1 137 (by decide) (by decide) (fun σ => sa_137 h0 g σ)) ⟨rfl, rfl, ⟨by decide, by decide⟩, ⟨by decide, by decide⟩⟩ rfl rfl (Nat.le_of_ble_eq_true rfl) dX10_count_67) hW (fun x27 s28 H locs rx27 hp29 hW => ?_)
    obtain ⟨es28, hp29⟩ := hp29
    subst es28
    have ghp29 := hp29
    rw [eQ]
    exact x_iret hx hb hr hlk hW rx27 ⟨hF, ⟨p0, trivial⟩, trivial⟩ dX10_count_70
  · refine x_tabIn (v := 2) (tgt := 71) hx hb rx c1 dX10_count_1 (by decide) rfl (by decide) ?_
    refine x_aload_n hx hb hl 0 rfl dX10_count_71 rfl ?_
    refine x_get (j := 8) (v := .ref (h0 + 136)) hx hb hown hT hE hW cls_X10 (Or.inl (by decide)) (so_0 h0 g _) (by decide) rfl wq520 dX10_count_72 ?_
    refine x_getN (j := 3) (v := .ref (h0 + 142)) hx hb hown hT hE hW cls_X2 (Or.inl (by decide)) (so_136 h0 g _) (by decide) rfl wn391 dX10_count_75 ?_
    refine x_goi (x_runS (As := [.ref (h0 + 142)]) hx hb hml hown hT hE hW hl.1 cf_X10_bitsOfTold wq1107 wq1106 (c_X10_bitsOfTold10 l D g T h0 s0 hW.2.1 142 (by decide) (by decide) (fun σ => sa_142 h0 g σ)) ⟨rfl, rfl, ⟨by decide, by decide⟩, ⟨by decide, by decide⟩⟩ rfl rfl (Nat.le_of_ble_eq_true rfl) dX10_count_78) hW (fun x30 s31 H locs rx30 hp32 hW => ?_)
    obtain ⟨es31, hp32⟩ := hp32
    subst es31
    have ghp32 := hp32
    rw [eQ]
    exact x_iret hx hb hr hlk hW rx30 ⟨hF, ⟨p0, trivial⟩, trivial⟩ dX10_count_81
  · refine x_tabIn (v := 3) (tgt := 82) hx hb rx c1 dX10_count_1 (by decide) rfl (by decide) ?_
    refine x_aload_n hx hb hl 0 rfl dX10_count_82 rfl ?_
    refine x_get (j := 5) (v := .ref (h0 + 128)) hx hb hown hT hE hW cls_X10 (Or.inl (by decide)) (so_0 h0 g _) (by decide) rfl wq517 dX10_count_83 ?_
    refine x_getN (j := 2) (v := .ref (h0 + 129)) hx hb hown hT hE hW cls_X0 (Or.inl (by decide)) (so_128 h0 g _) (by decide) rfl wn356 dX10_count_86 ?_
    refine x_goi (x_runS (As := [.ref (h0 + 129)]) hx hb hml hown hT hE hW hl.1 cf_X10_bitsOfTold wq1107 wq1106 (c_X10_bitsOfTold4 l D g T h0 s0 hW.2.1 129 (by decide) (by decide) (fun σ => sa_129 h0 g σ)) ⟨rfl, rfl, ⟨by decide, by decide⟩, ⟨by decide, by decide⟩⟩ rfl rfl (Nat.le_of_ble_eq_true rfl) dX10_count_89) hW (fun x33 s34 H locs rx33 hp35 hW => ?_)
    obtain ⟨es34, hp35⟩ := hp35
    subst es34
    have ghp35 := hp35
    rw [eQ]
    exact x_iret hx hb hr hlk hW rx33 ⟨hF, ⟨p0, trivial⟩, trivial⟩ dX10_count_92
  · refine x_tabIn (v := 4) (tgt := 93) hx hb rx c1 dX10_count_1 (by decide) rfl (by decide) ?_
    refine x_aload_n hx hb hl 0 rfl dX10_count_93 rfl ?_
    refine x_get (j := 8) (v := .ref (h0 + 136)) hx hb hown hT hE hW cls_X10 (Or.inl (by decide)) (so_0 h0 g _) (by decide) rfl wq520 dX10_count_94 ?_
    refine x_goi (x_runVN (As := []) hx hb hml hown hT hE hW hl.1 (Or.inl (by decide)) (so_136 h0 g _) rfl cf_X2_owedByAll wq765 wq35 wn1176 (c_X2_owedByAll l D g T h0 s0 hW.2.1 136 xd_136 p0) ⟨rfl, rfl, ⟨by decide, by decide⟩, ⟨by decide, by decide⟩⟩ rfl rfl (Nat.le_of_ble_eq_true rfl) dX10_count_97) hW (fun x36 s37 H locs rx36 hp38 hW => ?_)
    obtain ⟨es37, hp38⟩ := hp38
    subst es37
    have ghp38 := hp38
    rw [eQ]
    exact x_iret hx hb hr hlk hW rx36 ⟨hF, ⟨p0, trivial⟩, trivial⟩ dX10_count_100
  · refine x_tabIn (v := 5) (tgt := 101) hx hb rx c1 dX10_count_1 (by decide) rfl (by decide) ?_
    refine x_aload_n hx hb hl 0 rfl dX10_count_101 rfl ?_
    refine x_get (j := 2) (v := .ref (h0 + 109)) hx hb hown hT hE hW cls_X10 (Or.inl (by decide)) (so_0 h0 g _) (by decide) rfl wq514 dX10_count_102 ?_
    refine x_getN (j := 6) (v := .int (xJ (s0 109 6))) hx hb hown hT hE hW cls_X4 (Or.inl (by decide)) (so_109 h0 g _) (by decide) rfl wn263 dX10_count_105 ?_
    refine x_rd hW (fun x39 ex39 rx39 => ?_)
    have bx39 : 0 ≤ x39 ∧ x39 ≤ 16 := by rw [ex39]; exact (IC.l1 p0).2
    rw [eQ]
    exact x_iret hx hb hr hlk hW rx39 ⟨hF, ⟨p0, trivial⟩, trivial⟩ dX10_count_108
  · refine x_tabIn (v := 6) (tgt := 109) hx hb rx c1 dX10_count_1 (by decide) rfl (by decide) ?_
    refine x_aload_n hx hb hl 0 rfl dX10_count_109 rfl ?_
    refine x_get (j := 0) (v := .ref (h0 + 1)) hx hb hown hT hE hW cls_X10 (Or.inl (by decide)) (so_0 h0 g _) (by decide) rfl wq512 dX10_count_110 ?_
    refine x_getN (j := 1) (v := .int (xJ (s0 1 1))) hx hb hown hT hE hW cls_X8 (Or.inl (by decide)) (so_1 h0 g _) (by decide) rfl wn198 dX10_count_113 ?_
    refine x_rd hW (fun x40 ex40 rx40 => ?_)
    have bx40 : 0 ≤ x40 ∧ x40 ≤ 260 := by rw [ex40]; exact IC.t p0
    have fx40 : x40 = s0 1 1 := ex40.trans k1_1
    rw [eQ]
    exact x_iret hx hb hr hlk hW rx40 ⟨hF, ⟨p0, trivial⟩, trivial⟩ dX10_count_116
  · refine x_tabIn (v := 7) (tgt := 117) hx hb rx c1 dX10_count_1 (by decide) rfl (by decide) ?_
    refine x_aload_n hx hb hl 0 rfl dX10_count_117 rfl ?_
    refine x_get (j := 8) (v := .ref (h0 + 136)) hx hb hown hT hE hW cls_X10 (Or.inl (by decide)) (so_0 h0 g _) (by decide) rfl wq520 dX10_count_118 ?_
    refine x_getN (j := 8) (v := .int (xJ (s0 136 8))) hx hb hown hT hE hW cls_X2 (Or.inl (by decide)) (so_136 h0 g _) (by decide) rfl wn405 dX10_count_121 ?_
    refine x_rd hW (fun x41 ex41 rx41 => ?_)
    have bx41 : 0 ≤ x41 ∧ x41 ≤ 65535 := by rw [ex41]; exact IC.x p0 xd_136
    rw [eQ]
    exact x_iret hx hb hr hlk hW rx41 ⟨hF, ⟨p0, trivial⟩, trivial⟩ dX10_count_124
  · refine x_tabIn (v := 8) (tgt := 125) hx hb rx c1 dX10_count_1 (by decide) rfl (by decide) ?_
    refine x_aload_n hx hb hl 0 rfl dX10_count_125 rfl ?_
    refine x_get (j := 2) (v := .ref (h0 + 109)) hx hb hown hT hE hW cls_X10 (Or.inl (by decide)) (so_0 h0 g _) (by decide) rfl wq514 dX10_count_126 ?_
    refine x_aload_n hx hb hl 0 rfl dX10_count_129 rfl ?_
    refine x_get (j := 8) (v := .ref (h0 + 136)) hx hb hown hT hE hW cls_X10 (Or.inl (by decide)) (so_0 h0 g _) (by decide) rfl wq520 dX10_count_130 ?_
    refine x_getN (j := 7) (v := .int (xJ (s0 136 7))) hx hb hown hT hE hW cls_X2 (Or.inl (by decide)) (so_136 h0 g _) (by decide) rfl wn403 dX10_count_133 ?_
    refine x_rd hW (fun x42 ex42 rx42 => ?_)
    have bx42 : 0 ≤ x42 ∧ x42 ≤ 9999 := by rw [ex42]; exact IC.m p0 xd_136
    refine x_goi (x_runVN (As := [.int (xJ x42)]) hx hb hml hown hT hE hW hl.1 (Or.inl (by decide)) (so_109 h0 g _) rfl cf_X4_isNight wq819 wq45 wn1177 (c_X4_isNight l D g T h0 s0 hW.2.1 x42 rx42 p0) ⟨rfl, rfl, ⟨by decide, by decide⟩, ⟨by decide, by decide⟩⟩ rfl rfl (Nat.le_of_ble_eq_true rfl) dX10_count_136) hW (fun x43 s44 H locs rx43 hp45 hW => ?_)
    obtain ⟨fs44, hp45⟩ := hp45
    have hF46 := hF.call fs44 (fun k h => by omega)
    have q47 : s44 1 1 = s0 1 1 := (congrFun (fs44 _ (by omega)) _).trans k1_1
    have ghp45 := hp45.2
    refine x_if_eq (tgt := 146) hx hb rx43 dX10_count_139 (by decide) (fun c48 => ?_) (fun c48 => ?_)
    · skip
      refine x_iconst hx hb dX10_count_146 ?_
      rw [eQ]
      exact x_iret hx hb hr hlk hW (by decide) ⟨hF46, ⟨hp45.1.1, trivial⟩, trivial⟩ dX10_count_147
    refine x_iconst hx hb dX10_count_142 ?_
    refine lv_goto (tgt := 147) hx hb dX10_count_143 (by decide) ?_
    rw [eQ]
    exact x_iret hx hb hr hlk hW (by decide) ⟨hF46, ⟨hp45.1.1, trivial⟩, trivial⟩ dX10_count_147


theorem cls_X11 : xCls RX11 TX11 61 11 tyX11 := ⟨xin [1246, 1248, 1250, 1252, 1254, 1256, 1258, 1260, 1262, 1264, 1266, 1268, 1270, 1272, 1274, 1276, 1278, 1280, 1282, 1284, 1286, 1288, 1290, 1292, 1294, 1296, 1298, 1300, 1302, 1304, 1306, 1308, 1310, 1312, 1314, 1316, 1318, 1320, 1322, 1324, 1326, 1328, 1330, 1332, 1334, 1336, 1338, 1340, 1342, 1344, 1346, 1348, 1350, 1352, 1354, 1356, 1358, 1360, 1362, 1364, 1366] (by decide +kernel) (by decide +kernel), rfl, tyX11_ok, nmX11⟩
theorem st_X11_8 (h0 : Nat) (σ : xS) (k : Nat) (a : Int) : xobj h0 (xU σ k 8 a) k 11 = (xobj h0 σ k 11).set 8 (.int (xJ a)) := by simp [xobj, xU]
theorem ln_X11_8 (h0 : Nat) (σ : xS) (k : Nat) : 8 < (xobj h0 σ k 11).length := by simp [xobj]
theorem st_X11_41 (h0 : Nat) (σ : xS) (k : Nat) (a : Int) : xobj h0 (xU σ k 41 a) k 11 = (xobj h0 σ k 11).set 41 (.int (xJ a)) := by simp [xobj, xU]
theorem ln_X11_41 (h0 : Nat) (σ : xS) (k : Nat) : 41 < (xobj h0 σ k 11).length := by simp [xobj]
theorem st_X11_42 (h0 : Nat) (σ : xS) (k : Nat) (a : Int) : xobj h0 (xU σ k 42 a) k 11 = (xobj h0 σ k 11).set 42 (.int (xJ a)) := by simp [xobj, xU]
theorem ln_X11_42 (h0 : Nat) (σ : xS) (k : Nat) : 42 < (xobj h0 σ k 11).length := by simp [xobj]
theorem st_X11_43 (h0 : Nat) (σ : xS) (k : Nat) (a : Int) : xobj h0 (xU σ k 43 a) k 11 = (xobj h0 σ k 11).set 43 (.int (xJ a)) := by simp [xobj, xU]
theorem ln_X11_43 (h0 : Nat) (σ : xS) (k : Nat) : 43 < (xobj h0 σ k 11).length := by simp [xobj]
theorem st_X11_44 (h0 : Nat) (σ : xS) (k : Nat) (a : Int) : xobj h0 (xU σ k 44 a) k 11 = (xobj h0 σ k 11).set 44 (.int (xJ a)) := by simp [xobj, xU]
theorem ln_X11_44 (h0 : Nat) (σ : xS) (k : Nat) : 44 < (xobj h0 σ k 11).length := by simp [xobj]
theorem cf_X11_beside : xCF yX11_beside cX11_beside 4 (some .int) 2 := ⟨xq 1555 (by decide +kernel) rfl, xq 179 (by decide +kernel) rfl, by decide +kernel⟩
theorem cf_X11_falls : xCF yX11_falls cX11_falls 6 none 3 := ⟨xq 1601 (by decide +kernel) rfl, xq 179 (by decide +kernel) rfl, by decide +kernel⟩
theorem cf_X11_fallsBehind : xCF yX11_fallsBehind cX11_fallsBehind 7 none 2 := ⟨xq 1613 (by decide +kernel) rfl, xq 179 (by decide +kernel) rfl, by decide +kernel⟩
theorem cf_X11_has : xCF yX11_has cX11_has 2 (some .boolean) 2 := ⟨xq 1416 (by decide +kernel) rfl, xq 179 (by decide +kernel) rfl, by decide +kernel⟩
theorem cf_X11_in : xCF yX11_in cX11_in 3 (some .boolean) 3 := ⟨xq 1384 (by decide +kernel) rfl, xq 179 (by decide +kernel) rfl, by decide +kernel⟩
theorem cf_X11_isFelon : xCF yX11_isFelon cX11_isFelon 2 (some .boolean) 1 := ⟨xq 1424 (by decide +kernel) rfl, xq 179 (by decide +kernel) rfl, by decide +kernel⟩
theorem cf_X11_isFive : xCF yX11_isFive cX11_isFive 2 (some .boolean) 2 := ⟨xq 1413 (by decide +kernel) rfl, xq 179 (by decide +kernel) rfl, by decide +kernel⟩
theorem cf_X11_isGround : xCF yX11_isGround cX11_isGround 2 (some .boolean) 1 := ⟨xq 1420 (by decide +kernel) rfl, xq 179 (by decide +kernel) rfl, by decide +kernel⟩
theorem cf_X11_isJudge : xCF yX11_isJudge cX11_isJudge 2 (some .boolean) 1 := ⟨xq 1410 (by decide +kernel) rfl, xq 179 (by decide +kernel) rfl, by decide +kernel⟩
theorem cf_X11_isOn : xCF yX11_isOn cX11_isOn 2 (some .boolean) 2 := ⟨xq 1431 (by decide +kernel) rfl, xq 179 (by decide +kernel) rfl, by decide +kernel⟩
theorem cf_X11_steps : xCF yX11_steps cX11_steps 4 none 2 := ⟨xq 1552 (by decide +kernel) rfl, xq 179 (by decide +kernel) rfl, by decide +kernel⟩
theorem cf_X11_types : xCF yX11_types cX11_types 3 none 1 := ⟨xq 1377 (by decide +kernel) rfl, xq 179 (by decide +kernel) rfl, by decide +kernel⟩
theorem cf_X11_wayX : xCF yX11_wayX cX11_wayX 1 (some .int) 1 := ⟨xq 1558 (by decide +kernel) rfl, xq 179 (by decide +kernel) rfl, by decide +kernel⟩
theorem cf_X11_wayY : xCF yX11_wayY cX11_wayY 1 (some .int) 1 := ⟨xq 1561 (by decide +kernel) rfl, xq 179 (by decide +kernel) rfl, by decide +kernel⟩
theorem wq104 : Cond.selects yX11_types.cls yX11_types yX11_types ∈ xTB := xq 104 (by decide +kernel) rfl
theorem wq109 : Cond.selects yX11_isJudge.cls yX11_isJudge yX11_isJudge ∈ xTB := xq 109 (by decide +kernel) rfl
theorem wq110 : Cond.selects yX11_isGround.cls yX11_isGround yX11_isGround ∈ xTB := xq 110 (by decide +kernel) rfl
theorem wq111 : Cond.selects yX11_isFelon.cls yX11_isFelon yX11_isFelon ∈ xTB := xq 111 (by decide +kernel) rfl
theorem wq133 : Cond.selects yX11_steps.cls yX11_steps yX11_steps ∈ xTB := xq 133 (by decide +kernel) rfl
theorem wq142 : Cond.selects yX11_falls.cls yX11_falls yX11_falls ∈ xTB := xq 142 (by decide +kernel) rfl
theorem wq145 : Cond.selects yX11_fallsBehind.cls yX11_fallsBehind yX11_fallsBehind ∈ xTB := xq 145 (by decide +kernel) rfl
theorem wq1185 : Cond.fieldLink "ShadowCourtModel" (7) "ShadowCourtModel" "now" "[I" ∈ xTB := xq 1185 (by decide +kernel) rfl
theorem wq1188 : Cond.fieldLink "ShadowCourtModel" (19) "ShadowCourtModel" "kindOf" "[I" ∈ xTB := xq 1188 (by decide +kernel) rfl
theorem wq1189 : Cond.fieldLink "ShadowCourtModel" (22) "ShadowCourtModel" "lampAt" "[I" ∈ xTB := xq 1189 (by decide +kernel) rfl
theorem wq1190 : Cond.fieldLink "ShadowCourtModel" (25) "ShadowCourtModel" "walkMany" "[I" ∈ xTB := xq 1190 (by decide +kernel) rfl
theorem wq1191 : Cond.fieldLink "ShadowCourtModel" (28) "ShadowCourtModel" "walkStep" "[B" ∈ xTB := xq 1191 (by decide +kernel) rfl
theorem wq1192 : Cond.fieldLink "ShadowCourtModel" (32) "ShadowCourtModel" "tape" "[B" ∈ xTB := xq 1192 (by decide +kernel) rfl
theorem wq1193 : Cond.fieldLink "ShadowCourtModel" (164) "ShadowCourtModel" "taped" "I" ∈ xTB := xq 1193 (by decide +kernel) rfl
theorem wq1224 : Cond.fieldLink "ShadowCourtModel" (86) "ShadowCourtModel" "facts" "[I" ∈ xTB := xq 1224 (by decide +kernel) rfl
theorem wq1225 : Cond.fieldLink "ShadowCourtModel" (89) "ShadowCourtModel" "shades" "[I" ∈ xTB := xq 1225 (by decide +kernel) rfl
theorem wq1226 : Cond.fieldLink "ShadowCourtModel" (371) "ShadowCourtModel" "servedNow" "I" ∈ xTB := xq 1226 (by decide +kernel) rfl
theorem wq1227 : Cond.fieldLink "ShadowCourtModel" (365) "ShadowCourtModel" "awayNow" "I" ∈ xTB := xq 1227 (by decide +kernel) rfl
theorem wq1228 : Cond.fieldLink "ShadowCourtModel" (378) "ShadowCourtModel" "cloudyNow" "I" ∈ xTB := xq 1228 (by decide +kernel) rfl
theorem wq1229 : Cond.fieldLink "ShadowCourtModel" (368) "ShadowCourtModel" "stepsNow" "I" ∈ xTB := xq 1229 (by decide +kernel) rfl
theorem wq1230 : Cond.fieldLink "ShadowCourtModel" (92) "ShadowCourtModel" "costTo" "[I" ∈ xTB := xq 1230 (by decide +kernel) rfl
theorem wq1374 : Cond.methodLink "ShadowCourtModel" (167) yX11_types ∈ xTB := xq 1374 (by decide +kernel) rfl
theorem wq1376 : Cond.instanceMethod yX11_types ∈ xTB := xq 1376 (by decide +kernel) rfl
theorem wq1382 : Cond.methodLink "ShadowCourtModel" (150) yX11_in ∈ xTB := xq 1382 (by decide +kernel) rfl
theorem wq1383 : Cond.static yX11_in ∈ xTB := xq 1383 (by decide +kernel) rfl
theorem wq1407 : Cond.methodLink "ShadowCourtModel" (260) yX11_isJudge ∈ xTB := xq 1407 (by decide +kernel) rfl
theorem wq1409 : Cond.instanceMethod yX11_isJudge ∈ xTB := xq 1409 (by decide +kernel) rfl
theorem wq1411 : Cond.methodLink "ShadowCourtModel" (139) yX11_isFive ∈ xTB := xq 1411 (by decide +kernel) rfl
theorem wq1412 : Cond.static yX11_isFive ∈ xTB := xq 1412 (by decide +kernel) rfl
theorem wq1414 : Cond.methodLink "ShadowCourtModel" (143) yX11_has ∈ xTB := xq 1414 (by decide +kernel) rfl
theorem wq1415 : Cond.static yX11_has ∈ xTB := xq 1415 (by decide +kernel) rfl
theorem wq1417 : Cond.methodLink "ShadowCourtModel" (263) yX11_isGround ∈ xTB := xq 1417 (by decide +kernel) rfl
theorem wq1419 : Cond.instanceMethod yX11_isGround ∈ xTB := xq 1419 (by decide +kernel) rfl
theorem wq1421 : Cond.methodLink "ShadowCourtModel" (146) yX11_isFelon ∈ xTB := xq 1421 (by decide +kernel) rfl
theorem wq1423 : Cond.instanceMethod yX11_isFelon ∈ xTB := xq 1423 (by decide +kernel) rfl
theorem wq1429 : Cond.methodLink "ShadowCourtModel" (161) yX11_isOn ∈ xTB := xq 1429 (by decide +kernel) rfl
theorem wq1430 : Cond.static yX11_isOn ∈ xTB := xq 1430 (by decide +kernel) rfl
theorem wq1549 : Cond.methodLink "ShadowCourtModel" (345) yX11_steps ∈ xTB := xq 1549 (by decide +kernel) rfl
theorem wq1551 : Cond.instanceMethod yX11_steps ∈ xTB := xq 1551 (by decide +kernel) rfl
theorem wq1553 : Cond.methodLink "ShadowCourtModel" (323) yX11_beside ∈ xTB := xq 1553 (by decide +kernel) rfl
theorem wq1554 : Cond.static yX11_beside ∈ xTB := xq 1554 (by decide +kernel) rfl
theorem wq1556 : Cond.methodLink "ShadowCourtModel" (154) yX11_wayX ∈ xTB := xq 1556 (by decide +kernel) rfl
theorem wq1557 : Cond.static yX11_wayX ∈ xTB := xq 1557 (by decide +kernel) rfl
theorem wq1559 : Cond.methodLink "ShadowCourtModel" (158) yX11_wayY ∈ xTB := xq 1559 (by decide +kernel) rfl
theorem wq1560 : Cond.static yX11_wayY ∈ xTB := xq 1560 (by decide +kernel) rfl
theorem wq1570 : Cond.constant "ShadowCourtModel" (374) (65536) ∈ xTB := xq 1570 (by decide +kernel) rfl
theorem wq1598 : Cond.methodLink "ShadowCourtModel" (326) yX11_falls ∈ xTB := xq 1598 (by decide +kernel) rfl
theorem wq1600 : Cond.instanceMethod yX11_falls ∈ xTB := xq 1600 (by decide +kernel) rfl
theorem wq1610 : Cond.methodLink "ShadowCourtModel" (330) yX11_fallsBehind ∈ xTB := xq 1610 (by decide +kernel) rfl
theorem wq1612 : Cond.instanceMethod yX11_fallsBehind ∈ xTB := xq 1612 (by decide +kernel) rfl
theorem wq1622 : Cond.constant "ShadowCourtModel" (348) (1000000000) ∈ xTB := xq 1622 (by decide +kernel) rfl
theorem dX11_bares_0 : decode cX11_bares 0 = .ok (.iconst 0, 1) := by decide +kernel
theorem dX11_bares_1 : decode cX11_bares 1 = .ok (.istore_n 1, 1) := by decide +kernel
theorem dX11_bares_2 : decode cX11_bares 2 = .ok (.iload_n 1, 1) := by decide +kernel
theorem dX11_bares_3 : decode cX11_bares 3 = .ok (.bipush 100, 2) := by decide +kernel
theorem dX11_bares_5 : decode cX11_bares 5 = .ok (.if_icmp .ge 16, 3) := by decide +kernel
theorem dX11_bares_8 : decode cX11_bares 8 = .ok (.aload_n 0, 1) := by decide +kernel
theorem dX11_bares_9 : decode cX11_bares 9 = .ok (.getfield 89, 3) := by decide +kernel
theorem dX11_bares_12 : decode cX11_bares 12 = .ok (.iload_n 1, 1) := by decide +kernel
theorem dX11_bares_13 : decode cX11_bares 13 = .ok (.iconst 0, 1) := by decide +kernel
theorem dX11_bares_14 : decode cX11_bares 14 = .ok (.iastore, 1) := by decide +kernel
theorem dX11_bares_15 : decode cX11_bares 15 = .ok (.iinc 1 1, 3) := by decide +kernel
theorem dX11_bares_18 : decode cX11_bares 18 = .ok (.goto (-16), 3) := by decide +kernel
theorem dX11_bares_21 : decode cX11_bares 21 = .ok (.return_, 1) := by decide +kernel
theorem dX11_begins_0 : decode cX11_begins 0 = .ok (.aload_n 0, 1) := by decide +kernel
theorem dX11_begins_1 : decode cX11_begins 1 = .ok (.iconst 0, 1) := by decide +kernel
theorem dX11_begins_2 : decode cX11_begins 2 = .ok (.putfield 371, 3) := by decide +kernel
theorem dX11_begins_5 : decode cX11_begins 5 = .ok (.aload_n 0, 1) := by decide +kernel
theorem dX11_begins_6 : decode cX11_begins 6 = .ok (.iconst 0, 1) := by decide +kernel
theorem dX11_begins_7 : decode cX11_begins 7 = .ok (.putfield 365, 3) := by decide +kernel
theorem dX11_begins_10 : decode cX11_begins 10 = .ok (.aload_n 0, 1) := by decide +kernel
theorem dX11_begins_11 : decode cX11_begins 11 = .ok (.iconst 0, 1) := by decide +kernel
theorem dX11_begins_12 : decode cX11_begins 12 = .ok (.putfield 378, 3) := by decide +kernel
theorem dX11_begins_15 : decode cX11_begins 15 = .ok (.aload_n 0, 1) := by decide +kernel
theorem dX11_begins_16 : decode cX11_begins 16 = .ok (.iconst 0, 1) := by decide +kernel
theorem dX11_begins_17 : decode cX11_begins 17 = .ok (.putfield 368, 3) := by decide +kernel
theorem dX11_begins_20 : decode cX11_begins 20 = .ok (.return_, 1) := by decide +kernel
theorem dX11_beside_0 : decode cX11_beside 0 = .ok (.iload_n 0, 1) := by decide +kernel
theorem dX11_beside_1 : decode cX11_beside 1 = .ok (.bipush 10, 2) := by decide +kernel
theorem dX11_beside_3 : decode cX11_beside 3 = .ok (.irem, 1) := by decide +kernel
theorem dX11_beside_4 : decode cX11_beside 4 = .ok (.iload_n 1, 1) := by decide +kernel
theorem dX11_beside_5 : decode cX11_beside 5 = .ok (.invokestatic 154, 3) := by decide +kernel
theorem dX11_beside_8 : decode cX11_beside 8 = .ok (.iadd, 1) := by decide +kernel
theorem dX11_beside_9 : decode cX11_beside 9 = .ok (.istore_n 2, 1) := by decide +kernel
theorem dX11_beside_10 : decode cX11_beside 10 = .ok (.iload_n 0, 1) := by decide +kernel
theorem dX11_beside_11 : decode cX11_beside 11 = .ok (.bipush 10, 2) := by decide +kernel
theorem dX11_beside_13 : decode cX11_beside 13 = .ok (.idiv, 1) := by decide +kernel
theorem dX11_beside_14 : decode cX11_beside 14 = .ok (.iload_n 1, 1) := by decide +kernel
theorem dX11_beside_15 : decode cX11_beside 15 = .ok (.invokestatic 158, 3) := by decide +kernel
theorem dX11_beside_18 : decode cX11_beside 18 = .ok (.iadd, 1) := by decide +kernel
theorem dX11_beside_19 : decode cX11_beside 19 = .ok (.istore_n 3, 1) := by decide +kernel
theorem dX11_beside_20 : decode cX11_beside 20 = .ok (.iload_n 2, 1) := by decide +kernel
theorem dX11_beside_21 : decode cX11_beside 21 = .ok (.iload_n 3, 1) := by decide +kernel
theorem dX11_beside_22 : decode cX11_beside 22 = .ok (.invokestatic 161, 3) := by decide +kernel
theorem dX11_beside_25 : decode cX11_beside 25 = .ok (.ifCond .eq 12, 3) := by decide +kernel
theorem dX11_beside_28 : decode cX11_beside 28 = .ok (.bipush 10, 2) := by decide +kernel
theorem dX11_beside_30 : decode cX11_beside 30 = .ok (.iload_n 3, 1) := by decide +kernel
theorem dX11_beside_31 : decode cX11_beside 31 = .ok (.imul, 1) := by decide +kernel
theorem dX11_beside_32 : decode cX11_beside 32 = .ok (.iload_n 2, 1) := by decide +kernel
theorem dX11_beside_33 : decode cX11_beside 33 = .ok (.iadd, 1) := by decide +kernel
theorem dX11_beside_34 : decode cX11_beside 34 = .ok (.goto 4, 3) := by decide +kernel
theorem dX11_beside_37 : decode cX11_beside 37 = .ok (.iconst (-1), 1) := by decide +kernel
theorem dX11_beside_38 : decode cX11_beside 38 = .ok (.ireturn, 1) := by decide +kernel
theorem dX11_bits_0 : decode cX11_bits 0 = .ok (.iconst 0, 1) := by decide +kernel
theorem dX11_bits_1 : decode cX11_bits 1 = .ok (.istore_n 1, 1) := by decide +kernel
theorem dX11_bits_2 : decode cX11_bits 2 = .ok (.iconst 0, 1) := by decide +kernel
theorem dX11_bits_3 : decode cX11_bits 3 = .ok (.istore_n 2, 1) := by decide +kernel
theorem dX11_bits_4 : decode cX11_bits 4 = .ok (.iload_n 2, 1) := by decide +kernel
theorem dX11_bits_5 : decode cX11_bits 5 = .ok (.bipush 10, 2) := by decide +kernel
theorem dX11_bits_7 : decode cX11_bits 7 = .ok (.if_icmp .ge 17, 3) := by decide +kernel
theorem dX11_bits_10 : decode cX11_bits 10 = .ok (.iload_n 1, 1) := by decide +kernel
theorem dX11_bits_11 : decode cX11_bits 11 = .ok (.iload_n 0, 1) := by decide +kernel
theorem dX11_bits_12 : decode cX11_bits 12 = .ok (.iload_n 2, 1) := by decide +kernel
theorem dX11_bits_13 : decode cX11_bits 13 = .ok (.ishr, 1) := by decide +kernel
theorem dX11_bits_14 : decode cX11_bits 14 = .ok (.iconst 1, 1) := by decide +kernel
theorem dX11_bits_15 : decode cX11_bits 15 = .ok (.iand, 1) := by decide +kernel
theorem dX11_bits_16 : decode cX11_bits 16 = .ok (.iadd, 1) := by decide +kernel
theorem dX11_bits_17 : decode cX11_bits 17 = .ok (.istore_n 1, 1) := by decide +kernel
theorem dX11_bits_18 : decode cX11_bits 18 = .ok (.iinc 2 1, 3) := by decide +kernel
theorem dX11_bits_21 : decode cX11_bits 21 = .ok (.goto (-17), 3) := by decide +kernel
theorem dX11_bits_24 : decode cX11_bits 24 = .ok (.iload_n 1, 1) := by decide +kernel
theorem dX11_bits_25 : decode cX11_bits 25 = .ok (.ireturn, 1) := by decide +kernel
theorem dX11_copies_0 : decode cX11_copies 0 = .ok (.iconst 0, 1) := by decide +kernel
theorem dX11_copies_1 : decode cX11_copies 1 = .ok (.istore_n 2, 1) := by decide +kernel
theorem dX11_copies_2 : decode cX11_copies 2 = .ok (.iload_n 2, 1) := by decide +kernel
theorem dX11_copies_3 : decode cX11_copies 3 = .ok (.bipush 39, 2) := by decide +kernel
theorem dX11_copies_5 : decode cX11_copies 5 = .ok (.if_icmp .ge 15, 3) := by decide +kernel
theorem dX11_copies_8 : decode cX11_copies 8 = .ok (.aload_n 1, 1) := by decide +kernel
theorem dX11_copies_9 : decode cX11_copies 9 = .ok (.iload_n 2, 1) := by decide +kernel
theorem dX11_copies_10 : decode cX11_copies 10 = .ok (.aload_n 0, 1) := by decide +kernel
theorem dX11_copies_11 : decode cX11_copies 11 = .ok (.iload_n 2, 1) := by decide +kernel
theorem dX11_copies_12 : decode cX11_copies 12 = .ok (.iaload, 1) := by decide +kernel
theorem dX11_copies_13 : decode cX11_copies 13 = .ok (.iastore, 1) := by decide +kernel
theorem dX11_copies_14 : decode cX11_copies 14 = .ok (.iinc 2 1, 3) := by decide +kernel
theorem dX11_copies_17 : decode cX11_copies 17 = .ok (.goto (-15), 3) := by decide +kernel
theorem dX11_copies_20 : decode cX11_copies 20 = .ok (.return_, 1) := by decide +kernel
theorem dX11_copiesWalks_0 : decode cX11_copiesWalks 0 = .ok (.iconst 0, 1) := by decide +kernel
theorem dX11_copiesWalks_1 : decode cX11_copiesWalks 1 = .ok (.istore 4, 2) := by decide +kernel
theorem dX11_copiesWalks_3 : decode cX11_copiesWalks 3 = .ok (.iload 4, 2) := by decide +kernel
theorem dX11_copiesWalks_5 : decode cX11_copiesWalks 5 = .ok (.iconst 2, 1) := by decide +kernel
theorem dX11_copiesWalks_6 : decode cX11_copiesWalks 6 = .ok (.if_icmp .ge 17, 3) := by decide +kernel
theorem dX11_copiesWalks_9 : decode cX11_copiesWalks 9 = .ok (.aload_n 2, 1) := by decide +kernel
theorem dX11_copiesWalks_10 : decode cX11_copiesWalks 10 = .ok (.iload 4, 2) := by decide +kernel
theorem dX11_copiesWalks_12 : decode cX11_copiesWalks 12 = .ok (.aload_n 0, 1) := by decide +kernel
theorem dX11_copiesWalks_13 : decode cX11_copiesWalks 13 = .ok (.iload 4, 2) := by decide +kernel
theorem dX11_copiesWalks_15 : decode cX11_copiesWalks 15 = .ok (.iaload, 1) := by decide +kernel
theorem dX11_copiesWalks_16 : decode cX11_copiesWalks 16 = .ok (.iastore, 1) := by decide +kernel
theorem dX11_copiesWalks_17 : decode cX11_copiesWalks 17 = .ok (.iinc 4 1, 3) := by decide +kernel
theorem dX11_copiesWalks_20 : decode cX11_copiesWalks 20 = .ok (.goto (-17), 3) := by decide +kernel
theorem dX11_copiesWalks_23 : decode cX11_copiesWalks 23 = .ok (.iconst 0, 1) := by decide +kernel
theorem dX11_copiesWalks_24 : decode cX11_copiesWalks 24 = .ok (.istore 4, 2) := by decide +kernel
theorem dX11_copiesWalks_26 : decode cX11_copiesWalks 26 = .ok (.iload 4, 2) := by decide +kernel
theorem dX11_copiesWalks_28 : decode cX11_copiesWalks 28 = .ok (.bipush 120, 2) := by decide +kernel
theorem dX11_copiesWalks_30 : decode cX11_copiesWalks 30 = .ok (.if_icmp .ge 17, 3) := by decide +kernel
theorem dX11_copiesWalks_33 : decode cX11_copiesWalks 33 = .ok (.aload_n 3, 1) := by decide +kernel
theorem dX11_copiesWalks_34 : decode cX11_copiesWalks 34 = .ok (.iload 4, 2) := by decide +kernel
theorem dX11_copiesWalks_36 : decode cX11_copiesWalks 36 = .ok (.aload_n 1, 1) := by decide +kernel
theorem dX11_copiesWalks_37 : decode cX11_copiesWalks 37 = .ok (.iload 4, 2) := by decide +kernel
theorem dX11_copiesWalks_39 : decode cX11_copiesWalks 39 = .ok (.baload, 1) := by decide +kernel
theorem dX11_copiesWalks_40 : decode cX11_copiesWalks 40 = .ok (.bastore, 1) := by decide +kernel
theorem dX11_copiesWalks_41 : decode cX11_copiesWalks 41 = .ok (.iinc 4 1, 3) := by decide +kernel
theorem dX11_copiesWalks_44 : decode cX11_copiesWalks 44 = .ok (.goto (-18), 3) := by decide +kernel
theorem dX11_copiesWalks_47 : decode cX11_copiesWalks 47 = .ok (.return_, 1) := by decide +kernel
theorem dX11_draws_0 : decode cX11_draws 0 = .ok (.aload_n 0, 1) := by decide +kernel
theorem dX11_draws_1 : decode cX11_draws 1 = .ok (.getfield 7, 3) := by decide +kernel
theorem dX11_draws_4 : decode cX11_draws 4 = .ok (.bipush 38, 2) := by decide +kernel
theorem dX11_draws_6 : decode cX11_draws 6 = .ok (.sipush 25173, 3) := by decide +kernel
theorem dX11_draws_9 : decode cX11_draws 9 = .ok (.aload_n 0, 1) := by decide +kernel
theorem dX11_draws_10 : decode cX11_draws 10 = .ok (.getfield 7, 3) := by decide +kernel
theorem dX11_draws_13 : decode cX11_draws 13 = .ok (.bipush 38, 2) := by decide +kernel
theorem dX11_draws_15 : decode cX11_draws 15 = .ok (.iaload, 1) := by decide +kernel
theorem dX11_draws_16 : decode cX11_draws 16 = .ok (.imul, 1) := by decide +kernel
theorem dX11_draws_17 : decode cX11_draws 17 = .ok (.sipush 13849, 3) := by decide +kernel
theorem dX11_draws_20 : decode cX11_draws 20 = .ok (.iadd, 1) := by decide +kernel
theorem dX11_draws_21 : decode cX11_draws 21 = .ok (.ldc_w 374, 3) := by decide +kernel
theorem dX11_draws_24 : decode cX11_draws 24 = .ok (.irem, 1) := by decide +kernel
theorem dX11_draws_25 : decode cX11_draws 25 = .ok (.iastore, 1) := by decide +kernel
theorem dX11_draws_26 : decode cX11_draws 26 = .ok (.aload_n 0, 1) := by decide +kernel
theorem dX11_draws_27 : decode cX11_draws 27 = .ok (.getfield 7, 3) := by decide +kernel
theorem dX11_draws_30 : decode cX11_draws 30 = .ok (.bipush 38, 2) := by decide +kernel
theorem dX11_draws_32 : decode cX11_draws 32 = .ok (.iaload, 1) := by decide +kernel
theorem dX11_draws_33 : decode cX11_draws 33 = .ok (.bipush 10, 2) := by decide +kernel
theorem dX11_draws_35 : decode cX11_draws 35 = .ok (.irem, 1) := by decide +kernel
theorem dX11_draws_36 : decode cX11_draws 36 = .ok (.ireturn, 1) := by decide +kernel
theorem dX11_falls_0 : decode cX11_falls 0 = .ok (.iload_n 1, 1) := by decide +kernel
theorem dX11_falls_1 : decode cX11_falls 1 = .ok (.iload_n 2, 1) := by decide +kernel
theorem dX11_falls_2 : decode cX11_falls 2 = .ok (.invokestatic 323, 3) := by decide +kernel
theorem dX11_falls_5 : decode cX11_falls 5 = .ok (.istore 4, 2) := by decide +kernel
theorem dX11_falls_7 : decode cX11_falls 7 = .ok (.iconst 0, 1) := by decide +kernel
theorem dX11_falls_8 : decode cX11_falls 8 = .ok (.istore 5, 2) := by decide +kernel
theorem dX11_falls_10 : decode cX11_falls 10 = .ok (.iload 5, 2) := by decide +kernel
theorem dX11_falls_12 : decode cX11_falls 12 = .ok (.iload_n 3, 1) := by decide +kernel
theorem dX11_falls_13 : decode cX11_falls 13 = .ok (.if_icmp .ge 50, 3) := by decide +kernel
theorem dX11_falls_16 : decode cX11_falls 16 = .ok (.iload 4, 2) := by decide +kernel
theorem dX11_falls_18 : decode cX11_falls 18 = .ok (.iconst (-1), 1) := by decide +kernel
theorem dX11_falls_19 : decode cX11_falls 19 = .ok (.if_icmp .eq 44, 3) := by decide +kernel
theorem dX11_falls_22 : decode cX11_falls 22 = .ok (.aload_n 0, 1) := by decide +kernel
theorem dX11_falls_23 : decode cX11_falls 23 = .ok (.getfield 19, 3) := by decide +kernel
theorem dX11_falls_26 : decode cX11_falls 26 = .ok (.iload 4, 2) := by decide +kernel
theorem dX11_falls_28 : decode cX11_falls 28 = .ok (.iaload, 1) := by decide +kernel
theorem dX11_falls_29 : decode cX11_falls 29 = .ok (.iconst 1, 1) := by decide +kernel
theorem dX11_falls_30 : decode cX11_falls 30 = .ok (.if_icmp .eq 33, 3) := by decide +kernel
theorem dX11_falls_33 : decode cX11_falls 33 = .ok (.aload_n 0, 1) := by decide +kernel
theorem dX11_falls_34 : decode cX11_falls 34 = .ok (.getfield 89, 3) := by decide +kernel
theorem dX11_falls_37 : decode cX11_falls 37 = .ok (.iload 4, 2) := by decide +kernel
theorem dX11_falls_39 : decode cX11_falls 39 = .ok (.aload_n 0, 1) := by decide +kernel
theorem dX11_falls_40 : decode cX11_falls 40 = .ok (.getfield 89, 3) := by decide +kernel
theorem dX11_falls_43 : decode cX11_falls 43 = .ok (.iload 4, 2) := by decide +kernel
theorem dX11_falls_45 : decode cX11_falls 45 = .ok (.iaload, 1) := by decide +kernel
theorem dX11_falls_46 : decode cX11_falls 46 = .ok (.iconst 1, 1) := by decide +kernel
theorem dX11_falls_47 : decode cX11_falls 47 = .ok (.iadd, 1) := by decide +kernel
theorem dX11_falls_48 : decode cX11_falls 48 = .ok (.iastore, 1) := by decide +kernel
theorem dX11_falls_49 : decode cX11_falls 49 = .ok (.iload 4, 2) := by decide +kernel
theorem dX11_falls_51 : decode cX11_falls 51 = .ok (.iload_n 2, 1) := by decide +kernel
theorem dX11_falls_52 : decode cX11_falls 52 = .ok (.invokestatic 323, 3) := by decide +kernel
theorem dX11_falls_55 : decode cX11_falls 55 = .ok (.istore 4, 2) := by decide +kernel
theorem dX11_falls_57 : decode cX11_falls 57 = .ok (.iinc 5 1, 3) := by decide +kernel
theorem dX11_falls_60 : decode cX11_falls 60 = .ok (.goto (-50), 3) := by decide +kernel
theorem dX11_falls_63 : decode cX11_falls 63 = .ok (.return_, 1) := by decide +kernel
theorem dX11_fallsBehind_0 : decode cX11_fallsBehind 0 = .ok (.aload_n 0, 1) := by decide +kernel
theorem dX11_fallsBehind_1 : decode cX11_fallsBehind 1 = .ok (.getfield 7, 3) := by decide +kernel
theorem dX11_fallsBehind_4 : decode cX11_fallsBehind 4 = .ok (.iconst 0, 1) := by decide +kernel
theorem dX11_fallsBehind_5 : decode cX11_fallsBehind 5 = .ok (.iload_n 2, 1) := by decide +kernel
theorem dX11_fallsBehind_6 : decode cX11_fallsBehind 6 = .ok (.iadd, 1) := by decide +kernel
theorem dX11_fallsBehind_7 : decode cX11_fallsBehind 7 = .ok (.iaload, 1) := by decide +kernel
theorem dX11_fallsBehind_8 : decode cX11_fallsBehind 8 = .ok (.istore_n 3, 1) := by decide +kernel
theorem dX11_fallsBehind_9 : decode cX11_fallsBehind 9 = .ok (.iconst 0, 1) := by decide +kernel
theorem dX11_fallsBehind_10 : decode cX11_fallsBehind 10 = .ok (.istore 4, 2) := by decide +kernel
theorem dX11_fallsBehind_12 : decode cX11_fallsBehind 12 = .ok (.iload 4, 2) := by decide +kernel
theorem dX11_fallsBehind_14 : decode cX11_fallsBehind 14 = .ok (.bipush 8, 2) := by decide +kernel
theorem dX11_fallsBehind_16 : decode cX11_fallsBehind 16 = .ok (.if_icmp .ge 86, 3) := by decide +kernel
theorem dX11_fallsBehind_19 : decode cX11_fallsBehind 19 = .ok (.iload_n 1, 1) := by decide +kernel
theorem dX11_fallsBehind_20 : decode cX11_fallsBehind 20 = .ok (.iload 4, 2) := by decide +kernel
theorem dX11_fallsBehind_22 : decode cX11_fallsBehind 22 = .ok (.invokestatic 323, 3) := by decide +kernel
theorem dX11_fallsBehind_25 : decode cX11_fallsBehind 25 = .ok (.istore 5, 2) := by decide +kernel
theorem dX11_fallsBehind_27 : decode cX11_fallsBehind 27 = .ok (.iconst 1, 1) := by decide +kernel
theorem dX11_fallsBehind_28 : decode cX11_fallsBehind 28 = .ok (.istore 6, 2) := by decide +kernel
theorem dX11_fallsBehind_30 : decode cX11_fallsBehind 30 = .ok (.iload 6, 2) := by decide +kernel
theorem dX11_fallsBehind_32 : decode cX11_fallsBehind 32 = .ok (.iconst 4, 1) := by decide +kernel
theorem dX11_fallsBehind_33 : decode cX11_fallsBehind 33 = .ok (.if_icmp .ge 44, 3) := by decide +kernel
theorem dX11_fallsBehind_36 : decode cX11_fallsBehind 36 = .ok (.iload 5, 2) := by decide +kernel
theorem dX11_fallsBehind_38 : decode cX11_fallsBehind 38 = .ok (.iconst (-1), 1) := by decide +kernel
theorem dX11_fallsBehind_39 : decode cX11_fallsBehind 39 = .ok (.if_icmp .eq 38, 3) := by decide +kernel
theorem dX11_fallsBehind_42 : decode cX11_fallsBehind 42 = .ok (.iload 5, 2) := by decide +kernel
theorem dX11_fallsBehind_44 : decode cX11_fallsBehind 44 = .ok (.iload_n 3, 1) := by decide +kernel
theorem dX11_fallsBehind_45 : decode cX11_fallsBehind 45 = .ok (.if_icmp .eq 32, 3) := by decide +kernel
theorem dX11_fallsBehind_48 : decode cX11_fallsBehind 48 = .ok (.aload_n 0, 1) := by decide +kernel
theorem dX11_fallsBehind_49 : decode cX11_fallsBehind 49 = .ok (.getfield 19, 3) := by decide +kernel
theorem dX11_fallsBehind_52 : decode cX11_fallsBehind 52 = .ok (.iload 5, 2) := by decide +kernel
theorem dX11_fallsBehind_54 : decode cX11_fallsBehind 54 = .ok (.iaload, 1) := by decide +kernel
theorem dX11_fallsBehind_55 : decode cX11_fallsBehind 55 = .ok (.iconst 1, 1) := by decide +kernel
theorem dX11_fallsBehind_56 : decode cX11_fallsBehind 56 = .ok (.if_icmp .eq 21, 3) := by decide +kernel
theorem dX11_fallsBehind_59 : decode cX11_fallsBehind 59 = .ok (.iload 5, 2) := by decide +kernel
theorem dX11_fallsBehind_61 : decode cX11_fallsBehind 61 = .ok (.iload 4, 2) := by decide +kernel
theorem dX11_fallsBehind_63 : decode cX11_fallsBehind 63 = .ok (.invokestatic 323, 3) := by decide +kernel
theorem dX11_fallsBehind_66 : decode cX11_fallsBehind 66 = .ok (.istore 5, 2) := by decide +kernel
theorem dX11_fallsBehind_68 : decode cX11_fallsBehind 68 = .ok (.iload 6, 2) := by decide +kernel
theorem dX11_fallsBehind_70 : decode cX11_fallsBehind 70 = .ok (.iconst 1, 1) := by decide +kernel
theorem dX11_fallsBehind_71 : decode cX11_fallsBehind 71 = .ok (.iadd, 1) := by decide +kernel
theorem dX11_fallsBehind_72 : decode cX11_fallsBehind 72 = .ok (.istore 6, 2) := by decide +kernel
theorem dX11_fallsBehind_74 : decode cX11_fallsBehind 74 = .ok (.goto (-44), 3) := by decide +kernel
theorem dX11_fallsBehind_77 : decode cX11_fallsBehind 77 = .ok (.iload 5, 2) := by decide +kernel
theorem dX11_fallsBehind_79 : decode cX11_fallsBehind 79 = .ok (.iload_n 3, 1) := by decide +kernel
theorem dX11_fallsBehind_80 : decode cX11_fallsBehind 80 = .ok (.if_icmp .ne 16, 3) := by decide +kernel
theorem dX11_fallsBehind_83 : decode cX11_fallsBehind 83 = .ok (.iload_n 1, 1) := by decide +kernel
theorem dX11_fallsBehind_84 : decode cX11_fallsBehind 84 = .ok (.iload_n 3, 1) := by decide +kernel
theorem dX11_fallsBehind_85 : decode cX11_fallsBehind 85 = .ok (.if_icmp .eq 11, 3) := by decide +kernel
theorem dX11_fallsBehind_88 : decode cX11_fallsBehind 88 = .ok (.aload_n 0, 1) := by decide +kernel
theorem dX11_fallsBehind_89 : decode cX11_fallsBehind 89 = .ok (.iload_n 3, 1) := by decide +kernel
theorem dX11_fallsBehind_90 : decode cX11_fallsBehind 90 = .ok (.iload 4, 2) := by decide +kernel
theorem dX11_fallsBehind_92 : decode cX11_fallsBehind 92 = .ok (.iconst 2, 1) := by decide +kernel
theorem dX11_fallsBehind_93 : decode cX11_fallsBehind 93 = .ok (.invokevirtual 326, 3) := by decide +kernel
theorem dX11_fallsBehind_96 : decode cX11_fallsBehind 96 = .ok (.iinc 4 1, 3) := by decide +kernel
theorem dX11_fallsBehind_99 : decode cX11_fallsBehind 99 = .ok (.goto (-87), 3) := by decide +kernel
theorem dX11_fallsBehind_102 : decode cX11_fallsBehind 102 = .ok (.return_, 1) := by decide +kernel
theorem dX11_fallsByLamps_0 : decode cX11_fallsByLamps 0 = .ok (.iconst 0, 1) := by decide +kernel
theorem dX11_fallsByLamps_1 : decode cX11_fallsByLamps 1 = .ok (.istore_n 1, 1) := by decide +kernel
theorem dX11_fallsByLamps_2 : decode cX11_fallsByLamps 2 = .ok (.iload_n 1, 1) := by decide +kernel
theorem dX11_fallsByLamps_3 : decode cX11_fallsByLamps 3 = .ok (.iconst 4, 1) := by decide +kernel
theorem dX11_fallsByLamps_4 : decode cX11_fallsByLamps 4 = .ok (.if_icmp .ge 51, 3) := by decide +kernel
theorem dX11_fallsByLamps_7 : decode cX11_fallsByLamps 7 = .ok (.iconst 0, 1) := by decide +kernel
theorem dX11_fallsByLamps_8 : decode cX11_fallsByLamps 8 = .ok (.istore_n 2, 1) := by decide +kernel
theorem dX11_fallsByLamps_9 : decode cX11_fallsByLamps 9 = .ok (.iload_n 2, 1) := by decide +kernel
theorem dX11_fallsByLamps_10 : decode cX11_fallsByLamps 10 = .ok (.iconst 2, 1) := by decide +kernel
theorem dX11_fallsByLamps_11 : decode cX11_fallsByLamps 11 = .ok (.if_icmp .ge 38, 3) := by decide +kernel
theorem dX11_fallsByLamps_14 : decode cX11_fallsByLamps 14 = .ok (.aload_n 0, 1) := by decide +kernel
theorem dX11_fallsByLamps_15 : decode cX11_fallsByLamps 15 = .ok (.getfield 22, 3) := by decide +kernel
theorem dX11_fallsByLamps_18 : decode cX11_fallsByLamps 18 = .ok (.iload_n 1, 1) := by decide +kernel
theorem dX11_fallsByLamps_19 : decode cX11_fallsByLamps 19 = .ok (.iaload, 1) := by decide +kernel
theorem dX11_fallsByLamps_20 : decode cX11_fallsByLamps 20 = .ok (.iconst (-1), 1) := by decide +kernel
theorem dX11_fallsByLamps_21 : decode cX11_fallsByLamps 21 = .ok (.if_icmp .eq 22, 3) := by decide +kernel
theorem dX11_fallsByLamps_24 : decode cX11_fallsByLamps 24 = .ok (.aload_n 0, 1) := by decide +kernel
theorem dX11_fallsByLamps_25 : decode cX11_fallsByLamps 25 = .ok (.iload_n 2, 1) := by decide +kernel
theorem dX11_fallsByLamps_26 : decode cX11_fallsByLamps 26 = .ok (.invokevirtual 260, 3) := by decide +kernel
theorem dX11_fallsByLamps_29 : decode cX11_fallsByLamps 29 = .ok (.ifCond .eq 14, 3) := by decide +kernel
theorem dX11_fallsByLamps_32 : decode cX11_fallsByLamps 32 = .ok (.aload_n 0, 1) := by decide +kernel
theorem dX11_fallsByLamps_33 : decode cX11_fallsByLamps 33 = .ok (.aload_n 0, 1) := by decide +kernel
theorem dX11_fallsByLamps_34 : decode cX11_fallsByLamps 34 = .ok (.getfield 22, 3) := by decide +kernel
theorem dX11_fallsByLamps_37 : decode cX11_fallsByLamps 37 = .ok (.iload_n 1, 1) := by decide +kernel
theorem dX11_fallsByLamps_38 : decode cX11_fallsByLamps 38 = .ok (.iaload, 1) := by decide +kernel
theorem dX11_fallsByLamps_39 : decode cX11_fallsByLamps 39 = .ok (.iload_n 2, 1) := by decide +kernel
theorem dX11_fallsByLamps_40 : decode cX11_fallsByLamps 40 = .ok (.invokevirtual 330, 3) := by decide +kernel
theorem dX11_fallsByLamps_43 : decode cX11_fallsByLamps 43 = .ok (.iinc 2 1, 3) := by decide +kernel
theorem dX11_fallsByLamps_46 : decode cX11_fallsByLamps 46 = .ok (.goto (-37), 3) := by decide +kernel
theorem dX11_fallsByLamps_49 : decode cX11_fallsByLamps 49 = .ok (.iinc 1 1, 3) := by decide +kernel
theorem dX11_fallsByLamps_52 : decode cX11_fallsByLamps 52 = .ok (.goto (-50), 3) := by decide +kernel
theorem dX11_fallsByLamps_55 : decode cX11_fallsByLamps 55 = .ok (.return_, 1) := by decide +kernel
theorem dX11_feed_0 : decode cX11_feed 0 = .ok (.aload_n 0, 1) := by decide +kernel
theorem dX11_feed_1 : decode cX11_feed 1 = .ok (.getfield 164, 3) := by decide +kernel
theorem dX11_feed_4 : decode cX11_feed 4 = .ok (.bipush 20, 2) := by decide +kernel
theorem dX11_feed_6 : decode cX11_feed 6 = .ok (.iadd, 1) := by decide +kernel
theorem dX11_feed_7 : decode cX11_feed 7 = .ok (.sipush 260, 3) := by decide +kernel
theorem dX11_feed_10 : decode cX11_feed 10 = .ok (.if_icmp .le 5, 3) := by decide +kernel
theorem dX11_feed_13 : decode cX11_feed 13 = .ok (.iconst (-1), 1) := by decide +kernel
theorem dX11_feed_14 : decode cX11_feed 14 = .ok (.ireturn, 1) := by decide +kernel
theorem dX11_feed_15 : decode cX11_feed 15 = .ok (.aload_n 0, 1) := by decide +kernel
theorem dX11_feed_16 : decode cX11_feed 16 = .ok (.iload_n 1, 1) := by decide +kernel
theorem dX11_feed_17 : decode cX11_feed 17 = .ok (.invokevirtual 167, 3) := by decide +kernel
theorem dX11_feed_20 : decode cX11_feed 20 = .ok (.aload_n 0, 1) := by decide +kernel
theorem dX11_feed_21 : decode cX11_feed 21 = .ok (.iload_n 2, 1) := by decide +kernel
theorem dX11_feed_22 : decode cX11_feed 22 = .ok (.invokevirtual 167, 3) := by decide +kernel
theorem dX11_feed_25 : decode cX11_feed 25 = .ok (.aload_n 0, 1) := by decide +kernel
theorem dX11_feed_26 : decode cX11_feed 26 = .ok (.iload_n 3, 1) := by decide +kernel
theorem dX11_feed_27 : decode cX11_feed 27 = .ok (.invokevirtual 167, 3) := by decide +kernel
theorem dX11_feed_30 : decode cX11_feed 30 = .ok (.aload_n 0, 1) := by decide +kernel
theorem dX11_feed_31 : decode cX11_feed 31 = .ok (.iload 4, 2) := by decide +kernel
theorem dX11_feed_33 : decode cX11_feed 33 = .ok (.invokevirtual 167, 3) := by decide +kernel
theorem dX11_feed_36 : decode cX11_feed 36 = .ok (.aload_n 0, 1) := by decide +kernel
theorem dX11_feed_37 : decode cX11_feed 37 = .ok (.iload 5, 2) := by decide +kernel
theorem dX11_feed_39 : decode cX11_feed 39 = .ok (.invokevirtual 167, 3) := by decide +kernel
theorem dX11_feed_42 : decode cX11_feed 42 = .ok (.aload_n 0, 1) := by decide +kernel
theorem dX11_feed_43 : decode cX11_feed 43 = .ok (.getfield 164, 3) := by decide +kernel
theorem dX11_feed_46 : decode cX11_feed 46 = .ok (.ireturn, 1) := by decide +kernel
theorem dX11_feels_0 : decode cX11_feels 0 = .ok (.iconst 0, 1) := by decide +kernel
theorem dX11_feels_1 : decode cX11_feels 1 = .ok (.istore_n 2, 1) := by decide +kernel
theorem dX11_feels_2 : decode cX11_feels 2 = .ok (.iload_n 2, 1) := by decide +kernel
theorem dX11_feels_3 : decode cX11_feels 3 = .ok (.bipush 7, 2) := by decide +kernel
theorem dX11_feels_5 : decode cX11_feels 5 = .ok (.if_icmp .ge 16, 3) := by decide +kernel
theorem dX11_feels_8 : decode cX11_feels 8 = .ok (.aload_n 0, 1) := by decide +kernel
theorem dX11_feels_9 : decode cX11_feels 9 = .ok (.getfield 86, 3) := by decide +kernel
theorem dX11_feels_12 : decode cX11_feels 12 = .ok (.iload_n 2, 1) := by decide +kernel
theorem dX11_feels_13 : decode cX11_feels 13 = .ok (.iconst 0, 1) := by decide +kernel
theorem dX11_feels_14 : decode cX11_feels 14 = .ok (.iastore, 1) := by decide +kernel
theorem dX11_feels_15 : decode cX11_feels 15 = .ok (.iinc 2 1, 3) := by decide +kernel
theorem dX11_feels_18 : decode cX11_feels 18 = .ok (.goto (-16), 3) := by decide +kernel
theorem dX11_feels_21 : decode cX11_feels 21 = .ok (.aload_n 0, 1) := by decide +kernel
theorem dX11_feels_22 : decode cX11_feels 22 = .ok (.getfield 86, 3) := by decide +kernel
theorem dX11_feels_25 : decode cX11_feels 25 = .ok (.iconst 0, 1) := by decide +kernel
theorem dX11_feels_26 : decode cX11_feels 26 = .ok (.iload_n 1, 1) := by decide +kernel
theorem dX11_feels_27 : decode cX11_feels 27 = .ok (.iastore, 1) := by decide +kernel
theorem dX11_feels_28 : decode cX11_feels 28 = .ok (.aload_n 0, 1) := by decide +kernel
theorem dX11_feels_29 : decode cX11_feels 29 = .ok (.getfield 86, 3) := by decide +kernel
theorem dX11_feels_32 : decode cX11_feels 32 = .ok (.iconst 1, 1) := by decide +kernel
theorem dX11_feels_33 : decode cX11_feels 33 = .ok (.iload_n 1, 1) := by decide +kernel
theorem dX11_feels_34 : decode cX11_feels 34 = .ok (.bipush 60, 2) := by decide +kernel
theorem dX11_feels_36 : decode cX11_feels 36 = .ok (.idiv, 1) := by decide +kernel
theorem dX11_feels_37 : decode cX11_feels 37 = .ok (.bipush 24, 2) := by decide +kernel
theorem dX11_feels_39 : decode cX11_feels 39 = .ok (.irem, 1) := by decide +kernel
theorem dX11_feels_40 : decode cX11_feels 40 = .ok (.iastore, 1) := by decide +kernel
theorem dX11_feels_41 : decode cX11_feels 41 = .ok (.return_, 1) := by decide +kernel
theorem dX11_freeMany_0 : decode cX11_freeMany 0 = .ok (.iconst 0, 1) := by decide +kernel
theorem dX11_freeMany_1 : decode cX11_freeMany 1 = .ok (.istore_n 1, 1) := by decide +kernel
theorem dX11_freeMany_2 : decode cX11_freeMany 2 = .ok (.iconst 0, 1) := by decide +kernel
theorem dX11_freeMany_3 : decode cX11_freeMany 3 = .ok (.istore_n 2, 1) := by decide +kernel
theorem dX11_freeMany_4 : decode cX11_freeMany 4 = .ok (.iload_n 2, 1) := by decide +kernel
theorem dX11_freeMany_5 : decode cX11_freeMany 5 = .ok (.bipush 10, 2) := by decide +kernel
theorem dX11_freeMany_7 : decode cX11_freeMany 7 = .ok (.if_icmp .ge 37, 3) := by decide +kernel
theorem dX11_freeMany_10 : decode cX11_freeMany 10 = .ok (.iload_n 1, 1) := by decide +kernel
theorem dX11_freeMany_11 : decode cX11_freeMany 11 = .ok (.aload_n 0, 1) := by decide +kernel
theorem dX11_freeMany_12 : decode cX11_freeMany 12 = .ok (.iload_n 2, 1) := by decide +kernel
theorem dX11_freeMany_13 : decode cX11_freeMany 13 = .ok (.invokevirtual 146, 3) := by decide +kernel
theorem dX11_freeMany_16 : decode cX11_freeMany 16 = .ok (.ifCond .eq 19, 3) := by decide +kernel
theorem dX11_freeMany_19 : decode cX11_freeMany 19 = .ok (.aload_n 0, 1) := by decide +kernel
theorem dX11_freeMany_20 : decode cX11_freeMany 20 = .ok (.getfield 7, 3) := by decide +kernel
theorem dX11_freeMany_23 : decode cX11_freeMany 23 = .ok (.bipush 14, 2) := by decide +kernel
theorem dX11_freeMany_25 : decode cX11_freeMany 25 = .ok (.iload_n 2, 1) := by decide +kernel
theorem dX11_freeMany_26 : decode cX11_freeMany 26 = .ok (.iadd, 1) := by decide +kernel
theorem dX11_freeMany_27 : decode cX11_freeMany 27 = .ok (.iaload, 1) := by decide +kernel
theorem dX11_freeMany_28 : decode cX11_freeMany 28 = .ok (.ifCond .ne 7, 3) := by decide +kernel
theorem dX11_freeMany_31 : decode cX11_freeMany 31 = .ok (.iconst 1, 1) := by decide +kernel
theorem dX11_freeMany_32 : decode cX11_freeMany 32 = .ok (.goto 4, 3) := by decide +kernel
theorem dX11_freeMany_35 : decode cX11_freeMany 35 = .ok (.iconst 0, 1) := by decide +kernel
theorem dX11_freeMany_36 : decode cX11_freeMany 36 = .ok (.iadd, 1) := by decide +kernel
theorem dX11_freeMany_37 : decode cX11_freeMany 37 = .ok (.istore_n 1, 1) := by decide +kernel
theorem dX11_freeMany_38 : decode cX11_freeMany 38 = .ok (.iinc 2 1, 3) := by decide +kernel
theorem dX11_freeMany_41 : decode cX11_freeMany 41 = .ok (.goto (-37), 3) := by decide +kernel
theorem dX11_freeMany_44 : decode cX11_freeMany 44 = .ok (.iload_n 1, 1) := by decide +kernel
theorem dX11_freeMany_45 : decode cX11_freeMany 45 = .ok (.ireturn, 1) := by decide +kernel
theorem dX11_has_0 : decode cX11_has 0 = .ok (.iload_n 0, 1) := by decide +kernel
theorem dX11_has_1 : decode cX11_has 1 = .ok (.iload_n 1, 1) := by decide +kernel
theorem dX11_has_2 : decode cX11_has 2 = .ok (.ishr, 1) := by decide +kernel
theorem dX11_has_3 : decode cX11_has 3 = .ok (.iconst 1, 1) := by decide +kernel
theorem dX11_has_4 : decode cX11_has 4 = .ok (.iand, 1) := by decide +kernel
theorem dX11_has_5 : decode cX11_has 5 = .ok (.iconst 1, 1) := by decide +kernel
theorem dX11_has_6 : decode cX11_has 6 = .ok (.if_icmp .ne 7, 3) := by decide +kernel
theorem dX11_has_9 : decode cX11_has 9 = .ok (.iconst 1, 1) := by decide +kernel
theorem dX11_has_10 : decode cX11_has 10 = .ok (.goto 4, 3) := by decide +kernel
theorem dX11_has_13 : decode cX11_has 13 = .ok (.iconst 0, 1) := by decide +kernel
theorem dX11_has_14 : decode cX11_has 14 = .ok (.ireturn, 1) := by decide +kernel
theorem dX11_in_0 : decode cX11_in 0 = .ok (.iload_n 0, 1) := by decide +kernel
theorem dX11_in_1 : decode cX11_in 1 = .ok (.iload_n 1, 1) := by decide +kernel
theorem dX11_in_2 : decode cX11_in 2 = .ok (.if_icmp .lt 12, 3) := by decide +kernel
theorem dX11_in_5 : decode cX11_in 5 = .ok (.iload_n 0, 1) := by decide +kernel
theorem dX11_in_6 : decode cX11_in 6 = .ok (.iload_n 2, 1) := by decide +kernel
theorem dX11_in_7 : decode cX11_in 7 = .ok (.if_icmp .gt 7, 3) := by decide +kernel
theorem dX11_in_10 : decode cX11_in 10 = .ok (.iconst 1, 1) := by decide +kernel
theorem dX11_in_11 : decode cX11_in 11 = .ok (.goto 4, 3) := by decide +kernel
theorem dX11_in_14 : decode cX11_in 14 = .ok (.iconst 0, 1) := by decide +kernel
theorem dX11_in_15 : decode cX11_in 15 = .ok (.ireturn, 1) := by decide +kernel
theorem dX11_isFelon_0 : decode cX11_isFelon 0 = .ok (.iload_n 1, 1) := by decide +kernel
theorem dX11_isFelon_1 : decode cX11_isFelon 1 = .ok (.bipush 10, 2) := by decide +kernel
theorem dX11_isFelon_3 : decode cX11_isFelon 3 = .ok (.invokestatic 139, 3) := by decide +kernel
theorem dX11_isFelon_6 : decode cX11_isFelon 6 = .ok (.ifCond .eq 21, 3) := by decide +kernel
theorem dX11_isFelon_9 : decode cX11_isFelon 9 = .ok (.aload_n 0, 1) := by decide +kernel
theorem dX11_isFelon_10 : decode cX11_isFelon 10 = .ok (.getfield 7, 3) := by decide +kernel
theorem dX11_isFelon_13 : decode cX11_isFelon 13 = .ok (.bipush 35, 2) := by decide +kernel
theorem dX11_isFelon_15 : decode cX11_isFelon 15 = .ok (.iaload, 1) := by decide +kernel
theorem dX11_isFelon_16 : decode cX11_isFelon 16 = .ok (.iload_n 1, 1) := by decide +kernel
theorem dX11_isFelon_17 : decode cX11_isFelon 17 = .ok (.invokestatic 143, 3) := by decide +kernel
theorem dX11_isFelon_20 : decode cX11_isFelon 20 = .ok (.ifCond .eq 7, 3) := by decide +kernel
theorem dX11_isFelon_23 : decode cX11_isFelon 23 = .ok (.iconst 1, 1) := by decide +kernel
theorem dX11_isFelon_24 : decode cX11_isFelon 24 = .ok (.goto 4, 3) := by decide +kernel
theorem dX11_isFelon_27 : decode cX11_isFelon 27 = .ok (.iconst 0, 1) := by decide +kernel
theorem dX11_isFelon_28 : decode cX11_isFelon 28 = .ok (.ireturn, 1) := by decide +kernel
theorem dX11_isFive_0 : decode cX11_isFive 0 = .ok (.iload_n 0, 1) := by decide +kernel
theorem dX11_isFive_1 : decode cX11_isFive 1 = .ok (.ifCond .lt 12, 3) := by decide +kernel
theorem dX11_isFive_4 : decode cX11_isFive 4 = .ok (.iload_n 0, 1) := by decide +kernel
theorem dX11_isFive_5 : decode cX11_isFive 5 = .ok (.iload_n 1, 1) := by decide +kernel
theorem dX11_isFive_6 : decode cX11_isFive 6 = .ok (.if_icmp .ge 7, 3) := by decide +kernel
theorem dX11_isFive_9 : decode cX11_isFive 9 = .ok (.iconst 1, 1) := by decide +kernel
theorem dX11_isFive_10 : decode cX11_isFive 10 = .ok (.goto 4, 3) := by decide +kernel
theorem dX11_isFive_13 : decode cX11_isFive 13 = .ok (.iconst 0, 1) := by decide +kernel
theorem dX11_isFive_14 : decode cX11_isFive 14 = .ok (.ireturn, 1) := by decide +kernel
theorem dX11_isGround_0 : decode cX11_isGround 0 = .ok (.aload_n 0, 1) := by decide +kernel
theorem dX11_isGround_1 : decode cX11_isGround 1 = .ok (.getfield 19, 3) := by decide +kernel
theorem dX11_isGround_4 : decode cX11_isGround 4 = .ok (.iload_n 1, 1) := by decide +kernel
theorem dX11_isGround_5 : decode cX11_isGround 5 = .ok (.iaload, 1) := by decide +kernel
theorem dX11_isGround_6 : decode cX11_isGround 6 = .ok (.ifCond .eq 13, 3) := by decide +kernel
theorem dX11_isGround_9 : decode cX11_isGround 9 = .ok (.aload_n 0, 1) := by decide +kernel
theorem dX11_isGround_10 : decode cX11_isGround 10 = .ok (.getfield 19, 3) := by decide +kernel
theorem dX11_isGround_13 : decode cX11_isGround 13 = .ok (.iload_n 1, 1) := by decide +kernel
theorem dX11_isGround_14 : decode cX11_isGround 14 = .ok (.iaload, 1) := by decide +kernel
theorem dX11_isGround_15 : decode cX11_isGround 15 = .ok (.iconst 2, 1) := by decide +kernel
theorem dX11_isGround_16 : decode cX11_isGround 16 = .ok (.if_icmp .ne 7, 3) := by decide +kernel
theorem dX11_isGround_19 : decode cX11_isGround 19 = .ok (.iconst 1, 1) := by decide +kernel
theorem dX11_isGround_20 : decode cX11_isGround 20 = .ok (.goto 4, 3) := by decide +kernel
theorem dX11_isGround_23 : decode cX11_isGround 23 = .ok (.iconst 0, 1) := by decide +kernel
theorem dX11_isGround_24 : decode cX11_isGround 24 = .ok (.ireturn, 1) := by decide +kernel
theorem dX11_isJudge_0 : decode cX11_isJudge 0 = .ok (.iload_n 1, 1) := by decide +kernel
theorem dX11_isJudge_1 : decode cX11_isJudge 1 = .ok (.iconst 2, 1) := by decide +kernel
theorem dX11_isJudge_2 : decode cX11_isJudge 2 = .ok (.invokestatic 139, 3) := by decide +kernel
theorem dX11_isJudge_5 : decode cX11_isJudge 5 = .ok (.ifCond .eq 21, 3) := by decide +kernel
theorem dX11_isJudge_8 : decode cX11_isJudge 8 = .ok (.aload_n 0, 1) := by decide +kernel
theorem dX11_isJudge_9 : decode cX11_isJudge 9 = .ok (.getfield 7, 3) := by decide +kernel
theorem dX11_isJudge_12 : decode cX11_isJudge 12 = .ok (.bipush 34, 2) := by decide +kernel
theorem dX11_isJudge_14 : decode cX11_isJudge 14 = .ok (.iaload, 1) := by decide +kernel
theorem dX11_isJudge_15 : decode cX11_isJudge 15 = .ok (.iload_n 1, 1) := by decide +kernel
theorem dX11_isJudge_16 : decode cX11_isJudge 16 = .ok (.invokestatic 143, 3) := by decide +kernel
theorem dX11_isJudge_19 : decode cX11_isJudge 19 = .ok (.ifCond .eq 7, 3) := by decide +kernel
theorem dX11_isJudge_22 : decode cX11_isJudge 22 = .ok (.iconst 1, 1) := by decide +kernel
theorem dX11_isJudge_23 : decode cX11_isJudge 23 = .ok (.goto 4, 3) := by decide +kernel
theorem dX11_isJudge_26 : decode cX11_isJudge 26 = .ok (.iconst 0, 1) := by decide +kernel
theorem dX11_isJudge_27 : decode cX11_isJudge 27 = .ok (.ireturn, 1) := by decide +kernel
theorem dX11_isOn_0 : decode cX11_isOn 0 = .ok (.iload_n 0, 1) := by decide +kernel
theorem dX11_isOn_1 : decode cX11_isOn 1 = .ok (.iconst 0, 1) := by decide +kernel
theorem dX11_isOn_2 : decode cX11_isOn 2 = .ok (.bipush 9, 2) := by decide +kernel
theorem dX11_isOn_4 : decode cX11_isOn 4 = .ok (.invokestatic 150, 3) := by decide +kernel
theorem dX11_isOn_7 : decode cX11_isOn 7 = .ok (.ifCond .eq 17, 3) := by decide +kernel
theorem dX11_isOn_10 : decode cX11_isOn 10 = .ok (.iload_n 1, 1) := by decide +kernel
theorem dX11_isOn_11 : decode cX11_isOn 11 = .ok (.iconst 0, 1) := by decide +kernel
theorem dX11_isOn_12 : decode cX11_isOn 12 = .ok (.bipush 9, 2) := by decide +kernel
theorem dX11_isOn_14 : decode cX11_isOn 14 = .ok (.invokestatic 150, 3) := by decide +kernel
theorem dX11_isOn_17 : decode cX11_isOn 17 = .ok (.ifCond .eq 7, 3) := by decide +kernel
theorem dX11_isOn_20 : decode cX11_isOn 20 = .ok (.iconst 1, 1) := by decide +kernel
theorem dX11_isOn_21 : decode cX11_isOn 21 = .ok (.goto 4, 3) := by decide +kernel
theorem dX11_isOn_24 : decode cX11_isOn 24 = .ok (.iconst 0, 1) := by decide +kernel
theorem dX11_isOn_25 : decode cX11_isOn 25 = .ok (.ireturn, 1) := by decide +kernel
theorem dX11_lampSet_0 : decode cX11_lampSet 0 = .ok (.iconst 0, 1) := by decide +kernel
theorem dX11_lampSet_1 : decode cX11_lampSet 1 = .ok (.istore_n 1, 1) := by decide +kernel
theorem dX11_lampSet_2 : decode cX11_lampSet 2 = .ok (.iconst 0, 1) := by decide +kernel
theorem dX11_lampSet_3 : decode cX11_lampSet 3 = .ok (.istore_n 2, 1) := by decide +kernel
theorem dX11_lampSet_4 : decode cX11_lampSet 4 = .ok (.iload_n 2, 1) := by decide +kernel
theorem dX11_lampSet_5 : decode cX11_lampSet 5 = .ok (.iconst 4, 1) := by decide +kernel
theorem dX11_lampSet_6 : decode cX11_lampSet 6 = .ok (.if_icmp .ge 29, 3) := by decide +kernel
theorem dX11_lampSet_9 : decode cX11_lampSet 9 = .ok (.iload_n 1, 1) := by decide +kernel
theorem dX11_lampSet_10 : decode cX11_lampSet 10 = .ok (.aload_n 0, 1) := by decide +kernel
theorem dX11_lampSet_11 : decode cX11_lampSet 11 = .ok (.getfield 22, 3) := by decide +kernel
theorem dX11_lampSet_14 : decode cX11_lampSet 14 = .ok (.iload_n 2, 1) := by decide +kernel
theorem dX11_lampSet_15 : decode cX11_lampSet 15 = .ok (.iaload, 1) := by decide +kernel
theorem dX11_lampSet_16 : decode cX11_lampSet 16 = .ok (.iconst (-1), 1) := by decide +kernel
theorem dX11_lampSet_17 : decode cX11_lampSet 17 = .ok (.if_icmp .ne 7, 3) := by decide +kernel
theorem dX11_lampSet_20 : decode cX11_lampSet 20 = .ok (.iconst 0, 1) := by decide +kernel
theorem dX11_lampSet_21 : decode cX11_lampSet 21 = .ok (.goto 6, 3) := by decide +kernel
theorem dX11_lampSet_24 : decode cX11_lampSet 24 = .ok (.iconst 1, 1) := by decide +kernel
theorem dX11_lampSet_25 : decode cX11_lampSet 25 = .ok (.iload_n 2, 1) := by decide +kernel
theorem dX11_lampSet_26 : decode cX11_lampSet 26 = .ok (.ishl, 1) := by decide +kernel
theorem dX11_lampSet_27 : decode cX11_lampSet 27 = .ok (.ior, 1) := by decide +kernel
theorem dX11_lampSet_28 : decode cX11_lampSet 28 = .ok (.istore_n 1, 1) := by decide +kernel
theorem dX11_lampSet_29 : decode cX11_lampSet 29 = .ok (.iinc 2 1, 3) := by decide +kernel
theorem dX11_lampSet_32 : decode cX11_lampSet 32 = .ok (.goto (-28), 3) := by decide +kernel
theorem dX11_lampSet_35 : decode cX11_lampSet 35 = .ok (.iload_n 1, 1) := by decide +kernel
theorem dX11_lampSet_36 : decode cX11_lampSet 36 = .ok (.ireturn, 1) := by decide +kernel
theorem dX11_laysCosts_0 : decode cX11_laysCosts 0 = .ok (.iconst 0, 1) := by decide +kernel
theorem dX11_laysCosts_1 : decode cX11_laysCosts 1 = .ok (.istore 4, 2) := by decide +kernel
theorem dX11_laysCosts_3 : decode cX11_laysCosts 3 = .ok (.iload 4, 2) := by decide +kernel
theorem dX11_laysCosts_5 : decode cX11_laysCosts 5 = .ok (.bipush 100, 2) := by decide +kernel
theorem dX11_laysCosts_7 : decode cX11_laysCosts 7 = .ok (.if_icmp .ge 29, 3) := by decide +kernel
theorem dX11_laysCosts_10 : decode cX11_laysCosts 10 = .ok (.aload_n 0, 1) := by decide +kernel
theorem dX11_laysCosts_11 : decode cX11_laysCosts 11 = .ok (.getfield 92, 3) := by decide +kernel
theorem dX11_laysCosts_14 : decode cX11_laysCosts 14 = .ok (.iload 4, 2) := by decide +kernel
theorem dX11_laysCosts_16 : decode cX11_laysCosts 16 = .ok (.iload 4, 2) := by decide +kernel
theorem dX11_laysCosts_18 : decode cX11_laysCosts 18 = .ok (.iload_n 1, 1) := by decide +kernel
theorem dX11_laysCosts_19 : decode cX11_laysCosts 19 = .ok (.if_icmp .ne 7, 3) := by decide +kernel
theorem dX11_laysCosts_22 : decode cX11_laysCosts 22 = .ok (.iconst 0, 1) := by decide +kernel
theorem dX11_laysCosts_23 : decode cX11_laysCosts 23 = .ok (.goto 6, 3) := by decide +kernel
theorem dX11_laysCosts_26 : decode cX11_laysCosts 26 = .ok (.ldc_w 348, 3) := by decide +kernel
theorem dX11_laysCosts_29 : decode cX11_laysCosts 29 = .ok (.iastore, 1) := by decide +kernel
theorem dX11_laysCosts_30 : decode cX11_laysCosts 30 = .ok (.iinc 4 1, 3) := by decide +kernel
theorem dX11_laysCosts_33 : decode cX11_laysCosts 33 = .ok (.goto (-30), 3) := by decide +kernel
theorem dX11_laysCosts_36 : decode cX11_laysCosts 36 = .ok (.iconst 0, 1) := by decide +kernel
theorem dX11_laysCosts_37 : decode cX11_laysCosts 37 = .ok (.istore 4, 2) := by decide +kernel
theorem dX11_laysCosts_39 : decode cX11_laysCosts 39 = .ok (.iload 4, 2) := by decide +kernel
theorem dX11_laysCosts_41 : decode cX11_laysCosts 41 = .ok (.iload_n 2, 1) := by decide +kernel
theorem dX11_laysCosts_42 : decode cX11_laysCosts 42 = .ok (.if_icmp .ge 124, 3) := by decide +kernel
theorem dX11_laysCosts_45 : decode cX11_laysCosts 45 = .ok (.iconst 0, 1) := by decide +kernel
theorem dX11_laysCosts_46 : decode cX11_laysCosts 46 = .ok (.istore 5, 2) := by decide +kernel
theorem dX11_laysCosts_48 : decode cX11_laysCosts 48 = .ok (.iload 5, 2) := by decide +kernel
theorem dX11_laysCosts_50 : decode cX11_laysCosts 50 = .ok (.bipush 100, 2) := by decide +kernel
theorem dX11_laysCosts_52 : decode cX11_laysCosts 52 = .ok (.if_icmp .ge 108, 3) := by decide +kernel
theorem dX11_laysCosts_55 : decode cX11_laysCosts 55 = .ok (.aload_n 0, 1) := by decide +kernel
theorem dX11_laysCosts_56 : decode cX11_laysCosts 56 = .ok (.getfield 92, 3) := by decide +kernel
theorem dX11_laysCosts_59 : decode cX11_laysCosts 59 = .ok (.iload 5, 2) := by decide +kernel
theorem dX11_laysCosts_61 : decode cX11_laysCosts 61 = .ok (.iaload, 1) := by decide +kernel
theorem dX11_laysCosts_62 : decode cX11_laysCosts 62 = .ok (.iload 4, 2) := by decide +kernel
theorem dX11_laysCosts_64 : decode cX11_laysCosts 64 = .ok (.if_icmp .eq 6, 3) := by decide +kernel
theorem dX11_laysCosts_67 : decode cX11_laysCosts 67 = .ok (.goto 87, 3) := by decide +kernel
theorem dX11_laysCosts_70 : decode cX11_laysCosts 70 = .ok (.iconst 0, 1) := by decide +kernel
theorem dX11_laysCosts_71 : decode cX11_laysCosts 71 = .ok (.istore 6, 2) := by decide +kernel
theorem dX11_laysCosts_73 : decode cX11_laysCosts 73 = .ok (.iload 6, 2) := by decide +kernel
theorem dX11_laysCosts_75 : decode cX11_laysCosts 75 = .ok (.bipush 8, 2) := by decide +kernel
theorem dX11_laysCosts_77 : decode cX11_laysCosts 77 = .ok (.if_icmp .ge 77, 3) := by decide +kernel
theorem dX11_laysCosts_80 : decode cX11_laysCosts 80 = .ok (.iload 5, 2) := by decide +kernel
theorem dX11_laysCosts_82 : decode cX11_laysCosts 82 = .ok (.iload 6, 2) := by decide +kernel
theorem dX11_laysCosts_84 : decode cX11_laysCosts 84 = .ok (.invokestatic 323, 3) := by decide +kernel
theorem dX11_laysCosts_87 : decode cX11_laysCosts 87 = .ok (.istore 7, 2) := by decide +kernel
theorem dX11_laysCosts_89 : decode cX11_laysCosts 89 = .ok (.iload 7, 2) := by decide +kernel
theorem dX11_laysCosts_91 : decode cX11_laysCosts 91 = .ok (.iconst (-1), 1) := by decide +kernel
theorem dX11_laysCosts_92 : decode cX11_laysCosts 92 = .ok (.if_icmp .eq 53, 3) := by decide +kernel
theorem dX11_laysCosts_95 : decode cX11_laysCosts 95 = .ok (.aload_n 0, 1) := by decide +kernel
theorem dX11_laysCosts_96 : decode cX11_laysCosts 96 = .ok (.getfield 92, 3) := by decide +kernel
theorem dX11_laysCosts_99 : decode cX11_laysCosts 99 = .ok (.iload 7, 2) := by decide +kernel
theorem dX11_laysCosts_101 : decode cX11_laysCosts 101 = .ok (.iaload, 1) := by decide +kernel
theorem dX11_laysCosts_102 : decode cX11_laysCosts 102 = .ok (.ldc_w 348, 3) := by decide +kernel
theorem dX11_laysCosts_105 : decode cX11_laysCosts 105 = .ok (.if_icmp .ne 40, 3) := by decide +kernel
theorem dX11_laysCosts_108 : decode cX11_laysCosts 108 = .ok (.aload_n 0, 1) := by decide +kernel
theorem dX11_laysCosts_109 : decode cX11_laysCosts 109 = .ok (.getfield 19, 3) := by decide +kernel
theorem dX11_laysCosts_112 : decode cX11_laysCosts 112 = .ok (.iload 7, 2) := by decide +kernel
theorem dX11_laysCosts_114 : decode cX11_laysCosts 114 = .ok (.iaload, 1) := by decide +kernel
theorem dX11_laysCosts_115 : decode cX11_laysCosts 115 = .ok (.iconst 1, 1) := by decide +kernel
theorem dX11_laysCosts_116 : decode cX11_laysCosts 116 = .ok (.if_icmp .eq 29, 3) := by decide +kernel
theorem dX11_laysCosts_119 : decode cX11_laysCosts 119 = .ok (.iload_n 3, 1) := by decide +kernel
theorem dX11_laysCosts_120 : decode cX11_laysCosts 120 = .ok (.ifCond .eq 14, 3) := by decide +kernel
theorem dX11_laysCosts_123 : decode cX11_laysCosts 123 = .ok (.aload_n 0, 1) := by decide +kernel
theorem dX11_laysCosts_124 : decode cX11_laysCosts 124 = .ok (.getfield 19, 3) := by decide +kernel
theorem dX11_laysCosts_127 : decode cX11_laysCosts 127 = .ok (.iload 7, 2) := by decide +kernel
theorem dX11_laysCosts_129 : decode cX11_laysCosts 129 = .ok (.iaload, 1) := by decide +kernel
theorem dX11_laysCosts_130 : decode cX11_laysCosts 130 = .ok (.iconst 3, 1) := by decide +kernel
theorem dX11_laysCosts_131 : decode cX11_laysCosts 131 = .ok (.if_icmp .eq 14, 3) := by decide +kernel
theorem dX11_laysCosts_134 : decode cX11_laysCosts 134 = .ok (.aload_n 0, 1) := by decide +kernel
theorem dX11_laysCosts_135 : decode cX11_laysCosts 135 = .ok (.getfield 92, 3) := by decide +kernel
theorem dX11_laysCosts_138 : decode cX11_laysCosts 138 = .ok (.iload 7, 2) := by decide +kernel
theorem dX11_laysCosts_140 : decode cX11_laysCosts 140 = .ok (.iload 4, 2) := by decide +kernel
theorem dX11_laysCosts_142 : decode cX11_laysCosts 142 = .ok (.iconst 1, 1) := by decide +kernel
theorem dX11_laysCosts_143 : decode cX11_laysCosts 143 = .ok (.iadd, 1) := by decide +kernel
theorem dX11_laysCosts_144 : decode cX11_laysCosts 144 = .ok (.iastore, 1) := by decide +kernel
theorem dX11_laysCosts_145 : decode cX11_laysCosts 145 = .ok (.iload 6, 2) := by decide +kernel
theorem dX11_laysCosts_147 : decode cX11_laysCosts 147 = .ok (.iconst 2, 1) := by decide +kernel
theorem dX11_laysCosts_148 : decode cX11_laysCosts 148 = .ok (.iadd, 1) := by decide +kernel
theorem dX11_laysCosts_149 : decode cX11_laysCosts 149 = .ok (.istore 6, 2) := by decide +kernel
theorem dX11_laysCosts_151 : decode cX11_laysCosts 151 = .ok (.goto (-78), 3) := by decide +kernel
theorem dX11_laysCosts_154 : decode cX11_laysCosts 154 = .ok (.iinc 5 1, 3) := by decide +kernel
theorem dX11_laysCosts_157 : decode cX11_laysCosts 157 = .ok (.goto (-109), 3) := by decide +kernel
theorem dX11_laysCosts_160 : decode cX11_laysCosts 160 = .ok (.iinc 4 1, 3) := by decide +kernel
theorem dX11_laysCosts_163 : decode cX11_laysCosts 163 = .ok (.goto (-124), 3) := by decide +kernel
theorem dX11_laysCosts_166 : decode cX11_laysCosts 166 = .ok (.return_, 1) := by decide +kernel
theorem dX11_max_0 : decode cX11_max 0 = .ok (.iload_n 0, 1) := by decide +kernel
theorem dX11_max_1 : decode cX11_max 1 = .ok (.iload_n 1, 1) := by decide +kernel
theorem dX11_max_2 : decode cX11_max 2 = .ok (.if_icmp .le 7, 3) := by decide +kernel
theorem dX11_max_5 : decode cX11_max 5 = .ok (.iload_n 0, 1) := by decide +kernel
theorem dX11_max_6 : decode cX11_max 6 = .ok (.goto 4, 3) := by decide +kernel
theorem dX11_max_9 : decode cX11_max 9 = .ok (.iload_n 1, 1) := by decide +kernel
theorem dX11_max_10 : decode cX11_max 10 = .ok (.ireturn, 1) := by decide +kernel
theorem dX11_min_0 : decode cX11_min 0 = .ok (.iload_n 0, 1) := by decide +kernel
theorem dX11_min_1 : decode cX11_min 1 = .ok (.iload_n 1, 1) := by decide +kernel
theorem dX11_min_2 : decode cX11_min 2 = .ok (.if_icmp .ge 7, 3) := by decide +kernel
theorem dX11_min_5 : decode cX11_min 5 = .ok (.iload_n 0, 1) := by decide +kernel
theorem dX11_min_6 : decode cX11_min 6 = .ok (.goto 4, 3) := by decide +kernel
theorem dX11_min_9 : decode cX11_min 9 = .ok (.iload_n 1, 1) := by decide +kernel
theorem dX11_min_10 : decode cX11_min 10 = .ok (.ireturn, 1) := by decide +kernel
theorem dX11_owedAll_0 : decode cX11_owedAll 0 = .ok (.iconst 0, 1) := by decide +kernel
theorem dX11_owedAll_1 : decode cX11_owedAll 1 = .ok (.istore_n 1, 1) := by decide +kernel
theorem dX11_owedAll_2 : decode cX11_owedAll 2 = .ok (.iconst 0, 1) := by decide +kernel
theorem dX11_owedAll_3 : decode cX11_owedAll 3 = .ok (.istore_n 2, 1) := by decide +kernel
theorem dX11_owedAll_4 : decode cX11_owedAll 4 = .ok (.iload_n 2, 1) := by decide +kernel
theorem dX11_owedAll_5 : decode cX11_owedAll 5 = .ok (.bipush 10, 2) := by decide +kernel
theorem dX11_owedAll_7 : decode cX11_owedAll 7 = .ok (.if_icmp .ge 33, 3) := by decide +kernel
theorem dX11_owedAll_10 : decode cX11_owedAll 10 = .ok (.iload_n 1, 1) := by decide +kernel
theorem dX11_owedAll_11 : decode cX11_owedAll 11 = .ok (.aload_n 0, 1) := by decide +kernel
theorem dX11_owedAll_12 : decode cX11_owedAll 12 = .ok (.iload_n 2, 1) := by decide +kernel
theorem dX11_owedAll_13 : decode cX11_owedAll 13 = .ok (.invokevirtual 146, 3) := by decide +kernel
theorem dX11_owedAll_16 : decode cX11_owedAll 16 = .ok (.ifCond .eq 15, 3) := by decide +kernel
theorem dX11_owedAll_19 : decode cX11_owedAll 19 = .ok (.aload_n 0, 1) := by decide +kernel
theorem dX11_owedAll_20 : decode cX11_owedAll 20 = .ok (.getfield 7, 3) := by decide +kernel
theorem dX11_owedAll_23 : decode cX11_owedAll 23 = .ok (.bipush 14, 2) := by decide +kernel
theorem dX11_owedAll_25 : decode cX11_owedAll 25 = .ok (.iload_n 2, 1) := by decide +kernel
theorem dX11_owedAll_26 : decode cX11_owedAll 26 = .ok (.iadd, 1) := by decide +kernel
theorem dX11_owedAll_27 : decode cX11_owedAll 27 = .ok (.iaload, 1) := by decide +kernel
theorem dX11_owedAll_28 : decode cX11_owedAll 28 = .ok (.goto 4, 3) := by decide +kernel
theorem dX11_owedAll_31 : decode cX11_owedAll 31 = .ok (.iconst 0, 1) := by decide +kernel
theorem dX11_owedAll_32 : decode cX11_owedAll 32 = .ok (.iadd, 1) := by decide +kernel
theorem dX11_owedAll_33 : decode cX11_owedAll 33 = .ok (.istore_n 1, 1) := by decide +kernel
theorem dX11_owedAll_34 : decode cX11_owedAll 34 = .ok (.iinc 2 1, 3) := by decide +kernel
theorem dX11_owedAll_37 : decode cX11_owedAll 37 = .ok (.goto (-33), 3) := by decide +kernel
theorem dX11_owedAll_40 : decode cX11_owedAll 40 = .ok (.iload_n 1, 1) := by decide +kernel
theorem dX11_owedAll_41 : decode cX11_owedAll 41 = .ok (.ireturn, 1) := by decide +kernel
theorem dX11_owes_0 : decode cX11_owes 0 = .ok (.aload_n 0, 1) := by decide +kernel
theorem dX11_owes_1 : decode cX11_owes 1 = .ok (.iload_n 1, 1) := by decide +kernel
theorem dX11_owes_2 : decode cX11_owes 2 = .ok (.invokevirtual 146, 3) := by decide +kernel
theorem dX11_owes_5 : decode cX11_owes 5 = .ok (.ifCond .eq 33, 3) := by decide +kernel
theorem dX11_owes_8 : decode cX11_owes 8 = .ok (.aload_n 0, 1) := by decide +kernel
theorem dX11_owes_9 : decode cX11_owes 9 = .ok (.getfield 7, 3) := by decide +kernel
theorem dX11_owes_12 : decode cX11_owes 12 = .ok (.bipush 14, 2) := by decide +kernel
theorem dX11_owes_14 : decode cX11_owes 14 = .ok (.iload_n 1, 1) := by decide +kernel
theorem dX11_owes_15 : decode cX11_owes 15 = .ok (.iadd, 1) := by decide +kernel
theorem dX11_owes_16 : decode cX11_owes 16 = .ok (.iaload, 1) := by decide +kernel
theorem dX11_owes_17 : decode cX11_owes 17 = .ok (.ifCond .le 21, 3) := by decide +kernel
theorem dX11_owes_20 : decode cX11_owes 20 = .ok (.aload_n 0, 1) := by decide +kernel
theorem dX11_owes_21 : decode cX11_owes 21 = .ok (.getfield 7, 3) := by decide +kernel
theorem dX11_owes_24 : decode cX11_owes 24 = .ok (.bipush 36, 2) := by decide +kernel
theorem dX11_owes_26 : decode cX11_owes 26 = .ok (.iaload, 1) := by decide +kernel
theorem dX11_owes_27 : decode cX11_owes 27 = .ok (.iload_n 1, 1) := by decide +kernel
theorem dX11_owes_28 : decode cX11_owes 28 = .ok (.invokestatic 143, 3) := by decide +kernel
theorem dX11_owes_31 : decode cX11_owes 31 = .ok (.ifCond .ne 7, 3) := by decide +kernel
theorem dX11_owes_34 : decode cX11_owes 34 = .ok (.iconst 1, 1) := by decide +kernel
theorem dX11_owes_35 : decode cX11_owes 35 = .ok (.goto 4, 3) := by decide +kernel
theorem dX11_owes_38 : decode cX11_owes 38 = .ok (.iconst 0, 1) := by decide +kernel
theorem dX11_owes_39 : decode cX11_owes 39 = .ok (.ireturn, 1) := by decide +kernel
theorem dX11_reckon_0 : decode cX11_reckon 0 = .ok (.iload_n 0, 1) := by decide +kernel
theorem dX11_reckon_1 : decode cX11_reckon 1 = .ok (.tableswitch 85 2 8 #[43, 47, 51, 55, 59, 63, 74], 43) := by decide +kernel
theorem dX11_reckon_44 : decode cX11_reckon 44 = .ok (.iload_n 1, 1) := by decide +kernel
theorem dX11_reckon_45 : decode cX11_reckon 45 = .ok (.iload_n 2, 1) := by decide +kernel
theorem dX11_reckon_46 : decode cX11_reckon 46 = .ok (.iadd, 1) := by decide +kernel
theorem dX11_reckon_47 : decode cX11_reckon 47 = .ok (.ireturn, 1) := by decide +kernel
theorem dX11_reckon_48 : decode cX11_reckon 48 = .ok (.iload_n 1, 1) := by decide +kernel
theorem dX11_reckon_49 : decode cX11_reckon 49 = .ok (.iload_n 2, 1) := by decide +kernel
theorem dX11_reckon_50 : decode cX11_reckon 50 = .ok (.isub, 1) := by decide +kernel
theorem dX11_reckon_51 : decode cX11_reckon 51 = .ok (.ireturn, 1) := by decide +kernel
theorem dX11_reckon_52 : decode cX11_reckon 52 = .ok (.iload_n 1, 1) := by decide +kernel
theorem dX11_reckon_53 : decode cX11_reckon 53 = .ok (.iload_n 2, 1) := by decide +kernel
theorem dX11_reckon_54 : decode cX11_reckon 54 = .ok (.imul, 1) := by decide +kernel
theorem dX11_reckon_55 : decode cX11_reckon 55 = .ok (.ireturn, 1) := by decide +kernel
theorem dX11_reckon_56 : decode cX11_reckon 56 = .ok (.iload_n 1, 1) := by decide +kernel
theorem dX11_reckon_57 : decode cX11_reckon 57 = .ok (.iload_n 2, 1) := by decide +kernel
theorem dX11_reckon_58 : decode cX11_reckon 58 = .ok (.idiv, 1) := by decide +kernel
theorem dX11_reckon_59 : decode cX11_reckon 59 = .ok (.ireturn, 1) := by decide +kernel
theorem dX11_reckon_60 : decode cX11_reckon 60 = .ok (.iload_n 1, 1) := by decide +kernel
theorem dX11_reckon_61 : decode cX11_reckon 61 = .ok (.iload_n 2, 1) := by decide +kernel
theorem dX11_reckon_62 : decode cX11_reckon 62 = .ok (.irem, 1) := by decide +kernel
theorem dX11_reckon_63 : decode cX11_reckon 63 = .ok (.ireturn, 1) := by decide +kernel
theorem dX11_reckon_64 : decode cX11_reckon 64 = .ok (.iload_n 1, 1) := by decide +kernel
theorem dX11_reckon_65 : decode cX11_reckon 65 = .ok (.iload_n 2, 1) := by decide +kernel
theorem dX11_reckon_66 : decode cX11_reckon 66 = .ok (.if_icmp .ge 7, 3) := by decide +kernel
theorem dX11_reckon_69 : decode cX11_reckon 69 = .ok (.iconst 1, 1) := by decide +kernel
theorem dX11_reckon_70 : decode cX11_reckon 70 = .ok (.goto 4, 3) := by decide +kernel
theorem dX11_reckon_73 : decode cX11_reckon 73 = .ok (.iconst 0, 1) := by decide +kernel
theorem dX11_reckon_74 : decode cX11_reckon 74 = .ok (.ireturn, 1) := by decide +kernel
theorem dX11_reckon_75 : decode cX11_reckon 75 = .ok (.iload_n 1, 1) := by decide +kernel
theorem dX11_reckon_76 : decode cX11_reckon 76 = .ok (.iload_n 2, 1) := by decide +kernel
theorem dX11_reckon_77 : decode cX11_reckon 77 = .ok (.if_icmp .le 7, 3) := by decide +kernel
theorem dX11_reckon_80 : decode cX11_reckon 80 = .ok (.iconst 1, 1) := by decide +kernel
theorem dX11_reckon_81 : decode cX11_reckon 81 = .ok (.goto 4, 3) := by decide +kernel
theorem dX11_reckon_84 : decode cX11_reckon 84 = .ok (.iconst 0, 1) := by decide +kernel
theorem dX11_reckon_85 : decode cX11_reckon 85 = .ok (.ireturn, 1) := by decide +kernel
theorem dX11_reckon_86 : decode cX11_reckon 86 = .ok (.iload_n 1, 1) := by decide +kernel
theorem dX11_reckon_87 : decode cX11_reckon 87 = .ok (.iload_n 2, 1) := by decide +kernel
theorem dX11_reckon_88 : decode cX11_reckon 88 = .ok (.if_icmp .ne 7, 3) := by decide +kernel
theorem dX11_reckon_91 : decode cX11_reckon 91 = .ok (.iconst 1, 1) := by decide +kernel
theorem dX11_reckon_92 : decode cX11_reckon 92 = .ok (.goto 4, 3) := by decide +kernel
theorem dX11_reckon_95 : decode cX11_reckon 95 = .ok (.iconst 0, 1) := by decide +kernel
theorem dX11_reckon_96 : decode cX11_reckon 96 = .ok (.ireturn, 1) := by decide +kernel
theorem dX11_steps_0 : decode cX11_steps 0 = .ok (.iload_n 2, 1) := by decide +kernel
theorem dX11_steps_1 : decode cX11_steps 1 = .ok (.bipush 8, 2) := by decide +kernel
theorem dX11_steps_3 : decode cX11_steps 3 = .ok (.if_icmp .ne 7, 3) := by decide +kernel
theorem dX11_steps_6 : decode cX11_steps 6 = .ok (.iconst (-1), 1) := by decide +kernel
theorem dX11_steps_7 : decode cX11_steps 7 = .ok (.goto 15, 3) := by decide +kernel
theorem dX11_steps_10 : decode cX11_steps 10 = .ok (.aload_n 0, 1) := by decide +kernel
theorem dX11_steps_11 : decode cX11_steps 11 = .ok (.getfield 7, 3) := by decide +kernel
theorem dX11_steps_14 : decode cX11_steps 14 = .ok (.iconst 0, 1) := by decide +kernel
theorem dX11_steps_15 : decode cX11_steps 15 = .ok (.iload_n 1, 1) := by decide +kernel
theorem dX11_steps_16 : decode cX11_steps 16 = .ok (.iadd, 1) := by decide +kernel
theorem dX11_steps_17 : decode cX11_steps 17 = .ok (.iaload, 1) := by decide +kernel
theorem dX11_steps_18 : decode cX11_steps 18 = .ok (.iload_n 2, 1) := by decide +kernel
theorem dX11_steps_19 : decode cX11_steps 19 = .ok (.invokestatic 323, 3) := by decide +kernel
theorem dX11_steps_22 : decode cX11_steps 22 = .ok (.istore_n 3, 1) := by decide +kernel
theorem dX11_steps_23 : decode cX11_steps 23 = .ok (.iload_n 3, 1) := by decide +kernel
theorem dX11_steps_24 : decode cX11_steps 24 = .ok (.iconst (-1), 1) := by decide +kernel
theorem dX11_steps_25 : decode cX11_steps 25 = .ok (.if_icmp .eq 33, 3) := by decide +kernel
theorem dX11_steps_28 : decode cX11_steps 28 = .ok (.aload_n 0, 1) := by decide +kernel
theorem dX11_steps_29 : decode cX11_steps 29 = .ok (.iload_n 3, 1) := by decide +kernel
theorem dX11_steps_30 : decode cX11_steps 30 = .ok (.invokevirtual 263, 3) := by decide +kernel
theorem dX11_steps_33 : decode cX11_steps 33 = .ok (.ifCond .eq 25, 3) := by decide +kernel
theorem dX11_steps_36 : decode cX11_steps 36 = .ok (.aload_n 0, 1) := by decide +kernel
theorem dX11_steps_37 : decode cX11_steps 37 = .ok (.iconst 1, 1) := by decide +kernel
theorem dX11_steps_38 : decode cX11_steps 38 = .ok (.iload_n 1, 1) := by decide +kernel
theorem dX11_steps_39 : decode cX11_steps 39 = .ok (.isub, 1) := by decide +kernel
theorem dX11_steps_40 : decode cX11_steps 40 = .ok (.invokevirtual 260, 3) := by decide +kernel
theorem dX11_steps_43 : decode cX11_steps 43 = .ok (.ifCond .eq 16, 3) := by decide +kernel
theorem dX11_steps_46 : decode cX11_steps 46 = .ok (.aload_n 0, 1) := by decide +kernel
theorem dX11_steps_47 : decode cX11_steps 47 = .ok (.getfield 7, 3) := by decide +kernel
theorem dX11_steps_50 : decode cX11_steps 50 = .ok (.iconst 1, 1) := by decide +kernel
theorem dX11_steps_51 : decode cX11_steps 51 = .ok (.iload_n 1, 1) := by decide +kernel
theorem dX11_steps_52 : decode cX11_steps 52 = .ok (.isub, 1) := by decide +kernel
theorem dX11_steps_53 : decode cX11_steps 53 = .ok (.iaload, 1) := by decide +kernel
theorem dX11_steps_54 : decode cX11_steps 54 = .ok (.iload_n 3, 1) := by decide +kernel
theorem dX11_steps_55 : decode cX11_steps 55 = .ok (.if_icmp .ne 4, 3) := by decide +kernel
theorem dX11_steps_58 : decode cX11_steps 58 = .ok (.return_, 1) := by decide +kernel
theorem dX11_steps_59 : decode cX11_steps 59 = .ok (.aload_n 0, 1) := by decide +kernel
theorem dX11_steps_60 : decode cX11_steps 60 = .ok (.getfield 7, 3) := by decide +kernel
theorem dX11_steps_63 : decode cX11_steps 63 = .ok (.iconst 0, 1) := by decide +kernel
theorem dX11_steps_64 : decode cX11_steps 64 = .ok (.iload_n 1, 1) := by decide +kernel
theorem dX11_steps_65 : decode cX11_steps 65 = .ok (.iadd, 1) := by decide +kernel
theorem dX11_steps_66 : decode cX11_steps 66 = .ok (.iload_n 3, 1) := by decide +kernel
theorem dX11_steps_67 : decode cX11_steps 67 = .ok (.iastore, 1) := by decide +kernel
theorem dX11_steps_68 : decode cX11_steps 68 = .ok (.return_, 1) := by decide +kernel
theorem dX11_types_0 : decode cX11_types 0 = .ok (.iconst 3, 1) := by decide +kernel
theorem dX11_types_1 : decode cX11_types 1 = .ok (.istore_n 2, 1) := by decide +kernel
theorem dX11_types_2 : decode cX11_types 2 = .ok (.iload_n 2, 1) := by decide +kernel
theorem dX11_types_3 : decode cX11_types 3 = .ok (.ifCond .lt 35, 3) := by decide +kernel
theorem dX11_types_6 : decode cX11_types 6 = .ok (.aload_n 0, 1) := by decide +kernel
theorem dX11_types_7 : decode cX11_types 7 = .ok (.getfield 32, 3) := by decide +kernel
theorem dX11_types_10 : decode cX11_types 10 = .ok (.aload_n 0, 1) := by decide +kernel
theorem dX11_types_11 : decode cX11_types 11 = .ok (.getfield 164, 3) := by decide +kernel
theorem dX11_types_14 : decode cX11_types 14 = .ok (.iload_n 1, 1) := by decide +kernel
theorem dX11_types_15 : decode cX11_types 15 = .ok (.bipush 8, 2) := by decide +kernel
theorem dX11_types_17 : decode cX11_types 17 = .ok (.iload_n 2, 1) := by decide +kernel
theorem dX11_types_18 : decode cX11_types 18 = .ok (.imul, 1) := by decide +kernel
theorem dX11_types_19 : decode cX11_types 19 = .ok (.ishr, 1) := by decide +kernel
theorem dX11_types_20 : decode cX11_types 20 = .ok (.i2b, 1) := by decide +kernel
theorem dX11_types_21 : decode cX11_types 21 = .ok (.bastore, 1) := by decide +kernel
theorem dX11_types_22 : decode cX11_types 22 = .ok (.aload_n 0, 1) := by decide +kernel
theorem dX11_types_23 : decode cX11_types 23 = .ok (.aload_n 0, 1) := by decide +kernel
theorem dX11_types_24 : decode cX11_types 24 = .ok (.getfield 164, 3) := by decide +kernel
theorem dX11_types_27 : decode cX11_types 27 = .ok (.iconst 1, 1) := by decide +kernel
theorem dX11_types_28 : decode cX11_types 28 = .ok (.iadd, 1) := by decide +kernel
theorem dX11_types_29 : decode cX11_types 29 = .ok (.putfield 164, 3) := by decide +kernel
theorem dX11_types_32 : decode cX11_types 32 = .ok (.iinc 2 (-1), 3) := by decide +kernel
theorem dX11_types_35 : decode cX11_types 35 = .ok (.goto (-33), 3) := by decide +kernel
theorem dX11_types_38 : decode cX11_types 38 = .ok (.return_, 1) := by decide +kernel
theorem dX11_walksOn_0 : decode cX11_walksOn 0 = .ok (.aload_n 0, 1) := by decide +kernel
theorem dX11_walksOn_1 : decode cX11_walksOn 1 = .ok (.iload_n 1, 1) := by decide +kernel
theorem dX11_walksOn_2 : decode cX11_walksOn 2 = .ok (.invokevirtual 260, 3) := by decide +kernel
theorem dX11_walksOn_5 : decode cX11_walksOn 5 = .ok (.ifCond .eq 20, 3) := by decide +kernel
theorem dX11_walksOn_8 : decode cX11_walksOn 8 = .ok (.aload_n 0, 1) := by decide +kernel
theorem dX11_walksOn_9 : decode cX11_walksOn 9 = .ok (.getfield 7, 3) := by decide +kernel
theorem dX11_walksOn_12 : decode cX11_walksOn 12 = .ok (.iconst 2, 1) := by decide +kernel
theorem dX11_walksOn_13 : decode cX11_walksOn 13 = .ok (.iload_n 1, 1) := by decide +kernel
theorem dX11_walksOn_14 : decode cX11_walksOn 14 = .ok (.iadd, 1) := by decide +kernel
theorem dX11_walksOn_15 : decode cX11_walksOn 15 = .ok (.iaload, 1) := by decide +kernel
theorem dX11_walksOn_16 : decode cX11_walksOn 16 = .ok (.aload_n 0, 1) := by decide +kernel
theorem dX11_walksOn_17 : decode cX11_walksOn 17 = .ok (.getfield 25, 3) := by decide +kernel
theorem dX11_walksOn_20 : decode cX11_walksOn 20 = .ok (.iload_n 1, 1) := by decide +kernel
theorem dX11_walksOn_21 : decode cX11_walksOn 21 = .ok (.iaload, 1) := by decide +kernel
theorem dX11_walksOn_22 : decode cX11_walksOn 22 = .ok (.if_icmp .lt 4, 3) := by decide +kernel
theorem dX11_walksOn_25 : decode cX11_walksOn 25 = .ok (.return_, 1) := by decide +kernel
theorem dX11_walksOn_26 : decode cX11_walksOn 26 = .ok (.aload_n 0, 1) := by decide +kernel
theorem dX11_walksOn_27 : decode cX11_walksOn 27 = .ok (.getfield 28, 3) := by decide +kernel
theorem dX11_walksOn_30 : decode cX11_walksOn 30 = .ok (.bipush 60, 2) := by decide +kernel
theorem dX11_walksOn_32 : decode cX11_walksOn 32 = .ok (.iload_n 1, 1) := by decide +kernel
theorem dX11_walksOn_33 : decode cX11_walksOn 33 = .ok (.imul, 1) := by decide +kernel
theorem dX11_walksOn_34 : decode cX11_walksOn 34 = .ok (.aload_n 0, 1) := by decide +kernel
theorem dX11_walksOn_35 : decode cX11_walksOn 35 = .ok (.getfield 7, 3) := by decide +kernel
theorem dX11_walksOn_38 : decode cX11_walksOn 38 = .ok (.iconst 2, 1) := by decide +kernel
theorem dX11_walksOn_39 : decode cX11_walksOn 39 = .ok (.iload_n 1, 1) := by decide +kernel
theorem dX11_walksOn_40 : decode cX11_walksOn 40 = .ok (.iadd, 1) := by decide +kernel
theorem dX11_walksOn_41 : decode cX11_walksOn 41 = .ok (.iaload, 1) := by decide +kernel
theorem dX11_walksOn_42 : decode cX11_walksOn 42 = .ok (.iadd, 1) := by decide +kernel
theorem dX11_walksOn_43 : decode cX11_walksOn 43 = .ok (.baload, 1) := by decide +kernel
theorem dX11_walksOn_44 : decode cX11_walksOn 44 = .ok (.istore_n 2, 1) := by decide +kernel
theorem dX11_walksOn_45 : decode cX11_walksOn 45 = .ok (.aload_n 0, 1) := by decide +kernel
theorem dX11_walksOn_46 : decode cX11_walksOn 46 = .ok (.getfield 7, 3) := by decide +kernel
theorem dX11_walksOn_49 : decode cX11_walksOn 49 = .ok (.iconst 2, 1) := by decide +kernel
theorem dX11_walksOn_50 : decode cX11_walksOn 50 = .ok (.iload_n 1, 1) := by decide +kernel
theorem dX11_walksOn_51 : decode cX11_walksOn 51 = .ok (.iadd, 1) := by decide +kernel
theorem dX11_walksOn_52 : decode cX11_walksOn 52 = .ok (.aload_n 0, 1) := by decide +kernel
theorem dX11_walksOn_53 : decode cX11_walksOn 53 = .ok (.getfield 7, 3) := by decide +kernel
theorem dX11_walksOn_56 : decode cX11_walksOn 56 = .ok (.iconst 2, 1) := by decide +kernel
theorem dX11_walksOn_57 : decode cX11_walksOn 57 = .ok (.iload_n 1, 1) := by decide +kernel
theorem dX11_walksOn_58 : decode cX11_walksOn 58 = .ok (.iadd, 1) := by decide +kernel
theorem dX11_walksOn_59 : decode cX11_walksOn 59 = .ok (.iaload, 1) := by decide +kernel
theorem dX11_walksOn_60 : decode cX11_walksOn 60 = .ok (.iconst 1, 1) := by decide +kernel
theorem dX11_walksOn_61 : decode cX11_walksOn 61 = .ok (.iadd, 1) := by decide +kernel
theorem dX11_walksOn_62 : decode cX11_walksOn 62 = .ok (.iastore, 1) := by decide +kernel
theorem dX11_walksOn_63 : decode cX11_walksOn 63 = .ok (.aload_n 0, 1) := by decide +kernel
theorem dX11_walksOn_64 : decode cX11_walksOn 64 = .ok (.iload_n 1, 1) := by decide +kernel
theorem dX11_walksOn_65 : decode cX11_walksOn 65 = .ok (.iload_n 2, 1) := by decide +kernel
theorem dX11_walksOn_66 : decode cX11_walksOn 66 = .ok (.invokevirtual 345, 3) := by decide +kernel
theorem dX11_walksOn_69 : decode cX11_walksOn 69 = .ok (.return_, 1) := by decide +kernel
theorem dX11_wayX_0 : decode cX11_wayX 0 = .ok (.iload_n 0, 1) := by decide +kernel
theorem dX11_wayX_1 : decode cX11_wayX 1 = .ok (.ifCond .eq 8, 3) := by decide +kernel
theorem dX11_wayX_4 : decode cX11_wayX 4 = .ok (.iload_n 0, 1) := by decide +kernel
theorem dX11_wayX_5 : decode cX11_wayX 5 = .ok (.iconst 4, 1) := by decide +kernel
theorem dX11_wayX_6 : decode cX11_wayX 6 = .ok (.if_icmp .ne 7, 3) := by decide +kernel
theorem dX11_wayX_9 : decode cX11_wayX 9 = .ok (.iconst 0, 1) := by decide +kernel
theorem dX11_wayX_10 : decode cX11_wayX 10 = .ok (.goto 13, 3) := by decide +kernel
theorem dX11_wayX_13 : decode cX11_wayX 13 = .ok (.iload_n 0, 1) := by decide +kernel
theorem dX11_wayX_14 : decode cX11_wayX 14 = .ok (.iconst 4, 1) := by decide +kernel
theorem dX11_wayX_15 : decode cX11_wayX 15 = .ok (.if_icmp .ge 7, 3) := by decide +kernel
theorem dX11_wayX_18 : decode cX11_wayX 18 = .ok (.iconst 1, 1) := by decide +kernel
theorem dX11_wayX_19 : decode cX11_wayX 19 = .ok (.goto 4, 3) := by decide +kernel
theorem dX11_wayX_22 : decode cX11_wayX 22 = .ok (.iconst (-1), 1) := by decide +kernel
theorem dX11_wayX_23 : decode cX11_wayX 23 = .ok (.ireturn, 1) := by decide +kernel
theorem dX11_wayY_0 : decode cX11_wayY 0 = .ok (.iload_n 0, 1) := by decide +kernel
theorem dX11_wayY_1 : decode cX11_wayY 1 = .ok (.iconst 2, 1) := by decide +kernel
theorem dX11_wayY_2 : decode cX11_wayY 2 = .ok (.if_icmp .eq 9, 3) := by decide +kernel
theorem dX11_wayY_5 : decode cX11_wayY 5 = .ok (.iload_n 0, 1) := by decide +kernel
theorem dX11_wayY_6 : decode cX11_wayY 6 = .ok (.bipush 6, 2) := by decide +kernel
theorem dX11_wayY_8 : decode cX11_wayY 8 = .ok (.if_icmp .ne 7, 3) := by decide +kernel
theorem dX11_wayY_11 : decode cX11_wayY 11 = .ok (.iconst 0, 1) := by decide +kernel
theorem dX11_wayY_12 : decode cX11_wayY 12 = .ok (.goto 17, 3) := by decide +kernel
theorem dX11_wayY_15 : decode cX11_wayY 15 = .ok (.iload_n 0, 1) := by decide +kernel
theorem dX11_wayY_16 : decode cX11_wayY 16 = .ok (.iconst 3, 1) := by decide +kernel
theorem dX11_wayY_17 : decode cX11_wayY 17 = .ok (.iconst 5, 1) := by decide +kernel
theorem dX11_wayY_18 : decode cX11_wayY 18 = .ok (.invokestatic 150, 3) := by decide +kernel
theorem dX11_wayY_21 : decode cX11_wayY 21 = .ok (.ifCond .eq 7, 3) := by decide +kernel
theorem dX11_wayY_24 : decode cX11_wayY 24 = .ok (.iconst (-1), 1) := by decide +kernel
theorem dX11_wayY_25 : decode cX11_wayY 25 = .ok (.goto 4, 3) := by decide +kernel
theorem dX11_wayY_28 : decode cX11_wayY 28 = .ok (.iconst 1, 1) := by decide +kernel
theorem dX11_wayY_29 : decode cX11_wayY 29 = .ok (.ireturn, 1) := by decide +kernel

