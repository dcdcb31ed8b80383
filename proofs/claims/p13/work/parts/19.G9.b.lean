theorem p2_le {b : Int} (h : 0 ≤ b ∧ b ≤ 10) : 1 ≤ (2 : Int) ^ b.toNat ∧ (2 : Int) ^ b.toNat ≤ 1024 := by
  rcases (by omega : b = 0 ∨ b = 1 ∨ b = 2 ∨ b = 3 ∨ b = 4 ∨ b = 5 ∨ b = 6 ∨ b = 7 ∨ b = 8 ∨ b = 9 ∨ b = 10) with rfl | rfl | rfl | rfl | rfl | rfl | rfl | rfl | rfl | rfl | rfl <;> decide
section X9
variable {p : Program} {l : Launch} {e : Env} {R : Room} {s : State} {m : MethodId} {args : Array Value} {below : List Frame} {meth : Method} {c : Code} {H : Heap} {locs : List Loc} {cells slots : Nat} {Q : State → Prop}
variable {cc : ByteArray} {pc : Nat} {ls : Array Slot} {rest st0 : List Value}
theorem x_shl1 (hx : p.tables.exec = Jvm.exec) (hb : c.code = cc) {b : Int} (hr : 0 ≤ b ∧ b ≤ 10) (hdg : decode cc pc = .ok (.ishl, 1)) (k : ∀ v : Int, v = (2 : Int) ^ b.toNat → (1 ≤ v ∧ v ≤ 1024) → W p l e R s m args below meth c H locs cells slots Q (F0 m (pc + 1) ls (.int (xJ v) :: rest))) : W p l e R s m args below meth c H locs cells slots Q (F0 m pc ls (.int (xJ b) :: .int (xJ 1) :: rest)) := by
  have h9 : xJ 1 <<< (xJ b &&& 31) = xJ ((2 : Int) ^ b.toNat) := by
    rcases (by omega : b = 0 ∨ b = 1 ∨ b = 2 ∨ b = 3 ∨ b = 4 ∨ b = 5 ∨ b = 6 ∨ b = 7 ∨ b = 8 ∨ b = 9 ∨ b = 10) with rfl | rfl | rfl | rfl | rfl | rfl | rfl | rfl | rfl | rfl | rfl <;> decide
  exact lv_ishl hx hb hdg (by rw [h9]; exact k _ rfl (p2_le hr))
end X9
section X8
variable {p : Program} {l : Launch} {e : Env} {R : Room} {s : State} {m : MethodId} {args : Array Value} {below : List Frame} {meth : Method} {c : Code} {H : Heap} {locs : List Loc} {cells slots : Nat} {Q : State → Prop}
variable {cc : ByteArray} {pc : Nat} {ls : Array Slot} {rest st0 : List Value} {D : va_G} {g : xG} {T : Nat × Nat × Nat} {h0 : Nat} {σ : xS} {own : String} {index nL : Nat}
/-- a new row of a ints at place n: the count of such rows, its flag, its length -/
def xN (σ : xS) (n : Nat) (a : Int) : xS := fun k j => if k = 999996 ∧ j = 0 then σ k j + 1 else if k = 999997 ∧ j = (n : Int) then 1 else if k = 999998 ∧ j = (n : Int) then a else if k = n then 0 else σ k j
theorem xN_k (σ : xS) {n k : Nat} (a : Int) (h : k < 310) (hn : 310 ≤ n) : xN σ n a k = σ k := funext fun j => by
  unfold xN
  rw [if_neg (by omega), if_neg (by omega), if_neg (by omega), if_neg (by omega)]
theorem xN_n (σ : xS) {n : Nat} (a : Int) (hn : n < 999990) (j : Int) : xN σ n a n j = 0 := by
  unfold xN
  rw [if_neg (by omega), if_neg (by omega), if_neg (by omega), if_pos rfl]
theorem xN_o (σ : xS) {n k : Nat} (a : Int) (h : k ≠ n) (h2 : k < 999990) : xN σ n a k = σ k := funext fun j => by
  unfold xN
  rw [if_neg (by omega), if_neg (by omega), if_neg (by omega), if_neg (by omega)]
theorem xN_6 (σ : xS) (n : Nat) (a : Int) : xN σ n a 999996 0 = σ 999996 0 + 1 := by
  unfold xN
  rw [if_pos ⟨rfl, rfl⟩]
theorem xN_7 (σ : xS) {n : Nat} (a : Int) (hn : n < 999990) (j : Int) : xN σ n a 999997 j = if j = (n : Int) then 1 else σ 999997 j := by
  unfold xN
  rw [if_neg (by omega)]
  by_cases h : j = (n : Int)
  · rw [if_pos ⟨rfl, h⟩, if_pos h]
  · rw [if_neg (fun q => h q.2), if_neg (by omega), if_neg (by omega), if_neg h]
theorem xN_8 (σ : xS) {n : Nat} (a : Int) (hn : n < 999990) (j : Int) : xN σ n a 999998 j = if j = (n : Int) then a else σ 999998 j := by
  unfold xN
  rw [if_neg (by omega), if_neg (by omega)]
  by_cases h : j = (n : Int)
  · rw [if_pos ⟨rfl, h⟩, if_pos h]
  · rw [if_neg (fun q => h q.2), if_neg (by omega), if_neg h]
theorem xW_putW {k : Nat} {τ : xS} {H1 : Heap} {i : Nat} (hW : xW D g h0 s H locs σ) (hk : k < 999990) (hz : H1.size = H.size) (ho : ∀ q : Nat, q ≠ h0 + k → H1[q]? = H[q]?) (hτ : ∀ k2, k2 ≠ k → τ k2 = σ k2) (hR : xRR τ) (h : va_at D vwCl (h0 + k, xcel h0 g τ k) H1) : xW D g h0 s H1 (locs ++ [⟨h0 + k, i⟩]) τ := by
  refine ⟨⟨fun k2 hk2 => ?_, by rw [hz, hW.1.2, show τ 999996 = σ 999996 from hτ _ (by omega)]⟩, hR, hW.2.2.put hz ho (Nat.le_add_right _ _)⟩
  have e8 : τ 999998 = σ 999998 := hτ _ (by omega)
  have e7 : τ 999997 = σ 999997 := hτ _ (by omega)
  by_cases e : k2 = k
  · subst e; exact h
  · have h2 := hW.1.1 k2 (by unfold xV at hk2 ⊢; rw [e7] at hk2; exact hk2)
    rw [xcel_f h0 g (hτ k2 e) (Or.inr (by rw [e8]))]
    exact h2.kept (ho _ (fun q => e (by simpa using q)))
theorem x_iastW {k : Nat} {a v : Int} (hx : p.tables.exec = Jvm.exec) (hb : c.code = cc) (hE : xE D g T h0 s) (hW : xW D g h0 s H locs σ) (hk : 310 ≤ k ∧ k < 999990) (har : xAr σ k) (hi : 0 ≤ a ∧ a < (xlen σ k : Int)) (hv : xR v) (hdg : decode cc pc = .ok (.iastore, 1))
    (kk : ∀ (H1 : Heap) (locs1 : List Loc) (τ : xS), τ = xU σ k a v → xW D g h0 s H1 locs1 τ → W p l e R s m args below meth c H1 locs1 cells slots Q (F0 m (pc + 1) ls rest)) : W p l e R s m args below meth c H locs cells slots Q (F0 m pc ls (.int (xJ v) :: .int (xJ a) :: .ref (h0 + k) :: rest)) := by
  obtain ⟨h1, h2⟩ := hi
  have hnn := xlen_le hW.2.1 k
  have hR : xR a := by omega
  have h9 := hW.1.1 k har.v
  rw [har.celn] at h9
  have h9 : H[h0 + k]? = some (arrV g.1 (xlen σ k) (fun j => .int (xJ (σ k j)))) := h9
  refine W.iast hx hb h9 ((hE.1.2 0 _ rfl).1 _ _) (fun q => by cases q) (by rw [arrV_size]; exact xJ_nin hR h1 h2) rfl rfl hdg fun H1 e1 e2 e3 => ?_
  refine kk H1 _ _ rfl (xW_putW hW hk.2 e2 e3 (fun k2 h => xU_k σ a v h) (xRR_U hW.2.1 hv) ?_)
  have har2 : xAr (xU σ k a v) k := har.f (xU_k σ a v (by omega))
  have hl2 : xlen (xU σ k a v) k = xlen σ k := by unfold xlen; rw [xU_k σ a v (by omega)]
  rw [har2.celn, hl2]
  show H1[h0 + k]? = some (arrV g.1 (xlen σ k) (fun j => .int (xJ (xU σ k a v k j))))
  rw [e1, arrV_store, xJ_cl hR]
  congr 2
  funext q
  by_cases hq : q = a.toNat
  · subst hq
    simp [updV, Int.toNat_of_nonneg h1, xU_s]
  · have : (q : Int) ≠ a := by omega
    simp [updV, hq, xU_j σ v this]
theorem x_newW {a : Int} (hx : p.tables.exec = Jvm.exec) (hb : c.code = cc) (hT : ∀ w ∈ xTB, w.before args s = true) (hE : xE D g T h0 s) (hW : xW D g h0 s H locs σ) (har : Cond.arrayClass .int ∈ xTB) (ha : 0 ≤ a ∧ a ≤ 60) (hz : 0 ≤ σ 999996 0 ∧ σ 999996 0 ≤ 900000) (hcells : cells + 1 ≤ R.cells) (hslots : slots + 60 ≤ R.slots) (hdg : decode cc pc = .ok (.newarray .int, 2))
    (kk : ∀ (H1 : Heap) (n : Nat) (τ : xS), n = 310 + (σ 999996 0).toNat → τ = xN σ n a → xW D g h0 s H1 locs τ → W p l e R s m args below meth c H1 locs (cells + 1) (slots + 60) Q (F0 m (pc + 2) ls (.ref (h0 + n) :: rest))) : W p l e R s m args below meth c H locs cells slots Q (F0 m pc ls (.int (xJ a) :: rest)) := by
  have hR : xR a := by omega
  refine va_newaK (atype := .int) hx hb (hT _ har) rfl hdg rfl (fun q => by have := (xJ_lt hR (by omega : xR 0)).mp q; omega) (N := a.toNat) (by rw [xJ_cl hR]) (by show a.toNat * 4 ≤ _; omega) hcells (by omega) hW.1.2 fun H1 cA e1 z1 o1 _ hnm => ?_
  have hg : s.vm.findClass ("[" ++ FieldType.int.toString) = some g.1 := (hE.1.2 0 _ rfl).2
  cases hg.symm.trans hnm
  obtain ⟨n, en⟩ : ∃ n, n = 310 + (σ 999996 0).toNat := ⟨_, rfl⟩
  rw [← en] at e1 z1 o1 ⊢
  have hn : 310 ≤ n ∧ n < 999990 := by omega
  have hsz := hW.1.2
  rw [← en] at hsz
  refine W.widen (k := cells + 1) (n := slots + 60) (Nat.le_refl _) (by omega) (kk H1 n (xN σ n a) en rfl ⟨⟨fun k hk => ?_, ?_⟩, fun k j => ?_, ?_, fun q g1 g2 => ?_, hW.2.2.2.2⟩)
  · by_cases e : k = n
    · subst e
      have h8 : xAr (xN σ k a) k := Or.inr ⟨hn.1, hn.2, by rw [xN_7 σ a hn.2, if_pos rfl]⟩
      rw [h8.celn]
      have h7 : xlen (xN σ k a) k = a.toNat := by
        unfold xlen
        rw [if_neg (by omega), xN_8 σ a hn.2, if_pos rfl]
      rw [h7]
      show H1[h0 + k]? = some (arrV g.1 a.toNat (fun j => .int (xJ (xN σ k a k j))))
      rw [e1]
      congr 2
      funext j
      rw [xN_n σ a hn.2]
      rfl
    · have hk9 : k < 999990 := by unfold xV at hk; omega
      have hV : xV σ k := by
        unfold xV at hk ⊢
        rcases hk with hk | ⟨hk, hk2⟩
        · exact Or.inl hk
        · rw [xN_7 σ a hn.2, if_neg (by omega)] at hk2
          exact Or.inr ⟨hk, hk2⟩
      have h9 := hW.1.1 k hV
      rw [xcel_f h0 g (xN_o σ a e hk9) (Or.inr (by rw [xN_8 σ a hn.2, if_neg (by omega)]))]
      have hlt : h0 + k < H.size := h9.lt
      exact h9.kept (o1 (h0 + k) (by omega))
  · rw [z1, xN_6]
    omega
  · unfold xN
    split
    · rename_i h
      rw [h.1, h.2]
      omega
    · split
      · omega
      · split
        · omega
        · split
          · omega
          · exact hW.2.1 _ _
  · rw [z1]
    have := hW.2.2.1
    omega
  · rw [o1 q (by have := hW.2.2.1; omega)]
    exact hW.2.2.2.1 q g1 g2
end X8
set_option maxHeartbeats 4000000 in
set_option maxRecDepth 100000 in
theorem c_X10_isFreeForLamp (l : Launch) (D : va_G) (g : xG) (T : Nat × Nat × Nat) (h0 : Nat) (s0 : xS) (hσ : xRR s0) (x : Int) (rx : xR x) (p0 : IC s0) : Met l yX10_isFreeForLamp (xws yX10_isFreeForLamp cX10_isFreeForLamp 2 (some .boolean)) { frames := 1, cells := 0, slots := 0, locals := 22 } (xP [.ref (h0 + 0), .int (xJ x)] D g T h0 s0) (xQi D g h0 (fun r τ => s0 = τ ∧ (r = 0 ∨ r = 1))) 0 0 (xA h0) := by
  refine x_met hσ (by decide) (Nat.le_of_ble_eq_true rfl) ?_
  intro p e s m args below meth c hx hb hr hml hown hT hlk hnm hE hW ls hl
  have hl : lv_has ls 2 [(0, .ref (h0 + 0)), (1, .int (xJ x))] := hl
  obtain ⟨Q, eQ⟩ : ∃ Q, Q = MQ below (xQi D g h0 (fun r τ => s0 = τ ∧ (r = 0 ∨ r = 1))) args s 0 0 (xA h0) := ⟨_, rfl⟩
  rw [← eQ]
  generalize hHe : ([] : List Loc) = locs at hW ⊢
  obtain ⟨H, eH⟩ : ∃ H, H = s.heap := ⟨_, rfl⟩
  rw [← eH] at hW ⊢
  have k1_1 : s0 1 1 = s0 1 1 := rfl
  refine x_aload_n hx hb hl 0 rfl dX10_isFreeForLamp_0 rfl ?_
  refine x_get (j := 1) (v := .ref (h0 + 3)) hx hb hown hT hE hW cls_X10 (Or.inl (by decide)) (so_0 h0 g _) (by decide) rfl wq513 dX10_isFreeForLamp_1 ?_
  refine x_iload_n hx hb hl 1 rfl dX10_isFreeForLamp_4 rfl ?_
  refine x_goi (x_runVN (As := [.int (xJ x)]) hx hb hml hown hT hE hW hl.1 (Or.inl (by decide)) (so_3 h0 g _) rfl cf_X6_kindAt wq619 wq10 wn1067 (c_X6_kindAt l D g T h0 s0 hW.2.1 x rx p0) ⟨rfl, rfl, ⟨by decide, by decide⟩, ⟨by decide, by decide⟩⟩ rfl rfl (Nat.le_of_ble_eq_true rfl) dX10_isFreeForLamp_5) hW (fun x1 s2 H locs rx1 hp3 hW => ?_)
  obtain ⟨es2, hp3⟩ := hp3
  subst es2
  have ghp3 := hp3
  refine x_if_ne (tgt := 57) hx hb rx1 dX10_isFreeForLamp_8 (by decide) (fun c4 => ?_) (fun c4 => ?_)
  · skip
    refine x_iconst hx hb dX10_isFreeForLamp_57 ?_
    rw [eQ]
    exact x_zret hx hb hr hlk hW (by omega) ⟨rfl, by omega⟩ dX10_isFreeForLamp_58
  refine x_aload_n hx hb hl 0 rfl dX10_isFreeForLamp_11 rfl ?_
  refine x_get (j := 8) (v := .ref (h0 + 136)) hx hb hown hT hE hW cls_X10 (Or.inl (by decide)) (so_0 h0 g _) (by decide) rfl wq520 dX10_isFreeForLamp_12 ?_
  refine x_getN (j := 0) (v := .ref (h0 + 137)) hx hb hown hT hE hW cls_X2 (Or.inl (by decide)) (so_136 h0 g _) (by decide) rfl wn385 dX10_isFreeForLamp_15 ?_
  refine x_iload_n hx hb hl 1 rfl dX10_isFreeForLamp_18 rfl ?_
  refine x_goi (x_runS (As := [.ref (h0 + 137), .int (xJ x)]) hx hb hml hown hT hE hW hl.1 cf_X10_holds wq850 wq1068 (c_X10_holds2 l D g T h0 s0 hW.2.1 137 (by decide) (by decide) (fun σ => sa_137 h0 g σ) x rx) ⟨rfl, rfl, ⟨by decide, by decide⟩, ⟨by decide, by decide⟩⟩ rfl rfl (Nat.le_of_ble_eq_true rfl) dX10_isFreeForLamp_19) hW (fun x5 s6 H locs rx5 hp7 hW => ?_)
  obtain ⟨es6, hp7⟩ := hp7
  subst es6
  have ghp7 := hp7
  refine x_if_ne (tgt := 57) hx hb rx5 dX10_isFreeForLamp_22 (by decide) (fun c8 => ?_) (fun c8 => ?_)
  · skip
    refine x_iconst hx hb dX10_isFreeForLamp_57 ?_
    rw [eQ]
    exact x_zret hx hb hr hlk hW (by omega) ⟨rfl, by omega⟩ dX10_isFreeForLamp_58
  refine x_aload_n hx hb hl 0 rfl dX10_isFreeForLamp_25 rfl ?_
  refine x_get (j := 8) (v := .ref (h0 + 136)) hx hb hown hT hE hW cls_X10 (Or.inl (by decide)) (so_0 h0 g _) (by decide) rfl wq520 dX10_isFreeForLamp_26 ?_
  refine x_getN (j := 3) (v := .ref (h0 + 142)) hx hb hown hT hE hW cls_X2 (Or.inl (by decide)) (so_136 h0 g _) (by decide) rfl wn391 dX10_isFreeForLamp_29 ?_
  refine x_iload_n hx hb hl 1 rfl dX10_isFreeForLamp_32 rfl ?_
  refine x_goi (x_runS (As := [.ref (h0 + 142), .int (xJ x)]) hx hb hml hown hT hE hW hl.1 cf_X10_holds wq850 wq1068 (c_X10_holds10 l D g T h0 s0 hW.2.1 142 (by decide) (by decide) (fun σ => sa_142 h0 g σ) x rx) ⟨rfl, rfl, ⟨by decide, by decide⟩, ⟨by decide, by decide⟩⟩ rfl rfl (Nat.le_of_ble_eq_true rfl) dX10_isFreeForLamp_33) hW (fun x9 s10 H locs rx9 hp11 hW => ?_)
  obtain ⟨es10, hp11⟩ := hp11
  subst es10
  have ghp11 := hp11
  refine x_if_ne (tgt := 57) hx hb rx9 dX10_isFreeForLamp_36 (by decide) (fun c12 => ?_) (fun c12 => ?_)
  · skip
    refine x_iconst hx hb dX10_isFreeForLamp_57 ?_
    rw [eQ]
    exact x_zret hx hb hr hlk hW (by omega) ⟨rfl, by omega⟩ dX10_isFreeForLamp_58
  refine x_aload_n hx hb hl 0 rfl dX10_isFreeForLamp_39 rfl ?_
  refine x_get (j := 5) (v := .ref (h0 + 128)) hx hb hown hT hE hW cls_X10 (Or.inl (by decide)) (so_0 h0 g _) (by decide) rfl wq517 dX10_isFreeForLamp_40 ?_
  refine x_getN (j := 2) (v := .ref (h0 + 129)) hx hb hown hT hE hW cls_X0 (Or.inl (by decide)) (so_128 h0 g _) (by decide) rfl wn356 dX10_isFreeForLamp_43 ?_
  refine x_iload_n hx hb hl 1 rfl dX10_isFreeForLamp_46 rfl ?_
  refine x_goi (x_runS (As := [.ref (h0 + 129), .int (xJ x)]) hx hb hml hown hT hE hW hl.1 cf_X10_holds wq850 wq1068 (c_X10_holds4 l D g T h0 s0 hW.2.1 129 (by decide) (by decide) (fun σ => sa_129 h0 g σ) x rx) ⟨rfl, rfl, ⟨by decide, by decide⟩, ⟨by decide, by decide⟩⟩ rfl rfl (Nat.le_of_ble_eq_true rfl) dX10_isFreeForLamp_47) hW (fun x13 s14 H locs rx13 hp15 hW => ?_)
  obtain ⟨es14, hp15⟩ := hp15
  subst es14
  have ghp15 := hp15
  refine x_if_ne (tgt := 57) hx hb rx13 dX10_isFreeForLamp_50 (by decide) (fun c16 => ?_) (fun c16 => ?_)
  · skip
    refine x_iconst hx hb dX10_isFreeForLamp_57 ?_
    rw [eQ]
    exact x_zret hx hb hr hlk hW (by omega) ⟨rfl, by omega⟩ dX10_isFreeForLamp_58
  refine x_iconst hx hb dX10_isFreeForLamp_53 ?_
  refine lv_goto (tgt := 58) hx hb dX10_isFreeForLamp_54 (by decide) ?_
  rw [eQ]
  exact x_zret hx hb hr hlk hW (by omega) ⟨rfl, by omega⟩ dX10_isFreeForLamp_58
set_option maxHeartbeats 4000000 in
set_option maxRecDepth 100000 in
theorem c_X10_hasBytesBeyond (l : Launch) (D : va_G) (g : xG) (T : Nat × Nat × Nat) (h0 : Nat) (s0 : xS) (hσ : xRR s0) (n : Int) (rn : xR n) (a : Int) (ra : xR a) (b : Int) (rb : xR b) (hle : n ≤ s0 1 1 ∧ s0 1 1 ≤ 260) (p0 : IC s0) : Met l yX10_hasBytesBeyond (xws yX10_hasBytesBeyond cX10_hasBytesBeyond 5 (some .boolean)) { frames := 1, cells := 0, slots := 0, locals := 22 } (xP [.ref (h0 + 0), .int (xJ n), .int (xJ a), .int (xJ b)] D g T h0 s0) (xQi D g h0 (fun r τ => s0 = τ ∧ ((r = 1 ∧ zbad (s0 2) n a b) ∨ (r = 0 ∧ ¬ zbad (s0 2) n a b)))) 0 0 (xA h0) := by
  refine x_met hσ (by decide) (Nat.le_of_ble_eq_true rfl) ?_
  intro p e s m args below meth c hx hb hr hml hown hT hlk hnm hE hW ls hl
  have hl : lv_has ls 5 [(0, .ref (h0 + 0)), (1, .int (xJ n)), (2, .int (xJ a)), (3, .int (xJ b))] := hl
  obtain ⟨Q, eQ⟩ : ∃ Q, Q = MQ below (xQi D g h0 (fun r τ => s0 = τ ∧ ((r = 1 ∧ zbad (s0 2) n a b) ∨ (r = 0 ∧ ¬ zbad (s0 2) n a b)))) args s 0 0 (xA h0) := ⟨_, rfl⟩
  rw [← eQ]
  generalize hHe : ([] : List Loc) = locs at hW ⊢
  obtain ⟨H, eH⟩ : ∃ H, H = s.heap := ⟨_, rfl⟩
  rw [← eH] at hW ⊢
  have k1_1 : s0 1 1 = s0 1 1 := rfl
  have k1_1 : s0 1 1 = s0 1 1 := rfl
  refine x_iconst hx hb dX10_hasBytesBeyond_0 ?_
  refine lv_istore (lv' := [(4, .int (xJ 0)), (0, .ref (h0 + 0)), (1, .int (xJ n)), (2, .int (xJ a)), (3, .int (xJ b))]) hx hb dX10_hasBytesBeyond_1 hl (by decide) rfl (fun ls hl => ?_)
  have L3 : ∀ (fu : Nat) (i4_3 : Int) (H : Heap) (locs : List Loc) (ls : Array Slot), (xR i4_3) → (0 ≤ i4_3) → (∀ i, 0 ≤ i → i < i4_3 → a ≤ s0 2 i ∧ s0 2 i ≤ b) → (261 - i4_3).toNat < fu → xW D g h0 s H locs s0 → lv_has ls 5 [(0, .ref (h0 + 0)), (1, .int (xJ n)), (2, .int (xJ a)), (3, .int (xJ b)), (4, .int (xJ i4_3))] → W p l e { frames := 1, cells := 0, slots := 0, locals := 22 } s m args below meth c H locs 0 0 Q (F0 m 3 ls []) := by
    intro fu
    induction fu with
    | zero => intro i4_3 H locs ls ri4_3 v3_0 v3_1 hm; exact absurd hm (Nat.not_lt_zero _)
    | succ fu ih3 =>
      intro i4_3 H locs ls ri4_3 v3_0 v3_1 hm hW hl
      refine x_iload hx hb hl 4 rfl dX10_hasBytesBeyond_3 ?_
      refine x_iload_n hx hb hl 1 rfl dX10_hasBytesBeyond_5 rfl ?_
      refine x_icmp_ge (tgt := 34) hx hb ri4_3 rn dX10_hasBytesBeyond_6 (by decide) (fun c1 => ?_) (fun c1 => ?_)
      · skip
        refine x_iconst hx hb dX10_hasBytesBeyond_34 ?_
        rw [eQ]
        exact x_zret hx hb hr hlk hW (by omega) ⟨rfl, Or.inr ⟨by omega, fun ⟨i, h1, h2, h3⟩ => by have := v3_1 i h1 (by omega); omega⟩⟩ dX10_hasBytesBeyond_35
      refine x_aload_n hx hb hl 0 rfl dX10_hasBytesBeyond_9 rfl ?_
      refine x_get (j := 0) (v := .ref (h0 + 1)) hx hb hown hT hE hW cls_X10 (Or.inl (by decide)) (so_0 h0 g _) (by decide) rfl wq512 dX10_hasBytesBeyond_10 ?_
      refine x_iload hx hb hl 4 rfl dX10_hasBytesBeyond_13 ?_
      refine x_goi (x_runVN (As := [.int (xJ i4_3)]) hx hb hml hown hT hE hW hl.1 (Or.inl (by decide)) (so_1 h0 g _) rfl cf_X8_byteAt wq1084 wq90 wn1082 (c_X8_byteAt l D g T h0 s0 hW.2.1 i4_3 ri4_3 p0) ⟨rfl, rfl, ⟨by decide, by decide⟩, ⟨by decide, by decide⟩⟩ rfl rfl (Nat.le_of_ble_eq_true rfl) dX10_hasBytesBeyond_15) hW (fun x2 s3 H locs rx2 hp4 hW => ?_)
      obtain ⟨es3, hp4⟩ := hp4
      subst es3
      have ghp4 := hp4
      refine x_iload_n hx hb hl 2 rfl dX10_hasBytesBeyond_18 rfl ?_
      refine x_iload_n hx hb hl 3 rfl dX10_hasBytesBeyond_19 rfl ?_
      refine x_goi (x_runS (As := [.int (xJ x2), .int (xJ a), .int (xJ b)]) hx hb hml hown hT hE hW hl.1 cf_X10_isIn wq562 wq561 (c_X10_isIn l D g T h0 s0 hW.2.1 x2 rx2 a ra b rb) ⟨rfl, rfl, ⟨by decide, by decide⟩, ⟨by decide, by decide⟩⟩ rfl rfl (Nat.le_of_ble_eq_true rfl) dX10_hasBytesBeyond_20) hW (fun x5 s6 H locs rx5 hp7 hW => ?_)
      obtain ⟨es6, hp7⟩ := hp7
      subst es6
      have ghp7 := hp7
      refine x_if_ne (tgt := 28) hx hb rx5 dX10_hasBytesBeyond_23 (by decide) (fun c8 => ?_) (fun c8 => ?_)
      · skip
        refine x_iinc (lv' := [(4, .int (xJ (i4_3 + 1))), (0, .ref (h0 + 0)), (1, .int (xJ n)), (2, .int (xJ a)), (3, .int (xJ b))]) hx hb hl 4 rfl dX10_hasBytesBeyond_28 (by decide) rfl (fun ls hl => ?_)
        refine lv_goto (tgt := 3) hx hb dX10_hasBytesBeyond_31 (by decide) ?_
        exact ih3 (i4_3 + 1) H locs ls (by omega) (by omega) (fun i h1 h2 => (Classical.em (i < (i4_3 + 1) - 1)).elim (fun q => v3_1 i h1 (by omega)) (fun q => by rw [show i = i4_3 from by omega]; omega)) (by omega) hW (lv_sub hl [1, 2, 3, 4, 0] rfl)
      refine x_iconst hx hb dX10_hasBytesBeyond_26 ?_
      rw [eQ]
      exact x_zret hx hb hr hlk hW (by omega) ⟨rfl, Or.inl ⟨by omega, ⟨i4_3, by omega, by omega, by omega⟩⟩⟩ dX10_hasBytesBeyond_27
  exact L3 ((261 - 0 : Int).toNat + 1) 0 H locs ls (by decide) (by omega) (fun i h1 h2 => absurd h2 (by omega)) (Nat.lt_succ_self _) hW (lv_sub hl [1, 2, 3, 4, 0] rfl)
set_option maxHeartbeats 4000000 in
set_option maxRecDepth 100000 in
theorem c_X10_brokenPrint (l : Launch) (D : va_G) (g : xG) (T : Nat × Nat × Nat) (h0 : Nat) (s0 : xS) (hσ : xRR s0) (n : Int) (rn : xR n) (p0 : IC s0) : Met l yX10_brokenPrint (xws yX10_brokenPrint cX10_brokenPrint 3 (some .int)) { frames := 3, cells := 0, slots := 0, locals := 73 } (xP [.ref (h0 + 0), .int (xJ n)] D g T h0 s0) (xQi D g h0 (fun r τ => xFr (fun k => k = 108) s0 τ ∧ (((IC τ) ∧ True) ∧ (True)))) 0 0 (xA h0) := by
  refine x_met hσ (by decide) (Nat.le_of_ble_eq_true rfl) ?_
  intro p e s m args below meth c hx hb hr hml hown hT hlk hnm hE hW ls hl
  have hl : lv_has ls 3 [(0, .ref (h0 + 0)), (1, .int (xJ n))] := hl
  obtain ⟨Q, eQ⟩ : ∃ Q, Q = MQ below (xQi D g h0 (fun r τ => xFr (fun k => k = 108) s0 τ ∧ (((IC τ) ∧ True) ∧ (True)))) args s 0 0 (xA h0) := ⟨_, rfl⟩
  rw [← eQ]
  generalize hHe : ([] : List Loc) = locs at hW ⊢
  obtain ⟨H, eH⟩ : ∃ H, H = s.heap := ⟨_, rfl⟩
  rw [← eH] at hW ⊢
  have hF : xFr (fun k => k = 108) s0 s0 := xFr.rf
  have k1_1 : s0 1 1 = s0 1 1 := rfl
  refine x_iconst hx hb dX10_brokenPrint_0 ?_
  refine lv_istore_n (lv' := [(2, .int (xJ 1)), (0, .ref (h0 + 0)), (1, .int (xJ n))]) hx hb dX10_brokenPrint_1 rfl hl (by decide) rfl (fun ls hl => ?_)
  have L2 : ∀ (fu : Nat) (i2_2 : Int) (s_2 : xS) (H : Heap) (locs : List Loc) (ls : Array Slot), (xR i2_2) → (xFr (fun k => k = 108) s0 s_2) → (IC s_2) → (s_2 1 1 = s0 1 1) → (0 ≤ i2_2) → (n + 1 - i2_2).toNat < fu → xW D g h0 s H locs s_2 → lv_has ls 3 [(0, .ref (h0 + 0)), (1, .int (xJ n)), (2, .int (xJ i2_2))] → W p l e { frames := 3, cells := 0, slots := 0, locals := 73 } s m args below meth c H locs 0 0 Q (F0 m 2 ls []) := by
    intro fu
    induction fu with
    | zero => intro i2_2 s_2 H locs ls ri2_2 hF_2 q2_0 q2_1 v2_0 hm; exact absurd hm (Nat.not_lt_zero _)
    | succ fu ih2 =>
      intro i2_2 s_2 H locs ls ri2_2 hF_2 q2_0 q2_1 v2_0 hm hW hl
      refine x_iload_n hx hb hl 2 rfl dX10_brokenPrint_2 rfl ?_
      refine x_iload_n hx hb hl 1 rfl dX10_brokenPrint_3 rfl ?_
      refine x_icmp_ge (tgt := 43) hx hb ri2_2 rn dX10_brokenPrint_4 (by decide) (fun c1 => ?_) (fun c1 => ?_)
      · skip
        refine x_iload_n hx hb hl 1 rfl dX10_brokenPrint_43 rfl ?_
        rw [eQ]
        exact x_iret hx hb hr hlk hW rn ⟨hF_2, ⟨q2_0, trivial⟩, trivial⟩ dX10_brokenPrint_44
      refine x_aload_n hx hb hl 0 rfl dX10_brokenPrint_7 rfl ?_
      refine x_get (j := 1) (v := .ref (h0 + 3)) hx hb hown hT hE hW cls_X10 (Or.inl (by decide)) (so_0 h0 g _) (by decide) rfl wq513 dX10_brokenPrint_8 ?_
      refine x_aload_n hx hb hl 0 rfl dX10_brokenPrint_11 rfl ?_
      refine x_get (j := 0) (v := .ref (h0 + 1)) hx hb hown hT hE hW cls_X10 (Or.inl (by decide)) (so_0 h0 g _) (by decide) rfl wq512 dX10_brokenPrint_12 ?_
      refine x_iload_n hx hb hl 2 rfl dX10_brokenPrint_15 rfl ?_
      refine x_iconst hx hb dX10_brokenPrint_16 ?_
      refine x_isub hx hb dX10_brokenPrint_17 ?_
      refine x_goi (x_runVN (As := [.int (xJ (i2_2 - 1))]) hx hb hml hown hT hE hW hl.1 (Or.inl (by decide)) (so_1 h0 g _) rfl cf_X8_byteAt wq1084 wq90 wn1082 (c_X8_byteAt l D g T h0 s_2 hW.2.1 (i2_2 - 1) (by omega) q2_0) ⟨rfl, rfl, ⟨by decide, by decide⟩, ⟨by decide, by decide⟩⟩ rfl rfl (Nat.le_of_ble_eq_true rfl) dX10_brokenPrint_18) hW (fun x2 s3 H locs rx2 hp4 hW => ?_)
      obtain ⟨es3, hp4⟩ := hp4
      subst es3
      have ghp4 := hp4
      refine x_aload_n hx hb hl 0 rfl dX10_brokenPrint_21 rfl ?_
      refine x_get (j := 0) (v := .ref (h0 + 1)) hx hb hown hT hE hW cls_X10 (Or.inl (by decide)) (so_0 h0 g _) (by decide) rfl wq512 dX10_brokenPrint_22 ?_
      refine x_iload_n hx hb hl 2 rfl dX10_brokenPrint_25 rfl ?_
      refine x_goi (x_runVN (As := [.int (xJ i2_2)]) hx hb hml hown hT hE hW hl.1 (Or.inl (by decide)) (so_1 h0 g _) rfl cf_X8_byteAt wq1084 wq90 wn1082 (c_X8_byteAt l D g T h0 s_2 hW.2.1 i2_2 ri2_2 q2_0) ⟨rfl, rfl, ⟨by decide, by decide⟩, ⟨by decide, by decide⟩⟩ rfl rfl (Nat.le_of_ble_eq_true rfl) dX10_brokenPrint_26) hW (fun x5 s6 H locs rx5 hp7 hW => ?_)
      obtain ⟨es6, hp7⟩ := hp7
      subst es6
      have ghp7 := hp7
      refine x_goi (x_runVN (As := [.int (xJ x2), .int (xJ x5)]) hx hb hml hown hT hE hW hl.1 (Or.inl (by decide)) (so_3 h0 g _) rfl cf_X6_isDryWalk wq1096 wq93 wn1094 (c_X6_isDryWalk l D g T h0 s_2 hW.2.1 x2 rx2 x5 rx5 q2_0) ⟨rfl, rfl, ⟨by decide, by decide⟩, ⟨by decide, by decide⟩⟩ rfl rfl (Nat.le_of_ble_eq_true rfl) dX10_brokenPrint_29) hW (fun x8 s9 H locs rx8 hp10 hW => ?_)
      obtain ⟨fs9, hp10⟩ := hp10
      have hF11 := hF_2.call fs9 (fun k h => by omega)
      have q12 : s9 1 1 = s0 1 1 := (congrFun (fs9 _ (by omega)) _).trans q2_1
      have ghp10 := hp10.2
      refine x_if_ne (tgt := 37) hx hb rx8 dX10_brokenPrint_32 (by decide) (fun c13 => ?_) (fun c13 => ?_)
      · skip
        refine x_iinc (lv' := [(2, .int (xJ (i2_2 + 1))), (0, .ref (h0 + 0)), (1, .int (xJ n))]) hx hb hl 2 rfl dX10_brokenPrint_37 (by decide) rfl (fun ls hl => ?_)
        refine lv_goto (tgt := 2) hx hb dX10_brokenPrint_40 (by decide) ?_
        exact ih2 (i2_2 + 1) s9 H locs ls (by omega) hF11 hp10.1.1 q12 (by omega) (by omega) hW (lv_sub hl [1, 2, 0] rfl)
      refine x_iload_n hx hb hl 2 rfl dX10_brokenPrint_35 rfl ?_
      rw [eQ]
      exact x_iret hx hb hr hlk hW ri2_2 ⟨hF11, ⟨hp10.1.1, trivial⟩, trivial⟩ dX10_brokenPrint_36
  exact L2 ((n + 1 - 1 : Int).toNat + 1) 1 s0 H locs ls (by decide) hF p0 k1_1 (by omega) (Nat.lt_succ_self _) hW (lv_sub hl [1, 2, 0] rfl)
set_option maxHeartbeats 4000000 in
set_option maxRecDepth 100000 in
theorem c_X10_printStarters (l : Launch) (D : va_G) (g : xG) (T : Nat × Nat × Nat) (h0 : Nat) (s0 : xS) (hσ : xRR s0) (p0 : IC s0) : Met l yX10_printStarters (xws yX10_printStarters cX10_printStarters 3 (some .int)) { frames := 3, cells := 0, slots := 0, locals := 73 } (xP [.ref (h0 + 0)] D g T h0 s0) (xQi D g h0 (fun r τ => xFr (fun k => k = 108) s0 τ ∧ (((IC τ) ∧ True) ∧ (True)))) 0 0 (xA h0) := by
  refine x_met hσ (by decide) (Nat.le_of_ble_eq_true rfl) ?_
  intro p e s m args below meth c hx hb hr hml hown hT hlk hnm hE hW ls hl
  have hl : lv_has ls 3 [(0, .ref (h0 + 0))] := hl
  obtain ⟨Q, eQ⟩ : ∃ Q, Q = MQ below (xQi D g h0 (fun r τ => xFr (fun k => k = 108) s0 τ ∧ (((IC τ) ∧ True) ∧ (True)))) args s 0 0 (xA h0) := ⟨_, rfl⟩
  rw [← eQ]
  generalize hHe : ([] : List Loc) = locs at hW ⊢
  obtain ⟨H, eH⟩ : ∃ H, H = s.heap := ⟨_, rfl⟩
  rw [← eH] at hW ⊢
  have hF : xFr (fun k => k = 108) s0 s0 := xFr.rf
  have k1_1 : s0 1 1 = s0 1 1 := rfl
  refine x_iconst hx hb dX10_printStarters_0 ?_
  refine lv_istore_n (lv' := [(1, .int (xJ 0)), (0, .ref (h0 + 0))]) hx hb dX10_printStarters_1 rfl hl (by decide) rfl (fun ls hl => ?_)
  refine x_iconst hx hb dX10_printStarters_2 ?_
  refine lv_istore_n (lv' := [(2, .int (xJ 0)), (1, .int (xJ 0)), (0, .ref (h0 + 0))]) hx hb dX10_printStarters_3 rfl hl (by decide) rfl (fun ls hl => ?_)
  have L4 : ∀ (fu : Nat) (i1_4 : Int) (i2_4 : Int) (s_4 : xS) (H : Heap) (locs : List Loc) (ls : Array Slot), (xR i1_4) → (xR i2_4) → (xFr (fun k => k = 108) s0 s_4) → (IC s_4) → (s_4 1 1 = s0 1 1) → (0 ≤ i2_4) → (i2_4 ≤ 10) → (10 + 1 - i2_4).toNat < fu → xW D g h0 s H locs s_4 → lv_has ls 3 [(0, .ref (h0 + 0)), (1, .int (xJ i1_4)), (2, .int (xJ i2_4))] → W p l e { frames := 3, cells := 0, slots := 0, locals := 73 } s m args below meth c H locs 0 0 Q (F0 m 4 ls []) := by
    intro fu
    induction fu with
    | zero => intro i1_4 i2_4 s_4 H locs ls ri1_4 ri2_4 hF_4 q4_0 q4_1 v4_0 v4_1 hm; exact absurd hm (Nat.not_lt_zero _)
    | succ fu ih4 =>
      intro i1_4 i2_4 s_4 H locs ls ri1_4 ri2_4 hF_4 q4_0 q4_1 v4_0 v4_1 hm hW hl
      refine x_iload_n hx hb hl 2 rfl dX10_printStarters_4 rfl ?_
      refine x_bipush hx hb dX10_printStarters_5 (by decide) ?_
      refine x_icmp_ge (tgt := 60) hx hb ri2_4 (by decide) dX10_printStarters_7 (by decide) (fun c1 => ?_) (fun c1 => ?_)
      · skip
        refine x_iload_n hx hb hl 1 rfl dX10_printStarters_60 rfl ?_
        rw [eQ]
        exact x_iret hx hb hr hlk hW ri1_4 ⟨hF_4, ⟨q4_0, trivial⟩, trivial⟩ dX10_printStarters_61
      refine x_aload_n hx hb hl 0 rfl dX10_printStarters_10 rfl ?_
      refine x_get (j := 8) (v := .ref (h0 + 136)) hx hb hown hT hE hW cls_X10 (Or.inl (by decide)) (so_0 h0 g _) (by decide) rfl wq520 dX10_printStarters_11 ?_
      refine x_iload_n hx hb hl 2 rfl dX10_printStarters_14 rfl ?_
      refine x_goi (x_runVN (As := [.int (xJ i2_4)]) hx hb hml hown hT hE hW hl.1 (Or.inl (by decide)) (so_136 h0 g _) rfl cf_X2_hasFelon wq862 wq53 wn910 (c_X2_hasFelon l D g T h0 s_4 hW.2.1 136 xd_136 i2_4 ri2_4 q4_0) ⟨rfl, rfl, ⟨by decide, by decide⟩, ⟨by decide, by decide⟩⟩ rfl rfl (Nat.le_of_ble_eq_true rfl) dX10_printStarters_15) hW (fun x2 s3 H locs rx2 hp4 hW => ?_)
      obtain ⟨es3, hp4⟩ := hp4
      subst es3
      have ghp4 := hp4
      refine x_if_eq (tgt := 54) hx hb rx2 dX10_printStarters_18 (by decide) (fun c5 => ?_) (fun c5 => ?_)
      · skip
        refine x_iinc (lv' := [(2, .int (xJ (i2_4 + 1))), (0, .ref (h0 + 0)), (1, .int (xJ i1_4))]) hx hb hl 2 rfl dX10_printStarters_54 (by decide) rfl (fun ls hl => ?_)
        refine lv_goto (tgt := 4) hx hb dX10_printStarters_57 (by decide) ?_
        exact ih4 i1_4 (i2_4 + 1) s_4 H locs ls ri1_4 (by omega) hF_4 q4_0 q4_1 (by omega) (by omega) (by omega) hW (lv_sub hl [1, 2, 0] rfl)
      refine x_aload_n hx hb hl 0 rfl dX10_printStarters_21 rfl ?_
      refine x_get (j := 1) (v := .ref (h0 + 3)) hx hb hown hT hE hW cls_X10 (Or.inl (by decide)) (so_0 h0 g _) (by decide) rfl wq513 dX10_printStarters_22 ?_
      refine x_aload_n hx hb hl 0 rfl dX10_printStarters_25 rfl ?_
      refine x_get (j := 8) (v := .ref (h0 + 136)) hx hb hown hT hE hW cls_X10 (Or.inl (by decide)) (so_0 h0 g _) (by decide) rfl wq520 dX10_printStarters_26 ?_
      refine x_getN (j := 3) (v := .ref (h0 + 142)) hx hb hown hT hE hW cls_X2 (Or.inl (by decide)) (so_136 h0 g _) (by decide) rfl wn391 dX10_printStarters_29 ?_
      refine x_iload_n hx hb hl 2 rfl dX10_printStarters_32 rfl ?_
      refine x_iald hx hb hE hW (Or.inl (by decide)) (sa_142 h0 g _) (by omega) (by decide) dX10_printStarters_33 ?_
      refine x_rd hW (fun x6 ex6 rx6 => ?_)
      refine x_aload_n hx hb hl 0 rfl dX10_printStarters_34 rfl ?_
      refine x_get (j := 0) (v := .ref (h0 + 1)) hx hb hown hT hE hW cls_X10 (Or.inl (by decide)) (so_0 h0 g _) (by decide) rfl wq512 dX10_printStarters_35 ?_
      refine x_iconst hx hb dX10_printStarters_38 ?_
      refine x_goi (x_runVN (As := [.int (xJ 0)]) hx hb hml hown hT hE hW hl.1 (Or.inl (by decide)) (so_1 h0 g _) rfl cf_X8_byteAt wq1084 wq90 wn1082 (c_X8_byteAt l D g T h0 s_4 hW.2.1 0 (by decide) q4_0) ⟨rfl, rfl, ⟨by decide, by decide⟩, ⟨by decide, by decide⟩⟩ rfl rfl (Nat.le_of_ble_eq_true rfl) dX10_printStarters_39) hW (fun x7 s8 H locs rx7 hp9 hW => ?_)
      obtain ⟨es8, hp9⟩ := hp9
      subst es8
      have ghp9 := hp9
      refine x_goi (x_runVN (As := [.int (xJ x6), .int (xJ x7)]) hx hb hml hown hT hE hW hl.1 (Or.inl (by decide)) (so_3 h0 g _) rfl cf_X6_isDryWalk wq1096 wq93 wn1094 (c_X6_isDryWalk l D g T h0 s_4 hW.2.1 x6 rx6 x7 rx7 q4_0) ⟨rfl, rfl, ⟨by decide, by decide⟩, ⟨by decide, by decide⟩⟩ rfl rfl (Nat.le_of_ble_eq_true rfl) dX10_printStarters_42) hW (fun x10 s11 H locs rx10 hp12 hW => ?_)
      obtain ⟨fs11, hp12⟩ := hp12
      have hF13 := hF_4.call fs11 (fun k h => by omega)
      have q14 : s11 1 1 = s0 1 1 := (congrFun (fs11 _ (by omega)) _).trans q4_1
      have ghp12 := hp12.2
      refine x_if_eq (tgt := 54) hx hb rx10 dX10_printStarters_45 (by decide) (fun c15 => ?_) (fun c15 => ?_)
      · skip
        refine x_iinc (lv' := [(2, .int (xJ (i2_4 + 1))), (0, .ref (h0 + 0)), (1, .int (xJ i1_4))]) hx hb hl 2 rfl dX10_printStarters_54 (by decide) rfl (fun ls hl => ?_)
        refine lv_goto (tgt := 4) hx hb dX10_printStarters_57 (by decide) ?_
        exact ih4 i1_4 (i2_4 + 1) s11 H locs ls ri1_4 (by omega) hF13 hp12.1.1 q14 (by omega) (by omega) (by omega) hW (lv_sub hl [1, 2, 0] rfl)
      refine x_iload_n hx hb hl 1 rfl dX10_printStarters_48 rfl ?_
      refine x_iconst hx hb dX10_printStarters_49 ?_
      refine x_iload_n hx hb hl 2 rfl dX10_printStarters_50 rfl ?_
      refine lv_ishl hx hb dX10_printStarters_51 ?_
      refine x_any (fun x16 rx16 => ?_)
      refine lv_ior hx hb dX10_printStarters_52 ?_
      refine x_any (fun x17 rx17 => ?_)
      refine lv_istore_n (lv' := [(1, .int (xJ x17)), (0, .ref (h0 + 0)), (2, .int (xJ i2_4))]) hx hb dX10_printStarters_53 rfl hl (by decide) rfl (fun ls hl => ?_)
      refine x_iinc (lv' := [(2, .int (xJ (i2_4 + 1))), (1, .int (xJ x17)), (0, .ref (h0 + 0))]) hx hb hl 2 rfl dX10_printStarters_54 (by decide) rfl (fun ls hl => ?_)
      refine lv_goto (tgt := 4) hx hb dX10_printStarters_57 (by decide) ?_
      exact ih4 x17 (i2_4 + 1) s11 H locs ls rx17 (by omega) hF13 hp12.1.1 q14 (by omega) (by omega) (by omega) hW (lv_sub hl [2, 1, 0] rfl)
  exact L4 ((10 + 1 - 0 : Int).toNat + 1) 0 0 s0 H locs ls (by decide) (by decide) hF p0 k1_1 (by omega) (by omega) (Nat.lt_succ_self _) hW (lv_sub hl [2, 1, 0] rfl)
set_option maxHeartbeats 4000000 in
set_option maxRecDepth 100000 in
theorem c_X10_printMakers (l : Launch) (D : va_G) (g : xG) (T : Nat × Nat × Nat) (h0 : Nat) (s0 : xS) (hσ : xRR s0) (n : Int) (rn : xR n) (p0 : IC s0) : Met l yX10_printMakers (xws yX10_printMakers cX10_printMakers 2 (some .int)) { frames := 4, cells := 0, slots := 0, locals := 95 } (xP [.ref (h0 + 0), .int (xJ n)] D g T h0 s0) (xQi D g h0 (fun r τ => xFr (fun k => k = 108) s0 τ ∧ (((IC τ) ∧ True) ∧ (True)))) 0 0 (xA h0) := by
  refine x_met hσ (by decide) (Nat.le_of_ble_eq_true rfl) ?_
  intro p e s m args below meth c hx hb hr hml hown hT hlk hnm hE hW ls hl
  have hl : lv_has ls 2 [(0, .ref (h0 + 0)), (1, .int (xJ n))] := hl
  obtain ⟨Q, eQ⟩ : ∃ Q, Q = MQ below (xQi D g h0 (fun r τ => xFr (fun k => k = 108) s0 τ ∧ (((IC τ) ∧ True) ∧ (True)))) args s 0 0 (xA h0) := ⟨_, rfl⟩
  rw [← eQ]
  generalize hHe : ([] : List Loc) = locs at hW ⊢
  obtain ⟨H, eH⟩ : ∃ H, H = s.heap := ⟨_, rfl⟩
  rw [← eH] at hW ⊢
  have hF : xFr (fun k => k = 108) s0 s0 := xFr.rf
  have k1_1 : s0 1 1 = s0 1 1 := rfl
  refine x_aload_n hx hb hl 0 rfl dX10_printMakers_0 rfl ?_
  refine x_iload_n hx hb hl 1 rfl dX10_printMakers_1 rfl ?_
  refine x_goi (x_runV (As := [.int (xJ n)]) hx hb hml hown hT hE hW hl.1 (Or.inl (by decide)) (so_0 h0 g _) rfl cf_X10_brokenPrint wq1092 wq92 wq1090 (c_X10_brokenPrint l D g T h0 s0 hW.2.1 n rn p0) ⟨rfl, rfl, ⟨by decide, by decide⟩, ⟨by decide, by decide⟩⟩ rfl rfl (Nat.le_of_ble_eq_true rfl) dX10_printMakers_2) hW (fun x1 s2 H locs rx1 hp3 hW => ?_)
  obtain ⟨fs2, hp3⟩ := hp3
  have hF4 := hF.call fs2 (fun k h => by omega)
  have q5 : s2 1 1 = s0 1 1 := (congrFun (fs2 _ (by omega)) _).trans k1_1
  have ghp3 := hp3.2
  refine x_iload_n hx hb hl 1 rfl dX10_printMakers_5 rfl ?_
  refine x_icmp_ne (tgt := 16) hx hb rx1 rn dX10_printMakers_6 (by decide) (fun c6 => ?_) (fun c6 => ?_)
  · skip
    refine x_iconst hx hb dX10_printMakers_16 ?_
    rw [eQ]
    exact x_iret hx hb hr hlk hW (by decide) ⟨hF4, ⟨hp3.1.1, trivial⟩, trivial⟩ dX10_printMakers_17
  refine x_aload_n hx hb hl 0 rfl dX10_printMakers_9 rfl ?_
  refine x_goi (x_runV (As := []) hx hb hml hown hT hE hW hl.1 (Or.inl (by decide)) (so_0 h0 g _) rfl cf_X10_printStarters wq1100 wq94 wq1098 (c_X10_printStarters l D g T h0 s2 hW.2.1 hp3.1.1) ⟨rfl, rfl, ⟨by decide, by decide⟩, ⟨by decide, by decide⟩⟩ rfl rfl (Nat.le_of_ble_eq_true rfl) dX10_printMakers_10) hW (fun x7 s8 H locs rx7 hp9 hW => ?_)
  obtain ⟨fs8, hp9⟩ := hp9
  have hF10 := hF4.call fs8 (fun k h => by omega)
  have q11 : s8 1 1 = s0 1 1 := (congrFun (fs8 _ (by omega)) _).trans q5
  have ghp9 := hp9.2
  refine lv_goto (tgt := 17) hx hb dX10_printMakers_13 (by decide) ?_
  rw [eQ]
  exact x_iret hx hb hr hlk hW rx7 ⟨hF10, ⟨hp9.1.1, trivial⟩, trivial⟩ dX10_printMakers_17
set_option maxHeartbeats 4000000 in
set_option maxRecDepth 100000 in
theorem c_X10_printsFailAt (l : Launch) (D : va_G) (g : xG) (T : Nat × Nat × Nat) (h0 : Nat) (s0 : xS) (hσ : xRR s0) (n : Int) (rn : xR n) (p0 : IC s0) : Met l yX10_printsFailAt (xws yX10_printsFailAt cX10_printsFailAt 3 (some .int)) { frames := 4, cells := 0, slots := 0, locals := 95 } (xP [.ref (h0 + 0), .int (xJ n)] D g T h0 s0) (xQi D g h0 (fun r τ => xFr (fun k => k = 108) s0 τ ∧ (((IC τ) ∧ True) ∧ (True)))) 0 0 (xA h0) := by
  refine x_met hσ (by decide) (Nat.le_of_ble_eq_true rfl) ?_
  intro p e s m args below meth c hx hb hr hml hown hT hlk hnm hE hW ls hl
  have hl : lv_has ls 3 [(0, .ref (h0 + 0)), (1, .int (xJ n))] := hl
  obtain ⟨Q, eQ⟩ : ∃ Q, Q = MQ below (xQi D g h0 (fun r τ => xFr (fun k => k = 108) s0 τ ∧ (((IC τ) ∧ True) ∧ (True)))) args s 0 0 (xA h0) := ⟨_, rfl⟩
  rw [← eQ]
  generalize hHe : ([] : List Loc) = locs at hW ⊢
  obtain ⟨H, eH⟩ : ∃ H, H = s.heap := ⟨_, rfl⟩
  rw [← eH] at hW ⊢
  have hF : xFr (fun k => k = 108) s0 s0 := xFr.rf
  have k1_1 : s0 1 1 = s0 1 1 := rfl
  refine x_aload_n hx hb hl 0 rfl dX10_printsFailAt_0 rfl ?_
  refine x_get (j := 8) (v := .ref (h0 + 136)) hx hb hown hT hE hW cls_X10 (Or.inl (by decide)) (so_0 h0 g _) (by decide) rfl wq520 dX10_printsFailAt_1 ?_
  refine x_getN (j := 3) (v := .ref (h0 + 142)) hx hb hown hT hE hW cls_X2 (Or.inl (by decide)) (so_136 h0 g _) (by decide) rfl wn391 dX10_printsFailAt_4 ?_
  refine x_goi (x_runS (As := [.ref (h0 + 142)]) hx hb hml hown hT hE hW hl.1 cf_X10_bitsOfTold wq1107 wq1106 (c_X10_bitsOfTold10 l D g T h0 s0 hW.2.1 142 (by decide) (by decide) (fun σ => sa_142 h0 g σ)) ⟨rfl, rfl, ⟨by decide, by decide⟩, ⟨by decide, by decide⟩⟩ rfl rfl (Nat.le_of_ble_eq_true rfl) dX10_printsFailAt_7) hW (fun x1 s2 H locs rx1 hp3 hW => ?_)
  obtain ⟨es2, hp3⟩ := hp3
  subst es2
  have ghp3 := hp3
  refine x_if_ne (tgt := 16) hx hb rx1 dX10_printsFailAt_10 (by decide) (fun c4 => ?_) (fun c4 => ?_)
  · skip
    refine x_aload_n hx hb hl 0 rfl dX10_printsFailAt_16 rfl ?_
    refine x_goi (x_runV (As := []) hx hb hml hown hT hE hW hl.1 (Or.inl (by decide)) (so_0 h0 g _) rfl cf_X10_printStarters wq1100 wq94 wq1098 (c_X10_printStarters l D g T h0 s0 hW.2.1 p0) ⟨rfl, rfl, ⟨by decide, by decide⟩, ⟨by decide, by decide⟩⟩ rfl rfl (Nat.le_of_ble_eq_true rfl) dX10_printsFailAt_17) hW (fun x5 s6 H locs rx5 hp7 hW => ?_)
    obtain ⟨fs6, hp7⟩ := hp7
    have hF8 := hF.call fs6 (fun k h => by omega)
    have q9 : s6 1 1 = s0 1 1 := (congrFun (fs6 _ (by omega)) _).trans k1_1
    have ghp7 := hp7.2
    refine x_if_ne (tgt := 25) hx hb rx5 dX10_printsFailAt_20 (by decide) (fun c10 => ?_) (fun c10 => ?_)
    · skip
      refine x_aload_n hx hb hl 0 rfl dX10_printsFailAt_25 rfl ?_
      refine x_iload_n hx hb hl 1 rfl dX10_printsFailAt_26 rfl ?_
      refine x_goi (x_runV (As := [.int (xJ n)]) hx hb hml hown hT hE hW hl.1 (Or.inl (by decide)) (so_0 h0 g _) rfl cf_X10_brokenPrint wq1092 wq92 wq1090 (c_X10_brokenPrint l D g T h0 s6 hW.2.1 n rn hp7.1.1) ⟨rfl, rfl, ⟨by decide, by decide⟩, ⟨by decide, by decide⟩⟩ rfl rfl (Nat.le_of_ble_eq_true rfl) dX10_printsFailAt_27) hW (fun x11 s12 H locs rx11 hp13 hW => ?_)
      obtain ⟨fs12, hp13⟩ := hp13
      have hF14 := hF8.call fs12 (fun k h => by omega)
      have q15 : s12 1 1 = s0 1 1 := (congrFun (fs12 _ (by omega)) _).trans q9
      have ghp13 := hp13.2
      refine lv_istore_n (lv' := [(2, .int (xJ x11)), (0, .ref (h0 + 0)), (1, .int (xJ n))]) hx hb dX10_printsFailAt_30 rfl hl (by decide) rfl (fun ls hl => ?_)
      refine x_iload_n hx hb hl 0 rfl dX10_printsFailAt_31 rfl ?_
      refine x_iload_n hx hb hl 2 rfl dX10_printsFailAt_32 rfl ?_
      refine x_icmp_ne (tgt := 41) hx hb rx11 rn dX10_printsFailAt_33 (by decide) (fun c16 => ?_) (fun c16 => ?_)
      · skip
        refine x_iload_n hx hb hl 0 rfl dX10_printsFailAt_41 rfl ?_
        rw [eQ]
        exact x_iret hx hb hr hlk hW rx11 ⟨hF14, ⟨hp13.1.1, trivial⟩, trivial⟩ dX10_printsFailAt_42
      refine x_bipush hx hb dX10_printsFailAt_36 (by decide) ?_
      refine lv_goto (tgt := 42) hx hb dX10_printsFailAt_38 (by decide) ?_
      rw [eQ]
      exact x_iret hx hb hr hlk hW (by decide) ⟨hF14, ⟨hp13.1.1, trivial⟩, trivial⟩ dX10_printsFailAt_42
    refine x_iconst hx hb dX10_printsFailAt_23 ?_
    rw [eQ]
    exact x_iret hx hb hr hlk hW (by decide) ⟨hF8, ⟨hp7.1.1, trivial⟩, trivial⟩ dX10_printsFailAt_24
  refine x_bipush hx hb dX10_printsFailAt_13 (by decide) ?_
  rw [eQ]
  exact x_iret hx hb hr hlk hW (by decide) ⟨hF, ⟨p0, trivial⟩, trivial⟩ dX10_printsFailAt_15
set_option maxHeartbeats 4000000 in
set_option maxRecDepth 100000 in
theorem c_X10_servedOutside (l : Launch) (D : va_G) (g : xG) (T : Nat × Nat × Nat) (h0 : Nat) (s0 : xS) (hσ : xRR s0) (x : Int) (rx : xR x) (n : Int) (rn : xR n) (hle : n ≤ s0 1 1 ∧ 0 ≤ n ∧ n ≤ 10) (p0 : IC s0) : Met l yX10_servedOutside (xws yX10_servedOutside cX10_servedOutside 5 (some .int)) { frames := 1, cells := 0, slots := 0, locals := 21 } (xP [.ref (h0 + 0), .int (xJ x), .int (xJ n)] D g T h0 s0) (xQi D g h0 (fun r τ => s0 = τ ∧ (r = zsum (s0 2) x n.toNat))) 0 0 (xA h0) := by
  refine x_met hσ (by decide) (Nat.le_of_ble_eq_true rfl) ?_
  intro p e s m args below meth c hx hb hr hml hown hT hlk hnm hE hW ls hl
  have hl : lv_has ls 5 [(0, .ref (h0 + 0)), (1, .int (xJ x)), (2, .int (xJ n))] := hl
  obtain ⟨Q, eQ⟩ : ∃ Q, Q = MQ below (xQi D g h0 (fun r τ => s0 = τ ∧ (r = zsum (s0 2) x n.toNat))) args s 0 0 (xA h0) := ⟨_, rfl⟩
  rw [← eQ]
  generalize hHe : ([] : List Loc) = locs at hW ⊢
  obtain ⟨H, eH⟩ : ∃ H, H = s.heap := ⟨_, rfl⟩
  rw [← eH] at hW ⊢
  have k1_1 : s0 1 1 = s0 1 1 := rfl
  have k1_1 : s0 1 1 = s0 1 1 := rfl
  refine x_iconst hx hb dX10_servedOutside_0 ?_
  refine lv_istore_n (lv' := [(3, .int (xJ 0)), (0, .ref (h0 + 0)), (1, .int (xJ x)), (2, .int (xJ n))]) hx hb dX10_servedOutside_1 rfl hl (by decide) rfl (fun ls hl => ?_)
  refine x_iconst hx hb dX10_servedOutside_2 ?_
  refine lv_istore (lv' := [(4, .int (xJ 0)), (3, .int (xJ 0)), (0, .ref (h0 + 0)), (1, .int (xJ x)), (2, .int (xJ n))]) hx hb dX10_servedOutside_3 hl (by decide) rfl (fun ls hl => ?_)
  have L5 : ∀ (fu : Nat) (i3_5 : Int) (i4_5 : Int) (H : Heap) (locs : List Loc) (ls : Array Slot), (xR i3_5) → (xR i4_5) → (0 ≤ i4_5 ∧ i4_5 ≤ n) → (i3_5 = zsum (s0 2) x (i4_5).toNat) → (0 ≤ i3_5 ∧ i3_5 ≤ 255 * i4_5) → (11 - i4_5).toNat < fu → xW D g h0 s H locs s0 → lv_has ls 5 [(0, .ref (h0 + 0)), (1, .int (xJ x)), (2, .int (xJ n)), (3, .int (xJ i3_5)), (4, .int (xJ i4_5))] → W p l e { frames := 1, cells := 0, slots := 0, locals := 21 } s m args below meth c H locs 0 0 Q (F0 m 5 ls []) := by
    intro fu
    induction fu with
    | zero => intro i3_5 i4_5 H locs ls ri3_5 ri4_5 v5_0 v5_1 v5_2 hm; exact absurd hm (Nat.not_lt_zero _)
    | succ fu ih5 =>
      intro i3_5 i4_5 H locs ls ri3_5 ri4_5 v5_0 v5_1 v5_2 hm hW hl
      refine x_iload hx hb hl 4 rfl dX10_servedOutside_5 ?_
      refine x_iload_n hx hb hl 2 rfl dX10_servedOutside_7 rfl ?_
      refine x_icmp_ge (tgt := 38) hx hb ri4_5 rn dX10_servedOutside_8 (by decide) (fun c1 => ?_) (fun c1 => ?_)
      · skip
        refine x_iload_n hx hb hl 3 rfl dX10_servedOutside_38 rfl ?_
        rw [eQ]
        exact x_iret hx hb hr hlk hW ri3_5 ⟨rfl, by rw [show n = i4_5 from by omega]; exact v5_1⟩ dX10_servedOutside_39
      refine x_iload_n hx hb hl 1 rfl dX10_servedOutside_11 rfl ?_
      refine x_iload hx hb hl 4 rfl dX10_servedOutside_12 ?_
      refine x_shr hx hb rx (by omega) dX10_servedOutside_14 (fun x2 ex2 rx2 => ?_)
      refine x_iconst hx hb dX10_servedOutside_15 ?_
      refine x_and1 hx hb rx2 dX10_servedOutside_16 ?_
      refine x_nm (fun x3 ex3 => ?_)
      refine x_if_ne (tgt := 32) hx hb (by omega) dX10_servedOutside_17 (by decide) (fun c4 => ?_) (fun c4 => ?_)
      · skip
        refine x_iinc (lv' := [(4, .int (xJ (i4_5 + 1))), (0, .ref (h0 + 0)), (1, .int (xJ x)), (2, .int (xJ n)), (3, .int (xJ i3_5))]) hx hb hl 4 rfl dX10_servedOutside_32 (by decide) rfl (fun ls hl => ?_)
        refine lv_goto (tgt := 5) hx hb dX10_servedOutside_35 (by decide) ?_
        exact ih5 i3_5 (i4_5 + 1) H locs ls ri3_5 (by omega) (by omega) (by first | (rw [zsum_n (by omega) (by omega)]; omega) | (rw [zsum_y (by omega) (by omega)]; omega)) (by omega) (by omega) hW (lv_sub hl [1, 2, 3, 4, 0] rfl)
      refine x_iload_n hx hb hl 3 rfl dX10_servedOutside_20 rfl ?_
      refine x_aload_n hx hb hl 0 rfl dX10_servedOutside_21 rfl ?_
      refine x_get (j := 0) (v := .ref (h0 + 1)) hx hb hown hT hE hW cls_X10 (Or.inl (by decide)) (so_0 h0 g _) (by decide) rfl wq512 dX10_servedOutside_22 ?_
      refine x_iload hx hb hl 4 rfl dX10_servedOutside_25 ?_
      refine x_goi (x_runVN (As := [.int (xJ i4_5)]) hx hb hml hown hT hE hW hl.1 (Or.inl (by decide)) (so_1 h0 g _) rfl cf_X8_byteAt wq1084 wq90 wn1082 (c_X8_byteAt l D g T h0 s0 hW.2.1 i4_5 ri4_5 p0) ⟨rfl, rfl, ⟨by decide, by decide⟩, ⟨by decide, by decide⟩⟩ rfl rfl (Nat.le_of_ble_eq_true rfl) dX10_servedOutside_27) hW (fun x5 s6 H locs rx5 hp7 hW => ?_)
      obtain ⟨es6, hp7⟩ := hp7
      subst es6
      have ghp7 := hp7
      refine x_iadd hx hb dX10_servedOutside_30 ?_
      refine x_nm (fun x8 ex8 => ?_)
      refine lv_istore_n (lv' := [(3, .int (xJ x8)), (0, .ref (h0 + 0)), (1, .int (xJ x)), (2, .int (xJ n)), (4, .int (xJ i4_5))]) hx hb dX10_servedOutside_31 rfl hl (by decide) rfl (fun ls hl => ?_)
      refine x_iinc (lv' := [(4, .int (xJ (i4_5 + 1))), (3, .int (xJ x8)), (0, .ref (h0 + 0)), (1, .int (xJ x)), (2, .int (xJ n))]) hx hb hl 4 rfl dX10_servedOutside_32 (by decide) rfl (fun ls hl => ?_)
      refine lv_goto (tgt := 5) hx hb dX10_servedOutside_35 (by decide) ?_
      exact ih5 x8 (i4_5 + 1) H locs ls (by omega) (by omega) (by omega) (by first | (rw [zsum_n (by omega) (by omega)]; omega) | (rw [zsum_y (by omega) (by omega)]; omega)) (by omega) (by omega) hW (lv_sub hl [2, 3, 4, 1, 0] rfl)
  exact L5 ((11 - 0 : Int).toNat + 1) 0 0 H locs ls (by decide) (by decide) (by omega) (rfl) (by omega) (Nat.lt_succ_self _) hW (lv_sub hl [2, 3, 4, 1, 0] rfl)
set_option maxHeartbeats 4000000 in
set_option maxRecDepth 100000 in
theorem c_X10_cloudySets (l : Launch) (D : va_G) (g : xG) (T : Nat × Nat × Nat) (h0 : Nat) (s0 : xS) (hσ : xRR s0) (n : Int) (rn : xR n) (w : Int) (rw : xR w) (x : Int) (rx : xR x) (hn : 1 ≤ n ∧ n ≤ 10) (hle : n ≤ s0 1 1) (p0 : IC s0) : Met l yX10_cloudySets (xws yX10_cloudySets cX10_cloudySets 8 (some .int)) { frames := 2, cells := 0, slots := 0, locals := 45 } (xP [.ref (h0 + 0), .int (xJ n), .int (xJ w), .int (xJ x)] D g T h0 s0) (xQi D g h0 (fun r τ => s0 = τ ∧ (r = zans (s0 2) n w x (-1)))) 0 0 (xA h0) := by
  refine x_met hσ (by decide) (Nat.le_of_ble_eq_true rfl) ?_
  intro p e s m args below meth c hx hb hr hml hown hT hlk hnm hE hW ls hl
  have hl : lv_has ls 8 [(0, .ref (h0 + 0)), (1, .int (xJ n)), (2, .int (xJ w)), (3, .int (xJ x))] := hl
  obtain ⟨Q, eQ⟩ : ∃ Q, Q = MQ below (xQi D g h0 (fun r τ => s0 = τ ∧ (r = zans (s0 2) n w x (-1)))) args s 0 0 (xA h0) := ⟨_, rfl⟩
  rw [← eQ]
  generalize hHe : ([] : List Loc) = locs at hW ⊢
  obtain ⟨H, eH⟩ : ∃ H, H = s.heap := ⟨_, rfl⟩
  rw [← eH] at hW ⊢
  have k1_1 : s0 1 1 = s0 1 1 := rfl
  have k1_1 : s0 1 1 = s0 1 1 := rfl
  have hpw := zpw_le (n := n) (by omega)
  refine x_iconst hx hb dX10_cloudySets_0 ?_
  refine lv_istore (lv' := [(4, .int (xJ 0)), (0, .ref (h0 + 0)), (1, .int (xJ n)), (2, .int (xJ w)), (3, .int (xJ x))]) hx hb dX10_cloudySets_1 hl (by decide) rfl (fun ls hl => ?_)
  refine x_bipush hx hb dX10_cloudySets_3 (by decide) ?_
  refine lv_istore (lv' := [(5, .int (xJ (-2))), (4, .int (xJ 0)), (0, .ref (h0 + 0)), (1, .int (xJ n)), (2, .int (xJ w)), (3, .int (xJ x))]) hx hb dX10_cloudySets_5 hl (by decide) rfl (fun ls hl => ?_)
  refine x_iconst hx hb dX10_cloudySets_7 ?_
  refine lv_istore (lv' := [(6, .int (xJ (-1))), (5, .int (xJ (-2))), (4, .int (xJ 0)), (0, .ref (h0 + 0)), (1, .int (xJ n)), (2, .int (xJ w)), (3, .int (xJ x))]) hx hb dX10_cloudySets_8 hl (by decide) rfl (fun ls hl => ?_)
  refine x_iconst hx hb dX10_cloudySets_10 ?_
  refine lv_istore (lv' := [(7, .int (xJ 0)), (6, .int (xJ (-1))), (5, .int (xJ (-2))), (4, .int (xJ 0)), (0, .ref (h0 + 0)), (1, .int (xJ n)), (2, .int (xJ w)), (3, .int (xJ x))]) hx hb dX10_cloudySets_11 hl (by decide) rfl (fun ls hl => ?_)
  have L13 : ∀ (fu : Nat) (i4_13 : Int) (i5_13 : Int) (i6_13 : Int) (i7_13 : Int) (H : Heap) (locs : List Loc) (ls : Array Slot), (xR i4_13) → (xR i5_13) → (xR i6_13) → (xR i7_13) → (0 ≤ i7_13 ∧ i7_13 ≤ zpw n) → (0 ≤ i4_13 ∧ i4_13 ≤ i7_13) → (i4_13 = zcm (s0 2) n w (i7_13).toNat) → (i5_13 = zcf (s0 2) n w (i7_13).toNat) → (i6_13 = zca (s0 2) n w (-1) (i7_13).toNat) → (1024 - i7_13).toNat < fu → xW D g h0 s H locs s0 → lv_has ls 8 [(0, .ref (h0 + 0)), (1, .int (xJ n)), (2, .int (xJ w)), (3, .int (xJ x)), (4, .int (xJ i4_13)), (5, .int (xJ i5_13)), (6, .int (xJ i6_13)), (7, .int (xJ i7_13))] → W p l e { frames := 2, cells := 0, slots := 0, locals := 45 } s m args below meth c H locs 0 0 Q (F0 m 13 ls []) := by
    intro fu
    induction fu with
    | zero => intro i4_13 i5_13 i6_13 i7_13 H locs ls ri4_13 ri5_13 ri6_13 ri7_13 v13_0 v13_1 v13_2 v13_3 v13_4 hm; exact absurd hm (Nat.not_lt_zero _)
    | succ fu ih13 =>
      intro i4_13 i5_13 i6_13 i7_13 H locs ls ri4_13 ri5_13 ri6_13 ri7_13 v13_0 v13_1 v13_2 v13_3 v13_4 hm hW hl
      refine x_iload hx hb hl 7 rfl dX10_cloudySets_13 ?_
      refine x_iconst hx hb dX10_cloudySets_15 ?_
      refine x_iload_n hx hb hl 1 rfl dX10_cloudySets_16 rfl ?_
      refine x_shl1 hx hb (by omega) dX10_cloudySets_17 (fun x1 ex1 bx1 => ?_)
      have P17 : x1 = zpw n := ex1
      refine x_icmp_ge (tgt := 60) hx hb ri7_13 (by omega) dX10_cloudySets_18 (by decide) (fun c2 => ?_) (fun c2 => ?_)
      · skip
        refine x_iload_n hx hb hl 3 rfl dX10_cloudySets_60 rfl ?_
        refine x_if_ne (tgt := 67) hx hb rx dX10_cloudySets_61 (by decide) (fun c3 => ?_) (fun c3 => ?_)
        · skip
          refine x_iload_n hx hb hl 3 rfl dX10_cloudySets_67 rfl ?_
          refine x_iconst hx hb dX10_cloudySets_68 ?_
          refine x_icmp_eq (tgt := 77) hx hb rx (by decide) dX10_cloudySets_69 (by decide) (fun c4 => ?_) (fun c4 => ?_)
          · skip
            refine x_iload hx hb hl 5 rfl dX10_cloudySets_77 ?_
            refine lv_goto (tgt := 84) hx hb dX10_cloudySets_79 (by decide) ?_
            rw [eQ]
            exact x_iret hx hb hr hlk hW ri5_13 ⟨rfl, zans_i (i := i7_13) (c := i4_13) (d := i5_13) (e := i6_13) (by omega) v13_2 v13_3 v13_4 (by omega)⟩ dX10_cloudySets_84
          refine x_iload hx hb hl 4 rfl dX10_cloudySets_72 ?_
          refine x_if_ne (tgt := 82) hx hb ri4_13 dX10_cloudySets_74 (by decide) (fun c5 => ?_) (fun c5 => ?_)
          · skip
            refine x_iload hx hb hl 6 rfl dX10_cloudySets_82 ?_
            rw [eQ]
            exact x_iret hx hb hr hlk hW ri6_13 ⟨rfl, zans_i (i := i7_13) (c := i4_13) (d := i5_13) (e := i6_13) (by omega) v13_2 v13_3 v13_4 (by omega)⟩ dX10_cloudySets_84
          refine x_iload hx hb hl 5 rfl dX10_cloudySets_77 ?_
          refine lv_goto (tgt := 84) hx hb dX10_cloudySets_79 (by decide) ?_
          rw [eQ]
          exact x_iret hx hb hr hlk hW ri5_13 ⟨rfl, zans_i (i := i7_13) (c := i4_13) (d := i5_13) (e := i6_13) (by omega) v13_2 v13_3 v13_4 (by omega)⟩ dX10_cloudySets_84
        refine x_iload hx hb hl 4 rfl dX10_cloudySets_64 ?_
        rw [eQ]
        exact x_iret hx hb hr hlk hW ri4_13 ⟨rfl, zans_i (i := i7_13) (c := i4_13) (d := i5_13) (e := i6_13) (by omega) v13_2 v13_3 v13_4 (by omega)⟩ dX10_cloudySets_66
      refine x_aload_n hx hb hl 0 rfl dX10_cloudySets_21 rfl ?_
      refine x_iload hx hb hl 7 rfl dX10_cloudySets_22 ?_
      refine x_iload_n hx hb hl 1 rfl dX10_cloudySets_24 rfl ?_
      refine x_goi (x_runV (As := [.int (xJ i7_13), .int (xJ n)]) hx hb hml hown hT hE hW hl.1 (Or.inl (by decide)) (so_0 h0 g _) rfl cf_X10_servedOutside wq1119 wq97 wq1117 (c_X10_servedOutside l D g T h0 s0 hW.2.1 i7_13 ri7_13 n rn (by omega) p0) ⟨rfl, rfl, ⟨by decide, by decide⟩, ⟨by decide, by decide⟩⟩ rfl rfl (Nat.le_of_ble_eq_true rfl) dX10_cloudySets_25) hW (fun x6 s7 H locs rx6 hp8 hW => ?_)
      obtain ⟨es7, hp8⟩ := hp8
      subst es7
      have ghp8 := hp8
      have Z25 := ghp8
      refine x_iload_n hx hb hl 2 rfl dX10_cloudySets_28 rfl ?_
      refine x_icmp_eq (tgt := 35) hx hb rx6 rw dX10_cloudySets_29 (by decide) (fun c9 => ?_) (fun c9 => ?_)
      · skip
        refine x_iload hx hb hl 4 rfl dX10_cloudySets_35 ?_
        refine x_if_ne (tgt := 44) hx hb ri4_13 dX10_cloudySets_37 (by decide) (fun c10 => ?_) (fun c10 => ?_)
        · skip
          refine x_iinc (lv' := [(4, .int (xJ (i4_13 + 1))), (0, .ref (h0 + 0)), (1, .int (xJ n)), (2, .int (xJ w)), (3, .int (xJ x)), (5, .int (xJ i5_13)), (6, .int (xJ i6_13)), (7, .int (xJ i7_13))]) hx hb hl 4 rfl dX10_cloudySets_44 (by decide) rfl (fun ls hl => ?_)
          refine x_iload hx hb hl 6 rfl dX10_cloudySets_47 ?_
          refine x_iload hx hb hl 7 rfl dX10_cloudySets_49 ?_
          refine x_zand hx hb dX10_cloudySets_51 (fun x11 ex11 rx11 => ?_)
          have Z51 : x11 = zand i6_13 i7_13 := ex11
          refine lv_istore (lv' := [(6, .int (xJ x11)), (4, .int (xJ (i4_13 + 1))), (0, .ref (h0 + 0)), (1, .int (xJ n)), (2, .int (xJ w)), (3, .int (xJ x)), (5, .int (xJ i5_13)), (7, .int (xJ i7_13))]) hx hb dX10_cloudySets_52 hl (by decide) rfl (fun ls hl => ?_)
          refine x_iinc (lv' := [(7, .int (xJ (i7_13 + 1))), (6, .int (xJ x11)), (4, .int (xJ (i4_13 + 1))), (0, .ref (h0 + 0)), (1, .int (xJ n)), (2, .int (xJ w)), (3, .int (xJ x)), (5, .int (xJ i5_13))]) hx hb hl 7 rfl dX10_cloudySets_54 (by decide) rfl (fun ls hl => ?_)
          refine lv_goto (tgt := 13) hx hb dX10_cloudySets_57 (by decide) ?_
          exact ih13 (i4_13 + 1) i5_13 x11 (i7_13 + 1) H locs ls (by omega) ri5_13 rx11 (by omega) (by omega) (by omega) (by first | (have z9 := zcs_n (f := s0 2) (n := n) (w := w) (a0 := -1) (i := i7_13) (by omega) (by omega); omega) | (have z9 := zcs_y (f := s0 2) (n := n) (w := w) (a0 := -1) (i := i7_13) (by omega) (by omega); omega)) (by first | (have z9 := zcs_n (f := s0 2) (n := n) (w := w) (a0 := -1) (i := i7_13) (by omega) (by omega); omega) | (have z9 := zcs_y (f := s0 2) (n := n) (w := w) (a0 := -1) (i := i7_13) (by omega) (by omega); omega)) (by first | (have z9 := zcs_n (f := s0 2) (n := n) (w := w) (a0 := -1) (i := i7_13) (by omega) (by omega); omega) | (have z9 := zcs_y (f := s0 2) (n := n) (w := w) (a0 := -1) (i := i7_13) (by omega) (by omega); rw [z9.2.2.2, ← v13_4]; exact Z51)) (by omega) hW (lv_sub hl [3, 4, 5, 6, 2, 7, 1, 0] rfl)
        refine x_iload hx hb hl 7 rfl dX10_cloudySets_40 ?_
        refine lv_istore (lv' := [(5, .int (xJ i7_13)), (0, .ref (h0 + 0)), (1, .int (xJ n)), (2, .int (xJ w)), (3, .int (xJ x)), (4, .int (xJ i4_13)), (6, .int (xJ i6_13)), (7, .int (xJ i7_13))]) hx hb dX10_cloudySets_42 hl (by decide) rfl (fun ls hl => ?_)
        refine x_iinc (lv' := [(4, .int (xJ (i4_13 + 1))), (5, .int (xJ i7_13)), (0, .ref (h0 + 0)), (1, .int (xJ n)), (2, .int (xJ w)), (3, .int (xJ x)), (6, .int (xJ i6_13)), (7, .int (xJ i7_13))]) hx hb hl 5 rfl dX10_cloudySets_44 (by decide) rfl (fun ls hl => ?_)
        refine x_iload hx hb hl 6 rfl dX10_cloudySets_47 ?_
        refine x_iload hx hb hl 7 rfl dX10_cloudySets_49 ?_
        refine x_zand hx hb dX10_cloudySets_51 (fun x12 ex12 rx12 => ?_)
        have Z51 : x12 = zand i6_13 i7_13 := ex12
        refine lv_istore (lv' := [(6, .int (xJ x12)), (4, .int (xJ (i4_13 + 1))), (5, .int (xJ i7_13)), (0, .ref (h0 + 0)), (1, .int (xJ n)), (2, .int (xJ w)), (3, .int (xJ x)), (7, .int (xJ i7_13))]) hx hb dX10_cloudySets_52 hl (by decide) rfl (fun ls hl => ?_)
        refine x_iinc (lv' := [(7, .int (xJ (i7_13 + 1))), (6, .int (xJ x12)), (4, .int (xJ (i4_13 + 1))), (5, .int (xJ i7_13)), (0, .ref (h0 + 0)), (1, .int (xJ n)), (2, .int (xJ w)), (3, .int (xJ x))]) hx hb hl 7 rfl dX10_cloudySets_54 (by decide) rfl (fun ls hl => ?_)
        refine lv_goto (tgt := 13) hx hb dX10_cloudySets_57 (by decide) ?_
        exact ih13 (i4_13 + 1) i7_13 x12 (i7_13 + 1) H locs ls (by omega) ri7_13 rx12 (by omega) (by omega) (by omega) (by first | (have z9 := zcs_n (f := s0 2) (n := n) (w := w) (a0 := -1) (i := i7_13) (by omega) (by omega); omega) | (have z9 := zcs_y (f := s0 2) (n := n) (w := w) (a0 := -1) (i := i7_13) (by omega) (by omega); omega)) (by first | (have z9 := zcs_n (f := s0 2) (n := n) (w := w) (a0 := -1) (i := i7_13) (by omega) (by omega); omega) | (have z9 := zcs_y (f := s0 2) (n := n) (w := w) (a0 := -1) (i := i7_13) (by omega) (by omega); omega)) (by first | (have z9 := zcs_n (f := s0 2) (n := n) (w := w) (a0 := -1) (i := i7_13) (by omega) (by omega); omega) | (have z9 := zcs_y (f := s0 2) (n := n) (w := w) (a0 := -1) (i := i7_13) (by omega) (by omega); rw [z9.2.2.2, ← v13_4]; exact Z51)) (by omega) hW (lv_sub hl [4, 5, 6, 7, 2, 3, 1, 0] rfl)
      refine lv_goto (tgt := 54) hx hb dX10_cloudySets_32 (by decide) ?_
      refine x_iinc (lv' := [(7, .int (xJ (i7_13 + 1))), (0, .ref (h0 + 0)), (1, .int (xJ n)), (2, .int (xJ w)), (3, .int (xJ x)), (4, .int (xJ i4_13)), (5, .int (xJ i5_13)), (6, .int (xJ i6_13))]) hx hb hl 7 rfl dX10_cloudySets_54 (by decide) rfl (fun ls hl => ?_)
      refine lv_goto (tgt := 13) hx hb dX10_cloudySets_57 (by decide) ?_
      exact ih13 i4_13 i5_13 i6_13 (i7_13 + 1) H locs ls ri4_13 ri5_13 ri6_13 (by omega) (by omega) (by omega) (by first | (have z9 := zcs_n (f := s0 2) (n := n) (w := w) (a0 := -1) (i := i7_13) (by omega) (by omega); omega) | (have z9 := zcs_y (f := s0 2) (n := n) (w := w) (a0 := -1) (i := i7_13) (by omega) (by omega); omega)) (by first | (have z9 := zcs_n (f := s0 2) (n := n) (w := w) (a0 := -1) (i := i7_13) (by omega) (by omega); omega) | (have z9 := zcs_y (f := s0 2) (n := n) (w := w) (a0 := -1) (i := i7_13) (by omega) (by omega); omega)) (by first | (have z9 := zcs_n (f := s0 2) (n := n) (w := w) (a0 := -1) (i := i7_13) (by omega) (by omega); omega) | (have z9 := zcs_y (f := s0 2) (n := n) (w := w) (a0 := -1) (i := i7_13) (by omega) (by omega); rw [z9.2.2.2, ← v13_4]; exact Z51)) (by omega) hW (lv_sub hl [1, 2, 3, 4, 5, 6, 7, 0] rfl)
  exact L13 ((1024 - 0 : Int).toNat + 1) 0 (-2) (-1) 0 H locs ls (by decide) (by decide) (by decide) (by decide) (by omega) (by omega) (rfl) (rfl) (rfl) (Nat.lt_succ_self _) hW (lv_sub hl [4, 5, 6, 7, 3, 2, 1, 0] rfl)
set_option maxHeartbeats 4000000 in
set_option maxRecDepth 100000 in
theorem c_X10_areAllPlaces (l : Launch) (D : va_G) (g : xG) (T : Nat × Nat × Nat) (h0 : Nat) (s0 : xS) (hσ : xRR s0) (n : Int) (rn : xR n) (q : Int) (rq : xR q) (hn : 1 ≤ n ∧ n ≤ 8) (hm : 0 ≤ q ∧ q ≤ 12) (p0 : IC s0) : Met l yX10_areAllPlaces (xws yX10_areAllPlaces cX10_areAllPlaces 4 (some .boolean)) { frames := 1, cells := 0, slots := 0, locals := 21 } (xP [.ref (h0 + 0), .int (xJ n), .int (xJ q)] D g T h0 s0) (xQi D g h0 (fun r τ => s0 = τ ∧ (r = 0 ∨ r = 1))) 0 0 (xA h0) := by
  refine x_met hσ (by decide) (Nat.le_of_ble_eq_true rfl) ?_
  intro p e s m args below meth c hx hb hr hml hown hT hlk hnm hE hW ls hl
  have hl : lv_has ls 4 [(0, .ref (h0 + 0)), (1, .int (xJ n)), (2, .int (xJ q))] := hl
  obtain ⟨Q, eQ⟩ : ∃ Q, Q = MQ below (xQi D g h0 (fun r τ => s0 = τ ∧ (r = 0 ∨ r = 1))) args s 0 0 (xA h0) := ⟨_, rfl⟩
  rw [← eQ]
  generalize hHe : ([] : List Loc) = locs at hW ⊢
  obtain ⟨H, eH⟩ : ∃ H, H = s.heap := ⟨_, rfl⟩
  rw [← eH] at hW ⊢
  have k1_1 : s0 1 1 = s0 1 1 := rfl
  refine x_iconst hx hb dX10_areAllPlaces_0 ?_
  refine lv_istore_n (lv' := [(3, .int (xJ 0)), (0, .ref (h0 + 0)), (1, .int (xJ n)), (2, .int (xJ q))]) hx hb dX10_areAllPlaces_1 rfl hl (by decide) rfl (fun ls hl => ?_)
  have L2 : ∀ (fu : Nat) (i3_2 : Int) (H : Heap) (locs : List Loc) (ls : Array Slot), (xR i3_2) → (0 ≤ i3_2) → (2 * q - i3_2).toNat < fu → xW D g h0 s H locs s0 → lv_has ls 4 [(0, .ref (h0 + 0)), (1, .int (xJ n)), (2, .int (xJ q)), (3, .int (xJ i3_2))] → W p l e { frames := 1, cells := 0, slots := 0, locals := 21 } s m args below meth c H locs 0 0 Q (F0 m 2 ls []) := by
    intro fu
    induction fu with
    | zero => intro i3_2 H locs ls ri3_2 v2_0 hm; exact absurd hm (Nat.not_lt_zero _)
    | succ fu ih2 =>
      intro i3_2 H locs ls ri3_2 v2_0 hm hW hl
      refine x_iload_n hx hb hl 3 rfl dX10_areAllPlaces_2 rfl ?_
      refine x_iconst hx hb dX10_areAllPlaces_3 ?_
      refine x_iload_n hx hb hl 2 rfl dX10_areAllPlaces_4 rfl ?_
      refine x_imul hx hb dX10_areAllPlaces_5 ?_
      refine x_icmp_ge (tgt := 35) hx hb ri3_2 (by omega) dX10_areAllPlaces_6 (by decide) (fun c1 => ?_) (fun c1 => ?_)
      · skip
        refine x_iconst hx hb dX10_areAllPlaces_35 ?_
        rw [eQ]
        exact x_zret hx hb hr hlk hW (by omega) ⟨rfl, by omega⟩ dX10_areAllPlaces_36
      refine x_aload_n hx hb hl 0 rfl dX10_areAllPlaces_9 rfl ?_
      refine x_get (j := 0) (v := .ref (h0 + 1)) hx hb hown hT hE hW cls_X10 (Or.inl (by decide)) (so_0 h0 g _) (by decide) rfl wq512 dX10_areAllPlaces_10 ?_
      refine x_iconst hx hb dX10_areAllPlaces_13 ?_
      refine x_iload_n hx hb hl 1 rfl dX10_areAllPlaces_14 rfl ?_
      refine x_imul hx hb dX10_areAllPlaces_15 ?_
      refine x_iconst hx hb dX10_areAllPlaces_16 ?_
      refine x_iadd hx hb dX10_areAllPlaces_17 ?_
      refine x_iload_n hx hb hl 3 rfl dX10_areAllPlaces_18 rfl ?_
      refine x_iadd hx hb dX10_areAllPlaces_19 ?_
      refine x_goi (x_runVN (As := [.int (xJ (((2 * n) + 1) + i3_2))]) hx hb hml hown hT hE hW hl.1 (Or.inl (by decide)) (so_1 h0 g _) rfl cf_X8_byteAt wq1084 wq90 wn1082 (c_X8_byteAt l D g T h0 s0 hW.2.1 (((2 * n) + 1) + i3_2) (by omega) p0) ⟨rfl, rfl, ⟨by decide, by decide⟩, ⟨by decide, by decide⟩⟩ rfl rfl (Nat.le_of_ble_eq_true rfl) dX10_areAllPlaces_20) hW (fun x2 s3 H locs rx2 hp4 hW => ?_)
      obtain ⟨es3, hp4⟩ := hp4
      subst es3
      have ghp4 := hp4
      refine x_iload_n hx hb hl 1 rfl dX10_areAllPlaces_23 rfl ?_
      refine x_icmp_lt (tgt := 29) hx hb rx2 rn dX10_areAllPlaces_24 (by decide) (fun c5 => ?_) (fun c5 => ?_)
      · skip
        refine x_iinc (lv' := [(3, .int (xJ (i3_2 + 1))), (0, .ref (h0 + 0)), (1, .int (xJ n)), (2, .int (xJ q))]) hx hb hl 3 rfl dX10_areAllPlaces_29 (by decide) rfl (fun ls hl => ?_)
        refine lv_goto (tgt := 2) hx hb dX10_areAllPlaces_32 (by decide) ?_
        exact ih2 (i3_2 + 1) H locs ls (by omega) (by omega) (by omega) hW (lv_sub hl [1, 2, 3, 0] rfl)
      refine x_iconst hx hb dX10_areAllPlaces_27 ?_
      rw [eQ]
      exact x_zret hx hb hr hlk hW (by omega) ⟨rfl, by omega⟩ dX10_areAllPlaces_28
  exact L2 ((2 * q - 0 : Int).toNat + 1) 0 H locs ls (by decide) (by omega) (Nat.lt_succ_self _) hW (lv_sub hl [1, 2, 3, 0] rfl)
set_option maxHeartbeats 4000000 in
set_option maxRecDepth 100000 in
theorem c_X10_joinGroups (l : Launch) (D : va_G) (g : xG) (T : Nat × Nat × Nat) (h0 : Nat) (s0 : xS) (hσ : xRR s0) (n : Int) (rn : xR n) (a : Int) (ra : xR a) (b : Int) (rb : xR b) (hn : 1 ≤ n ∧ n ≤ 8) (p0 : IC s0) : Met l yX10_joinGroups (xws yX10_joinGroups cX10_joinGroups 5 none) { frames := 0, cells := 0, slots := 0, locals := 0 } (xP [.ref (h0 + 0), .int (xJ n), .int (xJ a), .int (xJ b)] D g T h0 s0) (xQv D g h0 (fun τ => xFr (fun k => k = 267) s0 τ ∧ (((IC τ) ∧ True) ∧ (True)))) 0 0 (xA h0) := by
  refine x_met hσ (by decide) (Nat.le_of_ble_eq_true rfl) ?_
  intro p e s m args below meth c hx hb hr hml hown hT hlk hnm hE hW ls hl
  have hl : lv_has ls 5 [(0, .ref (h0 + 0)), (1, .int (xJ n)), (2, .int (xJ a)), (3, .int (xJ b))] := hl
  obtain ⟨Q, eQ⟩ : ∃ Q, Q = MQ below (xQv D g h0 (fun τ => xFr (fun k => k = 267) s0 τ ∧ (((IC τ) ∧ True) ∧ (True)))) args s 0 0 (xA h0) := ⟨_, rfl⟩
  rw [← eQ]
  generalize hHe : ([] : List Loc) = locs at hW ⊢
  obtain ⟨H, eH⟩ : ∃ H, H = s.heap := ⟨_, rfl⟩
  rw [← eH] at hW ⊢
  have hF : xFr (fun k => k = 267) s0 s0 := xFr.rf
  have k1_1 : s0 1 1 = s0 1 1 := rfl
  refine x_iconst hx hb dX10_joinGroups_0 ?_
  refine lv_istore (lv' := [(4, .int (xJ 0)), (0, .ref (h0 + 0)), (1, .int (xJ n)), (2, .int (xJ a)), (3, .int (xJ b))]) hx hb dX10_joinGroups_1 hl (by decide) rfl (fun ls hl => ?_)
  have L3 : ∀ (fu : Nat) (i4_3 : Int) (s_3 : xS) (H : Heap) (locs : List Loc) (ls : Array Slot), (xR i4_3) → (xFr (fun k => k = 267) s0 s_3) → (IC s_3) → (s_3 1 1 = s0 1 1) → (0 ≤ i4_3) → (n + 1 - i4_3).toNat < fu → xW D g h0 s H locs s_3 → lv_has ls 5 [(0, .ref (h0 + 0)), (1, .int (xJ n)), (2, .int (xJ a)), (3, .int (xJ b)), (4, .int (xJ i4_3))] → W p l e { frames := 0, cells := 0, slots := 0, locals := 0 } s m args below meth c H locs 0 0 Q (F0 m 3 ls []) := by
    intro fu
    induction fu with
    | zero => intro i4_3 s_3 H locs ls ri4_3 hF_3 q3_0 q3_1 v3_0 hm; exact absurd hm (Nat.not_lt_zero _)
    | succ fu ih3 =>
      intro i4_3 s_3 H locs ls ri4_3 hF_3 q3_0 q3_1 v3_0 hm hW hl
      refine x_iload hx hb hl 4 rfl dX10_joinGroups_3 ?_
      refine x_iload_n hx hb hl 1 rfl dX10_joinGroups_5 rfl ?_
      refine x_icmp_ge (tgt := 34) hx hb ri4_3 rn dX10_joinGroups_6 (by decide) (fun c1 => ?_) (fun c1 => ?_)
      · skip
        rw [eQ]
        exact x_vret hx hb hr hlk hW ⟨hF_3, ⟨q3_0, trivial⟩, trivial⟩ dX10_joinGroups_34
      refine x_aload_n hx hb hl 0 rfl dX10_joinGroups_9 rfl ?_
      refine x_get (j := 10) (v := .ref (h0 + 267)) hx hb hown hT hE hW cls_X10 (Or.inl (by decide)) (so_0 h0 g _) (by decide) rfl wq522 dX10_joinGroups_10 ?_
      refine x_iload hx hb hl 4 rfl dX10_joinGroups_13 ?_
      refine x_iald hx hb hE hW (Or.inl (by decide)) (sa_267 h0 g _) (by omega) (by decide) dX10_joinGroups_15 ?_
      refine x_rd hW (fun x2 ex2 rx2 => ?_)
      refine x_iload_n hx hb hl 3 rfl dX10_joinGroups_16 rfl ?_
      refine x_icmp_ne (tgt := 28) hx hb rx2 rb dX10_joinGroups_17 (by decide) (fun c3 => ?_) (fun c3 => ?_)
      · skip
        refine x_iinc (lv' := [(4, .int (xJ (i4_3 + 1))), (0, .ref (h0 + 0)), (1, .int (xJ n)), (2, .int (xJ a)), (3, .int (xJ b))]) hx hb hl 4 rfl dX10_joinGroups_28 (by decide) rfl (fun ls hl => ?_)
        refine lv_goto (tgt := 3) hx hb dX10_joinGroups_31 (by decide) ?_
        exact ih3 (i4_3 + 1) s_3 H locs ls (by omega) hF_3 q3_0 q3_1 (by omega) (by omega) hW (lv_sub hl [1, 2, 3, 4, 0] rfl)
      refine x_aload_n hx hb hl 0 rfl dX10_joinGroups_20 rfl ?_
      refine x_get (j := 10) (v := .ref (h0 + 267)) hx hb hown hT hE hW cls_X10 (Or.inl (by decide)) (so_0 h0 g _) (by decide) rfl wq522 dX10_joinGroups_21 ?_
      refine x_iload hx hb hl 4 rfl dX10_joinGroups_24 ?_
      refine x_iload_n hx hb hl 2 rfl dX10_joinGroups_26 rfl ?_
      refine x_iast hx hb hE hW (by decide) (fun σ => sa_267 h0 g σ) (by omega) (by decide) ra dX10_joinGroups_27 (fun H locs s4 es4 hW => ?_)
      have q5 : IC s4 := by rw [es4]; exact IC_o (by decide) q3_0
      have q6 : s4 1 1 = s0 1 1 := (show s4 1 1 = s_3 1 1 from by rw [es4, xU_k _ _ _ (by omega)]).trans q3_1
      have hF7 := hF_3.put es4 (by omega)
      refine x_iinc (lv' := [(4, .int (xJ (i4_3 + 1))), (0, .ref (h0 + 0)), (1, .int (xJ n)), (2, .int (xJ a)), (3, .int (xJ b))]) hx hb hl 4 rfl dX10_joinGroups_28 (by decide) rfl (fun ls hl => ?_)
      refine lv_goto (tgt := 3) hx hb dX10_joinGroups_31 (by decide) ?_
      exact ih3 (i4_3 + 1) s4 H locs ls (by omega) hF7 q5 q6 (by omega) (by omega) hW (lv_sub hl [1, 2, 3, 4, 0] rfl)
  exact L3 ((n + 1 - 0 : Int).toNat + 1) 0 s0 H locs ls (by decide) hF p0 k1_1 (by omega) (Nat.lt_succ_self _) hW (lv_sub hl [1, 2, 3, 4, 0] rfl)
set_option maxHeartbeats 4000000 in
set_option maxRecDepth 100000 in
theorem c_X10_longestOfGroup (l : Launch) (D : va_G) (g : xG) (T : Nat × Nat × Nat) (h0 : Nat) (s0 : xS) (hσ : xRR s0) (n : Int) (rn : xR n) (a : Int) (ra : xR a) (hn : 1 ≤ n ∧ n ≤ 8) (p0 : IC s0) : Met l yX10_longestOfGroup (xws yX10_longestOfGroup cX10_longestOfGroup 5 (some .int)) { frames := 1, cells := 0, slots := 0, locals := 21 } (xP [.ref (h0 + 0), .int (xJ n), .int (xJ a)] D g T h0 s0) (xQi D g h0 (fun r τ => s0 = τ ∧ (True))) 0 0 (xA h0) := by
  refine x_met hσ (by decide) (Nat.le_of_ble_eq_true rfl) ?_
  intro p e s m args below meth c hx hb hr hml hown hT hlk hnm hE hW ls hl
  have hl : lv_has ls 5 [(0, .ref (h0 + 0)), (1, .int (xJ n)), (2, .int (xJ a))] := hl
  obtain ⟨Q, eQ⟩ : ∃ Q, Q = MQ below (xQi D g h0 (fun r τ => s0 = τ ∧ (True))) args s 0 0 (xA h0) := ⟨_, rfl⟩
  rw [← eQ]
  generalize hHe : ([] : List Loc) = locs at hW ⊢
  obtain ⟨H, eH⟩ : ∃ H, H = s.heap := ⟨_, rfl⟩
  rw [← eH] at hW ⊢
  have k1_1 : s0 1 1 = s0 1 1 := rfl
  refine x_iconst hx hb dX10_longestOfGroup_0 ?_
  refine lv_istore_n (lv' := [(3, .int (xJ (-1))), (0, .ref (h0 + 0)), (1, .int (xJ n)), (2, .int (xJ a))]) hx hb dX10_longestOfGroup_1 rfl hl (by decide) rfl (fun ls hl => ?_)
  refine x_iconst hx hb dX10_longestOfGroup_2 ?_
  refine lv_istore (lv' := [(4, .int (xJ 0)), (3, .int (xJ (-1))), (0, .ref (h0 + 0)), (1, .int (xJ n)), (2, .int (xJ a))]) hx hb dX10_longestOfGroup_3 hl (by decide) rfl (fun ls hl => ?_)
  have L5 : ∀ (fu : Nat) (i3_5 : Int) (i4_5 : Int) (H : Heap) (locs : List Loc) (ls : Array Slot), (xR i3_5) → (xR i4_5) → (0 ≤ i4_5) → (n + 1 - i4_5).toNat < fu → xW D g h0 s H locs s0 → lv_has ls 5 [(0, .ref (h0 + 0)), (1, .int (xJ n)), (2, .int (xJ a)), (3, .int (xJ i3_5)), (4, .int (xJ i4_5))] → W p l e { frames := 1, cells := 0, slots := 0, locals := 21 } s m args below meth c H locs 0 0 Q (F0 m 5 ls []) := by
    intro fu
    induction fu with
    | zero => intro i3_5 i4_5 H locs ls ri3_5 ri4_5 v5_0 hm; exact absurd hm (Nat.not_lt_zero _)
    | succ fu ih5 =>
      intro i3_5 i4_5 H locs ls ri3_5 ri4_5 v5_0 hm hW hl
      refine x_iload hx hb hl 4 rfl dX10_longestOfGroup_5 ?_
      refine x_iload_n hx hb hl 1 rfl dX10_longestOfGroup_7 rfl ?_
      refine x_icmp_ge (tgt := 62) hx hb ri4_5 rn dX10_longestOfGroup_8 (by decide) (fun c1 => ?_) (fun c1 => ?_)
      · skip
        refine x_iload_n hx hb hl 3 rfl dX10_longestOfGroup_62 rfl ?_
        rw [eQ]
        exact x_iret hx hb hr hlk hW ri3_5 ⟨rfl, trivial⟩ dX10_longestOfGroup_63
      refine x_aload_n hx hb hl 0 rfl dX10_longestOfGroup_11 rfl ?_
      refine x_get (j := 10) (v := .ref (h0 + 267)) hx hb hown hT hE hW cls_X10 (Or.inl (by decide)) (so_0 h0 g _) (by decide) rfl wq522 dX10_longestOfGroup_12 ?_
      refine x_iload hx hb hl 4 rfl dX10_longestOfGroup_15 ?_
      refine x_iald hx hb hE hW (Or.inl (by decide)) (sa_267 h0 g _) (by omega) (by decide) dX10_longestOfGroup_17 ?_
      refine x_rd hW (fun x2 ex2 rx2 => ?_)
      refine x_iload_n hx hb hl 2 rfl dX10_longestOfGroup_18 rfl ?_
      refine x_icmp_ne (tgt := 56) hx hb rx2 ra dX10_longestOfGroup_19 (by decide) (fun c3 => ?_) (fun c3 => ?_)
      · skip
        refine x_iinc (lv' := [(4, .int (xJ (i4_5 + 1))), (0, .ref (h0 + 0)), (1, .int (xJ n)), (2, .int (xJ a)), (3, .int (xJ i3_5))]) hx hb hl 4 rfl dX10_longestOfGroup_56 (by decide) rfl (fun ls hl => ?_)
        refine lv_goto (tgt := 5) hx hb dX10_longestOfGroup_59 (by decide) ?_
        exact ih5 i3_5 (i4_5 + 1) H locs ls ri3_5 (by omega) (by omega) (by omega) hW (lv_sub hl [1, 2, 3, 4, 0] rfl)
      refine x_iload_n hx hb hl 3 rfl dX10_longestOfGroup_22 rfl ?_
      refine x_sipush hx hb dX10_longestOfGroup_23 (by decide) ?_
      refine x_aload_n hx hb hl 0 rfl dX10_longestOfGroup_26 rfl ?_
      refine x_get (j := 0) (v := .ref (h0 + 1)) hx hb hown hT hE hW cls_X10 (Or.inl (by decide)) (so_0 h0 g _) (by decide) rfl wq512 dX10_longestOfGroup_27 ?_
      refine x_iconst hx hb dX10_longestOfGroup_30 ?_
      refine x_iload hx hb hl 4 rfl dX10_longestOfGroup_31 ?_
      refine x_imul hx hb dX10_longestOfGroup_33 ?_
      refine x_goi (x_runVN (As := [.int (xJ (2 * i4_5))]) hx hb hml hown hT hE hW hl.1 (Or.inl (by decide)) (so_1 h0 g _) rfl cf_X8_byteAt wq1084 wq90 wn1082 (c_X8_byteAt l D g T h0 s0 hW.2.1 (2 * i4_5) (by omega) p0) ⟨rfl, rfl, ⟨by decide, by decide⟩, ⟨by decide, by decide⟩⟩ rfl rfl (Nat.le_of_ble_eq_true rfl) dX10_longestOfGroup_34) hW (fun x4 s5 H locs rx4 hp6 hW => ?_)
      obtain ⟨es5, hp6⟩ := hp6
      subst es5
      have ghp6 := hp6
      refine x_imul hx hb dX10_longestOfGroup_37 ?_
      refine x_aload_n hx hb hl 0 rfl dX10_longestOfGroup_38 rfl ?_
      refine x_get (j := 0) (v := .ref (h0 + 1)) hx hb hown hT hE hW cls_X10 (Or.inl (by decide)) (so_0 h0 g _) (by decide) rfl wq512 dX10_longestOfGroup_39 ?_
      refine x_iconst hx hb dX10_longestOfGroup_42 ?_
      refine x_iload hx hb hl 4 rfl dX10_longestOfGroup_43 ?_
      refine x_imul hx hb dX10_longestOfGroup_45 ?_
      refine x_iconst hx hb dX10_longestOfGroup_46 ?_
      refine x_iadd hx hb dX10_longestOfGroup_47 ?_
      refine x_goi (x_runVN (As := [.int (xJ ((2 * i4_5) + 1))]) hx hb hml hown hT hE hW hl.1 (Or.inl (by decide)) (so_1 h0 g _) rfl cf_X8_byteAt wq1084 wq90 wn1082 (c_X8_byteAt l D g T h0 s0 hW.2.1 ((2 * i4_5) + 1) (by omega) p0) ⟨rfl, rfl, ⟨by decide, by decide⟩, ⟨by decide, by decide⟩⟩ rfl rfl (Nat.le_of_ble_eq_true rfl) dX10_longestOfGroup_48) hW (fun x7 s8 H locs rx7 hp9 hW => ?_)
      obtain ⟨es8, hp9⟩ := hp9
      subst es8
      have ghp9 := hp9
      refine x_iadd hx hb dX10_longestOfGroup_51 ?_
      refine x_mmax hx hb hml hl.1 hown hT wq1073 wq594 wq180 wq595 ⟨by decide, Nat.le_of_ble_eq_true rfl, by decide, by decide⟩ ri3_5 (by omega) dX10_longestOfGroup_52 ?_
      refine x_nm (fun x10 ex10 => ?_)
      have fx10 : (x10 = i3_5 ∧ ((256 * x4) + x7) ≤ i3_5) ∨ (x10 = ((256 * x4) + x7) ∧ i3_5 ≤ ((256 * x4) + x7)) := by rw [ex10]; split <;> omega
      refine lv_istore_n (lv' := [(3, .int (xJ x10)), (0, .ref (h0 + 0)), (1, .int (xJ n)), (2, .int (xJ a)), (4, .int (xJ i4_5))]) hx hb dX10_longestOfGroup_55 rfl hl (by decide) rfl (fun ls hl => ?_)
      refine x_iinc (lv' := [(4, .int (xJ (i4_5 + 1))), (3, .int (xJ x10)), (0, .ref (h0 + 0)), (1, .int (xJ n)), (2, .int (xJ a))]) hx hb hl 4 rfl dX10_longestOfGroup_56 (by decide) rfl (fun ls hl => ?_)
      refine lv_goto (tgt := 5) hx hb dX10_longestOfGroup_59 (by decide) ?_
      exact ih5 x10 (i4_5 + 1) H locs ls (by omega) (by omega) (by omega) (by omega) hW (lv_sub hl [2, 3, 4, 1, 0] rfl)
  exact L5 ((n + 1 - 0 : Int).toNat + 1) (-1) 0 H locs ls (by decide) (by decide) (by omega) (Nat.lt_succ_self _) hW (lv_sub hl [2, 3, 4, 1, 0] rfl)
set_option maxHeartbeats 4000000 in
set_option maxRecDepth 100000 in
theorem c_X10_groupSentences (l : Launch) (D : va_G) (g : xG) (T : Nat × Nat × Nat) (h0 : Nat) (s0 : xS) (hσ : xRR s0) (n : Int) (rn : xR n) (q : Int) (rq : xR q) (hn : 1 ≤ n ∧ n ≤ 8) (hm : 0 ≤ q ∧ q ≤ 12) (p0 : IC s0) : Met l yX10_groupSentences (xws yX10_groupSentences cX10_groupSentences 6 none) { frames := 1, cells := 0, slots := 0, locals := 24 } (xP [.ref (h0 + 0), .int (xJ n), .int (xJ q)] D g T h0 s0) (xQv D g h0 (fun τ => xFr (fun k => k = 267) s0 τ ∧ (((IC τ) ∧ True) ∧ (True)))) 0 0 (xA h0) := by
  refine x_met hσ (by decide) (Nat.le_of_ble_eq_true rfl) ?_
  intro p e s m args below meth c hx hb hr hml hown hT hlk hnm hE hW ls hl
  have hl : lv_has ls 6 [(0, .ref (h0 + 0)), (1, .int (xJ n)), (2, .int (xJ q))] := hl
  obtain ⟨Q, eQ⟩ : ∃ Q, Q = MQ below (xQv D g h0 (fun τ => xFr (fun k => k = 267) s0 τ ∧ (((IC τ) ∧ True) ∧ (True)))) args s 0 0 (xA h0) := ⟨_, rfl⟩
  rw [← eQ]
  generalize hHe : ([] : List Loc) = locs at hW ⊢
  obtain ⟨H, eH⟩ : ∃ H, H = s.heap := ⟨_, rfl⟩
  rw [← eH] at hW ⊢
  have hF : xFr (fun k => k = 267) s0 s0 := xFr.rf
  have k1_1 : s0 1 1 = s0 1 1 := rfl
  refine x_iconst hx hb dX10_groupSentences_0 ?_
  refine lv_istore_n (lv' := [(3, .int (xJ 0)), (0, .ref (h0 + 0)), (1, .int (xJ n)), (2, .int (xJ q))]) hx hb dX10_groupSentences_1 rfl hl (by decide) rfl (fun ls hl => ?_)
  have L2 : ∀ (fu : Nat) (i3_2 : Int) (s_2 : xS) (H : Heap) (locs : List Loc) (ls : Array Slot), (xR i3_2) → (xFr (fun k => k = 267) s0 s_2) → (IC s_2) → (s_2 1 1 = s0 1 1) → (0 ≤ i3_2) → (n + 1 - i3_2).toNat < fu → xW D g h0 s H locs s_2 → lv_has ls 6 [(0, .ref (h0 + 0)), (1, .int (xJ n)), (2, .int (xJ q)), (3, .int (xJ i3_2))] → W p l e { frames := 1, cells := 0, slots := 0, locals := 24 } s m args below meth c H locs 0 0 Q (F0 m 2 ls []) := by
    intro fu
    induction fu with
    | zero => intro i3_2 s_2 H locs ls ri3_2 hF_2 q2_0 q2_1 v2_0 hm; exact absurd hm (Nat.not_lt_zero _)
    | succ fu ih2 =>
      intro i3_2 s_2 H locs ls ri3_2 hF_2 q2_0 q2_1 v2_0 hm hW hl
      refine x_iload_n hx hb hl 3 rfl dX10_groupSentences_2 rfl ?_
      refine x_iload_n hx hb hl 1 rfl dX10_groupSentences_3 rfl ?_
      refine x_icmp_ge (tgt := 26) hx hb ri3_2 rn dX10_groupSentences_4 (by decide) (fun c1 => ?_) (fun c1 => ?_)
      · skip
        refine x_iconst hx hb dX10_groupSentences_26 ?_
        refine lv_istore_n (lv' := [(3, .int (xJ 0)), (0, .ref (h0 + 0)), (1, .int (xJ n)), (2, .int (xJ q))]) hx hb dX10_groupSentences_27 rfl hl (by decide) rfl (fun ls hl => ?_)
        have L28 : ∀ (fu : Nat) (i3_28 : Int) (s_28 : xS) (H : Heap) (locs : List Loc) (ls : Array Slot), (xR i3_28) → (xFr (fun k => k = 267) s0 s_28) → (IC s_28) → (s_28 1 1 = s0 1 1) → (0 ≤ i3_28) → (q + 1 - i3_28).toNat < fu → xW D g h0 s H locs s_28 → lv_has ls 6 [(0, .ref (h0 + 0)), (1, .int (xJ n)), (2, .int (xJ q)), (3, .int (xJ i3_28))] → W p l e { frames := 1, cells := 0, slots := 0, locals := 24 } s m args below meth c H locs 0 0 Q (F0 m 28 ls []) := by
          intro fu
          induction fu with
          | zero => intro i3_28 s_28 H locs ls ri3_28 hF_28 q28_0 q28_1 v28_0 hm; exact absurd hm (Nat.not_lt_zero _)
          | succ fu ih28 =>
            intro i3_28 s_28 H locs ls ri3_28 hF_28 q28_0 q28_1 v28_0 hm hW hl
            refine x_iload_n hx hb hl 3 rfl dX10_groupSentences_28 rfl ?_
            refine x_iload_n hx hb hl 2 rfl dX10_groupSentences_29 rfl ?_
            refine x_icmp_ge (tgt := 118) hx hb ri3_28 rq dX10_groupSentences_30 (by decide) (fun c2 => ?_) (fun c2 => ?_)
            · skip
              rw [eQ]
              exact x_vret hx hb hr hlk hW ⟨hF_28, ⟨q28_0, trivial⟩, trivial⟩ dX10_groupSentences_118
            refine x_aload_n hx hb hl 0 rfl dX10_groupSentences_33 rfl ?_
            refine x_get (j := 0) (v := .ref (h0 + 1)) hx hb hown hT hE hW cls_X10 (Or.inl (by decide)) (so_0 h0 g _) (by decide) rfl wq512 dX10_groupSentences_34 ?_
            refine x_iconst hx hb dX10_groupSentences_37 ?_
            refine x_iload_n hx hb hl 1 rfl dX10_groupSentences_38 rfl ?_
            refine x_imul hx hb dX10_groupSentences_39 ?_
            refine x_iconst hx hb dX10_groupSentences_40 ?_
            refine x_iadd hx hb dX10_groupSentences_41 ?_
            refine x_iconst hx hb dX10_groupSentences_42 ?_
            refine x_iload_n hx hb hl 3 rfl dX10_groupSentences_43 rfl ?_
            refine x_imul hx hb dX10_groupSentences_44 ?_
            refine x_iadd hx hb dX10_groupSentences_45 ?_
            refine x_goi (x_runVN (As := [.int (xJ (((2 * n) + 1) + (2 * i3_28)))]) hx hb hml hown hT hE hW hl.1 (Or.inl (by decide)) (so_1 h0 g _) rfl cf_X8_byteAt wq1084 wq90 wn1082 (c_X8_byteAt l D g T h0 s_28 hW.2.1 (((2 * n) + 1) + (2 * i3_28)) (by omega) q28_0) ⟨rfl, rfl, ⟨by decide, by decide⟩, ⟨by decide, by decide⟩⟩ rfl rfl (Nat.le_of_ble_eq_true rfl) dX10_groupSentences_46) hW (fun x3 s4 H locs rx3 hp5 hW => ?_)
            obtain ⟨es4, hp5⟩ := hp5
            subst es4
            have ghp5 := hp5
            refine lv_istore (lv' := [(4, .int (xJ x3)), (0, .ref (h0 + 0)), (1, .int (xJ n)), (2, .int (xJ q)), (3, .int (xJ i3_28))]) hx hb dX10_groupSentences_49 hl (by decide) rfl (fun ls hl => ?_)
            refine x_aload_n hx hb hl 1 rfl dX10_groupSentences_51 rfl ?_
            refine x_get (j := 0) (v := .ref (h0 + 1)) hx hb hown hT hE hW cls_X10 (Or.inl (by decide)) (so_0 h0 g _) (by decide) rfl wq512 dX10_groupSentences_52 ?_
            refine x_iconst hx hb dX10_groupSentences_55 ?_
            refine x_iload_n hx hb hl 2 rfl dX10_groupSentences_56 rfl ?_
            refine x_imul hx hb dX10_groupSentences_57 ?_
            refine x_iconst hx hb dX10_groupSentences_58 ?_
            refine x_iadd hx hb dX10_groupSentences_59 ?_
            refine x_iconst hx hb dX10_groupSentences_60 ?_
            refine x_iload_n hx hb hl 4 rfl dX10_groupSentences_61 rfl ?_
            refine x_imul hx hb dX10_groupSentences_62 ?_
            refine x_iadd hx hb dX10_groupSentences_63 ?_
            refine x_goi (x_runVN (As := [.int (xJ (((2 * n) + 2) + (2 * i3_28)))]) hx hb hml hown hT hE hW hl.1 (Or.inl (by decide)) (so_1 h0 g _) rfl cf_X8_byteAt wq1084 wq90 wn1082 (c_X8_byteAt l D g T h0 s_28 hW.2.1 (((2 * n) + 2) + (2 * i3_28)) (by omega) q28_0) ⟨rfl, rfl, ⟨by decide, by decide⟩, ⟨by decide, by decide⟩⟩ rfl rfl (Nat.le_of_ble_eq_true rfl) dX10_groupSentences_64) hW (fun x6 s7 H locs rx6 hp8 hW => ?_)
            obtain ⟨es7, hp8⟩ := hp8
            subst es7
            have ghp8 := hp8
            refine lv_istore (lv' := [(5, .int (xJ x6)), (4, .int (xJ x3)), (0, .ref (h0 + 0)), (1, .int (xJ n)), (2, .int (xJ q)), (3, .int (xJ i3_28))]) hx hb dX10_groupSentences_67 hl (by decide) rfl (fun ls hl => ?_)
            refine x_iload hx hb hl 1 rfl dX10_groupSentences_69 ?_
            refine x_iconst hx hb dX10_groupSentences_71 ?_
            refine x_iload_n hx hb hl 3 rfl dX10_groupSentences_72 rfl ?_
            refine x_iconst hx hb dX10_groupSentences_73 ?_
            refine x_isub hx hb dX10_groupSentences_74 ?_
            refine x_goi (x_runS (As := [.int (xJ x3), .int (xJ 0), .int (xJ (n - 1))]) hx hb hml hown hT hE hW hl.1 cf_X10_isIn wq562 wq561 (c_X10_isIn l D g T h0 s_28 hW.2.1 x3 rx3 0 (by decide) (n - 1) (by omega)) ⟨rfl, rfl, ⟨by decide, by decide⟩, ⟨by decide, by decide⟩⟩ rfl rfl (Nat.le_of_ble_eq_true rfl) dX10_groupSentences_75) hW (fun x9 s10 H locs rx9 hp11 hW => ?_)
            obtain ⟨es10, hp11⟩ := hp11
            subst es10
            have ghp11 := hp11
            refine x_if_eq (tgt := 112) hx hb rx9 dX10_groupSentences_78 (by decide) (fun c12 => ?_) (fun c12 => ?_)
            · skip
              refine x_iinc (lv' := [(3, .int (xJ (i3_28 + 1))), (5, .int (xJ x6)), (4, .int (xJ x3)), (0, .ref (h0 + 0)), (1, .int (xJ n)), (2, .int (xJ q))]) hx hb hl 5 rfl dX10_groupSentences_112 (by decide) rfl (fun ls hl => ?_)
              refine lv_goto (tgt := 28) hx hb dX10_groupSentences_115 (by decide) ?_
              exact ih28 (i3_28 + 1) s_28 H locs ls (by omega) hF_28 q28_0 q28_1 (by omega) (by omega) hW (lv_sub hl [3, 4, 5, 0] rfl)
            refine x_iload hx hb hl 0 rfl dX10_groupSentences_81 ?_
            refine x_iconst hx hb dX10_groupSentences_83 ?_
            refine x_iload_n hx hb hl 3 rfl dX10_groupSentences_84 rfl ?_
            refine x_iconst hx hb dX10_groupSentences_85 ?_
            refine x_isub hx hb dX10_groupSentences_86 ?_
            refine x_goi (x_runS (As := [.int (xJ x6), .int (xJ 0), .int (xJ (n - 1))]) hx hb hml hown hT hE hW hl.1 cf_X10_isIn wq562 wq561 (c_X10_isIn l D g T h0 s_28 hW.2.1 x6 rx6 0 (by decide) (n - 1) (by omega)) ⟨rfl, rfl, ⟨by decide, by decide⟩, ⟨by decide, by decide⟩⟩ rfl rfl (Nat.le_of_ble_eq_true rfl) dX10_groupSentences_87) hW (fun x13 s14 H locs rx13 hp15 hW => ?_)
            obtain ⟨es14, hp15⟩ := hp15
            subst es14
            have ghp15 := hp15
            refine x_if_eq (tgt := 112) hx hb rx13 dX10_groupSentences_90 (by decide) (fun c16 => ?_) (fun c16 => ?_)
            · skip
              refine x_iinc (lv' := [(3, .int (xJ (i3_28 + 1))), (5, .int (xJ x6)), (4, .int (xJ x3)), (0, .ref (h0 + 0)), (1, .int (xJ n)), (2, .int (xJ q))]) hx hb hl 5 rfl dX10_groupSentences_112 (by decide) rfl (fun ls hl => ?_)
              refine lv_goto (tgt := 28) hx hb dX10_groupSentences_115 (by decide) ?_
              exact ih28 (i3_28 + 1) s_28 H locs ls (by omega) hF_28 q28_0 q28_1 (by omega) (by omega) hW (lv_sub hl [3, 4, 5, 0] rfl)
            refine x_aload_n hx hb hl 2 rfl dX10_groupSentences_93 rfl ?_
            refine x_iload_n hx hb hl 3 rfl dX10_groupSentences_94 rfl ?_
            refine x_aload_n hx hb hl 2 rfl dX10_groupSentences_95 rfl ?_
            refine x_get (j := 10) (v := .ref (h0 + 267)) hx hb hown hT hE hW cls_X10 (Or.inl (by decide)) (so_0 h0 g _) (by decide) rfl wq522 dX10_groupSentences_96 ?_
            refine x_iload hx hb hl 1 rfl dX10_groupSentences_99 ?_
            refine x_iald hx hb hE hW (Or.inl (by decide)) (sa_267 h0 g _) (by omega) (by decide) dX10_groupSentences_101 ?_
            refine x_rd hW (fun x17 ex17 rx17 => ?_)
            refine x_aload_n hx hb hl 2 rfl dX10_groupSentences_102 rfl ?_
            refine x_get (j := 10) (v := .ref (h0 + 267)) hx hb hown hT hE hW cls_X10 (Or.inl (by decide)) (so_0 h0 g _) (by decide) rfl wq522 dX10_groupSentences_103 ?_
            refine x_iload hx hb hl 0 rfl dX10_groupSentences_106 ?_
            refine x_iald hx hb hE hW (Or.inl (by decide)) (sa_267 h0 g _) (by omega) (by decide) dX10_groupSentences_108 ?_
            refine x_rd hW (fun x18 ex18 rx18 => ?_)
            refine x_gov (x_runV (As := [.int (xJ n), .int (xJ x17), .int (xJ x18)]) hx hb hml hown hT hE hW hl.1 (Or.inl (by decide)) (so_0 h0 g _) rfl cf_X10_joinGroups wq1139 wq101 wq1137 (c_X10_joinGroups l D g T h0 s_28 hW.2.1 n rn x17 rx17 x18 rx18 (by omega) q28_0) ⟨rfl, rfl, ⟨by decide, by decide⟩, ⟨by decide, by decide⟩⟩ rfl rfl (Nat.le_of_ble_eq_true rfl) dX10_groupSentences_109) hW (fun s20 H locs hp21 hW => ?_)
            obtain ⟨fs20, hp21⟩ := hp21
            have hF22 := hF_28.call fs20 (fun k h => by omega)
            have q23 : s20 1 1 = s0 1 1 := (congrFun (fs20 _ (by omega)) _).trans q28_1
            have ghp21 := hp21.2
            refine x_iinc (lv' := [(3, .int (xJ (i3_28 + 1))), (5, .int (xJ x6)), (4, .int (xJ x3)), (0, .ref (h0 + 0)), (1, .int (xJ n)), (2, .int (xJ q))]) hx hb hl 5 rfl dX10_groupSentences_112 (by decide) rfl (fun ls hl => ?_)
            refine lv_goto (tgt := 28) hx hb dX10_groupSentences_115 (by decide) ?_
            exact ih28 (i3_28 + 1) s20 H locs ls (by omega) hF22 hp21.1.1 q23 (by omega) (by omega) hW (lv_sub hl [3, 4, 5, 0] rfl)
        exact L28 ((q + 1 - 0 : Int).toNat + 1) 0 s_2 H locs ls (by decide) hF_2 q2_0 q2_1 (by omega) (Nat.lt_succ_self _) hW (lv_sub hl [1, 2, 3, 0] rfl)
      refine x_iload_n hx hb hl 3 rfl dX10_groupSentences_7 rfl ?_
      refine x_bipush hx hb dX10_groupSentences_8 (by decide) ?_
      refine x_icmp_ge (tgt := 26) hx hb ri3_2 (by decide) dX10_groupSentences_10 (by decide) (fun c24 => ?_) (fun c24 => ?_)
      · skip
        refine x_iconst hx hb dX10_groupSentences_26 ?_
        refine lv_istore_n (lv' := [(3, .int (xJ 0)), (0, .ref (h0 + 0)), (1, .int (xJ n)), (2, .int (xJ q))]) hx hb dX10_groupSentences_27 rfl hl (by decide) rfl (fun ls hl => ?_)
        have L28 : ∀ (fu : Nat) (i3_28 : Int) (s_28 : xS) (H : Heap) (locs : List Loc) (ls : Array Slot), (xR i3_28) → (xFr (fun k => k = 267) s0 s_28) → (IC s_28) → (s_28 1 1 = s0 1 1) → (0 ≤ i3_28) → (q + 1 - i3_28).toNat < fu → xW D g h0 s H locs s_28 → lv_has ls 6 [(0, .ref (h0 + 0)), (1, .int (xJ n)), (2, .int (xJ q)), (3, .int (xJ i3_28))] → W p l e { frames := 1, cells := 0, slots := 0, locals := 24 } s m args below meth c H locs 0 0 Q (F0 m 28 ls []) := by
          intro fu
          induction fu with
          | zero => intro i3_28 s_28 H locs ls ri3_28 hF_28 q28_0 q28_1 v28_0 hm; exact absurd hm (Nat.not_lt_zero _)
          | succ fu ih28 =>
            intro i3_28 s_28 H locs ls ri3_28 hF_28 q28_0 q28_1 v28_0 hm hW hl
            refine x_iload_n hx hb hl 3 rfl dX10_groupSentences_28 rfl ?_
            refine x_iload_n hx hb hl 2 rfl dX10_groupSentences_29 rfl ?_
            refine x_icmp_ge (tgt := 118) hx hb ri3_28 rq dX10_groupSentences_30 (by decide) (fun c25 => ?_) (fun c25 => ?_)
            · skip
              rw [eQ]
              exact x_vret hx hb hr hlk hW ⟨hF_28, ⟨q28_0, trivial⟩, trivial⟩ dX10_groupSentences_118
            refine x_aload_n hx hb hl 0 rfl dX10_groupSentences_33 rfl ?_
            refine x_get (j := 0) (v := .ref (h0 + 1)) hx hb hown hT hE hW cls_X10 (Or.inl (by decide)) (so_0 h0 g _) (by decide) rfl wq512 dX10_groupSentences_34 ?_
            refine x_iconst hx hb dX10_groupSentences_37 ?_
            refine x_iload_n hx hb hl 1 rfl dX10_groupSentences_38 rfl ?_
            refine x_imul hx hb dX10_groupSentences_39 ?_
            refine x_iconst hx hb dX10_groupSentences_40 ?_
            refine x_iadd hx hb dX10_groupSentences_41 ?_
            refine x_iconst hx hb dX10_groupSentences_42 ?_
            refine x_iload_n hx hb hl 3 rfl dX10_groupSentences_43 rfl ?_
            refine x_imul hx hb dX10_groupSentences_44 ?_
            refine x_iadd hx hb dX10_groupSentences_45 ?_
            refine x_goi (x_runVN (As := [.int (xJ (((2 * n) + 1) + (2 * i3_28)))]) hx hb hml hown hT hE hW hl.1 (Or.inl (by decide)) (so_1 h0 g _) rfl cf_X8_byteAt wq1084 wq90 wn1082 (c_X8_byteAt l D g T h0 s_28 hW.2.1 (((2 * n) + 1) + (2 * i3_28)) (by omega) q28_0) ⟨rfl, rfl, ⟨by decide, by decide⟩, ⟨by decide, by decide⟩⟩ rfl rfl (Nat.le_of_ble_eq_true rfl) dX10_groupSentences_46) hW (fun x26 s27 H locs rx26 hp28 hW => ?_)
            obtain ⟨es27, hp28⟩ := hp28
            subst es27
            have ghp28 := hp28
            refine lv_istore (lv' := [(4, .int (xJ x26)), (0, .ref (h0 + 0)), (1, .int (xJ n)), (2, .int (xJ q)), (3, .int (xJ i3_28))]) hx hb dX10_groupSentences_49 hl (by decide) rfl (fun ls hl => ?_)
            refine x_aload_n hx hb hl 1 rfl dX10_groupSentences_51 rfl ?_
            refine x_get (j := 0) (v := .ref (h0 + 1)) hx hb hown hT hE hW cls_X10 (Or.inl (by decide)) (so_0 h0 g _) (by decide) rfl wq512 dX10_groupSentences_52 ?_
            refine x_iconst hx hb dX10_groupSentences_55 ?_
            refine x_iload_n hx hb hl 2 rfl dX10_groupSentences_56 rfl ?_
            refine x_imul hx hb dX10_groupSentences_57 ?_
            refine x_iconst hx hb dX10_groupSentences_58 ?_
            refine x_iadd hx hb dX10_groupSentences_59 ?_
            refine x_iconst hx hb dX10_groupSentences_60 ?_
            refine x_iload_n hx hb hl 4 rfl dX10_groupSentences_61 rfl ?_
            refine x_imul hx hb dX10_groupSentences_62 ?_
            refine x_iadd hx hb dX10_groupSentences_63 ?_
            refine x_goi (x_runVN (As := [.int (xJ (((2 * n) + 2) + (2 * i3_28)))]) hx hb hml hown hT hE hW hl.1 (Or.inl (by decide)) (so_1 h0 g _) rfl cf_X8_byteAt wq1084 wq90 wn1082 (c_X8_byteAt l D g T h0 s_28 hW.2.1 (((2 * n) + 2) + (2 * i3_28)) (by omega) q28_0) ⟨rfl, rfl, ⟨by decide, by decide⟩, ⟨by decide, by decide⟩⟩ rfl rfl (Nat.le_of_ble_eq_true rfl) dX10_groupSentences_64) hW (fun x29 s30 H locs rx29 hp31 hW => ?_)
            obtain ⟨es30, hp31⟩ := hp31
            subst es30
            have ghp31 := hp31
            refine lv_istore (lv' := [(5, .int (xJ x29)), (4, .int (xJ x26)), (0, .ref (h0 + 0)), (1, .int (xJ n)), (2, .int (xJ q)), (3, .int (xJ i3_28))]) hx hb dX10_groupSentences_67 hl (by decide) rfl (fun ls hl => ?_)
            refine x_iload hx hb hl 1 rfl dX10_groupSentences_69 ?_
            refine x_iconst hx hb dX10_groupSentences_71 ?_
            refine x_iload_n hx hb hl 3 rfl dX10_groupSentences_72 rfl ?_
            refine x_iconst hx hb dX10_groupSentences_73 ?_
            refine x_isub hx hb dX10_groupSentences_74 ?_
            refine x_goi (x_runS (As := [.int (xJ x26), .int (xJ 0), .int (xJ (n - 1))]) hx hb hml hown hT hE hW hl.1 cf_X10_isIn wq562 wq561 (c_X10_isIn l D g T h0 s_28 hW.2.1 x26 rx26 0 (by decide) (n - 1) (by omega)) ⟨rfl, rfl, ⟨by decide, by decide⟩, ⟨by decide, by decide⟩⟩ rfl rfl (Nat.le_of_ble_eq_true rfl) dX10_groupSentences_75) hW (fun x32 s33 H locs rx32 hp34 hW => ?_)
            obtain ⟨es33, hp34⟩ := hp34
            subst es33
            have ghp34 := hp34
            refine x_if_eq (tgt := 112) hx hb rx32 dX10_groupSentences_78 (by decide) (fun c35 => ?_) (fun c35 => ?_)
            · skip
              refine x_iinc (lv' := [(3, .int (xJ (i3_28 + 1))), (5, .int (xJ x29)), (4, .int (xJ x26)), (0, .ref (h0 + 0)), (1, .int (xJ n)), (2, .int (xJ q))]) hx hb hl 5 rfl dX10_groupSentences_112 (by decide) rfl (fun ls hl => ?_)
              refine lv_goto (tgt := 28) hx hb dX10_groupSentences_115 (by decide) ?_
              exact ih28 (i3_28 + 1) s_28 H locs ls (by omega) hF_28 q28_0 q28_1 (by omega) (by omega) hW (lv_sub hl [3, 4, 5, 0] rfl)
            refine x_iload hx hb hl 0 rfl dX10_groupSentences_81 ?_
            refine x_iconst hx hb dX10_groupSentences_83 ?_
            refine x_iload_n hx hb hl 3 rfl dX10_groupSentences_84 rfl ?_
            refine x_iconst hx hb dX10_groupSentences_85 ?_
            refine x_isub hx hb dX10_groupSentences_86 ?_
            refine x_goi (x_runS (As := [.int (xJ x29), .int (xJ 0), .int (xJ (n - 1))]) hx hb hml hown hT hE hW hl.1 cf_X10_isIn wq562 wq561 (c_X10_isIn l D g T h0 s_28 hW.2.1 x29 rx29 0 (by decide) (n - 1) (by omega)) ⟨rfl, rfl, ⟨by decide, by decide⟩, ⟨by decide, by decide⟩⟩ rfl rfl (Nat.le_of_ble_eq_true rfl) dX10_groupSentences_87) hW (fun x36 s37 H locs rx36 hp38 hW => ?_)
            obtain ⟨es37, hp38⟩ := hp38
            subst es37
            have ghp38 := hp38
            refine x_if_eq (tgt := 112) hx hb rx36 dX10_groupSentences_90 (by decide) (fun c39 => ?_) (fun c39 => ?_)
            · skip
              refine x_iinc (lv' := [(3, .int (xJ (i3_28 + 1))), (5, .int (xJ x29)), (4, .int (xJ x26)), (0, .ref (h0 + 0)), (1, .int (xJ n)), (2, .int (xJ q))]) hx hb hl 5 rfl dX10_groupSentences_112 (by decide) rfl (fun ls hl => ?_)
              refine lv_goto (tgt := 28) hx hb dX10_groupSentences_115 (by decide) ?_
              exact ih28 (i3_28 + 1) s_28 H locs ls (by omega) hF_28 q28_0 q28_1 (by omega) (by omega) hW (lv_sub hl [3, 4, 5, 0] rfl)
            refine x_aload_n hx hb hl 2 rfl dX10_groupSentences_93 rfl ?_
            refine x_iload_n hx hb hl 3 rfl dX10_groupSentences_94 rfl ?_
            refine x_aload_n hx hb hl 2 rfl dX10_groupSentences_95 rfl ?_
            refine x_get (j := 10) (v := .ref (h0 + 267)) hx hb hown hT hE hW cls_X10 (Or.inl (by decide)) (so_0 h0 g _) (by decide) rfl wq522 dX10_groupSentences_96 ?_
            refine x_iload hx hb hl 1 rfl dX10_groupSentences_99 ?_
            refine x_iald hx hb hE hW (Or.inl (by decide)) (sa_267 h0 g _) (by omega) (by decide) dX10_groupSentences_101 ?_
            refine x_rd hW (fun x40 ex40 rx40 => ?_)
            refine x_aload_n hx hb hl 2 rfl dX10_groupSentences_102 rfl ?_
            refine x_get (j := 10) (v := .ref (h0 + 267)) hx hb hown hT hE hW cls_X10 (Or.inl (by decide)) (so_0 h0 g _) (by decide) rfl wq522 dX10_groupSentences_103 ?_
            refine x_iload hx hb hl 0 rfl dX10_groupSentences_106 ?_
            refine x_iald hx hb hE hW (Or.inl (by decide)) (sa_267 h0 g _) (by omega) (by decide) dX10_groupSentences_108 ?_
            refine x_rd hW (fun x41 ex41 rx41 => ?_)
            refine x_gov (x_runV (As := [.int (xJ n), .int (xJ x40), .int (xJ x41)]) hx hb hml hown hT hE hW hl.1 (Or.inl (by decide)) (so_0 h0 g _) rfl cf_X10_joinGroups wq1139 wq101 wq1137 (c_X10_joinGroups l D g T h0 s_28 hW.2.1 n rn x40 rx40 x41 rx41 (by omega) q28_0) ⟨rfl, rfl, ⟨by decide, by decide⟩, ⟨by decide, by decide⟩⟩ rfl rfl (Nat.le_of_ble_eq_true rfl) dX10_groupSentences_109) hW (fun s43 H locs hp44 hW => ?_)
            obtain ⟨fs43, hp44⟩ := hp44
            have hF45 := hF_28.call fs43 (fun k h => by omega)
            have q46 : s43 1 1 = s0 1 1 := (congrFun (fs43 _ (by omega)) _).trans q28_1
            have ghp44 := hp44.2
            refine x_iinc (lv' := [(3, .int (xJ (i3_28 + 1))), (5, .int (xJ x29)), (4, .int (xJ x26)), (0, .ref (h0 + 0)), (1, .int (xJ n)), (2, .int (xJ q))]) hx hb hl 5 rfl dX10_groupSentences_112 (by decide) rfl (fun ls hl => ?_)
            refine lv_goto (tgt := 28) hx hb dX10_groupSentences_115 (by decide) ?_
            exact ih28 (i3_28 + 1) s43 H locs ls (by omega) hF45 hp44.1.1 q46 (by omega) (by omega) hW (lv_sub hl [3, 4, 5, 0] rfl)
        exact L28 ((q + 1 - 0 : Int).toNat + 1) 0 s_2 H locs ls (by decide) hF_2 q2_0 q2_1 (by omega) (Nat.lt_succ_self _) hW (lv_sub hl [1, 2, 3, 0] rfl)
      refine x_aload_n hx hb hl 0 rfl dX10_groupSentences_13 rfl ?_
      refine x_get (j := 10) (v := .ref (h0 + 267)) hx hb hown hT hE hW cls_X10 (Or.inl (by decide)) (so_0 h0 g _) (by decide) rfl wq522 dX10_groupSentences_14 ?_
      refine x_iload_n hx hb hl 3 rfl dX10_groupSentences_17 rfl ?_
      refine x_iload_n hx hb hl 3 rfl dX10_groupSentences_18 rfl ?_
      refine x_iast hx hb hE hW (by decide) (fun σ => sa_267 h0 g σ) (by omega) (by decide) ri3_2 dX10_groupSentences_19 (fun H locs s47 es47 hW => ?_)
      have q48 : IC s47 := by rw [es47]; exact IC_o (by decide) q2_0
      have q49 : s47 1 1 = s0 1 1 := (show s47 1 1 = s_2 1 1 from by rw [es47, xU_k _ _ _ (by omega)]).trans q2_1
      have hF50 := hF_2.put es47 (by omega)
      refine x_iinc (lv' := [(3, .int (xJ (i3_2 + 1))), (0, .ref (h0 + 0)), (1, .int (xJ n)), (2, .int (xJ q))]) hx hb hl 3 rfl dX10_groupSentences_20 (by decide) rfl (fun ls hl => ?_)
      refine lv_goto (tgt := 2) hx hb dX10_groupSentences_23 (by decide) ?_
      exact ih2 (i3_2 + 1) s47 H locs ls (by omega) hF50 q48 q49 (by omega) (by omega) hW (lv_sub hl [1, 2, 3, 0] rfl)
  exact L2 ((n + 1 - 0 : Int).toNat + 1) 0 s0 H locs ls (by decide) hF p0 k1_1 (by omega) (Nat.lt_succ_self _) hW (lv_sub hl [1, 2, 3, 0] rfl)
set_option maxHeartbeats 4000000 in
set_option maxRecDepth 100000 in
theorem c_X10_sentencesTogether (l : Launch) (D : va_G) (g : xG) (T : Nat × Nat × Nat) (h0 : Nat) (s0 : xS) (hσ : xRR s0) (n : Int) (rn : xR n) (q : Int) (rq : xR q) (x : Int) (rx : xR x) (hn : 1 ≤ n ∧ n ≤ 8) (hm : 0 ≤ q ∧ q ≤ 12) (p0 : IC s0) : Met l yX10_sentencesTogether (xws yX10_sentencesTogether cX10_sentencesTogether 9 (some .int)) { frames := 2, cells := 0, slots := 0, locals := 49 } (xP [.ref (h0 + 0), .int (xJ n), .int (xJ q), .int (xJ x)] D g T h0 s0) (xQi D g h0 (fun r τ => xFr (fun k => k = 267) s0 τ ∧ (((IC τ) ∧ True) ∧ (True)))) 0 0 (xA h0) := by
  refine x_met hσ (by decide) (Nat.le_of_ble_eq_true rfl) ?_
  intro p e s m args below meth c hx hb hr hml hown hT hlk hnm hE hW ls hl
  have hl : lv_has ls 9 [(0, .ref (h0 + 0)), (1, .int (xJ n)), (2, .int (xJ q)), (3, .int (xJ x))] := hl
  obtain ⟨Q, eQ⟩ : ∃ Q, Q = MQ below (xQi D g h0 (fun r τ => xFr (fun k => k = 267) s0 τ ∧ (((IC τ) ∧ True) ∧ (True)))) args s 0 0 (xA h0) := ⟨_, rfl⟩
  rw [← eQ]
  generalize hHe : ([] : List Loc) = locs at hW ⊢
  obtain ⟨H, eH⟩ : ∃ H, H = s.heap := ⟨_, rfl⟩
  rw [← eH] at hW ⊢
  have hF : xFr (fun k => k = 267) s0 s0 := xFr.rf
  have k1_1 : s0 1 1 = s0 1 1 := rfl
  refine x_aload_n hx hb hl 0 rfl dX10_sentencesTogether_0 rfl ?_
  refine x_iload_n hx hb hl 1 rfl dX10_sentencesTogether_1 rfl ?_
  refine x_iload_n hx hb hl 2 rfl dX10_sentencesTogether_2 rfl ?_
  refine x_gov (x_runV (As := [.int (xJ n), .int (xJ q)]) hx hb hml hown hT hE hW hl.1 (Or.inl (by decide)) (so_0 h0 g _) rfl cf_X10_groupSentences wq1135 wq100 wq1133 (c_X10_groupSentences l D g T h0 s0 hW.2.1 n rn q rq (by omega) (by omega) p0) ⟨rfl, rfl, ⟨by decide, by decide⟩, ⟨by decide, by decide⟩⟩ rfl rfl (Nat.le_of_ble_eq_true rfl) dX10_sentencesTogether_3) hW (fun s2 H locs hp3 hW => ?_)
  obtain ⟨fs2, hp3⟩ := hp3
  have hF4 := hF.call fs2 (fun k h => by omega)
  have q5 : s2 1 1 = s0 1 1 := (congrFun (fs2 _ (by omega)) _).trans k1_1
  have ghp3 := hp3.2
  refine x_iconst hx hb dX10_sentencesTogether_6 ?_
  refine lv_istore (lv' := [(4, .int (xJ 0)), (0, .ref (h0 + 0)), (1, .int (xJ n)), (2, .int (xJ q)), (3, .int (xJ x))]) hx hb dX10_sentencesTogether_7 hl (by decide) rfl (fun ls hl => ?_)
  refine x_iconst hx hb dX10_sentencesTogether_9 ?_
  refine lv_istore (lv' := [(5, .int (xJ 0)), (4, .int (xJ 0)), (0, .ref (h0 + 0)), (1, .int (xJ n)), (2, .int (xJ q)), (3, .int (xJ x))]) hx hb dX10_sentencesTogether_10 hl (by decide) rfl (fun ls hl => ?_)
  refine x_iconst hx hb dX10_sentencesTogether_12 ?_
  refine lv_istore (lv' := [(6, .int (xJ 0)), (5, .int (xJ 0)), (4, .int (xJ 0)), (0, .ref (h0 + 0)), (1, .int (xJ n)), (2, .int (xJ q)), (3, .int (xJ x))]) hx hb dX10_sentencesTogether_13 hl (by decide) rfl (fun ls hl => ?_)
  refine x_iconst hx hb dX10_sentencesTogether_15 ?_
  refine lv_istore (lv' := [(7, .int (xJ 0)), (6, .int (xJ 0)), (5, .int (xJ 0)), (4, .int (xJ 0)), (0, .ref (h0 + 0)), (1, .int (xJ n)), (2, .int (xJ q)), (3, .int (xJ x))]) hx hb dX10_sentencesTogether_16 hl (by decide) rfl (fun ls hl => ?_)
  have L18 : ∀ (fu : Nat) (i4_18 : Int) (i5_18 : Int) (i6_18 : Int) (i7_18 : Int) (H : Heap) (locs : List Loc) (ls : Array Slot), (xR i4_18) → (xR i5_18) → (xR i6_18) → (xR i7_18) → (0 ≤ i7_18) → (0 ≤ i5_18 ∧ i5_18 ≤ i7_18) → (n + 1 - i7_18).toNat < fu → xW D g h0 s H locs s2 → lv_has ls 9 [(0, .ref (h0 + 0)), (1, .int (xJ n)), (3, .int (xJ x)), (4, .int (xJ i4_18)), (5, .int (xJ i5_18)), (6, .int (xJ i6_18)), (7, .int (xJ i7_18))] → W p l e { frames := 2, cells := 0, slots := 0, locals := 49 } s m args below meth c H locs 0 0 Q (F0 m 18 ls []) := by
    intro fu
    induction fu with
    | zero => intro i4_18 i5_18 i6_18 i7_18 H locs ls ri4_18 ri5_18 ri6_18 ri7_18 v18_0 v18_1 hm; exact absurd hm (Nat.not_lt_zero _)
    | succ fu ih18 =>
      intro i4_18 i5_18 i6_18 i7_18 H locs ls ri4_18 ri5_18 ri6_18 ri7_18 v18_0 v18_1 hm hW hl
      refine x_iload hx hb hl 6 rfl dX10_sentencesTogether_18 ?_
      refine x_iload_n hx hb hl 1 rfl dX10_sentencesTogether_20 rfl ?_
      refine x_icmp_ge (tgt := 64) hx hb ri7_18 rn dX10_sentencesTogether_21 (by decide) (fun c6 => ?_) (fun c6 => ?_)
      · skip
        refine x_iload_n hx hb hl 2 rfl dX10_sentencesTogether_64 rfl ?_
        refine x_if_ne (tgt := 73) hx hb rx dX10_sentencesTogether_65 (by decide) (fun c7 => ?_) (fun c7 => ?_)
        · skip
          refine x_iload_n hx hb hl 2 rfl dX10_sentencesTogether_73 rfl ?_
          refine x_iconst hx hb dX10_sentencesTogether_74 ?_
          refine x_icmp_ne (tgt := 83) hx hb rx (by decide) dX10_sentencesTogether_75 (by decide) (fun c8 => ?_) (fun c8 => ?_)
          · skip
            refine x_iload hx hb hl 5 rfl dX10_sentencesTogether_83 ?_
            rw [eQ]
            exact x_iret hx hb hr hlk hW ri6_18 ⟨hF4, ⟨hp3.1.1, trivial⟩, trivial⟩ dX10_sentencesTogether_85
          refine x_iload hx hb hl 4 rfl dX10_sentencesTogether_78 ?_
          refine lv_goto (tgt := 85) hx hb dX10_sentencesTogether_80 (by decide) ?_
          rw [eQ]
          exact x_iret hx hb hr hlk hW ri5_18 ⟨hF4, ⟨hp3.1.1, trivial⟩, trivial⟩ dX10_sentencesTogether_85
        refine x_iload hx hb hl 3 rfl dX10_sentencesTogether_68 ?_
        refine lv_goto (tgt := 85) hx hb dX10_sentencesTogether_70 (by decide) ?_
        rw [eQ]
        exact x_iret hx hb hr hlk hW ri4_18 ⟨hF4, ⟨hp3.1.1, trivial⟩, trivial⟩ dX10_sentencesTogether_85
      refine x_aload_n hx hb hl 0 rfl dX10_sentencesTogether_24 rfl ?_
      refine x_iload_n hx hb hl 1 rfl dX10_sentencesTogether_25 rfl ?_
      refine x_iload hx hb hl 6 rfl dX10_sentencesTogether_26 ?_
      refine x_goi (x_runV (As := [.int (xJ n), .int (xJ i7_18)]) hx hb hml hown hT hE hW hl.1 (Or.inl (by decide)) (so_0 h0 g _) rfl cf_X10_longestOfGroup wq1143 wq102 wq1141 (c_X10_longestOfGroup l D g T h0 s2 hW.2.1 n rn i7_18 ri7_18 (by omega) hp3.1.1) ⟨rfl, rfl, ⟨by decide, by decide⟩, ⟨by decide, by decide⟩⟩ rfl rfl (Nat.le_of_ble_eq_true rfl) dX10_sentencesTogether_28) hW (fun x9 s10 H locs rx9 hp11 hW => ?_)
      obtain ⟨es10, hp11⟩ := hp11
      subst es10
      have ghp11 := hp11
      refine lv_istore (lv' := [(8, .int (xJ x9)), (0, .ref (h0 + 0)), (1, .int (xJ n)), (3, .int (xJ x)), (4, .int (xJ i4_18)), (5, .int (xJ i5_18)), (6, .int (xJ i6_18)), (7, .int (xJ i7_18))]) hx hb dX10_sentencesTogether_31 hl (by decide) rfl (fun ls hl => ?_)
      refine x_iload hx hb hl 0 rfl dX10_sentencesTogether_33 ?_
      refine x_iconst hx hb dX10_sentencesTogether_35 ?_
      have J58 : ∀ (i4_58 : Int) (i5_58 : Int) (i6_58 : Int) (ls : Array Slot), (xR i4_58) → (xR i5_58) → (xR i6_58) → (0 ≤ i5_58 ∧ i5_58 ≤ i7_18 + 1) → lv_has ls 9 [(0, .ref (h0 + 0)), (1, .int (xJ n)), (3, .int (xJ x)), (4, .int (xJ i4_58)), (5, .int (xJ i5_58)), (6, .int (xJ i6_58)), (7, .int (xJ i7_18))] → W p l e { frames := 2, cells := 0, slots := 0, locals := 49 } s m args below meth c H locs 0 0 Q (F0 m 58 ls []) := by
        intro i4_58 i5_58 i6_58 ls ri4_58 ri5_58 ri6_58 v58_0  hl
        refine x_iinc (lv' := [(7, .int (xJ (i7_18 + 1))), (0, .ref (h0 + 0)), (1, .int (xJ n)), (3, .int (xJ x)), (4, .int (xJ i4_58)), (5, .int (xJ i5_58)), (6, .int (xJ i6_58))]) hx hb hl 6 rfl dX10_sentencesTogether_58 (by decide) rfl (fun ls hl => ?_)
        refine lv_goto (tgt := 18) hx hb dX10_sentencesTogether_61 (by decide) ?_
        exact ih18 i4_58 i5_58 i6_58 (i7_18 + 1) H locs ls ri4_58 ri5_58 ri6_58 (by omega) (by omega) (by omega) (by omega) hW (lv_sub hl [1, 2, 3, 4, 5, 6, 0] rfl)
      refine x_icmp_eq (tgt := 58) hx hb rx9 (by decide) dX10_sentencesTogether_36 (by decide) (fun c12 => ?_) (fun c12 => ?_)
      · skip
        exact J58 i4_18 i5_18 i6_18 ls ri4_18 ri5_18 ri6_18 (by omega)  (lv_sub hl [1, 2, 3, 4, 5, 6, 7] rfl)
      refine x_iinc (lv' := [(5, .int (xJ (i5_18 + 1))), (8, .int (xJ x9)), (0, .ref (h0 + 0)), (1, .int (xJ n)), (3, .int (xJ x)), (4, .int (xJ i4_18)), (6, .int (xJ i6_18)), (7, .int (xJ i7_18))]) hx hb hl 5 rfl dX10_sentencesTogether_39 (by decide) rfl (fun ls hl => ?_)
      refine x_iload hx hb hl 5 rfl dX10_sentencesTogether_42 ?_
      refine x_iload hx hb hl 1 rfl dX10_sentencesTogether_44 ?_
      refine x_iadd hx hb dX10_sentencesTogether_46 ?_
      refine x_any (fun x13 rx13 => ?_)
      refine lv_istore (lv' := [(4, .int (xJ x13)), (5, .int (xJ (i5_18 + 1))), (8, .int (xJ x9)), (0, .ref (h0 + 0)), (1, .int (xJ n)), (3, .int (xJ x)), (6, .int (xJ i6_18)), (7, .int (xJ i7_18))]) hx hb dX10_sentencesTogether_47 hl (by decide) rfl (fun ls hl => ?_)
      refine x_iload hx hb hl 6 rfl dX10_sentencesTogether_49 ?_
      refine x_iload hx hb hl 2 rfl dX10_sentencesTogether_51 ?_
      refine x_mmax hx hb hml hl.1 hown hT wq1073 wq594 wq180 wq595 ⟨by decide, Nat.le_of_ble_eq_true rfl, by decide, by decide⟩ ri6_18 rx9 dX10_sentencesTogether_53 ?_
      refine x_nm (fun x14 ex14 => ?_)
      have fx14 : (x14 = i6_18 ∧ x9 ≤ i6_18) ∨ (x14 = x9 ∧ i6_18 ≤ x9) := by rw [ex14]; split <;> omega
      refine lv_istore (lv' := [(6, .int (xJ x14)), (4, .int (xJ x13)), (5, .int (xJ (i5_18 + 1))), (8, .int (xJ x9)), (0, .ref (h0 + 0)), (1, .int (xJ n)), (3, .int (xJ x)), (7, .int (xJ i7_18))]) hx hb dX10_sentencesTogether_56 hl (by decide) rfl (fun ls hl => ?_)
      exact J58 x13 (i5_18 + 1) x14 ls rx13 (by omega) (by omega) (by omega)  (lv_sub hl [4, 5, 6, 1, 2, 0, 7] rfl)
  exact L18 ((n + 1 - 0 : Int).toNat + 1) 0 0 0 0 H locs ls (by decide) (by decide) (by decide) (by decide) (by omega) (by omega) (Nat.lt_succ_self _) hW (lv_sub hl [4, 5, 7, 3, 2, 1, 0] rfl)
set_option maxHeartbeats 4000000 in
set_option maxRecDepth 100000 in
theorem c_X10_feed (l : Launch) (D : va_G) (g : xG) (T : Nat × Nat × Nat) (h0 : Nat) (s0 : xS) (hσ : xRR s0) (v1 : Int) (rv1 : xR v1) (v2 : Int) (rv2 : xR v2) (v3 : Int) (rv3 : xR v3) (v4 : Int) (rv4 : xR v4) (v5 : Int) (rv5 : xR v5) (p0 : IC s0) : Met l yX10_feed (xws yX10_feed cX10_feed 6 (some .int)) { frames := 1, cells := 0, slots := 0, locals := 22 } (xP [.ref (h0 + 0), .int (xJ v1), .int (xJ v2), .int (xJ v3), .int (xJ v4), .int (xJ v5)] D g T h0 s0) (xQi D g h0 (fun r τ => xFr (fun k => k = 1 ∨ k = 2) s0 τ ∧ (((IC τ) ∧ True) ∧ ((s0 1 1 ≤ 240 ∧ τ 1 1 = s0 1 1 + 20 ∧ r = s0 1 1 + 20 ∧ τ 2 = xfeed (s0 2) (s0 1 1) v1 v2 v3 v4 v5) ∨ (240 < s0 1 1 ∧ τ 1 1 = s0 1 1 ∧ r = -1 ∧ τ 2 = s0 2))))) 0 0 (xA h0) := by
  refine x_met hσ (by decide) (Nat.le_of_ble_eq_true rfl) ?_
  intro p e s m args below meth c hx hb hr hml hown hT hlk hnm hE hW ls hl
  have hl : lv_has ls 6 [(0, .ref (h0 + 0)), (1, .int (xJ v1)), (2, .int (xJ v2)), (3, .int (xJ v3)), (4, .int (xJ v4)), (5, .int (xJ v5))] := hl
  obtain ⟨Q, eQ⟩ : ∃ Q, Q = MQ below (xQi D g h0 (fun r τ => xFr (fun k => k = 1 ∨ k = 2) s0 τ ∧ (((IC τ) ∧ True) ∧ ((s0 1 1 ≤ 240 ∧ τ 1 1 = s0 1 1 + 20 ∧ r = s0 1 1 + 20 ∧ τ 2 = xfeed (s0 2) (s0 1 1) v1 v2 v3 v4 v5) ∨ (240 < s0 1 1 ∧ τ 1 1 = s0 1 1 ∧ r = -1 ∧ τ 2 = s0 2))))) args s 0 0 (xA h0) := ⟨_, rfl⟩
  rw [← eQ]
  generalize hHe : ([] : List Loc) = locs at hW ⊢
  obtain ⟨H, eH⟩ : ∃ H, H = s.heap := ⟨_, rfl⟩
  rw [← eH] at hW ⊢
  have hF : xFr (fun k => k = 1 ∨ k = 2) s0 s0 := xFr.rf
  have k1_1 : s0 1 1 = s0 1 1 := rfl
  refine x_aload_n hx hb hl 0 rfl dX10_feed_0 rfl ?_
  refine x_get (j := 0) (v := .ref (h0 + 1)) hx hb hown hT hE hW cls_X10 (Or.inl (by decide)) (so_0 h0 g _) (by decide) rfl wq512 dX10_feed_1 ?_
  refine x_getN (j := 1) (v := .int (xJ (s0 1 1))) hx hb hown hT hE hW cls_X8 (Or.inl (by decide)) (so_1 h0 g _) (by decide) rfl wn198 dX10_feed_4 ?_
  refine x_rd hW (fun x1 ex1 rx1 => ?_)
  have bx1 : 0 ≤ x1 ∧ x1 ≤ 260 := by rw [ex1]; exact IC.t p0
  have fx1 : x1 = s0 1 1 := ex1.trans k1_1
  refine x_sipush hx hb dX10_feed_7 (by decide) ?_
  refine x_icmp_le (tgt := 15) hx hb rx1 (by decide) dX10_feed_10 (by decide) (fun c2 => ?_) (fun c2 => ?_)
  · skip
    refine x_aload_n hx hb hl 0 rfl dX10_feed_15 rfl ?_
    refine x_get (j := 0) (v := .ref (h0 + 1)) hx hb hown hT hE hW cls_X10 (Or.inl (by decide)) (so_0 h0 g _) (by decide) rfl wq512 dX10_feed_16 ?_
    refine x_iload_n hx hb hl 1 rfl dX10_feed_19 rfl ?_
    refine x_gov (x_runVN (As := [.int (xJ v1)]) hx hb hml hown hT hE hW hl.1 (Or.inl (by decide)) (so_1 h0 g _) rfl cf_X8_putNumber wq555 wq0 wn553 (c_X8_putNumber l D g T h0 s0 hW.2.1 v1 rv1 (s0 1 1) (by omega) p0 k1_1) ⟨rfl, rfl, ⟨by decide, by decide⟩, ⟨by decide, by decide⟩⟩ rfl rfl (Nat.le_of_ble_eq_true rfl) dX10_feed_20) hW (fun s4 H locs hp5 hW => ?_)
    obtain ⟨fs4, hp5⟩ := hp5
    have hF6 := hF.call fs4 (fun k h => by omega)
    have ghp5 := hp5.2
    have B20 := ghp5
    refine x_aload_n hx hb hl 0 rfl dX10_feed_23 rfl ?_
    refine x_get (j := 0) (v := .ref (h0 + 1)) hx hb hown hT hE hW cls_X10 (Or.inl (by decide)) (so_0 h0 g _) (by decide) rfl wq512 dX10_feed_24 ?_
    refine x_iload_n hx hb hl 2 rfl dX10_feed_27 rfl ?_
    refine x_gov (x_runVN (As := [.int (xJ v2)]) hx hb hml hown hT hE hW hl.1 (Or.inl (by decide)) (so_1 h0 g _) rfl cf_X8_putNumber wq555 wq0 wn553 (c_X8_putNumber l D g T h0 s4 hW.2.1 v2 rv2 ((s0 1 1) + 4) (by omega) hp5.1.1 hp5.1.2.1) ⟨rfl, rfl, ⟨by decide, by decide⟩, ⟨by decide, by decide⟩⟩ rfl rfl (Nat.le_of_ble_eq_true rfl) dX10_feed_28) hW (fun s8 H locs hp9 hW => ?_)
    obtain ⟨fs8, hp9⟩ := hp9
    have hF10 := hF6.call fs8 (fun k h => by omega)
    have ghp9 := hp9.2
    have B28 := ghp9
    rw [B20] at B28
    refine x_aload_n hx hb hl 0 rfl dX10_feed_31 rfl ?_
    refine x_get (j := 0) (v := .ref (h0 + 1)) hx hb hown hT hE hW cls_X10 (Or.inl (by decide)) (so_0 h0 g _) (by decide) rfl wq512 dX10_feed_32 ?_
    refine x_iload_n hx hb hl 3 rfl dX10_feed_35 rfl ?_
    refine x_gov (x_runVN (As := [.int (xJ v3)]) hx hb hml hown hT hE hW hl.1 (Or.inl (by decide)) (so_1 h0 g _) rfl cf_X8_putNumber wq555 wq0 wn553 (c_X8_putNumber l D g T h0 s8 hW.2.1 v3 rv3 (((s0 1 1) + 4) + 4) (by omega) hp9.1.1 hp9.1.2.1) ⟨rfl, rfl, ⟨by decide, by decide⟩, ⟨by decide, by decide⟩⟩ rfl rfl (Nat.le_of_ble_eq_true rfl) dX10_feed_36) hW (fun s12 H locs hp13 hW => ?_)
    obtain ⟨fs12, hp13⟩ := hp13
    have hF14 := hF10.call fs12 (fun k h => by omega)
    have ghp13 := hp13.2
    have B36 := ghp13
    rw [B28] at B36
    refine x_aload_n hx hb hl 0 rfl dX10_feed_39 rfl ?_
    refine x_get (j := 0) (v := .ref (h0 + 1)) hx hb hown hT hE hW cls_X10 (Or.inl (by decide)) (so_0 h0 g _) (by decide) rfl wq512 dX10_feed_40 ?_
    refine x_iload hx hb hl 4 rfl dX10_feed_43 ?_
    refine x_gov (x_runVN (As := [.int (xJ v4)]) hx hb hml hown hT hE hW hl.1 (Or.inl (by decide)) (so_1 h0 g _) rfl cf_X8_putNumber wq555 wq0 wn553 (c_X8_putNumber l D g T h0 s12 hW.2.1 v4 rv4 ((((s0 1 1) + 4) + 4) + 4) (by omega) hp13.1.1 hp13.1.2.1) ⟨rfl, rfl, ⟨by decide, by decide⟩, ⟨by decide, by decide⟩⟩ rfl rfl (Nat.le_of_ble_eq_true rfl) dX10_feed_45) hW (fun s16 H locs hp17 hW => ?_)
    obtain ⟨fs16, hp17⟩ := hp17
    have hF18 := hF14.call fs16 (fun k h => by omega)
    have ghp17 := hp17.2
    have B45 := ghp17
    rw [B36] at B45
    refine x_aload_n hx hb hl 0 rfl dX10_feed_48 rfl ?_
    refine x_get (j := 0) (v := .ref (h0 + 1)) hx hb hown hT hE hW cls_X10 (Or.inl (by decide)) (so_0 h0 g _) (by decide) rfl wq512 dX10_feed_49 ?_
    refine x_iload hx hb hl 5 rfl dX10_feed_52 ?_
    refine x_gov (x_runVN (As := [.int (xJ v5)]) hx hb hml hown hT hE hW hl.1 (Or.inl (by decide)) (so_1 h0 g _) rfl cf_X8_putNumber wq555 wq0 wn553 (c_X8_putNumber l D g T h0 s16 hW.2.1 v5 rv5 (((((s0 1 1) + 4) + 4) + 4) + 4) (by omega) hp17.1.1 hp17.1.2.1) ⟨rfl, rfl, ⟨by decide, by decide⟩, ⟨by decide, by decide⟩⟩ rfl rfl (Nat.le_of_ble_eq_true rfl) dX10_feed_54) hW (fun s20 H locs hp21 hW => ?_)
    obtain ⟨fs20, hp21⟩ := hp21
    have hF22 := hF18.call fs20 (fun k h => by omega)
    have ghp21 := hp21.2
    have B54 := ghp21
    rw [B45] at B54
    refine x_aload_n hx hb hl 0 rfl dX10_feed_57 rfl ?_
    refine x_get (j := 0) (v := .ref (h0 + 1)) hx hb hown hT hE hW cls_X10 (Or.inl (by decide)) (so_0 h0 g _) (by decide) rfl wq512 dX10_feed_58 ?_
    refine x_getN (j := 1) (v := .int (xJ (s20 1 1))) hx hb hown hT hE hW cls_X8 (Or.inl (by decide)) (so_1 h0 g _) (by decide) rfl wn198 dX10_feed_61 ?_
    refine x_rd hW (fun x23 ex23 rx23 => ?_)
    have bx23 : 0 ≤ x23 ∧ x23 ≤ 260 := by rw [ex23]; exact IC.t hp21.1.1
    have fx23 : x23 = ((((((s0 1 1) + 4) + 4) + 4) + 4) + 4) := ex23.trans hp21.1.2.1
    rw [eQ]
    exact x_iret hx hb hr hlk hW rx23 ⟨hF22, ⟨hp21.1.1, trivial⟩, Or.inl ⟨by omega, by omega, by omega, B54⟩⟩ dX10_feed_64
  refine x_iconst hx hb dX10_feed_13 ?_
  rw [eQ]
  exact x_iret hx hb hr hlk hW (by decide) ⟨hF, ⟨p0, trivial⟩, Or.inr ⟨by omega, by omega, by omega, rfl⟩⟩ dX10_feed_14
set_option maxHeartbeats 4000000 in
set_option maxRecDepth 100000 in
theorem c_X10_prints (l : Launch) (D : va_G) (g : xG) (T : Nat × Nat × Nat) (h0 : Nat) (s0 : xS) (hσ : xRR s0) (n : Int) (rn : xR n) (x : Int) (rx : xR x) (p0 : IC s0) : Met l yX10_prints (xws yX10_prints cX10_prints 4 (some .int)) { frames := 5, cells := 0, slots := 0, locals := 117 } (xP [.ref (h0 + 0), .int (xJ n), .int (xJ x)] D g T h0 s0) (xQi D g h0 (fun r τ => xFr (fun k => k = 1 ∨ k = 108) s0 τ ∧ (((IC τ) ∧ True) ∧ (((n < 2 ∨ 20 < n ∨ x < 0 ∨ 1 < x ∨ s0 1 1 < n) ∧ τ 1 1 = s0 1 1 ∧ r = -1) ∨ (¬ (n < 2 ∨ 20 < n ∨ x < 0 ∨ 1 < x ∨ s0 1 1 < n) ∧ τ 1 1 = 0))))) 0 0 (xA h0) := by
  refine x_met hσ (by decide) (Nat.le_of_ble_eq_true rfl) ?_
  intro p e s m args below meth c hx hb hr hml hown hT hlk hnm hE hW ls hl
  have hl : lv_has ls 4 [(0, .ref (h0 + 0)), (1, .int (xJ n)), (2, .int (xJ x))] := hl
  obtain ⟨Q, eQ⟩ : ∃ Q, Q = MQ below (xQi D g h0 (fun r τ => xFr (fun k => k = 1 ∨ k = 108) s0 τ ∧ (((IC τ) ∧ True) ∧ (((n < 2 ∨ 20 < n ∨ x < 0 ∨ 1 < x ∨ s0 1 1 < n) ∧ τ 1 1 = s0 1 1 ∧ r = -1) ∨ (¬ (n < 2 ∨ 20 < n ∨ x < 0 ∨ 1 < x ∨ s0 1 1 < n) ∧ τ 1 1 = 0))))) args s 0 0 (xA h0) := ⟨_, rfl⟩
  rw [← eQ]
  generalize hHe : ([] : List Loc) = locs at hW ⊢
  obtain ⟨H, eH⟩ : ∃ H, H = s.heap := ⟨_, rfl⟩
  rw [← eH] at hW ⊢
  have hF : xFr (fun k => k = 1 ∨ k = 108) s0 s0 := xFr.rf
  have k1_1 : s0 1 1 = s0 1 1 := rfl
  refine x_iload_n hx hb hl 1 rfl dX10_prints_0 rfl ?_
  refine x_iconst hx hb dX10_prints_1 ?_
  refine x_bipush hx hb dX10_prints_2 (by decide) ?_
  refine x_goi (x_runS (As := [.int (xJ n), .int (xJ 2), .int (xJ 20)]) hx hb hml hown hT hE hW hl.1 cf_X10_isIn wq562 wq561 (c_X10_isIn l D g T h0 s0 hW.2.1 n rn 2 (by decide) 20 (by decide)) ⟨rfl, rfl, ⟨by decide, by decide⟩, ⟨by decide, by decide⟩⟩ rfl rfl (Nat.le_of_ble_eq_true rfl) dX10_prints_4) hW (fun x1 s2 H locs rx1 hp3 hW => ?_)
  obtain ⟨es2, hp3⟩ := hp3
  subst es2
  have ghp3 := hp3
  refine x_if_eq (tgt := 30) hx hb rx1 dX10_prints_7 (by decide) (fun c4 => ?_) (fun c4 => ?_)
  · skip
    refine x_iconst hx hb dX10_prints_30 ?_
    rw [eQ]
    exact x_iret hx hb hr hlk hW (by decide) ⟨hF, ⟨p0, trivial⟩, by omega⟩ dX10_prints_31
  refine x_iload_n hx hb hl 2 rfl dX10_prints_10 rfl ?_
  refine x_iconst hx hb dX10_prints_11 ?_
  refine x_iconst hx hb dX10_prints_12 ?_
  refine x_goi (x_runS (As := [.int (xJ x), .int (xJ 0), .int (xJ 1)]) hx hb hml hown hT hE hW hl.1 cf_X10_isIn wq562 wq561 (c_X10_isIn l D g T h0 s0 hW.2.1 x rx 0 (by decide) 1 (by decide)) ⟨rfl, rfl, ⟨by decide, by decide⟩, ⟨by decide, by decide⟩⟩ rfl rfl (Nat.le_of_ble_eq_true rfl) dX10_prints_13) hW (fun x5 s6 H locs rx5 hp7 hW => ?_)
  obtain ⟨es6, hp7⟩ := hp7
  subst es6
  have ghp7 := hp7
  refine x_if_eq (tgt := 30) hx hb rx5 dX10_prints_16 (by decide) (fun c8 => ?_) (fun c8 => ?_)
  · skip
    refine x_iconst hx hb dX10_prints_30 ?_
    rw [eQ]
    exact x_iret hx hb hr hlk hW (by decide) ⟨hF, ⟨p0, trivial⟩, by omega⟩ dX10_prints_31
  refine x_iload_n hx hb hl 1 rfl dX10_prints_19 rfl ?_
  refine x_aload_n hx hb hl 0 rfl dX10_prints_20 rfl ?_
  refine x_get (j := 0) (v := .ref (h0 + 1)) hx hb hown hT hE hW cls_X10 (Or.inl (by decide)) (so_0 h0 g _) (by decide) rfl wq512 dX10_prints_21 ?_
  refine x_getN (j := 1) (v := .int (xJ (s0 1 1))) hx hb hown hT hE hW cls_X8 (Or.inl (by decide)) (so_1 h0 g _) (by decide) rfl wn198 dX10_prints_24 ?_
  refine x_rd hW (fun x9 ex9 rx9 => ?_)
  have bx9 : 0 ≤ x9 ∧ x9 ≤ 260 := by rw [ex9]; exact IC.t p0
  have fx9 : x9 = s0 1 1 := ex9.trans k1_1
  refine x_icmp_le (tgt := 32) hx hb rn rx9 dX10_prints_27 (by decide) (fun c10 => ?_) (fun c10 => ?_)
  · skip
    refine x_iconst hx hb dX10_prints_32 ?_
    refine lv_istore_n (lv' := [(3, .int (xJ (-1))), (0, .ref (h0 + 0)), (1, .int (xJ n)), (2, .int (xJ x))]) hx hb dX10_prints_33 rfl hl (by decide) rfl (fun ls hl => ?_)
    refine x_aload_n hx hb hl 1 rfl dX10_prints_34 rfl ?_
    refine x_iload_n hx hb hl 2 rfl dX10_prints_35 rfl ?_
    refine x_iconst hx hb dX10_prints_36 ?_
    refine x_bipush hx hb dX10_prints_37 (by decide) ?_
    refine x_goi (x_runV (As := [.int (xJ n), .int (xJ 0), .int (xJ 99)]) hx hb hml hown hT hE hW hl.1 (Or.inl (by decide)) (so_0 h0 g _) rfl cf_X10_hasBytesBeyond wq1080 wq89 wq1078 (c_X10_hasBytesBeyond l D g T h0 s0 hW.2.1 n rn 0 (by decide) 99 (by decide) (by omega) p0) ⟨rfl, rfl, ⟨by decide, by decide⟩, ⟨by decide, by decide⟩⟩ rfl rfl (Nat.le_of_ble_eq_true rfl) dX10_prints_39) hW (fun x11 s12 H locs rx11 hp13 hW => ?_)
    obtain ⟨es12, hp13⟩ := hp13
    subst es12
    have ghp13 := hp13
    refine x_if_eq (tgt := 51) hx hb rx11 dX10_prints_42 (by decide) (fun c14 => ?_) (fun c14 => ?_)
    · skip
      refine x_iload_n hx hb hl 3 rfl dX10_prints_51 rfl ?_
      refine x_if_ne (tgt := 64) hx hb rx dX10_prints_52 (by decide) (fun c15 => ?_) (fun c15 => ?_)
      · skip
        refine x_aload_n hx hb hl 1 rfl dX10_prints_64 rfl ?_
        refine x_iload_n hx hb hl 2 rfl dX10_prints_65 rfl ?_
        refine x_goi (x_runV (As := [.int (xJ n)]) hx hb hml hown hT hE hW hl.1 (Or.inl (by decide)) (so_0 h0 g _) rfl cf_X10_printsFailAt wq1104 wq95 wq1102 (c_X10_printsFailAt l D g T h0 s0 hW.2.1 n rn p0) ⟨rfl, rfl, ⟨by decide, by decide⟩, ⟨by decide, by decide⟩⟩ rfl rfl (Nat.le_of_ble_eq_true rfl) dX10_prints_66) hW (fun x16 s17 H locs rx16 hp18 hW => ?_)
        obtain ⟨fs17, hp18⟩ := hp18
        have hF19 := hF.call fs17 (fun k h => by omega)
        have q20 : s17 1 1 = s0 1 1 := (congrFun (fs17 _ (by omega)) _).trans k1_1
        have ghp18 := hp18.2
        refine lv_istore_n (lv' := [(3, .int (xJ x16)), (0, .ref (h0 + 0)), (1, .int (xJ n)), (2, .int (xJ x))]) hx hb dX10_prints_69 rfl hl (by decide) rfl (fun ls hl => ?_)
        refine x_aload_n hx hb hl 1 rfl dX10_prints_70 rfl ?_
        refine x_get (j := 0) (v := .ref (h0 + 1)) hx hb hown hT hE hW cls_X10 (Or.inl (by decide)) (so_0 h0 g _) (by decide) rfl wq512 dX10_prints_71 ?_
        refine x_gov (x_runVN (As := []) hx hb hml hown hT hE hW hl.1 (Or.inl (by decide)) (so_1 h0 g _) rfl cf_X8_drop wq607 wq7 wn605 (c_X8_drop l D g T h0 s17 hW.2.1 hp18.1.1) ⟨rfl, rfl, ⟨by decide, by decide⟩, ⟨by decide, by decide⟩⟩ rfl rfl (Nat.le_of_ble_eq_true rfl) dX10_prints_74) hW (fun s22 H locs hp23 hW => ?_)
        obtain ⟨fs22, hp23⟩ := hp23
        have hF24 := hF19.call fs22 (fun k h => by omega)
        have ghp23 := hp23.2
        refine x_iload_n hx hb hl 0 rfl dX10_prints_77 rfl ?_
        rw [eQ]
        exact x_iret hx hb hr hlk hW rx16 ⟨hF24, ⟨hp23.1.1, trivial⟩, by omega⟩ dX10_prints_78
      refine x_aload_n hx hb hl 1 rfl dX10_prints_55 rfl ?_
      refine x_iload_n hx hb hl 2 rfl dX10_prints_56 rfl ?_
      refine x_goi (x_runV (As := [.int (xJ n)]) hx hb hml hown hT hE hW hl.1 (Or.inl (by decide)) (so_0 h0 g _) rfl cf_X10_printMakers wq1088 wq91 wq1086 (c_X10_printMakers l D g T h0 s0 hW.2.1 n rn p0) ⟨rfl, rfl, ⟨by decide, by decide⟩, ⟨by decide, by decide⟩⟩ rfl rfl (Nat.le_of_ble_eq_true rfl) dX10_prints_57) hW (fun x25 s26 H locs rx25 hp27 hW => ?_)
      obtain ⟨fs26, hp27⟩ := hp27
      have hF28 := hF.call fs26 (fun k h => by omega)
      have q29 : s26 1 1 = s0 1 1 := (congrFun (fs26 _ (by omega)) _).trans k1_1
      have ghp27 := hp27.2
      refine lv_istore_n (lv' := [(3, .int (xJ x25)), (0, .ref (h0 + 0)), (1, .int (xJ n)), (2, .int (xJ x))]) hx hb dX10_prints_60 rfl hl (by decide) rfl (fun ls hl => ?_)
      refine lv_goto (tgt := 70) hx hb dX10_prints_61 (by decide) ?_
      refine x_aload_n hx hb hl 1 rfl dX10_prints_70 rfl ?_
      refine x_get (j := 0) (v := .ref (h0 + 1)) hx hb hown hT hE hW cls_X10 (Or.inl (by decide)) (so_0 h0 g _) (by decide) rfl wq512 dX10_prints_71 ?_
      refine x_gov (x_runVN (As := []) hx hb hml hown hT hE hW hl.1 (Or.inl (by decide)) (so_1 h0 g _) rfl cf_X8_drop wq607 wq7 wn605 (c_X8_drop l D g T h0 s26 hW.2.1 hp27.1.1) ⟨rfl, rfl, ⟨by decide, by decide⟩, ⟨by decide, by decide⟩⟩ rfl rfl (Nat.le_of_ble_eq_true rfl) dX10_prints_74) hW (fun s31 H locs hp32 hW => ?_)
      obtain ⟨fs31, hp32⟩ := hp32
      have hF33 := hF28.call fs31 (fun k h => by omega)
      have ghp32 := hp32.2
      refine x_iload_n hx hb hl 0 rfl dX10_prints_77 rfl ?_
      rw [eQ]
      exact x_iret hx hb hr hlk hW rx25 ⟨hF33, ⟨hp32.1.1, trivial⟩, by omega⟩ dX10_prints_78
    refine x_bipush hx hb dX10_prints_45 (by decide) ?_
    refine lv_istore_n (lv' := [(3, .int (xJ (-3))), (0, .ref (h0 + 0)), (1, .int (xJ n)), (2, .int (xJ x))]) hx hb dX10_prints_47 rfl hl (by decide) rfl (fun ls hl => ?_)
    refine lv_goto (tgt := 70) hx hb dX10_prints_48 (by decide) ?_
    refine x_aload_n hx hb hl 1 rfl dX10_prints_70 rfl ?_
    refine x_get (j := 0) (v := .ref (h0 + 1)) hx hb hown hT hE hW cls_X10 (Or.inl (by decide)) (so_0 h0 g _) (by decide) rfl wq512 dX10_prints_71 ?_
    refine x_gov (x_runVN (As := []) hx hb hml hown hT hE hW hl.1 (Or.inl (by decide)) (so_1 h0 g _) rfl cf_X8_drop wq607 wq7 wn605 (c_X8_drop l D g T h0 s0 hW.2.1 p0) ⟨rfl, rfl, ⟨by decide, by decide⟩, ⟨by decide, by decide⟩⟩ rfl rfl (Nat.le_of_ble_eq_true rfl) dX10_prints_74) hW (fun s35 H locs hp36 hW => ?_)
    obtain ⟨fs35, hp36⟩ := hp36
    have hF37 := hF.call fs35 (fun k h => by omega)
    have ghp36 := hp36.2
    refine x_iload_n hx hb hl 0 rfl dX10_prints_77 rfl ?_
    rw [eQ]
    exact x_iret hx hb hr hlk hW (by decide) ⟨hF37, ⟨hp36.1.1, trivial⟩, by omega⟩ dX10_prints_78
  refine x_iconst hx hb dX10_prints_30 ?_
  rw [eQ]
  exact x_iret hx hb hr hlk hW (by decide) ⟨hF, ⟨p0, trivial⟩, by omega⟩ dX10_prints_31
set_option maxHeartbeats 4000000 in
set_option maxRecDepth 100000 in
theorem c_X10_cloudy (l : Launch) (D : va_G) (g : xG) (T : Nat × Nat × Nat) (h0 : Nat) (s0 : xS) (hσ : xRR s0) (n : Int) (rn : xR n) (w : Int) (rw : xR w) (x : Int) (rx : xR x) (p0 : IC s0) : Met l yX10_cloudy (xws yX10_cloudy cX10_cloudy 5 (some .int)) { frames := 3, cells := 0, slots := 0, locals := 72 } (xP [.ref (h0 + 0), .int (xJ n), .int (xJ w), .int (xJ x)] D g T h0 s0) (xQi D g h0 (fun r τ => xFr (fun k => k = 1) s0 τ ∧ (((IC τ) ∧ True) ∧ (((n < 1 ∨ 10 < n ∨ w < 0 ∨ 90 < w ∨ x < 0 ∨ 2 < x ∨ s0 1 1 < n) ∧ τ 1 1 = s0 1 1 ∧ r = -1) ∨ (¬ (n < 1 ∨ 10 < n ∨ w < 0 ∨ 90 < w ∨ x < 0 ∨ 2 < x ∨ s0 1 1 < n) ∧ τ 1 1 = 0 ∧ ((zbad (s0 2) n 1 9 ∧ r = -3) ∨ (¬ zbad (s0 2) n 1 9 ∧ r = zans (s0 2) n w x (-1)))))))) 0 0 (xA h0) := by
  refine x_met hσ (by decide) (Nat.le_of_ble_eq_true rfl) ?_
  intro p e s m args below meth c hx hb hr hml hown hT hlk hnm hE hW ls hl
  have hl : lv_has ls 5 [(0, .ref (h0 + 0)), (1, .int (xJ n)), (2, .int (xJ w)), (3, .int (xJ x))] := hl
  obtain ⟨Q, eQ⟩ : ∃ Q, Q = MQ below (xQi D g h0 (fun r τ => xFr (fun k => k = 1) s0 τ ∧ (((IC τ) ∧ True) ∧ (((n < 1 ∨ 10 < n ∨ w < 0 ∨ 90 < w ∨ x < 0 ∨ 2 < x ∨ s0 1 1 < n) ∧ τ 1 1 = s0 1 1 ∧ r = -1) ∨ (¬ (n < 1 ∨ 10 < n ∨ w < 0 ∨ 90 < w ∨ x < 0 ∨ 2 < x ∨ s0 1 1 < n) ∧ τ 1 1 = 0 ∧ ((zbad (s0 2) n 1 9 ∧ r = -3) ∨ (¬ zbad (s0 2) n 1 9 ∧ r = zans (s0 2) n w x (-1)))))))) args s 0 0 (xA h0) := ⟨_, rfl⟩
  rw [← eQ]
  generalize hHe : ([] : List Loc) = locs at hW ⊢
  obtain ⟨H, eH⟩ : ∃ H, H = s.heap := ⟨_, rfl⟩
  rw [← eH] at hW ⊢
  have hF : xFr (fun k => k = 1) s0 s0 := xFr.rf
  have k1_1 : s0 1 1 = s0 1 1 := rfl
  refine x_iload_n hx hb hl 1 rfl dX10_cloudy_0 rfl ?_
  refine x_iconst hx hb dX10_cloudy_1 ?_
  refine x_bipush hx hb dX10_cloudy_2 (by decide) ?_
  refine x_goi (x_runS (As := [.int (xJ n), .int (xJ 1), .int (xJ 10)]) hx hb hml hown hT hE hW hl.1 cf_X10_isIn wq562 wq561 (c_X10_isIn l D g T h0 s0 hW.2.1 n rn 1 (by decide) 10 (by decide)) ⟨rfl, rfl, ⟨by decide, by decide⟩, ⟨by decide, by decide⟩⟩ rfl rfl (Nat.le_of_ble_eq_true rfl) dX10_cloudy_4) hW (fun x1 s2 H locs rx1 hp3 hW => ?_)
  obtain ⟨es2, hp3⟩ := hp3
  subst es2
  have ghp3 := hp3
  refine x_if_eq (tgt := 40) hx hb rx1 dX10_cloudy_7 (by decide) (fun c4 => ?_) (fun c4 => ?_)
  · skip
    refine x_iconst hx hb dX10_cloudy_40 ?_
    rw [eQ]
    exact x_iret hx hb hr hlk hW (by decide) ⟨hF, ⟨p0, trivial⟩, Or.inl ⟨by omega, by omega, by omega⟩⟩ dX10_cloudy_41
  refine x_iload_n hx hb hl 2 rfl dX10_cloudy_10 rfl ?_
  refine x_iconst hx hb dX10_cloudy_11 ?_
  refine x_bipush hx hb dX10_cloudy_12 (by decide) ?_
  refine x_goi (x_runS (As := [.int (xJ w), .int (xJ 0), .int (xJ 90)]) hx hb hml hown hT hE hW hl.1 cf_X10_isIn wq562 wq561 (c_X10_isIn l D g T h0 s0 hW.2.1 w rw 0 (by decide) 90 (by decide)) ⟨rfl, rfl, ⟨by decide, by decide⟩, ⟨by decide, by decide⟩⟩ rfl rfl (Nat.le_of_ble_eq_true rfl) dX10_cloudy_14) hW (fun x5 s6 H locs rx5 hp7 hW => ?_)
  obtain ⟨es6, hp7⟩ := hp7
  subst es6
  have ghp7 := hp7
  refine x_if_eq (tgt := 40) hx hb rx5 dX10_cloudy_17 (by decide) (fun c8 => ?_) (fun c8 => ?_)
  · skip
    refine x_iconst hx hb dX10_cloudy_40 ?_
    rw [eQ]
    exact x_iret hx hb hr hlk hW (by decide) ⟨hF, ⟨p0, trivial⟩, Or.inl ⟨by omega, by omega, by omega⟩⟩ dX10_cloudy_41
  refine x_iload_n hx hb hl 3 rfl dX10_cloudy_20 rfl ?_
  refine x_iconst hx hb dX10_cloudy_21 ?_
  refine x_iconst hx hb dX10_cloudy_22 ?_
  refine x_goi (x_runS (As := [.int (xJ x), .int (xJ 0), .int (xJ 2)]) hx hb hml hown hT hE hW hl.1 cf_X10_isIn wq562 wq561 (c_X10_isIn l D g T h0 s0 hW.2.1 x rx 0 (by decide) 2 (by decide)) ⟨rfl, rfl, ⟨by decide, by decide⟩, ⟨by decide, by decide⟩⟩ rfl rfl (Nat.le_of_ble_eq_true rfl) dX10_cloudy_23) hW (fun x9 s10 H locs rx9 hp11 hW => ?_)
  obtain ⟨es10, hp11⟩ := hp11
  subst es10
  have ghp11 := hp11
  refine x_if_eq (tgt := 40) hx hb rx9 dX10_cloudy_26 (by decide) (fun c12 => ?_) (fun c12 => ?_)
  · skip
    refine x_iconst hx hb dX10_cloudy_40 ?_
    rw [eQ]
    exact x_iret hx hb hr hlk hW (by decide) ⟨hF, ⟨p0, trivial⟩, Or.inl ⟨by omega, by omega, by omega⟩⟩ dX10_cloudy_41
  refine x_iload_n hx hb hl 1 rfl dX10_cloudy_29 rfl ?_
  refine x_aload_n hx hb hl 0 rfl dX10_cloudy_30 rfl ?_
  refine x_get (j := 0) (v := .ref (h0 + 1)) hx hb hown hT hE hW cls_X10 (Or.inl (by decide)) (so_0 h0 g _) (by decide) rfl wq512 dX10_cloudy_31 ?_
  refine x_getN (j := 1) (v := .int (xJ (s0 1 1))) hx hb hown hT hE hW cls_X8 (Or.inl (by decide)) (so_1 h0 g _) (by decide) rfl wn198 dX10_cloudy_34 ?_
  refine x_rd hW (fun x13 ex13 rx13 => ?_)
  have bx13 : 0 ≤ x13 ∧ x13 ≤ 260 := by rw [ex13]; exact IC.t p0
  have fx13 : x13 = s0 1 1 := ex13.trans k1_1
  refine x_icmp_le (tgt := 42) hx hb rn rx13 dX10_cloudy_37 (by decide) (fun c14 => ?_) (fun c14 => ?_)
  · skip
    refine x_aload_n hx hb hl 0 rfl dX10_cloudy_42 rfl ?_
    refine x_iload_n hx hb hl 1 rfl dX10_cloudy_43 rfl ?_
    refine x_iconst hx hb dX10_cloudy_44 ?_
    refine x_bipush hx hb dX10_cloudy_45 (by decide) ?_
    refine x_goi (x_runV (As := [.int (xJ n), .int (xJ 1), .int (xJ 9)]) hx hb hml hown hT hE hW hl.1 (Or.inl (by decide)) (so_0 h0 g _) rfl cf_X10_hasBytesBeyond wq1080 wq89 wq1078 (c_X10_hasBytesBeyond l D g T h0 s0 hW.2.1 n rn 1 (by decide) 9 (by decide) (by omega) p0) ⟨rfl, rfl, ⟨by decide, by decide⟩, ⟨by decide, by decide⟩⟩ rfl rfl (Nat.le_of_ble_eq_true rfl) dX10_cloudy_47) hW (fun x15 s16 H locs rx15 hp17 hW => ?_)
    obtain ⟨es16, hp17⟩ := hp17
    subst es16
    have ghp17 := hp17
    have H47 := ghp17
    refine x_if_eq (tgt := 58) hx hb rx15 dX10_cloudy_50 (by decide) (fun c18 => ?_) (fun c18 => ?_)
    · skip
      refine x_aload_n hx hb hl 0 rfl dX10_cloudy_58 rfl ?_
      refine x_iload_n hx hb hl 1 rfl dX10_cloudy_59 rfl ?_
      refine x_iload_n hx hb hl 2 rfl dX10_cloudy_60 rfl ?_
      refine x_iload_n hx hb hl 3 rfl dX10_cloudy_61 rfl ?_
      refine x_goi (x_runV (As := [.int (xJ n), .int (xJ w), .int (xJ x)]) hx hb hml hown hT hE hW hl.1 (Or.inl (by decide)) (so_0 h0 g _) rfl cf_X10_cloudySets wq1115 wq96 wq1113 (c_X10_cloudySets l D g T h0 s0 hW.2.1 n rn w rw x rx (by omega) (by omega) p0) ⟨rfl, rfl, ⟨by decide, by decide⟩, ⟨by decide, by decide⟩⟩ rfl rfl (Nat.le_of_ble_eq_true rfl) dX10_cloudy_62) hW (fun x19 s20 H locs rx19 hp21 hW => ?_)
      obtain ⟨es20, hp21⟩ := hp21
      subst es20
      have ghp21 := hp21
      have H62 := ghp21
      refine lv_istore (lv' := [(4, .int (xJ x19)), (0, .ref (h0 + 0)), (1, .int (xJ n)), (2, .int (xJ w)), (3, .int (xJ x))]) hx hb dX10_cloudy_65 hl (by decide) rfl (fun ls hl => ?_)
      refine x_aload_n hx hb hl 1 rfl dX10_cloudy_67 rfl ?_
      refine x_get (j := 0) (v := .ref (h0 + 1)) hx hb hown hT hE hW cls_X10 (Or.inl (by decide)) (so_0 h0 g _) (by decide) rfl wq512 dX10_cloudy_68 ?_
      refine x_gov (x_runVN (As := []) hx hb hml hown hT hE hW hl.1 (Or.inl (by decide)) (so_1 h0 g _) rfl cf_X8_drop wq607 wq7 wn605 (c_X8_drop l D g T h0 s0 hW.2.1 p0) ⟨rfl, rfl, ⟨by decide, by decide⟩, ⟨by decide, by decide⟩⟩ rfl rfl (Nat.le_of_ble_eq_true rfl) dX10_cloudy_71) hW (fun s23 H locs hp24 hW => ?_)
      obtain ⟨fs23, hp24⟩ := hp24
      have hF25 := hF.call fs23 (fun k h => by omega)
      have ghp24 := hp24.2
      refine x_iload hx hb hl 0 rfl dX10_cloudy_74 ?_
      rw [eQ]
      exact x_iret hx hb hr hlk hW rx19 ⟨hF25, ⟨hp24.1.1, trivial⟩, by first | exact Or.inr ⟨by omega, by omega, Or.inl ⟨(H47.resolve_right (fun q => by omega)).2, by omega⟩⟩ | exact Or.inr ⟨by omega, by omega, Or.inr ⟨(H47.resolve_left (fun q => by omega)).2, H62⟩⟩⟩ dX10_cloudy_76
    refine x_bipush hx hb dX10_cloudy_53 (by decide) ?_
    refine lv_goto (tgt := 65) hx hb dX10_cloudy_55 (by decide) ?_
    refine lv_istore (lv' := [(4, .int (xJ (-3))), (0, .ref (h0 + 0)), (1, .int (xJ n)), (2, .int (xJ w)), (3, .int (xJ x))]) hx hb dX10_cloudy_65 hl (by decide) rfl (fun ls hl => ?_)
    refine x_aload_n hx hb hl 1 rfl dX10_cloudy_67 rfl ?_
    refine x_get (j := 0) (v := .ref (h0 + 1)) hx hb hown hT hE hW cls_X10 (Or.inl (by decide)) (so_0 h0 g _) (by decide) rfl wq512 dX10_cloudy_68 ?_
    refine x_gov (x_runVN (As := []) hx hb hml hown hT hE hW hl.1 (Or.inl (by decide)) (so_1 h0 g _) rfl cf_X8_drop wq607 wq7 wn605 (c_X8_drop l D g T h0 s0 hW.2.1 p0) ⟨rfl, rfl, ⟨by decide, by decide⟩, ⟨by decide, by decide⟩⟩ rfl rfl (Nat.le_of_ble_eq_true rfl) dX10_cloudy_71) hW (fun s27 H locs hp28 hW => ?_)
    obtain ⟨fs27, hp28⟩ := hp28
    have hF29 := hF.call fs27 (fun k h => by omega)
    have ghp28 := hp28.2
    refine x_iload hx hb hl 0 rfl dX10_cloudy_74 ?_
    rw [eQ]
    exact x_iret hx hb hr hlk hW (by decide) ⟨hF29, ⟨hp28.1.1, trivial⟩, by first | exact Or.inr ⟨by omega, by omega, Or.inl ⟨(H47.resolve_right (fun q => by omega)).2, by omega⟩⟩ | exact Or.inr ⟨by omega, by omega, Or.inr ⟨(H47.resolve_left (fun q => by omega)).2, H62⟩⟩⟩ dX10_cloudy_76
  refine x_iconst hx hb dX10_cloudy_40 ?_
  rw [eQ]
  exact x_iret hx hb hr hlk hW (by decide) ⟨hF, ⟨p0, trivial⟩, Or.inl ⟨by omega, by omega, by omega⟩⟩ dX10_cloudy_41
set_option maxHeartbeats 4000000 in
set_option maxRecDepth 100000 in
theorem c_X10_together (l : Launch) (D : va_G) (g : xG) (T : Nat × Nat × Nat) (h0 : Nat) (s0 : xS) (hσ : xRR s0) (n : Int) (rn : xR n) (x : Int) (rx : xR x) (p0 : IC s0) : Met l yX10_together (xws yX10_together cX10_together 5 (some .int)) { frames := 3, cells := 0, slots := 0, locals := 77 } (xP [.ref (h0 + 0), .int (xJ n), .int (xJ x)] D g T h0 s0) (xQi D g h0 (fun r τ => xFr (fun k => k = 1 ∨ k = 267) s0 τ ∧ (((IC τ) ∧ True) ∧ (((n < 1 ∨ 8 < n ∨ x < 0 ∨ 2 < x ∨ s0 1 1 < 2 * n + 1 ∨ s0 1 1 < 2 * n + 1 + 2 * s0 2 (2 * n)) ∧ τ 1 1 = s0 1 1 ∧ r = -1) ∨ (¬ (n < 1 ∨ 8 < n ∨ x < 0 ∨ 2 < x ∨ s0 1 1 < 2 * n + 1 ∨ s0 1 1 < 2 * n + 1 + 2 * s0 2 (2 * n)) ∧ τ 1 1 = 0))))) 0 0 (xA h0) := by
  refine x_met hσ (by decide) (Nat.le_of_ble_eq_true rfl) ?_
  intro p e s m args below meth c hx hb hr hml hown hT hlk hnm hE hW ls hl
  have hl : lv_has ls 5 [(0, .ref (h0 + 0)), (1, .int (xJ n)), (2, .int (xJ x))] := hl
  obtain ⟨Q, eQ⟩ : ∃ Q, Q = MQ below (xQi D g h0 (fun r τ => xFr (fun k => k = 1 ∨ k = 267) s0 τ ∧ (((IC τ) ∧ True) ∧ (((n < 1 ∨ 8 < n ∨ x < 0 ∨ 2 < x ∨ s0 1 1 < 2 * n + 1 ∨ s0 1 1 < 2 * n + 1 + 2 * s0 2 (2 * n)) ∧ τ 1 1 = s0 1 1 ∧ r = -1) ∨ (¬ (n < 1 ∨ 8 < n ∨ x < 0 ∨ 2 < x ∨ s0 1 1 < 2 * n + 1 ∨ s0 1 1 < 2 * n + 1 + 2 * s0 2 (2 * n)) ∧ τ 1 1 = 0))))) args s 0 0 (xA h0) := ⟨_, rfl⟩
  rw [← eQ]
  generalize hHe : ([] : List Loc) = locs at hW ⊢
  obtain ⟨H, eH⟩ : ∃ H, H = s.heap := ⟨_, rfl⟩
  rw [← eH] at hW ⊢
  have hF : xFr (fun k => k = 1 ∨ k = 267) s0 s0 := xFr.rf
  have k1_1 : s0 1 1 = s0 1 1 := rfl
  refine x_iload_n hx hb hl 1 rfl dX10_together_0 rfl ?_
  refine x_iconst hx hb dX10_together_1 ?_
  refine x_bipush hx hb dX10_together_2 (by decide) ?_
  refine x_goi (x_runS (As := [.int (xJ n), .int (xJ 1), .int (xJ 8)]) hx hb hml hown hT hE hW hl.1 cf_X10_isIn wq562 wq561 (c_X10_isIn l D g T h0 s0 hW.2.1 n rn 1 (by decide) 8 (by decide)) ⟨rfl, rfl, ⟨by decide, by decide⟩, ⟨by decide, by decide⟩⟩ rfl rfl (Nat.le_of_ble_eq_true rfl) dX10_together_4) hW (fun x1 s2 H locs rx1 hp3 hW => ?_)
  obtain ⟨es2, hp3⟩ := hp3
  subst es2
  have ghp3 := hp3
  refine x_if_eq (tgt := 34) hx hb rx1 dX10_together_7 (by decide) (fun c4 => ?_) (fun c4 => ?_)
  · skip
    refine x_iconst hx hb dX10_together_34 ?_
    rw [eQ]
    exact x_iret hx hb hr hlk hW (by decide) ⟨hF, ⟨p0, trivial⟩, by omega⟩ dX10_together_35
  refine x_iload_n hx hb hl 2 rfl dX10_together_10 rfl ?_
  refine x_iconst hx hb dX10_together_11 ?_
  refine x_iconst hx hb dX10_together_12 ?_
  refine x_goi (x_runS (As := [.int (xJ x), .int (xJ 0), .int (xJ 2)]) hx hb hml hown hT hE hW hl.1 cf_X10_isIn wq562 wq561 (c_X10_isIn l D g T h0 s0 hW.2.1 x rx 0 (by decide) 2 (by decide)) ⟨rfl, rfl, ⟨by decide, by decide⟩, ⟨by decide, by decide⟩⟩ rfl rfl (Nat.le_of_ble_eq_true rfl) dX10_together_13) hW (fun x5 s6 H locs rx5 hp7 hW => ?_)
  obtain ⟨es6, hp7⟩ := hp7
  subst es6
  have ghp7 := hp7
  refine x_if_eq (tgt := 34) hx hb rx5 dX10_together_16 (by decide) (fun c8 => ?_) (fun c8 => ?_)
  · skip
    refine x_iconst hx hb dX10_together_34 ?_
    rw [eQ]
    exact x_iret hx hb hr hlk hW (by decide) ⟨hF, ⟨p0, trivial⟩, by omega⟩ dX10_together_35
  refine x_aload_n hx hb hl 0 rfl dX10_together_19 rfl ?_
  refine x_get (j := 0) (v := .ref (h0 + 1)) hx hb hown hT hE hW cls_X10 (Or.inl (by decide)) (so_0 h0 g _) (by decide) rfl wq512 dX10_together_20 ?_
  refine x_getN (j := 1) (v := .int (xJ (s0 1 1))) hx hb hown hT hE hW cls_X8 (Or.inl (by decide)) (so_1 h0 g _) (by decide) rfl wn198 dX10_together_23 ?_
  refine x_rd hW (fun x9 ex9 rx9 => ?_)
  have bx9 : 0 ≤ x9 ∧ x9 ≤ 260 := by rw [ex9]; exact IC.t p0
  have fx9 : x9 = s0 1 1 := ex9.trans k1_1
  refine x_iconst hx hb dX10_together_26 ?_
  refine x_iload_n hx hb hl 1 rfl dX10_together_27 rfl ?_
  refine x_imul hx hb dX10_together_28 ?_
  refine x_iconst hx hb dX10_together_29 ?_
  refine x_iadd hx hb dX10_together_30 ?_
  refine x_icmp_ge (tgt := 36) hx hb rx9 (by omega) dX10_together_31 (by decide) (fun c10 => ?_) (fun c10 => ?_)
  · skip
    refine x_aload_n hx hb hl 0 rfl dX10_together_36 rfl ?_
    refine x_get (j := 0) (v := .ref (h0 + 1)) hx hb hown hT hE hW cls_X10 (Or.inl (by decide)) (so_0 h0 g _) (by decide) rfl wq512 dX10_together_37 ?_
    refine x_iconst hx hb dX10_together_40 ?_
    refine x_iload_n hx hb hl 1 rfl dX10_together_41 rfl ?_
    refine x_imul hx hb dX10_together_42 ?_
    refine x_goi (x_runVN (As := [.int (xJ (2 * n))]) hx hb hml hown hT hE hW hl.1 (Or.inl (by decide)) (so_1 h0 g _) rfl cf_X8_byteAt wq1084 wq90 wn1082 (c_X8_byteAt l D g T h0 s0 hW.2.1 (2 * n) (by omega) p0) ⟨rfl, rfl, ⟨by decide, by decide⟩, ⟨by decide, by decide⟩⟩ rfl rfl (Nat.le_of_ble_eq_true rfl) dX10_together_43) hW (fun x11 s12 H locs rx11 hp13 hW => ?_)
    obtain ⟨es12, hp13⟩ := hp13
    subst es12
    have ghp13 := hp13
    refine lv_istore_n (lv' := [(3, .int (xJ x11)), (0, .ref (h0 + 0)), (1, .int (xJ n)), (2, .int (xJ x))]) hx hb dX10_together_46 rfl hl (by decide) rfl (fun ls hl => ?_)
    refine x_aload_n hx hb hl 1 rfl dX10_together_47 rfl ?_
    refine x_get (j := 0) (v := .ref (h0 + 1)) hx hb hown hT hE hW cls_X10 (Or.inl (by decide)) (so_0 h0 g _) (by decide) rfl wq512 dX10_together_48 ?_
    refine x_getN (j := 1) (v := .int (xJ (s0 1 1))) hx hb hown hT hE hW cls_X8 (Or.inl (by decide)) (so_1 h0 g _) (by decide) rfl wn198 dX10_together_51 ?_
    refine x_rd hW (fun x14 ex14 rx14 => ?_)
    have bx14 : 0 ≤ x14 ∧ x14 ≤ 260 := by rw [ex14]; exact IC.t p0
    have fx14 : x14 = s0 1 1 := ex14.trans k1_1
    refine x_iconst hx hb dX10_together_54 ?_
    refine x_iload_n hx hb hl 2 rfl dX10_together_55 rfl ?_
    refine x_imul hx hb dX10_together_56 ?_
    refine x_iconst hx hb dX10_together_57 ?_
    refine x_iadd hx hb dX10_together_58 ?_
    refine x_iconst hx hb dX10_together_59 ?_
    refine x_iload_n hx hb hl 0 rfl dX10_together_60 rfl ?_
    refine x_imul hx hb dX10_together_61 ?_
    refine x_iadd hx hb dX10_together_62 ?_
    refine x_icmp_ge (tgt := 68) hx hb rx14 (by omega) dX10_together_63 (by decide) (fun c15 => ?_) (fun c15 => ?_)
    · skip
      refine x_bipush hx hb dX10_together_68 (by decide) ?_
      refine lv_istore (lv' := [(4, .int (xJ (-2))), (3, .int (xJ x11)), (0, .ref (h0 + 0)), (1, .int (xJ n)), (2, .int (xJ x))]) hx hb dX10_together_70 hl (by decide) rfl (fun ls hl => ?_)
      refine x_iload_n hx hb hl 1 rfl dX10_together_72 rfl ?_
      refine x_bipush hx hb dX10_together_73 (by decide) ?_
      refine x_icmp_gt (tgt := 96) hx hb rx11 (by decide) dX10_together_75 (by decide) (fun c16 => ?_) (fun c16 => ?_)
      · skip
        refine x_aload_n hx hb hl 2 rfl dX10_together_96 rfl ?_
        refine x_get (j := 0) (v := .ref (h0 + 1)) hx hb hown hT hE hW cls_X10 (Or.inl (by decide)) (so_0 h0 g _) (by decide) rfl wq512 dX10_together_97 ?_
        refine x_gov (x_runVN (As := []) hx hb hml hown hT hE hW hl.1 (Or.inl (by decide)) (so_1 h0 g _) rfl cf_X8_drop wq607 wq7 wn605 (c_X8_drop l D g T h0 s0 hW.2.1 p0) ⟨rfl, rfl, ⟨by decide, by decide⟩, ⟨by decide, by decide⟩⟩ rfl rfl (Nat.le_of_ble_eq_true rfl) dX10_together_100) hW (fun s18 H locs hp19 hW => ?_)
        obtain ⟨fs18, hp19⟩ := hp19
        have hF20 := hF.call fs18 (fun k h => by omega)
        have ghp19 := hp19.2
        refine x_iload hx hb hl 0 rfl dX10_together_103 ?_
        rw [eQ]
        exact x_iret hx hb hr hlk hW (by decide) ⟨hF20, ⟨hp19.1.1, trivial⟩, by omega⟩ dX10_together_105
      refine x_aload_n hx hb hl 2 rfl dX10_together_78 rfl ?_
      refine x_iload_n hx hb hl 3 rfl dX10_together_79 rfl ?_
      refine x_iload_n hx hb hl 1 rfl dX10_together_80 rfl ?_
      refine x_goi (x_runV (As := [.int (xJ n), .int (xJ x11)]) hx hb hml hown hT hE hW hl.1 (Or.inl (by decide)) (so_0 h0 g _) rfl cf_X10_areAllPlaces wq1127 wq98 wq1125 (c_X10_areAllPlaces l D g T h0 s0 hW.2.1 n rn x11 rx11 (by omega) (by omega) p0) ⟨rfl, rfl, ⟨by decide, by decide⟩, ⟨by decide, by decide⟩⟩ rfl rfl (Nat.le_of_ble_eq_true rfl) dX10_together_81) hW (fun x21 s22 H locs rx21 hp23 hW => ?_)
      obtain ⟨es22, hp23⟩ := hp23
      subst es22
      have ghp23 := hp23
      refine x_if_eq (tgt := 96) hx hb rx21 dX10_together_84 (by decide) (fun c24 => ?_) (fun c24 => ?_)
      · skip
        refine x_aload_n hx hb hl 2 rfl dX10_together_96 rfl ?_
        refine x_get (j := 0) (v := .ref (h0 + 1)) hx hb hown hT hE hW cls_X10 (Or.inl (by decide)) (so_0 h0 g _) (by decide) rfl wq512 dX10_together_97 ?_
        refine x_gov (x_runVN (As := []) hx hb hml hown hT hE hW hl.1 (Or.inl (by decide)) (so_1 h0 g _) rfl cf_X8_drop wq607 wq7 wn605 (c_X8_drop l D g T h0 s0 hW.2.1 p0) ⟨rfl, rfl, ⟨by decide, by decide⟩, ⟨by decide, by decide⟩⟩ rfl rfl (Nat.le_of_ble_eq_true rfl) dX10_together_100) hW (fun s26 H locs hp27 hW => ?_)
        obtain ⟨fs26, hp27⟩ := hp27
        have hF28 := hF.call fs26 (fun k h => by omega)
        have ghp27 := hp27.2
        refine x_iload hx hb hl 0 rfl dX10_together_103 ?_
        rw [eQ]
        exact x_iret hx hb hr hlk hW (by decide) ⟨hF28, ⟨hp27.1.1, trivial⟩, by omega⟩ dX10_together_105
      refine x_aload_n hx hb hl 2 rfl dX10_together_87 rfl ?_
      refine x_iload_n hx hb hl 3 rfl dX10_together_88 rfl ?_
      refine x_iload_n hx hb hl 1 rfl dX10_together_89 rfl ?_
      refine x_iload_n hx hb hl 4 rfl dX10_together_90 rfl ?_
      refine x_goi (x_runV (As := [.int (xJ n), .int (xJ x11), .int (xJ x)]) hx hb hml hown hT hE hW hl.1 (Or.inl (by decide)) (so_0 h0 g _) rfl cf_X10_sentencesTogether wq1131 wq99 wq1129 (c_X10_sentencesTogether l D g T h0 s0 hW.2.1 n rn x11 rx11 x rx (by omega) (by omega) p0) ⟨rfl, rfl, ⟨by decide, by decide⟩, ⟨by decide, by decide⟩⟩ rfl rfl (Nat.le_of_ble_eq_true rfl) dX10_together_91) hW (fun x29 s30 H locs rx29 hp31 hW => ?_)
      obtain ⟨fs30, hp31⟩ := hp31
      have hF32 := hF.call fs30 (fun k h => by omega)
      have q33 : s30 1 1 = s0 1 1 := (congrFun (fs30 _ (by omega)) _).trans k1_1
      have ghp31 := hp31.2
      refine lv_istore (lv' := [(4, .int (xJ x29)), (3, .int (xJ x11)), (0, .ref (h0 + 0)), (1, .int (xJ n)), (2, .int (xJ x))]) hx hb dX10_together_94 hl (by decide) rfl (fun ls hl => ?_)
      refine x_aload_n hx hb hl 2 rfl dX10_together_96 rfl ?_
      refine x_get (j := 0) (v := .ref (h0 + 1)) hx hb hown hT hE hW cls_X10 (Or.inl (by decide)) (so_0 h0 g _) (by decide) rfl wq512 dX10_together_97 ?_
      refine x_gov (x_runVN (As := []) hx hb hml hown hT hE hW hl.1 (Or.inl (by decide)) (so_1 h0 g _) rfl cf_X8_drop wq607 wq7 wn605 (c_X8_drop l D g T h0 s30 hW.2.1 hp31.1.1) ⟨rfl, rfl, ⟨by decide, by decide⟩, ⟨by decide, by decide⟩⟩ rfl rfl (Nat.le_of_ble_eq_true rfl) dX10_together_100) hW (fun s35 H locs hp36 hW => ?_)
      obtain ⟨fs35, hp36⟩ := hp36
      have hF37 := hF32.call fs35 (fun k h => by omega)
      have ghp36 := hp36.2
      refine x_iload hx hb hl 0 rfl dX10_together_103 ?_
      rw [eQ]
      exact x_iret hx hb hr hlk hW rx29 ⟨hF37, ⟨hp36.1.1, trivial⟩, by omega⟩ dX10_together_105
    refine x_iconst hx hb dX10_together_66 ?_
    rw [eQ]
    exact x_iret hx hb hr hlk hW (by decide) ⟨hF, ⟨p0, trivial⟩, by omega⟩ dX10_together_67
  refine x_iconst hx hb dX10_together_34 ?_
  rw [eQ]
  exact x_iret hx hb hr hlk hW (by decide) ⟨hF, ⟨p0, trivial⟩, by omega⟩ dX10_together_35

theorem cls_X11 : xCls RX11 TX11 61 11 tyX11 := ⟨xin [1246, 1248, 1250, 1252, 1254, 1256, 1258, 1260, 1262, 1264, 1266, 1268, 1270, 1272, 1274, 1276, 1278, 1280, 1282, 1284, 1286, 1288, 1290, 1292, 1294, 1296, 1298, 1300, 1302, 1304, 1306, 1308, 1310, 1312, 1314, 1316, 1318, 1320, 1322, 1324, 1326, 1328, 1330, 1332, 1334, 1336, 1338, 1340, 1342, 1344, 1346, 1348, 1350, 1352, 1354, 1356, 1358, 1360, 1362, 1364, 1366] (by decide +kernel) (by decide +kernel), rfl, tyX11_ok, nmX11⟩
theorem st_X11_8 (h0 : Nat) (σ : xS) (k : Nat) (a : Int) : xobj h0 (xU σ k 8 a) k 11 = (xobj h0 σ k 11).set 8 (.int (xJ a)) := by simp [xobj, xU]
theorem ln_X11_8 (h0 : Nat) (σ : xS) (k : Nat) : 8 < (xobj h0 σ k 11).length := by simp [xobj]
theorem st_X11_41 (h0 : Nat) (σ : xS) (k : Nat) (a : Int) : xobj h0 (xU σ k 41 a) k 11 = (xobj h0 σ k 11).set 41 (.int (xJ a)) := by simp [xobj, xU]
theorem ln_X11_41 (h0 : Nat) (σ : xS) (k : Nat) : 41 < (xobj h0 σ k 11).length := by simp [xobj]
theorem st_X11_42 (h0 : Nat) (σ : xS) (k : Nat) (a : Int) : xobj h0 (xU σ k 42 a) k 11 = (xobj h0 σ k 11).set 42 (.int (xJ a)) := by simp [xobj, xU]
theorem ln_X11_42 (h0 : Nat) (σ : xS) (k : Nat) : 42 < (xobj h0 σ k 11).length := by simp [xobj]
theorem st_X11_43 (h0 : Nat) (σ : xS) (k : Nat) (a : Int) : xobj h0 (xU σ k 43 a) k 11 = (xobj h0 σ k 11).set 43 (.int (xJ a)) := by simp [xobj, xU]
theorem ln_X11_43 (h0 : Nat) (σ : xS) (k : Nat) : 43 < (xobj h0 σ k 11).length := by simp [xobj]
theorem st_X11_44 (h0 : Nat) (σ : xS) (k : Nat) (a : Int) : xobj h0 (xU σ k 44 a) k 11 = (xobj h0 σ k 11).set 44 (.int (xJ a)) := by simp [xobj, xU]
theorem ln_X11_44 (h0 : Nat) (σ : xS) (k : Nat) : 44 < (xobj h0 σ k 11).length := by simp [xobj]
theorem cf_X11_beside : xCF yX11_beside cX11_beside 4 (some .int) 2 := ⟨xq 1555 (by decide +kernel) rfl, xq 179 (by decide +kernel) rfl, by decide +kernel⟩
theorem cf_X11_falls : xCF yX11_falls cX11_falls 6 none 3 := ⟨xq 1601 (by decide +kernel) rfl, xq 179 (by decide +kernel) rfl, by decide +kernel⟩
theorem cf_X11_fallsBehind : xCF yX11_fallsBehind cX11_fallsBehind 7 none 2 := ⟨xq 1613 (by decide +kernel) rfl, xq 179 (by decide +kernel) rfl, by decide +kernel⟩
theorem cf_X11_has : xCF yX11_has cX11_has 2 (some .boolean) 2 := ⟨xq 1416 (by decide +kernel) rfl, xq 179 (by decide +kernel) rfl, by decide +kernel⟩
theorem cf_X11_in : xCF yX11_in cX11_in 3 (some .boolean) 3 := ⟨xq 1384 (by decide +kernel) rfl, xq 179 (by decide +kernel) rfl, by decide +kernel⟩
theorem cf_X11_isFelon : xCF yX11_isFelon cX11_isFelon 2 (some .boolean) 1 := ⟨xq 1424 (by decide +kernel) rfl, xq 179 (by decide +kernel) rfl, by decide +kernel⟩
theorem cf_X11_isFive : xCF yX11_isFive cX11_isFive 2 (some .boolean) 2 := ⟨xq 1413 (by decide +kernel) rfl, xq 179 (by decide +kernel) rfl, by decide +kernel⟩
theorem cf_X11_isGround : xCF yX11_isGround cX11_isGround 2 (some .boolean) 1 := ⟨xq 1420 (by decide +kernel) rfl, xq 179 (by decide +kernel) rfl, by decide +kernel⟩
theorem cf_X11_isJudge : xCF yX11_isJudge cX11_isJudge 2 (some .boolean) 1 := ⟨xq 1410 (by decide +kernel) rfl, xq 179 (by decide +kernel) rfl, by decide +kernel⟩
theorem cf_X11_isOn : xCF yX11_isOn cX11_isOn 2 (some .boolean) 2 := ⟨xq 1431 (by decide +kernel) rfl, xq 179 (by decide +kernel) rfl, by decide +kernel⟩
theorem cf_X11_steps : xCF yX11_steps cX11_steps 4 none 2 := ⟨xq 1552 (by decide +kernel) rfl, xq 179 (by decide +kernel) rfl, by decide +kernel⟩
theorem cf_X11_types : xCF yX11_types cX11_types 3 none 1 := ⟨xq 1377 (by decide +kernel) rfl, xq 179 (by decide +kernel) rfl, by decide +kernel⟩
theorem cf_X11_wayX : xCF yX11_wayX cX11_wayX 1 (some .int) 1 := ⟨xq 1558 (by decide +kernel) rfl, xq 179 (by decide +kernel) rfl, by decide +kernel⟩
theorem cf_X11_wayY : xCF yX11_wayY cX11_wayY 1 (some .int) 1 := ⟨xq 1561 (by decide +kernel) rfl, xq 179 (by decide +kernel) rfl, by decide +kernel⟩
theorem wq104 : Cond.selects yX11_types.cls yX11_types yX11_types ∈ xTB := xq 104 (by decide +kernel) rfl
theorem wq109 : Cond.selects yX11_isJudge.cls yX11_isJudge yX11_isJudge ∈ xTB := xq 109 (by decide +kernel) rfl
theorem wq110 : Cond.selects yX11_isGround.cls yX11_isGround yX11_isGround ∈ xTB := xq 110 (by decide +kernel) rfl
theorem wq111 : Cond.selects yX11_isFelon.cls yX11_isFelon yX11_isFelon ∈ xTB := xq 111 (by decide +kernel) rfl
theorem wq133 : Cond.selects yX11_steps.cls yX11_steps yX11_steps ∈ xTB := xq 133 (by decide +kernel) rfl
theorem wq142 : Cond.selects yX11_falls.cls yX11_falls yX11_falls ∈ xTB := xq 142 (by decide +kernel) rfl
theorem wq145 : Cond.selects yX11_fallsBehind.cls yX11_fallsBehind yX11_fallsBehind ∈ xTB := xq 145 (by decide +kernel) rfl
theorem wq1185 : Cond.fieldLink "ShadowCourtModel" (7) "ShadowCourtModel" "now" "[I" ∈ xTB := xq 1185 (by decide +kernel) rfl
theorem wq1188 : Cond.fieldLink "ShadowCourtModel" (19) "ShadowCourtModel" "kindOf" "[I" ∈ xTB := xq 1188 (by decide +kernel) rfl
theorem wq1189 : Cond.fieldLink "ShadowCourtModel" (22) "ShadowCourtModel" "lampAt" "[I" ∈ xTB := xq 1189 (by decide +kernel) rfl
theorem wq1190 : Cond.fieldLink "ShadowCourtModel" (25) "ShadowCourtModel" "walkMany" "[I" ∈ xTB := xq 1190 (by decide +kernel) rfl
theorem wq1191 : Cond.fieldLink "ShadowCourtModel" (28) "ShadowCourtModel" "walkStep" "[B" ∈ xTB := xq 1191 (by decide +kernel) rfl
theorem wq1192 : Cond.fieldLink "ShadowCourtModel" (32) "ShadowCourtModel" "tape" "[B" ∈ xTB := xq 1192 (by decide +kernel) rfl
theorem wq1193 : Cond.fieldLink "ShadowCourtModel" (164) "ShadowCourtModel" "taped" "I" ∈ xTB := xq 1193 (by decide +kernel) rfl
theorem wq1224 : Cond.fieldLink "ShadowCourtModel" (86) "ShadowCourtModel" "facts" "[I" ∈ xTB := xq 1224 (by decide +kernel) rfl
theorem wq1225 : Cond.fieldLink "ShadowCourtModel" (89) "ShadowCourtModel" "shades" "[I" ∈ xTB := xq 1225 (by decide +kernel) rfl
theorem wq1226 : Cond.fieldLink "ShadowCourtModel" (371) "ShadowCourtModel" "servedNow" "I" ∈ xTB := xq 1226 (by decide +kernel) rfl
theorem wq1227 : Cond.fieldLink "ShadowCourtModel" (365) "ShadowCourtModel" "awayNow" "I" ∈ xTB := xq 1227 (by decide +kernel) rfl
theorem wq1228 : Cond.fieldLink "ShadowCourtModel" (378) "ShadowCourtModel" "cloudyNow" "I" ∈ xTB := xq 1228 (by decide +kernel) rfl
theorem wq1229 : Cond.fieldLink "ShadowCourtModel" (368) "ShadowCourtModel" "stepsNow" "I" ∈ xTB := xq 1229 (by decide +kernel) rfl
theorem wq1230 : Cond.fieldLink "ShadowCourtModel" (92) "ShadowCourtModel" "costTo" "[I" ∈ xTB := xq 1230 (by decide +kernel) rfl
theorem wq1374 : Cond.methodLink "ShadowCourtModel" (167) yX11_types ∈ xTB := xq 1374 (by decide +kernel) rfl
theorem wq1376 : Cond.instanceMethod yX11_types ∈ xTB := xq 1376 (by decide +kernel) rfl
theorem wq1382 : Cond.methodLink "ShadowCourtModel" (150) yX11_in ∈ xTB := xq 1382 (by decide +kernel) rfl
theorem wq1383 : Cond.static yX11_in ∈ xTB := xq 1383 (by decide +kernel) rfl
theorem wq1407 : Cond.methodLink "ShadowCourtModel" (260) yX11_isJudge ∈ xTB := xq 1407 (by decide +kernel) rfl
theorem wq1409 : Cond.instanceMethod yX11_isJudge ∈ xTB := xq 1409 (by decide +kernel) rfl
theorem wq1411 : Cond.methodLink "ShadowCourtModel" (139) yX11_isFive ∈ xTB := xq 1411 (by decide +kernel) rfl
theorem wq1412 : Cond.static yX11_isFive ∈ xTB := xq 1412 (by decide +kernel) rfl
theorem wq1414 : Cond.methodLink "ShadowCourtModel" (143) yX11_has ∈ xTB := xq 1414 (by decide +kernel) rfl
theorem wq1415 : Cond.static yX11_has ∈ xTB := xq 1415 (by decide +kernel) rfl
theorem wq1417 : Cond.methodLink "ShadowCourtModel" (263) yX11_isGround ∈ xTB := xq 1417 (by decide +kernel) rfl
theorem wq1419 : Cond.instanceMethod yX11_isGround ∈ xTB := xq 1419 (by decide +kernel) rfl
theorem wq1421 : Cond.methodLink "ShadowCourtModel" (146) yX11_isFelon ∈ xTB := xq 1421 (by decide +kernel) rfl
theorem wq1423 : Cond.instanceMethod yX11_isFelon ∈ xTB := xq 1423 (by decide +kernel) rfl
theorem wq1429 : Cond.methodLink "ShadowCourtModel" (161) yX11_isOn ∈ xTB := xq 1429 (by decide +kernel) rfl
theorem wq1430 : Cond.static yX11_isOn ∈ xTB := xq 1430 (by decide +kernel) rfl
theorem wq1549 : Cond.methodLink "ShadowCourtModel" (345) yX11_steps ∈ xTB := xq 1549 (by decide +kernel) rfl
theorem wq1551 : Cond.instanceMethod yX11_steps ∈ xTB := xq 1551 (by decide +kernel) rfl
theorem wq1553 : Cond.methodLink "ShadowCourtModel" (323) yX11_beside ∈ xTB := xq 1553 (by decide +kernel) rfl
theorem wq1554 : Cond.static yX11_beside ∈ xTB := xq 1554 (by decide +kernel) rfl
theorem wq1556 : Cond.methodLink "ShadowCourtModel" (154) yX11_wayX ∈ xTB := xq 1556 (by decide +kernel) rfl
theorem wq1557 : Cond.static yX11_wayX ∈ xTB := xq 1557 (by decide +kernel) rfl
theorem wq1559 : Cond.methodLink "ShadowCourtModel" (158) yX11_wayY ∈ xTB := xq 1559 (by decide +kernel) rfl
theorem wq1560 : Cond.static yX11_wayY ∈ xTB := xq 1560 (by decide +kernel) rfl
theorem wq1570 : Cond.constant "ShadowCourtModel" (374) (65536) ∈ xTB := xq 1570 (by decide +kernel) rfl
theorem wq1598 : Cond.methodLink "ShadowCourtModel" (326) yX11_falls ∈ xTB := xq 1598 (by decide +kernel) rfl
theorem wq1600 : Cond.instanceMethod yX11_falls ∈ xTB := xq 1600 (by decide +kernel) rfl
theorem wq1610 : Cond.methodLink "ShadowCourtModel" (330) yX11_fallsBehind ∈ xTB := xq 1610 (by decide +kernel) rfl
theorem wq1612 : Cond.instanceMethod yX11_fallsBehind ∈ xTB := xq 1612 (by decide +kernel) rfl
theorem wq1622 : Cond.constant "ShadowCourtModel" (348) (1000000000) ∈ xTB := xq 1622 (by decide +kernel) rfl
theorem dX11_bares_0 : decode cX11_bares 0 = .ok (.iconst 0, 1) := by decide +kernel
theorem dX11_bares_1 : decode cX11_bares 1 = .ok (.istore_n 1, 1) := by decide +kernel
theorem dX11_bares_2 : decode cX11_bares 2 = .ok (.iload_n 1, 1) := by decide +kernel
theorem dX11_bares_3 : decode cX11_bares 3 = .ok (.bipush 100, 2) := by decide +kernel
theorem dX11_bares_5 : decode cX11_bares 5 = .ok (.if_icmp .ge 16, 3) := by decide +kernel
theorem dX11_bares_8 : decode cX11_bares 8 = .ok (.aload_n 0, 1) := by decide +kernel
theorem dX11_bares_9 : decode cX11_bares 9 = .ok (.getfield 89, 3) := by decide +kernel
theorem dX11_bares_12 : decode cX11_bares 12 = .ok (.iload_n 1, 1) := by decide +kernel
theorem dX11_bares_13 : decode cX11_bares 13 = .ok (.iconst 0, 1) := by decide +kernel
theorem dX11_bares_14 : decode cX11_bares 14 = .ok (.iastore, 1) := by decide +kernel
theorem dX11_bares_15 : decode cX11_bares 15 = .ok (.iinc 1 1, 3) := by decide +kernel
theorem dX11_bares_18 : decode cX11_bares 18 = .ok (.goto (-16), 3) := by decide +kernel
theorem dX11_bares_21 : decode cX11_bares 21 = .ok (.return_, 1) := by decide +kernel
theorem dX11_begins_0 : decode cX11_begins 0 = .ok (.aload_n 0, 1) := by decide +kernel
theorem dX11_begins_1 : decode cX11_begins 1 = .ok (.iconst 0, 1) := by decide +kernel
theorem dX11_begins_2 : decode cX11_begins 2 = .ok (.putfield 371, 3) := by decide +kernel
theorem dX11_begins_5 : decode cX11_begins 5 = .ok (.aload_n 0, 1) := by decide +kernel
theorem dX11_begins_6 : decode cX11_begins 6 = .ok (.iconst 0, 1) := by decide +kernel
theorem dX11_begins_7 : decode cX11_begins 7 = .ok (.putfield 365, 3) := by decide +kernel
theorem dX11_begins_10 : decode cX11_begins 10 = .ok (.aload_n 0, 1) := by decide +kernel
theorem dX11_begins_11 : decode cX11_begins 11 = .ok (.iconst 0, 1) := by decide +kernel
theorem dX11_begins_12 : decode cX11_begins 12 = .ok (.putfield 378, 3) := by decide +kernel
theorem dX11_begins_15 : decode cX11_begins 15 = .ok (.aload_n 0, 1) := by decide +kernel
theorem dX11_begins_16 : decode cX11_begins 16 = .ok (.iconst 0, 1) := by decide +kernel
theorem dX11_begins_17 : decode cX11_begins 17 = .ok (.putfield 368, 3) := by decide +kernel
theorem dX11_begins_20 : decode cX11_begins 20 = .ok (.return_, 1) := by decide +kernel
theorem dX11_beside_0 : decode cX11_beside 0 = .ok (.iload_n 0, 1) := by decide +kernel
theorem dX11_beside_1 : decode cX11_beside 1 = .ok (.bipush 10, 2) := by decide +kernel
theorem dX11_beside_3 : decode cX11_beside 3 = .ok (.irem, 1) := by decide +kernel
theorem dX11_beside_4 : decode cX11_beside 4 = .ok (.iload_n 1, 1) := by decide +kernel
theorem dX11_beside_5 : decode cX11_beside 5 = .ok (.invokestatic 154, 3) := by decide +kernel
theorem dX11_beside_8 : decode cX11_beside 8 = .ok (.iadd, 1) := by decide +kernel
theorem dX11_beside_9 : decode cX11_beside 9 = .ok (.istore_n 2, 1) := by decide +kernel
theorem dX11_beside_10 : decode cX11_beside 10 = .ok (.iload_n 0, 1) := by decide +kernel
theorem dX11_beside_11 : decode cX11_beside 11 = .ok (.bipush 10, 2) := by decide +kernel
theorem dX11_beside_13 : decode cX11_beside 13 = .ok (.idiv, 1) := by decide +kernel
theorem dX11_beside_14 : decode cX11_beside 14 = .ok (.iload_n 1, 1) := by decide +kernel
theorem dX11_beside_15 : decode cX11_beside 15 = .ok (.invokestatic 158, 3) := by decide +kernel
theorem dX11_beside_18 : decode cX11_beside 18 = .ok (.iadd, 1) := by decide +kernel
theorem dX11_beside_19 : decode cX11_beside 19 = .ok (.istore_n 3, 1) := by decide +kernel
theorem dX11_beside_20 : decode cX11_beside 20 = .ok (.iload_n 2, 1) := by decide +kernel
theorem dX11_beside_21 : decode cX11_beside 21 = .ok (.iload_n 3, 1) := by decide +kernel
theorem dX11_beside_22 : decode cX11_beside 22 = .ok (.invokestatic 161, 3) := by decide +kernel
theorem dX11_beside_25 : decode cX11_beside 25 = .ok (.ifCond .eq 12, 3) := by decide +kernel
theorem dX11_beside_28 : decode cX11_beside 28 = .ok (.bipush 10, 2) := by decide +kernel
theorem dX11_beside_30 : decode cX11_beside 30 = .ok (.iload_n 3, 1) := by decide +kernel
theorem dX11_beside_31 : decode cX11_beside 31 = .ok (.imul, 1) := by decide +kernel
theorem dX11_beside_32 : decode cX11_beside 32 = .ok (.iload_n 2, 1) := by decide +kernel
theorem dX11_beside_33 : decode cX11_beside 33 = .ok (.iadd, 1) := by decide +kernel
theorem dX11_beside_34 : decode cX11_beside 34 = .ok (.goto 4, 3) := by decide +kernel
theorem dX11_beside_37 : decode cX11_beside 37 = .ok (.iconst (-1), 1) := by decide +kernel
theorem dX11_beside_38 : decode cX11_beside 38 = .ok (.ireturn, 1) := by decide +kernel
theorem dX11_bits_0 : decode cX11_bits 0 = .ok (.iconst 0, 1) := by decide +kernel
theorem dX11_bits_1 : decode cX11_bits 1 = .ok (.istore_n 1, 1) := by decide +kernel
theorem dX11_bits_2 : decode cX11_bits 2 = .ok (.iconst 0, 1) := by decide +kernel
theorem dX11_bits_3 : decode cX11_bits 3 = .ok (.istore_n 2, 1) := by decide +kernel
theorem dX11_bits_4 : decode cX11_bits 4 = .ok (.iload_n 2, 1) := by decide +kernel
theorem dX11_bits_5 : decode cX11_bits 5 = .ok (.bipush 10, 2) := by decide +kernel
theorem dX11_bits_7 : decode cX11_bits 7 = .ok (.if_icmp .ge 17, 3) := by decide +kernel
theorem dX11_bits_10 : decode cX11_bits 10 = .ok (.iload_n 1, 1) := by decide +kernel
theorem dX11_bits_11 : decode cX11_bits 11 = .ok (.iload_n 0, 1) := by decide +kernel
theorem dX11_bits_12 : decode cX11_bits 12 = .ok (.iload_n 2, 1) := by decide +kernel
theorem dX11_bits_13 : decode cX11_bits 13 = .ok (.ishr, 1) := by decide +kernel
theorem dX11_bits_14 : decode cX11_bits 14 = .ok (.iconst 1, 1) := by decide +kernel
theorem dX11_bits_15 : decode cX11_bits 15 = .ok (.iand, 1) := by decide +kernel
theorem dX11_bits_16 : decode cX11_bits 16 = .ok (.iadd, 1) := by decide +kernel
theorem dX11_bits_17 : decode cX11_bits 17 = .ok (.istore_n 1, 1) := by decide +kernel
theorem dX11_bits_18 : decode cX11_bits 18 = .ok (.iinc 2 1, 3) := by decide +kernel
theorem dX11_bits_21 : decode cX11_bits 21 = .ok (.goto (-17), 3) := by decide +kernel
theorem dX11_bits_24 : decode cX11_bits 24 = .ok (.iload_n 1, 1) := by decide +kernel
theorem dX11_bits_25 : decode cX11_bits 25 = .ok (.ireturn, 1) := by decide +kernel
theorem dX11_copies_0 : decode cX11_copies 0 = .ok (.iconst 0, 1) := by decide +kernel
theorem dX11_copies_1 : decode cX11_copies 1 = .ok (.istore_n 2, 1) := by decide +kernel
theorem dX11_copies_2 : decode cX11_copies 2 = .ok (.iload_n 2, 1) := by decide +kernel
theorem dX11_copies_3 : decode cX11_copies 3 = .ok (.bipush 39, 2) := by decide +kernel
theorem dX11_copies_5 : decode cX11_copies 5 = .ok (.if_icmp .ge 15, 3) := by decide +kernel
theorem dX11_copies_8 : decode cX11_copies 8 = .ok (.aload_n 1, 1) := by decide +kernel
theorem dX11_copies_9 : decode cX11_copies 9 = .ok (.iload_n 2, 1) := by decide +kernel
theorem dX11_copies_10 : decode cX11_copies 10 = .ok (.aload_n 0, 1) := by decide +kernel
theorem dX11_copies_11 : decode cX11_copies 11 = .ok (.iload_n 2, 1) := by decide +kernel
theorem dX11_copies_12 : decode cX11_copies 12 = .ok (.iaload, 1) := by decide +kernel
theorem dX11_copies_13 : decode cX11_copies 13 = .ok (.iastore, 1) := by decide +kernel
theorem dX11_copies_14 : decode cX11_copies 14 = .ok (.iinc 2 1, 3) := by decide +kernel
theorem dX11_copies_17 : decode cX11_copies 17 = .ok (.goto (-15), 3) := by decide +kernel
theorem dX11_copies_20 : decode cX11_copies 20 = .ok (.return_, 1) := by decide +kernel
theorem dX11_copiesWalks_0 : decode cX11_copiesWalks 0 = .ok (.iconst 0, 1) := by decide +kernel
theorem dX11_copiesWalks_1 : decode cX11_copiesWalks 1 = .ok (.istore 4, 2) := by decide +kernel
theorem dX11_copiesWalks_3 : decode cX11_copiesWalks 3 = .ok (.iload 4, 2) := by decide +kernel
theorem dX11_copiesWalks_5 : decode cX11_copiesWalks 5 = .ok (.iconst 2, 1) := by decide +kernel
theorem dX11_copiesWalks_6 : decode cX11_copiesWalks 6 = .ok (.if_icmp .ge 17, 3) := by decide +kernel
theorem dX11_copiesWalks_9 : decode cX11_copiesWalks 9 = .ok (.aload_n 2, 1) := by decide +kernel
theorem dX11_copiesWalks_10 : decode cX11_copiesWalks 10 = .ok (.iload 4, 2) := by decide +kernel
theorem dX11_copiesWalks_12 : decode cX11_copiesWalks 12 = .ok (.aload_n 0, 1) := by decide +kernel
theorem dX11_copiesWalks_13 : decode cX11_copiesWalks 13 = .ok (.iload 4, 2) := by decide +kernel
theorem dX11_copiesWalks_15 : decode cX11_copiesWalks 15 = .ok (.iaload, 1) := by decide +kernel
theorem dX11_copiesWalks_16 : decode cX11_copiesWalks 16 = .ok (.iastore, 1) := by decide +kernel
theorem dX11_copiesWalks_17 : decode cX11_copiesWalks 17 = .ok (.iinc 4 1, 3) := by decide +kernel
theorem dX11_copiesWalks_20 : decode cX11_copiesWalks 20 = .ok (.goto (-17), 3) := by decide +kernel
theorem dX11_copiesWalks_23 : decode cX11_copiesWalks 23 = .ok (.iconst 0, 1) := by decide +kernel
theorem dX11_copiesWalks_24 : decode cX11_copiesWalks 24 = .ok (.istore 4, 2) := by decide +kernel
theorem dX11_copiesWalks_26 : decode cX11_copiesWalks 26 = .ok (.iload 4, 2) := by decide +kernel
theorem dX11_copiesWalks_28 : decode cX11_copiesWalks 28 = .ok (.bipush 120, 2) := by decide +kernel
theorem dX11_copiesWalks_30 : decode cX11_copiesWalks 30 = .ok (.if_icmp .ge 17, 3) := by decide +kernel
theorem dX11_copiesWalks_33 : decode cX11_copiesWalks 33 = .ok (.aload_n 3, 1) := by decide +kernel
theorem dX11_copiesWalks_34 : decode cX11_copiesWalks 34 = .ok (.iload 4, 2) := by decide +kernel
theorem dX11_copiesWalks_36 : decode cX11_copiesWalks 36 = .ok (.aload_n 1, 1) := by decide +kernel
theorem dX11_copiesWalks_37 : decode cX11_copiesWalks 37 = .ok (.iload 4, 2) := by decide +kernel
theorem dX11_copiesWalks_39 : decode cX11_copiesWalks 39 = .ok (.baload, 1) := by decide +kernel
theorem dX11_copiesWalks_40 : decode cX11_copiesWalks 40 = .ok (.bastore, 1) := by decide +kernel
theorem dX11_copiesWalks_41 : decode cX11_copiesWalks 41 = .ok (.iinc 4 1, 3) := by decide +kernel
theorem dX11_copiesWalks_44 : decode cX11_copiesWalks 44 = .ok (.goto (-18), 3) := by decide +kernel
theorem dX11_copiesWalks_47 : decode cX11_copiesWalks 47 = .ok (.return_, 1) := by decide +kernel
theorem dX11_draws_0 : decode cX11_draws 0 = .ok (.aload_n 0, 1) := by decide +kernel
theorem dX11_draws_1 : decode cX11_draws 1 = .ok (.getfield 7, 3) := by decide +kernel
theorem dX11_draws_4 : decode cX11_draws 4 = .ok (.bipush 38, 2) := by decide +kernel
theorem dX11_draws_6 : decode cX11_draws 6 = .ok (.sipush 25173, 3) := by decide +kernel
theorem dX11_draws_9 : decode cX11_draws 9 = .ok (.aload_n 0, 1) := by decide +kernel
theorem dX11_draws_10 : decode cX11_draws 10 = .ok (.getfield 7, 3) := by decide +kernel
theorem dX11_draws_13 : decode cX11_draws 13 = .ok (.bipush 38, 2) := by decide +kernel
theorem dX11_draws_15 : decode cX11_draws 15 = .ok (.iaload, 1) := by decide +kernel
theorem dX11_draws_16 : decode cX11_draws 16 = .ok (.imul, 1) := by decide +kernel
theorem dX11_draws_17 : decode cX11_draws 17 = .ok (.sipush 13849, 3) := by decide +kernel
theorem dX11_draws_20 : decode cX11_draws 20 = .ok (.iadd, 1) := by decide +kernel
theorem dX11_draws_21 : decode cX11_draws 21 = .ok (.ldc_w 374, 3) := by decide +kernel
theorem dX11_draws_24 : decode cX11_draws 24 = .ok (.irem, 1) := by decide +kernel
theorem dX11_draws_25 : decode cX11_draws 25 = .ok (.iastore, 1) := by decide +kernel
theorem dX11_draws_26 : decode cX11_draws 26 = .ok (.aload_n 0, 1) := by decide +kernel
theorem dX11_draws_27 : decode cX11_draws 27 = .ok (.getfield 7, 3) := by decide +kernel
theorem dX11_draws_30 : decode cX11_draws 30 = .ok (.bipush 38, 2) := by decide +kernel
theorem dX11_draws_32 : decode cX11_draws 32 = .ok (.iaload, 1) := by decide +kernel
theorem dX11_draws_33 : decode cX11_draws 33 = .ok (.bipush 10, 2) := by decide +kernel
theorem dX11_draws_35 : decode cX11_draws 35 = .ok (.irem, 1) := by decide +kernel
theorem dX11_draws_36 : decode cX11_draws 36 = .ok (.ireturn, 1) := by decide +kernel
theorem dX11_falls_0 : decode cX11_falls 0 = .ok (.iload_n 1, 1) := by decide +kernel
theorem dX11_falls_1 : decode cX11_falls 1 = .ok (.iload_n 2, 1) := by decide +kernel
theorem dX11_falls_2 : decode cX11_falls 2 = .ok (.invokestatic 323, 3) := by decide +kernel
theorem dX11_falls_5 : decode cX11_falls 5 = .ok (.istore 4, 2) := by decide +kernel
theorem dX11_falls_7 : decode cX11_falls 7 = .ok (.iconst 0, 1) := by decide +kernel
theorem dX11_falls_8 : decode cX11_falls 8 = .ok (.istore 5, 2) := by decide +kernel
theorem dX11_falls_10 : decode cX11_falls 10 = .ok (.iload 5, 2) := by decide +kernel
theorem dX11_falls_12 : decode cX11_falls 12 = .ok (.iload_n 3, 1) := by decide +kernel
theorem dX11_falls_13 : decode cX11_falls 13 = .ok (.if_icmp .ge 50, 3) := by decide +kernel
theorem dX11_falls_16 : decode cX11_falls 16 = .ok (.iload 4, 2) := by decide +kernel
theorem dX11_falls_18 : decode cX11_falls 18 = .ok (.iconst (-1), 1) := by decide +kernel
theorem dX11_falls_19 : decode cX11_falls 19 = .ok (.if_icmp .eq 44, 3) := by decide +kernel
theorem dX11_falls_22 : decode cX11_falls 22 = .ok (.aload_n 0, 1) := by decide +kernel
theorem dX11_falls_23 : decode cX11_falls 23 = .ok (.getfield 19, 3) := by decide +kernel
theorem dX11_falls_26 : decode cX11_falls 26 = .ok (.iload 4, 2) := by decide +kernel
theorem dX11_falls_28 : decode cX11_falls 28 = .ok (.iaload, 1) := by decide +kernel
theorem dX11_falls_29 : decode cX11_falls 29 = .ok (.iconst 1, 1) := by decide +kernel
theorem dX11_falls_30 : decode cX11_falls 30 = .ok (.if_icmp .eq 33, 3) := by decide +kernel
theorem dX11_falls_33 : decode cX11_falls 33 = .ok (.aload_n 0, 1) := by decide +kernel
theorem dX11_falls_34 : decode cX11_falls 34 = .ok (.getfield 89, 3) := by decide +kernel
theorem dX11_falls_37 : decode cX11_falls 37 = .ok (.iload 4, 2) := by decide +kernel
theorem dX11_falls_39 : decode cX11_falls 39 = .ok (.aload_n 0, 1) := by decide +kernel
theorem dX11_falls_40 : decode cX11_falls 40 = .ok (.getfield 89, 3) := by decide +kernel
theorem dX11_falls_43 : decode cX11_falls 43 = .ok (.iload 4, 2) := by decide +kernel
theorem dX11_falls_45 : decode cX11_falls 45 = .ok (.iaload, 1) := by decide +kernel
theorem dX11_falls_46 : decode cX11_falls 46 = .ok (.iconst 1, 1) := by decide +kernel
theorem dX11_falls_47 : decode cX11_falls 47 = .ok (.iadd, 1) := by decide +kernel
theorem dX11_falls_48 : decode cX11_falls 48 = .ok (.iastore, 1) := by decide +kernel
theorem dX11_falls_49 : decode cX11_falls 49 = .ok (.iload 4, 2) := by decide +kernel
theorem dX11_falls_51 : decode cX11_falls 51 = .ok (.iload_n 2, 1) := by decide +kernel
theorem dX11_falls_52 : decode cX11_falls 52 = .ok (.invokestatic 323, 3) := by decide +kernel
theorem dX11_falls_55 : decode cX11_falls 55 = .ok (.istore 4, 2) := by decide +kernel
theorem dX11_falls_57 : decode cX11_falls 57 = .ok (.iinc 5 1, 3) := by decide +kernel
theorem dX11_falls_60 : decode cX11_falls 60 = .ok (.goto (-50), 3) := by decide +kernel
theorem dX11_falls_63 : decode cX11_falls 63 = .ok (.return_, 1) := by decide +kernel
theorem dX11_fallsBehind_0 : decode cX11_fallsBehind 0 = .ok (.aload_n 0, 1) := by decide +kernel
theorem dX11_fallsBehind_1 : decode cX11_fallsBehind 1 = .ok (.getfield 7, 3) := by decide +kernel
theorem dX11_fallsBehind_4 : decode cX11_fallsBehind 4 = .ok (.iconst 0, 1) := by decide +kernel
theorem dX11_fallsBehind_5 : decode cX11_fallsBehind 5 = .ok (.iload_n 2, 1) := by decide +kernel
theorem dX11_fallsBehind_6 : decode cX11_fallsBehind 6 = .ok (.iadd, 1) := by decide +kernel
theorem dX11_fallsBehind_7 : decode cX11_fallsBehind 7 = .ok (.iaload, 1) := by decide +kernel
theorem dX11_fallsBehind_8 : decode cX11_fallsBehind 8 = .ok (.istore_n 3, 1) := by decide +kernel
theorem dX11_fallsBehind_9 : decode cX11_fallsBehind 9 = .ok (.iconst 0, 1) := by decide +kernel
theorem dX11_fallsBehind_10 : decode cX11_fallsBehind 10 = .ok (.istore 4, 2) := by decide +kernel
theorem dX11_fallsBehind_12 : decode cX11_fallsBehind 12 = .ok (.iload 4, 2) := by decide +kernel
theorem dX11_fallsBehind_14 : decode cX11_fallsBehind 14 = .ok (.bipush 8, 2) := by decide +kernel
theorem dX11_fallsBehind_16 : decode cX11_fallsBehind 16 = .ok (.if_icmp .ge 86, 3) := by decide +kernel
theorem dX11_fallsBehind_19 : decode cX11_fallsBehind 19 = .ok (.iload_n 1, 1) := by decide +kernel
theorem dX11_fallsBehind_20 : decode cX11_fallsBehind 20 = .ok (.iload 4, 2) := by decide +kernel
theorem dX11_fallsBehind_22 : decode cX11_fallsBehind 22 = .ok (.invokestatic 323, 3) := by decide +kernel
theorem dX11_fallsBehind_25 : decode cX11_fallsBehind 25 = .ok (.istore 5, 2) := by decide +kernel
theorem dX11_fallsBehind_27 : decode cX11_fallsBehind 27 = .ok (.iconst 1, 1) := by decide +kernel
theorem dX11_fallsBehind_28 : decode cX11_fallsBehind 28 = .ok (.istore 6, 2) := by decide +kernel
theorem dX11_fallsBehind_30 : decode cX11_fallsBehind 30 = .ok (.iload 6, 2) := by decide +kernel
theorem dX11_fallsBehind_32 : decode cX11_fallsBehind 32 = .ok (.iconst 4, 1) := by decide +kernel
theorem dX11_fallsBehind_33 : decode cX11_fallsBehind 33 = .ok (.if_icmp .ge 44, 3) := by decide +kernel
theorem dX11_fallsBehind_36 : decode cX11_fallsBehind 36 = .ok (.iload 5, 2) := by decide +kernel
theorem dX11_fallsBehind_38 : decode cX11_fallsBehind 38 = .ok (.iconst (-1), 1) := by decide +kernel
theorem dX11_fallsBehind_39 : decode cX11_fallsBehind 39 = .ok (.if_icmp .eq 38, 3) := by decide +kernel
theorem dX11_fallsBehind_42 : decode cX11_fallsBehind 42 = .ok (.iload 5, 2) := by decide +kernel
theorem dX11_fallsBehind_44 : decode cX11_fallsBehind 44 = .ok (.iload_n 3, 1) := by decide +kernel
theorem dX11_fallsBehind_45 : decode cX11_fallsBehind 45 = .ok (.if_icmp .eq 32, 3) := by decide +kernel
theorem dX11_fallsBehind_48 : decode cX11_fallsBehind 48 = .ok (.aload_n 0, 1) := by decide +kernel
theorem dX11_fallsBehind_49 : decode cX11_fallsBehind 49 = .ok (.getfield 19, 3) := by decide +kernel
theorem dX11_fallsBehind_52 : decode cX11_fallsBehind 52 = .ok (.iload 5, 2) := by decide +kernel
theorem dX11_fallsBehind_54 : decode cX11_fallsBehind 54 = .ok (.iaload, 1) := by decide +kernel
theorem dX11_fallsBehind_55 : decode cX11_fallsBehind 55 = .ok (.iconst 1, 1) := by decide +kernel
theorem dX11_fallsBehind_56 : decode cX11_fallsBehind 56 = .ok (.if_icmp .eq 21, 3) := by decide +kernel
theorem dX11_fallsBehind_59 : decode cX11_fallsBehind 59 = .ok (.iload 5, 2) := by decide +kernel
theorem dX11_fallsBehind_61 : decode cX11_fallsBehind 61 = .ok (.iload 4, 2) := by decide +kernel
theorem dX11_fallsBehind_63 : decode cX11_fallsBehind 63 = .ok (.invokestatic 323, 3) := by decide +kernel
theorem dX11_fallsBehind_66 : decode cX11_fallsBehind 66 = .ok (.istore 5, 2) := by decide +kernel
theorem dX11_fallsBehind_68 : decode cX11_fallsBehind 68 = .ok (.iload 6, 2) := by decide +kernel
theorem dX11_fallsBehind_70 : decode cX11_fallsBehind 70 = .ok (.iconst 1, 1) := by decide +kernel
theorem dX11_fallsBehind_71 : decode cX11_fallsBehind 71 = .ok (.iadd, 1) := by decide +kernel
theorem dX11_fallsBehind_72 : decode cX11_fallsBehind 72 = .ok (.istore 6, 2) := by decide +kernel
theorem dX11_fallsBehind_74 : decode cX11_fallsBehind 74 = .ok (.goto (-44), 3) := by decide +kernel
theorem dX11_fallsBehind_77 : decode cX11_fallsBehind 77 = .ok (.iload 5, 2) := by decide +kernel
theorem dX11_fallsBehind_79 : decode cX11_fallsBehind 79 = .ok (.iload_n 3, 1) := by decide +kernel
theorem dX11_fallsBehind_80 : decode cX11_fallsBehind 80 = .ok (.if_icmp .ne 16, 3) := by decide +kernel
theorem dX11_fallsBehind_83 : decode cX11_fallsBehind 83 = .ok (.iload_n 1, 1) := by decide +kernel
theorem dX11_fallsBehind_84 : decode cX11_fallsBehind 84 = .ok (.iload_n 3, 1) := by decide +kernel
theorem dX11_fallsBehind_85 : decode cX11_fallsBehind 85 = .ok (.if_icmp .eq 11, 3) := by decide +kernel
theorem dX11_fallsBehind_88 : decode cX11_fallsBehind 88 = .ok (.aload_n 0, 1) := by decide +kernel
theorem dX11_fallsBehind_89 : decode cX11_fallsBehind 89 = .ok (.iload_n 3, 1) := by decide +kernel
theorem dX11_fallsBehind_90 : decode cX11_fallsBehind 90 = .ok (.iload 4, 2) := by decide +kernel
theorem dX11_fallsBehind_92 : decode cX11_fallsBehind 92 = .ok (.iconst 2, 1) := by decide +kernel
theorem dX11_fallsBehind_93 : decode cX11_fallsBehind 93 = .ok (.invokevirtual 326, 3) := by decide +kernel
theorem dX11_fallsBehind_96 : decode cX11_fallsBehind 96 = .ok (.iinc 4 1, 3) := by decide +kernel
theorem dX11_fallsBehind_99 : decode cX11_fallsBehind 99 = .ok (.goto (-87), 3) := by decide +kernel
theorem dX11_fallsBehind_102 : decode cX11_fallsBehind 102 = .ok (.return_, 1) := by decide +kernel
theorem dX11_fallsByLamps_0 : decode cX11_fallsByLamps 0 = .ok (.iconst 0, 1) := by decide +kernel
theorem dX11_fallsByLamps_1 : decode cX11_fallsByLamps 1 = .ok (.istore_n 1, 1) := by decide +kernel
theorem dX11_fallsByLamps_2 : decode cX11_fallsByLamps 2 = .ok (.iload_n 1, 1) := by decide +kernel
theorem dX11_fallsByLamps_3 : decode cX11_fallsByLamps 3 = .ok (.iconst 4, 1) := by decide +kernel
theorem dX11_fallsByLamps_4 : decode cX11_fallsByLamps 4 = .ok (.if_icmp .ge 51, 3) := by decide +kernel
theorem dX11_fallsByLamps_7 : decode cX11_fallsByLamps 7 = .ok (.iconst 0, 1) := by decide +kernel
theorem dX11_fallsByLamps_8 : decode cX11_fallsByLamps 8 = .ok (.istore_n 2, 1) := by decide +kernel
theorem dX11_fallsByLamps_9 : decode cX11_fallsByLamps 9 = .ok (.iload_n 2, 1) := by decide +kernel
theorem dX11_fallsByLamps_10 : decode cX11_fallsByLamps 10 = .ok (.iconst 2, 1) := by decide +kernel
theorem dX11_fallsByLamps_11 : decode cX11_fallsByLamps 11 = .ok (.if_icmp .ge 38, 3) := by decide +kernel
theorem dX11_fallsByLamps_14 : decode cX11_fallsByLamps 14 = .ok (.aload_n 0, 1) := by decide +kernel
theorem dX11_fallsByLamps_15 : decode cX11_fallsByLamps 15 = .ok (.getfield 22, 3) := by decide +kernel
theorem dX11_fallsByLamps_18 : decode cX11_fallsByLamps 18 = .ok (.iload_n 1, 1) := by decide +kernel
theorem dX11_fallsByLamps_19 : decode cX11_fallsByLamps 19 = .ok (.iaload, 1) := by decide +kernel
theorem dX11_fallsByLamps_20 : decode cX11_fallsByLamps 20 = .ok (.iconst (-1), 1) := by decide +kernel
theorem dX11_fallsByLamps_21 : decode cX11_fallsByLamps 21 = .ok (.if_icmp .eq 22, 3) := by decide +kernel
theorem dX11_fallsByLamps_24 : decode cX11_fallsByLamps 24 = .ok (.aload_n 0, 1) := by decide +kernel
theorem dX11_fallsByLamps_25 : decode cX11_fallsByLamps 25 = .ok (.iload_n 2, 1) := by decide +kernel
theorem dX11_fallsByLamps_26 : decode cX11_fallsByLamps 26 = .ok (.invokevirtual 260, 3) := by decide +kernel
theorem dX11_fallsByLamps_29 : decode cX11_fallsByLamps 29 = .ok (.ifCond .eq 14, 3) := by decide +kernel
theorem dX11_fallsByLamps_32 : decode cX11_fallsByLamps 32 = .ok (.aload_n 0, 1) := by decide +kernel
theorem dX11_fallsByLamps_33 : decode cX11_fallsByLamps 33 = .ok (.aload_n 0, 1) := by decide +kernel
theorem dX11_fallsByLamps_34 : decode cX11_fallsByLamps 34 = .ok (.getfield 22, 3) := by decide +kernel
theorem dX11_fallsByLamps_37 : decode cX11_fallsByLamps 37 = .ok (.iload_n 1, 1) := by decide +kernel
theorem dX11_fallsByLamps_38 : decode cX11_fallsByLamps 38 = .ok (.iaload, 1) := by decide +kernel
theorem dX11_fallsByLamps_39 : decode cX11_fallsByLamps 39 = .ok (.iload_n 2, 1) := by decide +kernel
theorem dX11_fallsByLamps_40 : decode cX11_fallsByLamps 40 = .ok (.invokevirtual 330, 3) := by decide +kernel
theorem dX11_fallsByLamps_43 : decode cX11_fallsByLamps 43 = .ok (.iinc 2 1, 3) := by decide +kernel
theorem dX11_fallsByLamps_46 : decode cX11_fallsByLamps 46 = .ok (.goto (-37), 3) := by decide +kernel
theorem dX11_fallsByLamps_49 : decode cX11_fallsByLamps 49 = .ok (.iinc 1 1, 3) := by decide +kernel
theorem dX11_fallsByLamps_52 : decode cX11_fallsByLamps 52 = .ok (.goto (-50), 3) := by decide +kernel
theorem dX11_fallsByLamps_55 : decode cX11_fallsByLamps 55 = .ok (.return_, 1) := by decide +kernel
theorem dX11_feed_0 : decode cX11_feed 0 = .ok (.aload_n 0, 1) := by decide +kernel
theorem dX11_feed_1 : decode cX11_feed 1 = .ok (.getfield 164, 3) := by decide +kernel
theorem dX11_feed_4 : decode cX11_feed 4 = .ok (.bipush 20, 2) := by decide +kernel
theorem dX11_feed_6 : decode cX11_feed 6 = .ok (.iadd, 1) := by decide +kernel
theorem dX11_feed_7 : decode cX11_feed 7 = .ok (.sipush 260, 3) := by decide +kernel
theorem dX11_feed_10 : decode cX11_feed 10 = .ok (.if_icmp .le 5, 3) := by decide +kernel
theorem dX11_feed_13 : decode cX11_feed 13 = .ok (.iconst (-1), 1) := by decide +kernel
theorem dX11_feed_14 : decode cX11_feed 14 = .ok (.ireturn, 1) := by decide +kernel
theorem dX11_feed_15 : decode cX11_feed 15 = .ok (.aload_n 0, 1) := by decide +kernel
theorem dX11_feed_16 : decode cX11_feed 16 = .ok (.iload_n 1, 1) := by decide +kernel
theorem dX11_feed_17 : decode cX11_feed 17 = .ok (.invokevirtual 167, 3) := by decide +kernel
theorem dX11_feed_20 : decode cX11_feed 20 = .ok (.aload_n 0, 1) := by decide +kernel
theorem dX11_feed_21 : decode cX11_feed 21 = .ok (.iload_n 2, 1) := by decide +kernel
theorem dX11_feed_22 : decode cX11_feed 22 = .ok (.invokevirtual 167, 3) := by decide +kernel
theorem dX11_feed_25 : decode cX11_feed 25 = .ok (.aload_n 0, 1) := by decide +kernel
theorem dX11_feed_26 : decode cX11_feed 26 = .ok (.iload_n 3, 1) := by decide +kernel
theorem dX11_feed_27 : decode cX11_feed 27 = .ok (.invokevirtual 167, 3) := by decide +kernel
theorem dX11_feed_30 : decode cX11_feed 30 = .ok (.aload_n 0, 1) := by decide +kernel
theorem dX11_feed_31 : decode cX11_feed 31 = .ok (.iload 4, 2) := by decide +kernel
theorem dX11_feed_33 : decode cX11_feed 33 = .ok (.invokevirtual 167, 3) := by decide +kernel
theorem dX11_feed_36 : decode cX11_feed 36 = .ok (.aload_n 0, 1) := by decide +kernel
theorem dX11_feed_37 : decode cX11_feed 37 = .ok (.iload 5, 2) := by decide +kernel
theorem dX11_feed_39 : decode cX11_feed 39 = .ok (.invokevirtual 167, 3) := by decide +kernel
theorem dX11_feed_42 : decode cX11_feed 42 = .ok (.aload_n 0, 1) := by decide +kernel
theorem dX11_feed_43 : decode cX11_feed 43 = .ok (.getfield 164, 3) := by decide +kernel
theorem dX11_feed_46 : decode cX11_feed 46 = .ok (.ireturn, 1) := by decide +kernel
theorem dX11_feels_0 : decode cX11_feels 0 = .ok (.iconst 0, 1) := by decide +kernel
theorem dX11_feels_1 : decode cX11_feels 1 = .ok (.istore_n 2, 1) := by decide +kernel
theorem dX11_feels_2 : decode cX11_feels 2 = .ok (.iload_n 2, 1) := by decide +kernel
theorem dX11_feels_3 : decode cX11_feels 3 = .ok (.bipush 7, 2) := by decide +kernel
theorem dX11_feels_5 : decode cX11_feels 5 = .ok (.if_icmp .ge 16, 3) := by decide +kernel
theorem dX11_feels_8 : decode cX11_feels 8 = .ok (.aload_n 0, 1) := by decide +kernel
theorem dX11_feels_9 : decode cX11_feels 9 = .ok (.getfield 86, 3) := by decide +kernel
theorem dX11_feels_12 : decode cX11_feels 12 = .ok (.iload_n 2, 1) := by decide +kernel
theorem dX11_feels_13 : decode cX11_feels 13 = .ok (.iconst 0, 1) := by decide +kernel
theorem dX11_feels_14 : decode cX11_feels 14 = .ok (.iastore, 1) := by decide +kernel
theorem dX11_feels_15 : decode cX11_feels 15 = .ok (.iinc 2 1, 3) := by decide +kernel
theorem dX11_feels_18 : decode cX11_feels 18 = .ok (.goto (-16), 3) := by decide +kernel
theorem dX11_feels_21 : decode cX11_feels 21 = .ok (.aload_n 0, 1) := by decide +kernel
theorem dX11_feels_22 : decode cX11_feels 22 = .ok (.getfield 86, 3) := by decide +kernel
theorem dX11_feels_25 : decode cX11_feels 25 = .ok (.iconst 0, 1) := by decide +kernel
theorem dX11_feels_26 : decode cX11_feels 26 = .ok (.iload_n 1, 1) := by decide +kernel
theorem dX11_feels_27 : decode cX11_feels 27 = .ok (.iastore, 1) := by decide +kernel
theorem dX11_feels_28 : decode cX11_feels 28 = .ok (.aload_n 0, 1) := by decide +kernel
theorem dX11_feels_29 : decode cX11_feels 29 = .ok (.getfield 86, 3) := by decide +kernel
theorem dX11_feels_32 : decode cX11_feels 32 = .ok (.iconst 1, 1) := by decide +kernel
theorem dX11_feels_33 : decode cX11_feels 33 = .ok (.iload_n 1, 1) := by decide +kernel
theorem dX11_feels_34 : decode cX11_feels 34 = .ok (.bipush 60, 2) := by decide +kernel
theorem dX11_feels_36 : decode cX11_feels 36 = .ok (.idiv, 1) := by decide +kernel
theorem dX11_feels_37 : decode cX11_feels 37 = .ok (.bipush 24, 2) := by decide +kernel
theorem dX11_feels_39 : decode cX11_feels 39 = .ok (.irem, 1) := by decide +kernel
theorem dX11_feels_40 : decode cX11_feels 40 = .ok (.iastore, 1) := by decide +kernel
theorem dX11_feels_41 : decode cX11_feels 41 = .ok (.return_, 1) := by decide +kernel
theorem dX11_freeMany_0 : decode cX11_freeMany 0 = .ok (.iconst 0, 1) := by decide +kernel
theorem dX11_freeMany_1 : decode cX11_freeMany 1 = .ok (.istore_n 1, 1) := by decide +kernel
theorem dX11_freeMany_2 : decode cX11_freeMany 2 = .ok (.iconst 0, 1) := by decide +kernel
theorem dX11_freeMany_3 : decode cX11_freeMany 3 = .ok (.istore_n 2, 1) := by decide +kernel
theorem dX11_freeMany_4 : decode cX11_freeMany 4 = .ok (.iload_n 2, 1) := by decide +kernel
theorem dX11_freeMany_5 : decode cX11_freeMany 5 = .ok (.bipush 10, 2) := by decide +kernel
theorem dX11_freeMany_7 : decode cX11_freeMany 7 = .ok (.if_icmp .ge 37, 3) := by decide +kernel
theorem dX11_freeMany_10 : decode cX11_freeMany 10 = .ok (.iload_n 1, 1) := by decide +kernel
theorem dX11_freeMany_11 : decode cX11_freeMany 11 = .ok (.aload_n 0, 1) := by decide +kernel
theorem dX11_freeMany_12 : decode cX11_freeMany 12 = .ok (.iload_n 2, 1) := by decide +kernel
theorem dX11_freeMany_13 : decode cX11_freeMany 13 = .ok (.invokevirtual 146, 3) := by decide +kernel
theorem dX11_freeMany_16 : decode cX11_freeMany 16 = .ok (.ifCond .eq 19, 3) := by decide +kernel
theorem dX11_freeMany_19 : decode cX11_freeMany 19 = .ok (.aload_n 0, 1) := by decide +kernel
theorem dX11_freeMany_20 : decode cX11_freeMany 20 = .ok (.getfield 7, 3) := by decide +kernel
theorem dX11_freeMany_23 : decode cX11_freeMany 23 = .ok (.bipush 14, 2) := by decide +kernel
theorem dX11_freeMany_25 : decode cX11_freeMany 25 = .ok (.iload_n 2, 1) := by decide +kernel
theorem dX11_freeMany_26 : decode cX11_freeMany 26 = .ok (.iadd, 1) := by decide +kernel
theorem dX11_freeMany_27 : decode cX11_freeMany 27 = .ok (.iaload, 1) := by decide +kernel
theorem dX11_freeMany_28 : decode cX11_freeMany 28 = .ok (.ifCond .ne 7, 3) := by decide +kernel
theorem dX11_freeMany_31 : decode cX11_freeMany 31 = .ok (.iconst 1, 1) := by decide +kernel
theorem dX11_freeMany_32 : decode cX11_freeMany 32 = .ok (.goto 4, 3) := by decide +kernel
theorem dX11_freeMany_35 : decode cX11_freeMany 35 = .ok (.iconst 0, 1) := by decide +kernel
theorem dX11_freeMany_36 : decode cX11_freeMany 36 = .ok (.iadd, 1) := by decide +kernel
theorem dX11_freeMany_37 : decode cX11_freeMany 37 = .ok (.istore_n 1, 1) := by decide +kernel
theorem dX11_freeMany_38 : decode cX11_freeMany 38 = .ok (.iinc 2 1, 3) := by decide +kernel
theorem dX11_freeMany_41 : decode cX11_freeMany 41 = .ok (.goto (-37), 3) := by decide +kernel
theorem dX11_freeMany_44 : decode cX11_freeMany 44 = .ok (.iload_n 1, 1) := by decide +kernel
theorem dX11_freeMany_45 : decode cX11_freeMany 45 = .ok (.ireturn, 1) := by decide +kernel
theorem dX11_has_0 : decode cX11_has 0 = .ok (.iload_n 0, 1) := by decide +kernel
theorem dX11_has_1 : decode cX11_has 1 = .ok (.iload_n 1, 1) := by decide +kernel
theorem dX11_has_2 : decode cX11_has 2 = .ok (.ishr, 1) := by decide +kernel
theorem dX11_has_3 : decode cX11_has 3 = .ok (.iconst 1, 1) := by decide +kernel
theorem dX11_has_4 : decode cX11_has 4 = .ok (.iand, 1) := by decide +kernel
theorem dX11_has_5 : decode cX11_has 5 = .ok (.iconst 1, 1) := by decide +kernel
theorem dX11_has_6 : decode cX11_has 6 = .ok (.if_icmp .ne 7, 3) := by decide +kernel
theorem dX11_has_9 : decode cX11_has 9 = .ok (.iconst 1, 1) := by decide +kernel
theorem dX11_has_10 : decode cX11_has 10 = .ok (.goto 4, 3) := by decide +kernel
theorem dX11_has_13 : decode cX11_has 13 = .ok (.iconst 0, 1) := by decide +kernel
theorem dX11_has_14 : decode cX11_has 14 = .ok (.ireturn, 1) := by decide +kernel
theorem dX11_in_0 : decode cX11_in 0 = .ok (.iload_n 0, 1) := by decide +kernel
theorem dX11_in_1 : decode cX11_in 1 = .ok (.iload_n 1, 1) := by decide +kernel
theorem dX11_in_2 : decode cX11_in 2 = .ok (.if_icmp .lt 12, 3) := by decide +kernel
theorem dX11_in_5 : decode cX11_in 5 = .ok (.iload_n 0, 1) := by decide +kernel
theorem dX11_in_6 : decode cX11_in 6 = .ok (.iload_n 2, 1) := by decide +kernel
theorem dX11_in_7 : decode cX11_in 7 = .ok (.if_icmp .gt 7, 3) := by decide +kernel
theorem dX11_in_10 : decode cX11_in 10 = .ok (.iconst 1, 1) := by decide +kernel
theorem dX11_in_11 : decode cX11_in 11 = .ok (.goto 4, 3) := by decide +kernel
theorem dX11_in_14 : decode cX11_in 14 = .ok (.iconst 0, 1) := by decide +kernel
theorem dX11_in_15 : decode cX11_in 15 = .ok (.ireturn, 1) := by decide +kernel
theorem dX11_isFelon_0 : decode cX11_isFelon 0 = .ok (.iload_n 1, 1) := by decide +kernel
theorem dX11_isFelon_1 : decode cX11_isFelon 1 = .ok (.bipush 10, 2) := by decide +kernel
theorem dX11_isFelon_3 : decode cX11_isFelon 3 = .ok (.invokestatic 139, 3) := by decide +kernel
theorem dX11_isFelon_6 : decode cX11_isFelon 6 = .ok (.ifCond .eq 21, 3) := by decide +kernel
theorem dX11_isFelon_9 : decode cX11_isFelon 9 = .ok (.aload_n 0, 1) := by decide +kernel
theorem dX11_isFelon_10 : decode cX11_isFelon 10 = .ok (.getfield 7, 3) := by decide +kernel
theorem dX11_isFelon_13 : decode cX11_isFelon 13 = .ok (.bipush 35, 2) := by decide +kernel
theorem dX11_isFelon_15 : decode cX11_isFelon 15 = .ok (.iaload, 1) := by decide +kernel
theorem dX11_isFelon_16 : decode cX11_isFelon 16 = .ok (.iload_n 1, 1) := by decide +kernel
theorem dX11_isFelon_17 : decode cX11_isFelon 17 = .ok (.invokestatic 143, 3) := by decide +kernel
theorem dX11_isFelon_20 : decode cX11_isFelon 20 = .ok (.ifCond .eq 7, 3) := by decide +kernel
theorem dX11_isFelon_23 : decode cX11_isFelon 23 = .ok (.iconst 1, 1) := by decide +kernel
theorem dX11_isFelon_24 : decode cX11_isFelon 24 = .ok (.goto 4, 3) := by decide +kernel
theorem dX11_isFelon_27 : decode cX11_isFelon 27 = .ok (.iconst 0, 1) := by decide +kernel
theorem dX11_isFelon_28 : decode cX11_isFelon 28 = .ok (.ireturn, 1) := by decide +kernel
theorem dX11_isFive_0 : decode cX11_isFive 0 = .ok (.iload_n 0, 1) := by decide +kernel
theorem dX11_isFive_1 : decode cX11_isFive 1 = .ok (.ifCond .lt 12, 3) := by decide +kernel
theorem dX11_isFive_4 : decode cX11_isFive 4 = .ok (.iload_n 0, 1) := by decide +kernel
theorem dX11_isFive_5 : decode cX11_isFive 5 = .ok (.iload_n 1, 1) := by decide +kernel
theorem dX11_isFive_6 : decode cX11_isFive 6 = .ok (.if_icmp .ge 7, 3) := by decide +kernel
theorem dX11_isFive_9 : decode cX11_isFive 9 = .ok (.iconst 1, 1) := by decide +kernel
theorem dX11_isFive_10 : decode cX11_isFive 10 = .ok (.goto 4, 3) := by decide +kernel
theorem dX11_isFive_13 : decode cX11_isFive 13 = .ok (.iconst 0, 1) := by decide +kernel
theorem dX11_isFive_14 : decode cX11_isFive 14 = .ok (.ireturn, 1) := by decide +kernel
theorem dX11_isGround_0 : decode cX11_isGround 0 = .ok (.aload_n 0, 1) := by decide +kernel
theorem dX11_isGround_1 : decode cX11_isGround 1 = .ok (.getfield 19, 3) := by decide +kernel
theorem dX11_isGround_4 : decode cX11_isGround 4 = .ok (.iload_n 1, 1) := by decide +kernel
theorem dX11_isGround_5 : decode cX11_isGround 5 = .ok (.iaload, 1) := by decide +kernel
theorem dX11_isGround_6 : decode cX11_isGround 6 = .ok (.ifCond .eq 13, 3) := by decide +kernel
theorem dX11_isGround_9 : decode cX11_isGround 9 = .ok (.aload_n 0, 1) := by decide +kernel
theorem dX11_isGround_10 : decode cX11_isGround 10 = .ok (.getfield 19, 3) := by decide +kernel
theorem dX11_isGround_13 : decode cX11_isGround 13 = .ok (.iload_n 1, 1) := by decide +kernel
theorem dX11_isGround_14 : decode cX11_isGround 14 = .ok (.iaload, 1) := by decide +kernel
theorem dX11_isGround_15 : decode cX11_isGround 15 = .ok (.iconst 2, 1) := by decide +kernel
theorem dX11_isGround_16 : decode cX11_isGround 16 = .ok (.if_icmp .ne 7, 3) := by decide +kernel
theorem dX11_isGround_19 : decode cX11_isGround 19 = .ok (.iconst 1, 1) := by decide +kernel
theorem dX11_isGround_20 : decode cX11_isGround 20 = .ok (.goto 4, 3) := by decide +kernel
theorem dX11_isGround_23 : decode cX11_isGround 23 = .ok (.iconst 0, 1) := by decide +kernel
theorem dX11_isGround_24 : decode cX11_isGround 24 = .ok (.ireturn, 1) := by decide +kernel
theorem dX11_isJudge_0 : decode cX11_isJudge 0 = .ok (.iload_n 1, 1) := by decide +kernel
theorem dX11_isJudge_1 : decode cX11_isJudge 1 = .ok (.iconst 2, 1) := by decide +kernel
theorem dX11_isJudge_2 : decode cX11_isJudge 2 = .ok (.invokestatic 139, 3) := by decide +kernel
theorem dX11_isJudge_5 : decode cX11_isJudge 5 = .ok (.ifCond .eq 21, 3) := by decide +kernel
theorem dX11_isJudge_8 : decode cX11_isJudge 8 = .ok (.aload_n 0, 1) := by decide +kernel
theorem dX11_isJudge_9 : decode cX11_isJudge 9 = .ok (.getfield 7, 3) := by decide +kernel
theorem dX11_isJudge_12 : decode cX11_isJudge 12 = .ok (.bipush 34, 2) := by decide +kernel
theorem dX11_isJudge_14 : decode cX11_isJudge 14 = .ok (.iaload, 1) := by decide +kernel
theorem dX11_isJudge_15 : decode cX11_isJudge 15 = .ok (.iload_n 1, 1) := by decide +kernel
theorem dX11_isJudge_16 : decode cX11_isJudge 16 = .ok (.invokestatic 143, 3) := by decide +kernel
theorem dX11_isJudge_19 : decode cX11_isJudge 19 = .ok (.ifCond .eq 7, 3) := by decide +kernel
theorem dX11_isJudge_22 : decode cX11_isJudge 22 = .ok (.iconst 1, 1) := by decide +kernel
theorem dX11_isJudge_23 : decode cX11_isJudge 23 = .ok (.goto 4, 3) := by decide +kernel
theorem dX11_isJudge_26 : decode cX11_isJudge 26 = .ok (.iconst 0, 1) := by decide +kernel
theorem dX11_isJudge_27 : decode cX11_isJudge 27 = .ok (.ireturn, 1) := by decide +kernel
theorem dX11_isOn_0 : decode cX11_isOn 0 = .ok (.iload_n 0, 1) := by decide +kernel
theorem dX11_isOn_1 : decode cX11_isOn 1 = .ok (.iconst 0, 1) := by decide +kernel
theorem dX11_isOn_2 : decode cX11_isOn 2 = .ok (.bipush 9, 2) := by decide +kernel
theorem dX11_isOn_4 : decode cX11_isOn 4 = .ok (.invokestatic 150, 3) := by decide +kernel
theorem dX11_isOn_7 : decode cX11_isOn 7 = .ok (.ifCond .eq 17, 3) := by decide +kernel
theorem dX11_isOn_10 : decode cX11_isOn 10 = .ok (.iload_n 1, 1) := by decide +kernel
theorem dX11_isOn_11 : decode cX11_isOn 11 = .ok (.iconst 0, 1) := by decide +kernel
theorem dX11_isOn_12 : decode cX11_isOn 12 = .ok (.bipush 9, 2) := by decide +kernel
theorem dX11_isOn_14 : decode cX11_isOn 14 = .ok (.invokestatic 150, 3) := by decide +kernel
theorem dX11_isOn_17 : decode cX11_isOn 17 = .ok (.ifCond .eq 7, 3) := by decide +kernel
theorem dX11_isOn_20 : decode cX11_isOn 20 = .ok (.iconst 1, 1) := by decide +kernel
theorem dX11_isOn_21 : decode cX11_isOn 21 = .ok (.goto 4, 3) := by decide +kernel
theorem dX11_isOn_24 : decode cX11_isOn 24 = .ok (.iconst 0, 1) := by decide +kernel
theorem dX11_isOn_25 : decode cX11_isOn 25 = .ok (.ireturn, 1) := by decide +kernel
theorem dX11_lampSet_0 : decode cX11_lampSet 0 = .ok (.iconst 0, 1) := by decide +kernel
theorem dX11_lampSet_1 : decode cX11_lampSet 1 = .ok (.istore_n 1, 1) := by decide +kernel
theorem dX11_lampSet_2 : decode cX11_lampSet 2 = .ok (.iconst 0, 1) := by decide +kernel
theorem dX11_lampSet_3 : decode cX11_lampSet 3 = .ok (.istore_n 2, 1) := by decide +kernel
theorem dX11_lampSet_4 : decode cX11_lampSet 4 = .ok (.iload_n 2, 1) := by decide +kernel
theorem dX11_lampSet_5 : decode cX11_lampSet 5 = .ok (.iconst 4, 1) := by decide +kernel
theorem dX11_lampSet_6 : decode cX11_lampSet 6 = .ok (.if_icmp .ge 29, 3) := by decide +kernel
theorem dX11_lampSet_9 : decode cX11_lampSet 9 = .ok (.iload_n 1, 1) := by decide +kernel
theorem dX11_lampSet_10 : decode cX11_lampSet 10 = .ok (.aload_n 0, 1) := by decide +kernel
theorem dX11_lampSet_11 : decode cX11_lampSet 11 = .ok (.getfield 22, 3) := by decide +kernel
theorem dX11_lampSet_14 : decode cX11_lampSet 14 = .ok (.iload_n 2, 1) := by decide +kernel
theorem dX11_lampSet_15 : decode cX11_lampSet 15 = .ok (.iaload, 1) := by decide +kernel
theorem dX11_lampSet_16 : decode cX11_lampSet 16 = .ok (.iconst (-1), 1) := by decide +kernel
theorem dX11_lampSet_17 : decode cX11_lampSet 17 = .ok (.if_icmp .ne 7, 3) := by decide +kernel
theorem dX11_lampSet_20 : decode cX11_lampSet 20 = .ok (.iconst 0, 1) := by decide +kernel
theorem dX11_lampSet_21 : decode cX11_lampSet 21 = .ok (.goto 6, 3) := by decide +kernel
theorem dX11_lampSet_24 : decode cX11_lampSet 24 = .ok (.iconst 1, 1) := by decide +kernel
theorem dX11_lampSet_25 : decode cX11_lampSet 25 = .ok (.iload_n 2, 1) := by decide +kernel
theorem dX11_lampSet_26 : decode cX11_lampSet 26 = .ok (.ishl, 1) := by decide +kernel
theorem dX11_lampSet_27 : decode cX11_lampSet 27 = .ok (.ior, 1) := by decide +kernel
theorem dX11_lampSet_28 : decode cX11_lampSet 28 = .ok (.istore_n 1, 1) := by decide +kernel
theorem dX11_lampSet_29 : decode cX11_lampSet 29 = .ok (.iinc 2 1, 3) := by decide +kernel
theorem dX11_lampSet_32 : decode cX11_lampSet 32 = .ok (.goto (-28), 3) := by decide +kernel
theorem dX11_lampSet_35 : decode cX11_lampSet 35 = .ok (.iload_n 1, 1) := by decide +kernel
theorem dX11_lampSet_36 : decode cX11_lampSet 36 = .ok (.ireturn, 1) := by decide +kernel
theorem dX11_laysCosts_0 : decode cX11_laysCosts 0 = .ok (.iconst 0, 1) := by decide +kernel
theorem dX11_laysCosts_1 : decode cX11_laysCosts 1 = .ok (.istore 4, 2) := by decide +kernel
theorem dX11_laysCosts_3 : decode cX11_laysCosts 3 = .ok (.iload 4, 2) := by decide +kernel
theorem dX11_laysCosts_5 : decode cX11_laysCosts 5 = .ok (.bipush 100, 2) := by decide +kernel
theorem dX11_laysCosts_7 : decode cX11_laysCosts 7 = .ok (.if_icmp .ge 29, 3) := by decide +kernel
theorem dX11_laysCosts_10 : decode cX11_laysCosts 10 = .ok (.aload_n 0, 1) := by decide +kernel
theorem dX11_laysCosts_11 : decode cX11_laysCosts 11 = .ok (.getfield 92, 3) := by decide +kernel
theorem dX11_laysCosts_14 : decode cX11_laysCosts 14 = .ok (.iload 4, 2) := by decide +kernel
theorem dX11_laysCosts_16 : decode cX11_laysCosts 16 = .ok (.iload 4, 2) := by decide +kernel
theorem dX11_laysCosts_18 : decode cX11_laysCosts 18 = .ok (.iload_n 1, 1) := by decide +kernel
theorem dX11_laysCosts_19 : decode cX11_laysCosts 19 = .ok (.if_icmp .ne 7, 3) := by decide +kernel
theorem dX11_laysCosts_22 : decode cX11_laysCosts 22 = .ok (.iconst 0, 1) := by decide +kernel
theorem dX11_laysCosts_23 : decode cX11_laysCosts 23 = .ok (.goto 6, 3) := by decide +kernel
theorem dX11_laysCosts_26 : decode cX11_laysCosts 26 = .ok (.ldc_w 348, 3) := by decide +kernel
theorem dX11_laysCosts_29 : decode cX11_laysCosts 29 = .ok (.iastore, 1) := by decide +kernel
theorem dX11_laysCosts_30 : decode cX11_laysCosts 30 = .ok (.iinc 4 1, 3) := by decide +kernel
theorem dX11_laysCosts_33 : decode cX11_laysCosts 33 = .ok (.goto (-30), 3) := by decide +kernel
theorem dX11_laysCosts_36 : decode cX11_laysCosts 36 = .ok (.iconst 0, 1) := by decide +kernel
theorem dX11_laysCosts_37 : decode cX11_laysCosts 37 = .ok (.istore 4, 2) := by decide +kernel
theorem dX11_laysCosts_39 : decode cX11_laysCosts 39 = .ok (.iload 4, 2) := by decide +kernel
theorem dX11_laysCosts_41 : decode cX11_laysCosts 41 = .ok (.iload_n 2, 1) := by decide +kernel
theorem dX11_laysCosts_42 : decode cX11_laysCosts 42 = .ok (.if_icmp .ge 124, 3) := by decide +kernel
theorem dX11_laysCosts_45 : decode cX11_laysCosts 45 = .ok (.iconst 0, 1) := by decide +kernel
theorem dX11_laysCosts_46 : decode cX11_laysCosts 46 = .ok (.istore 5, 2) := by decide +kernel
theorem dX11_laysCosts_48 : decode cX11_laysCosts 48 = .ok (.iload 5, 2) := by decide +kernel
theorem dX11_laysCosts_50 : decode cX11_laysCosts 50 = .ok (.bipush 100, 2) := by decide +kernel
theorem dX11_laysCosts_52 : decode cX11_laysCosts 52 = .ok (.if_icmp .ge 108, 3) := by decide +kernel
theorem dX11_laysCosts_55 : decode cX11_laysCosts 55 = .ok (.aload_n 0, 1) := by decide +kernel
theorem dX11_laysCosts_56 : decode cX11_laysCosts 56 = .ok (.getfield 92, 3) := by decide +kernel
theorem dX11_laysCosts_59 : decode cX11_laysCosts 59 = .ok (.iload 5, 2) := by decide +kernel
theorem dX11_laysCosts_61 : decode cX11_laysCosts 61 = .ok (.iaload, 1) := by decide +kernel
theorem dX11_laysCosts_62 : decode cX11_laysCosts 62 = .ok (.iload 4, 2) := by decide +kernel
theorem dX11_laysCosts_64 : decode cX11_laysCosts 64 = .ok (.if_icmp .eq 6, 3) := by decide +kernel
theorem dX11_laysCosts_67 : decode cX11_laysCosts 67 = .ok (.goto 87, 3) := by decide +kernel
theorem dX11_laysCosts_70 : decode cX11_laysCosts 70 = .ok (.iconst 0, 1) := by decide +kernel
theorem dX11_laysCosts_71 : decode cX11_laysCosts 71 = .ok (.istore 6, 2) := by decide +kernel
theorem dX11_laysCosts_73 : decode cX11_laysCosts 73 = .ok (.iload 6, 2) := by decide +kernel
theorem dX11_laysCosts_75 : decode cX11_laysCosts 75 = .ok (.bipush 8, 2) := by decide +kernel
theorem dX11_laysCosts_77 : decode cX11_laysCosts 77 = .ok (.if_icmp .ge 77, 3) := by decide +kernel
theorem dX11_laysCosts_80 : decode cX11_laysCosts 80 = .ok (.iload 5, 2) := by decide +kernel
theorem dX11_laysCosts_82 : decode cX11_laysCosts 82 = .ok (.iload 6, 2) := by decide +kernel
theorem dX11_laysCosts_84 : decode cX11_laysCosts 84 = .ok (.invokestatic 323, 3) := by decide +kernel
theorem dX11_laysCosts_87 : decode cX11_laysCosts 87 = .ok (.istore 7, 2) := by decide +kernel
theorem dX11_laysCosts_89 : decode cX11_laysCosts 89 = .ok (.iload 7, 2) := by decide +kernel
theorem dX11_laysCosts_91 : decode cX11_laysCosts 91 = .ok (.iconst (-1), 1) := by decide +kernel
theorem dX11_laysCosts_92 : decode cX11_laysCosts 92 = .ok (.if_icmp .eq 53, 3) := by decide +kernel
theorem dX11_laysCosts_95 : decode cX11_laysCosts 95 = .ok (.aload_n 0, 1) := by decide +kernel
theorem dX11_laysCosts_96 : decode cX11_laysCosts 96 = .ok (.getfield 92, 3) := by decide +kernel
theorem dX11_laysCosts_99 : decode cX11_laysCosts 99 = .ok (.iload 7, 2) := by decide +kernel
theorem dX11_laysCosts_101 : decode cX11_laysCosts 101 = .ok (.iaload, 1) := by decide +kernel
theorem dX11_laysCosts_102 : decode cX11_laysCosts 102 = .ok (.ldc_w 348, 3) := by decide +kernel
theorem dX11_laysCosts_105 : decode cX11_laysCosts 105 = .ok (.if_icmp .ne 40, 3) := by decide +kernel
theorem dX11_laysCosts_108 : decode cX11_laysCosts 108 = .ok (.aload_n 0, 1) := by decide +kernel
theorem dX11_laysCosts_109 : decode cX11_laysCosts 109 = .ok (.getfield 19, 3) := by decide +kernel
theorem dX11_laysCosts_112 : decode cX11_laysCosts 112 = .ok (.iload 7, 2) := by decide +kernel
theorem dX11_laysCosts_114 : decode cX11_laysCosts 114 = .ok (.iaload, 1) := by decide +kernel
theorem dX11_laysCosts_115 : decode cX11_laysCosts 115 = .ok (.iconst 1, 1) := by decide +kernel
theorem dX11_laysCosts_116 : decode cX11_laysCosts 116 = .ok (.if_icmp .eq 29, 3) := by decide +kernel
theorem dX11_laysCosts_119 : decode cX11_laysCosts 119 = .ok (.iload_n 3, 1) := by decide +kernel
theorem dX11_laysCosts_120 : decode cX11_laysCosts 120 = .ok (.ifCond .eq 14, 3) := by decide +kernel
theorem dX11_laysCosts_123 : decode cX11_laysCosts 123 = .ok (.aload_n 0, 1) := by decide +kernel
theorem dX11_laysCosts_124 : decode cX11_laysCosts 124 = .ok (.getfield 19, 3) := by decide +kernel
theorem dX11_laysCosts_127 : decode cX11_laysCosts 127 = .ok (.iload 7, 2) := by decide +kernel
theorem dX11_laysCosts_129 : decode cX11_laysCosts 129 = .ok (.iaload, 1) := by decide +kernel
theorem dX11_laysCosts_130 : decode cX11_laysCosts 130 = .ok (.iconst 3, 1) := by decide +kernel
theorem dX11_laysCosts_131 : decode cX11_laysCosts 131 = .ok (.if_icmp .eq 14, 3) := by decide +kernel
theorem dX11_laysCosts_134 : decode cX11_laysCosts 134 = .ok (.aload_n 0, 1) := by decide +kernel
theorem dX11_laysCosts_135 : decode cX11_laysCosts 135 = .ok (.getfield 92, 3) := by decide +kernel
theorem dX11_laysCosts_138 : decode cX11_laysCosts 138 = .ok (.iload 7, 2) := by decide +kernel
theorem dX11_laysCosts_140 : decode cX11_laysCosts 140 = .ok (.iload 4, 2) := by decide +kernel
theorem dX11_laysCosts_142 : decode cX11_laysCosts 142 = .ok (.iconst 1, 1) := by decide +kernel
theorem dX11_laysCosts_143 : decode cX11_laysCosts 143 = .ok (.iadd, 1) := by decide +kernel
theorem dX11_laysCosts_144 : decode cX11_laysCosts 144 = .ok (.iastore, 1) := by decide +kernel
theorem dX11_laysCosts_145 : decode cX11_laysCosts 145 = .ok (.iload 6, 2) := by decide +kernel
theorem dX11_laysCosts_147 : decode cX11_laysCosts 147 = .ok (.iconst 2, 1) := by decide +kernel
theorem dX11_laysCosts_148 : decode cX11_laysCosts 148 = .ok (.iadd, 1) := by decide +kernel
theorem dX11_laysCosts_149 : decode cX11_laysCosts 149 = .ok (.istore 6, 2) := by decide +kernel
theorem dX11_laysCosts_151 : decode cX11_laysCosts 151 = .ok (.goto (-78), 3) := by decide +kernel
theorem dX11_laysCosts_154 : decode cX11_laysCosts 154 = .ok (.iinc 5 1, 3) := by decide +kernel
theorem dX11_laysCosts_157 : decode cX11_laysCosts 157 = .ok (.goto (-109), 3) := by decide +kernel
theorem dX11_laysCosts_160 : decode cX11_laysCosts 160 = .ok (.iinc 4 1, 3) := by decide +kernel
theorem dX11_laysCosts_163 : decode cX11_laysCosts 163 = .ok (.goto (-124), 3) := by decide +kernel
theorem dX11_laysCosts_166 : decode cX11_laysCosts 166 = .ok (.return_, 1) := by decide +kernel
theorem dX11_max_0 : decode cX11_max 0 = .ok (.iload_n 0, 1) := by decide +kernel
theorem dX11_max_1 : decode cX11_max 1 = .ok (.iload_n 1, 1) := by decide +kernel
theorem dX11_max_2 : decode cX11_max 2 = .ok (.if_icmp .le 7, 3) := by decide +kernel
theorem dX11_max_5 : decode cX11_max 5 = .ok (.iload_n 0, 1) := by decide +kernel
theorem dX11_max_6 : decode cX11_max 6 = .ok (.goto 4, 3) := by decide +kernel
theorem dX11_max_9 : decode cX11_max 9 = .ok (.iload_n 1, 1) := by decide +kernel
theorem dX11_max_10 : decode cX11_max 10 = .ok (.ireturn, 1) := by decide +kernel
theorem dX11_min_0 : decode cX11_min 0 = .ok (.iload_n 0, 1) := by decide +kernel
theorem dX11_min_1 : decode cX11_min 1 = .ok (.iload_n 1, 1) := by decide +kernel
theorem dX11_min_2 : decode cX11_min 2 = .ok (.if_icmp .ge 7, 3) := by decide +kernel
theorem dX11_min_5 : decode cX11_min 5 = .ok (.iload_n 0, 1) := by decide +kernel
theorem dX11_min_6 : decode cX11_min 6 = .ok (.goto 4, 3) := by decide +kernel
theorem dX11_min_9 : decode cX11_min 9 = .ok (.iload_n 1, 1) := by decide +kernel
theorem dX11_min_10 : decode cX11_min 10 = .ok (.ireturn, 1) := by decide +kernel
theorem dX11_owedAll_0 : decode cX11_owedAll 0 = .ok (.iconst 0, 1) := by decide +kernel
theorem dX11_owedAll_1 : decode cX11_owedAll 1 = .ok (.istore_n 1, 1) := by decide +kernel
theorem dX11_owedAll_2 : decode cX11_owedAll 2 = .ok (.iconst 0, 1) := by decide +kernel
theorem dX11_owedAll_3 : decode cX11_owedAll 3 = .ok (.istore_n 2, 1) := by decide +kernel
theorem dX11_owedAll_4 : decode cX11_owedAll 4 = .ok (.iload_n 2, 1) := by decide +kernel
theorem dX11_owedAll_5 : decode cX11_owedAll 5 = .ok (.bipush 10, 2) := by decide +kernel
theorem dX11_owedAll_7 : decode cX11_owedAll 7 = .ok (.if_icmp .ge 33, 3) := by decide +kernel
theorem dX11_owedAll_10 : decode cX11_owedAll 10 = .ok (.iload_n 1, 1) := by decide +kernel
theorem dX11_owedAll_11 : decode cX11_owedAll 11 = .ok (.aload_n 0, 1) := by decide +kernel
theorem dX11_owedAll_12 : decode cX11_owedAll 12 = .ok (.iload_n 2, 1) := by decide +kernel
theorem dX11_owedAll_13 : decode cX11_owedAll 13 = .ok (.invokevirtual 146, 3) := by decide +kernel
theorem dX11_owedAll_16 : decode cX11_owedAll 16 = .ok (.ifCond .eq 15, 3) := by decide +kernel
theorem dX11_owedAll_19 : decode cX11_owedAll 19 = .ok (.aload_n 0, 1) := by decide +kernel
theorem dX11_owedAll_20 : decode cX11_owedAll 20 = .ok (.getfield 7, 3) := by decide +kernel
theorem dX11_owedAll_23 : decode cX11_owedAll 23 = .ok (.bipush 14, 2) := by decide +kernel
theorem dX11_owedAll_25 : decode cX11_owedAll 25 = .ok (.iload_n 2, 1) := by decide +kernel
theorem dX11_owedAll_26 : decode cX11_owedAll 26 = .ok (.iadd, 1) := by decide +kernel
theorem dX11_owedAll_27 : decode cX11_owedAll 27 = .ok (.iaload, 1) := by decide +kernel
theorem dX11_owedAll_28 : decode cX11_owedAll 28 = .ok (.goto 4, 3) := by decide +kernel
theorem dX11_owedAll_31 : decode cX11_owedAll 31 = .ok (.iconst 0, 1) := by decide +kernel
theorem dX11_owedAll_32 : decode cX11_owedAll 32 = .ok (.iadd, 1) := by decide +kernel
theorem dX11_owedAll_33 : decode cX11_owedAll 33 = .ok (.istore_n 1, 1) := by decide +kernel
theorem dX11_owedAll_34 : decode cX11_owedAll 34 = .ok (.iinc 2 1, 3) := by decide +kernel
theorem dX11_owedAll_37 : decode cX11_owedAll 37 = .ok (.goto (-33), 3) := by decide +kernel
theorem dX11_owedAll_40 : decode cX11_owedAll 40 = .ok (.iload_n 1, 1) := by decide +kernel
theorem dX11_owedAll_41 : decode cX11_owedAll 41 = .ok (.ireturn, 1) := by decide +kernel
theorem dX11_owes_0 : decode cX11_owes 0 = .ok (.aload_n 0, 1) := by decide +kernel
theorem dX11_owes_1 : decode cX11_owes 1 = .ok (.iload_n 1, 1) := by decide +kernel
theorem dX11_owes_2 : decode cX11_owes 2 = .ok (.invokevirtual 146, 3) := by decide +kernel
theorem dX11_owes_5 : decode cX11_owes 5 = .ok (.ifCond .eq 33, 3) := by decide +kernel
theorem dX11_owes_8 : decode cX11_owes 8 = .ok (.aload_n 0, 1) := by decide +kernel
theorem dX11_owes_9 : decode cX11_owes 9 = .ok (.getfield 7, 3) := by decide +kernel
theorem dX11_owes_12 : decode cX11_owes 12 = .ok (.bipush 14, 2) := by decide +kernel
theorem dX11_owes_14 : decode cX11_owes 14 = .ok (.iload_n 1, 1) := by decide +kernel
theorem dX11_owes_15 : decode cX11_owes 15 = .ok (.iadd, 1) := by decide +kernel
theorem dX11_owes_16 : decode cX11_owes 16 = .ok (.iaload, 1) := by decide +kernel
theorem dX11_owes_17 : decode cX11_owes 17 = .ok (.ifCond .le 21, 3) := by decide +kernel
theorem dX11_owes_20 : decode cX11_owes 20 = .ok (.aload_n 0, 1) := by decide +kernel
theorem dX11_owes_21 : decode cX11_owes 21 = .ok (.getfield 7, 3) := by decide +kernel
theorem dX11_owes_24 : decode cX11_owes 24 = .ok (.bipush 36, 2) := by decide +kernel
theorem dX11_owes_26 : decode cX11_owes 26 = .ok (.iaload, 1) := by decide +kernel
theorem dX11_owes_27 : decode cX11_owes 27 = .ok (.iload_n 1, 1) := by decide +kernel
theorem dX11_owes_28 : decode cX11_owes 28 = .ok (.invokestatic 143, 3) := by decide +kernel
theorem dX11_owes_31 : decode cX11_owes 31 = .ok (.ifCond .ne 7, 3) := by decide +kernel
theorem dX11_owes_34 : decode cX11_owes 34 = .ok (.iconst 1, 1) := by decide +kernel
theorem dX11_owes_35 : decode cX11_owes 35 = .ok (.goto 4, 3) := by decide +kernel
theorem dX11_owes_38 : decode cX11_owes 38 = .ok (.iconst 0, 1) := by decide +kernel
theorem dX11_owes_39 : decode cX11_owes 39 = .ok (.ireturn, 1) := by decide +kernel
theorem dX11_reckon_0 : decode cX11_reckon 0 = .ok (.iload_n 0, 1) := by decide +kernel
theorem dX11_reckon_1 : decode cX11_reckon 1 = .ok (.tableswitch 85 2 8 #[43, 47, 51, 55, 59, 63, 74], 43) := by decide +kernel
theorem dX11_reckon_44 : decode cX11_reckon 44 = .ok (.iload_n 1, 1) := by decide +kernel
theorem dX11_reckon_45 : decode cX11_reckon 45 = .ok (.iload_n 2, 1) := by decide +kernel
theorem dX11_reckon_46 : decode cX11_reckon 46 = .ok (.iadd, 1) := by decide +kernel
theorem dX11_reckon_47 : decode cX11_reckon 47 = .ok (.ireturn, 1) := by decide +kernel
theorem dX11_reckon_48 : decode cX11_reckon 48 = .ok (.iload_n 1, 1) := by decide +kernel
theorem dX11_reckon_49 : decode cX11_reckon 49 = .ok (.iload_n 2, 1) := by decide +kernel
theorem dX11_reckon_50 : decode cX11_reckon 50 = .ok (.isub, 1) := by decide +kernel
theorem dX11_reckon_51 : decode cX11_reckon 51 = .ok (.ireturn, 1) := by decide +kernel
theorem dX11_reckon_52 : decode cX11_reckon 52 = .ok (.iload_n 1, 1) := by decide +kernel
theorem dX11_reckon_53 : decode cX11_reckon 53 = .ok (.iload_n 2, 1) := by decide +kernel
theorem dX11_reckon_54 : decode cX11_reckon 54 = .ok (.imul, 1) := by decide +kernel
theorem dX11_reckon_55 : decode cX11_reckon 55 = .ok (.ireturn, 1) := by decide +kernel
theorem dX11_reckon_56 : decode cX11_reckon 56 = .ok (.iload_n 1, 1) := by decide +kernel
theorem dX11_reckon_57 : decode cX11_reckon 57 = .ok (.iload_n 2, 1) := by decide +kernel
theorem dX11_reckon_58 : decode cX11_reckon 58 = .ok (.idiv, 1) := by decide +kernel
theorem dX11_reckon_59 : decode cX11_reckon 59 = .ok (.ireturn, 1) := by decide +kernel
theorem dX11_reckon_60 : decode cX11_reckon 60 = .ok (.iload_n 1, 1) := by decide +kernel
theorem dX11_reckon_61 : decode cX11_reckon 61 = .ok (.iload_n 2, 1) := by decide +kernel
theorem dX11_reckon_62 : decode cX11_reckon 62 = .ok (.irem, 1) := by decide +kernel
theorem dX11_reckon_63 : decode cX11_reckon 63 = .ok (.ireturn, 1) := by decide +kernel
theorem dX11_reckon_64 : decode cX11_reckon 64 = .ok (.iload_n 1, 1) := by decide +kernel
theorem dX11_reckon_65 : decode cX11_reckon 65 = .ok (.iload_n 2, 1) := by decide +kernel
theorem dX11_reckon_66 : decode cX11_reckon 66 = .ok (.if_icmp .ge 7, 3) := by decide +kernel
theorem dX11_reckon_69 : decode cX11_reckon 69 = .ok (.iconst 1, 1) := by decide +kernel
theorem dX11_reckon_70 : decode cX11_reckon 70 = .ok (.goto 4, 3) := by decide +kernel
theorem dX11_reckon_73 : decode cX11_reckon 73 = .ok (.iconst 0, 1) := by decide +kernel
theorem dX11_reckon_74 : decode cX11_reckon 74 = .ok (.ireturn, 1) := by decide +kernel
theorem dX11_reckon_75 : decode cX11_reckon 75 = .ok (.iload_n 1, 1) := by decide +kernel
theorem dX11_reckon_76 : decode cX11_reckon 76 = .ok (.iload_n 2, 1) := by decide +kernel
theorem dX11_reckon_77 : decode cX11_reckon 77 = .ok (.if_icmp .le 7, 3) := by decide +kernel
theorem dX11_reckon_80 : decode cX11_reckon 80 = .ok (.iconst 1, 1) := by decide +kernel
theorem dX11_reckon_81 : decode cX11_reckon 81 = .ok (.goto 4, 3) := by decide +kernel
theorem dX11_reckon_84 : decode cX11_reckon 84 = .ok (.iconst 0, 1) := by decide +kernel
theorem dX11_reckon_85 : decode cX11_reckon 85 = .ok (.ireturn, 1) := by decide +kernel
theorem dX11_reckon_86 : decode cX11_reckon 86 = .ok (.iload_n 1, 1) := by decide +kernel
theorem dX11_reckon_87 : decode cX11_reckon 87 = .ok (.iload_n 2, 1) := by decide +kernel
theorem dX11_reckon_88 : decode cX11_reckon 88 = .ok (.if_icmp .ne 7, 3) := by decide +kernel
theorem dX11_reckon_91 : decode cX11_reckon 91 = .ok (.iconst 1, 1) := by decide +kernel
theorem dX11_reckon_92 : decode cX11_reckon 92 = .ok (.goto 4, 3) := by decide +kernel
theorem dX11_reckon_95 : decode cX11_reckon 95 = .ok (.iconst 0, 1) := by decide +kernel
theorem dX11_reckon_96 : decode cX11_reckon 96 = .ok (.ireturn, 1) := by decide +kernel
theorem dX11_steps_0 : decode cX11_steps 0 = .ok (.iload_n 2, 1) := by decide +kernel
theorem dX11_steps_1 : decode cX11_steps 1 = .ok (.bipush 8, 2) := by decide +kernel
theorem dX11_steps_3 : decode cX11_steps 3 = .ok (.if_icmp .ne 7, 3) := by decide +kernel
theorem dX11_steps_6 : decode cX11_steps 6 = .ok (.iconst (-1), 1) := by decide +kernel
theorem dX11_steps_7 : decode cX11_steps 7 = .ok (.goto 15, 3) := by decide +kernel
theorem dX11_steps_10 : decode cX11_steps 10 = .ok (.aload_n 0, 1) := by decide +kernel
theorem dX11_steps_11 : decode cX11_steps 11 = .ok (.getfield 7, 3) := by decide +kernel
theorem dX11_steps_14 : decode cX11_steps 14 = .ok (.iconst 0, 1) := by decide +kernel
theorem dX11_steps_15 : decode cX11_steps 15 = .ok (.iload_n 1, 1) := by decide +kernel
theorem dX11_steps_16 : decode cX11_steps 16 = .ok (.iadd, 1) := by decide +kernel
theorem dX11_steps_17 : decode cX11_steps 17 = .ok (.iaload, 1) := by decide +kernel
theorem dX11_steps_18 : decode cX11_steps 18 = .ok (.iload_n 2, 1) := by decide +kernel
theorem dX11_steps_19 : decode cX11_steps 19 = .ok (.invokestatic 323, 3) := by decide +kernel
theorem dX11_steps_22 : decode cX11_steps 22 = .ok (.istore_n 3, 1) := by decide +kernel
theorem dX11_steps_23 : decode cX11_steps 23 = .ok (.iload_n 3, 1) := by decide +kernel
theorem dX11_steps_24 : decode cX11_steps 24 = .ok (.iconst (-1), 1) := by decide +kernel
theorem dX11_steps_25 : decode cX11_steps 25 = .ok (.if_icmp .eq 33, 3) := by decide +kernel
theorem dX11_steps_28 : decode cX11_steps 28 = .ok (.aload_n 0, 1) := by decide +kernel
theorem dX11_steps_29 : decode cX11_steps 29 = .ok (.iload_n 3, 1) := by decide +kernel
theorem dX11_steps_30 : decode cX11_steps 30 = .ok (.invokevirtual 263, 3) := by decide +kernel
theorem dX11_steps_33 : decode cX11_steps 33 = .ok (.ifCond .eq 25, 3) := by decide +kernel
theorem dX11_steps_36 : decode cX11_steps 36 = .ok (.aload_n 0, 1) := by decide +kernel
theorem dX11_steps_37 : decode cX11_steps 37 = .ok (.iconst 1, 1) := by decide +kernel
theorem dX11_steps_38 : decode cX11_steps 38 = .ok (.iload_n 1, 1) := by decide +kernel
theorem dX11_steps_39 : decode cX11_steps 39 = .ok (.isub, 1) := by decide +kernel
theorem dX11_steps_40 : decode cX11_steps 40 = .ok (.invokevirtual 260, 3) := by decide +kernel
theorem dX11_steps_43 : decode cX11_steps 43 = .ok (.ifCond .eq 16, 3) := by decide +kernel
theorem dX11_steps_46 : decode cX11_steps 46 = .ok (.aload_n 0, 1) := by decide +kernel
theorem dX11_steps_47 : decode cX11_steps 47 = .ok (.getfield 7, 3) := by decide +kernel
theorem dX11_steps_50 : decode cX11_steps 50 = .ok (.iconst 1, 1) := by decide +kernel
theorem dX11_steps_51 : decode cX11_steps 51 = .ok (.iload_n 1, 1) := by decide +kernel
theorem dX11_steps_52 : decode cX11_steps 52 = .ok (.isub, 1) := by decide +kernel
theorem dX11_steps_53 : decode cX11_steps 53 = .ok (.iaload, 1) := by decide +kernel
theorem dX11_steps_54 : decode cX11_steps 54 = .ok (.iload_n 3, 1) := by decide +kernel
theorem dX11_steps_55 : decode cX11_steps 55 = .ok (.if_icmp .ne 4, 3) := by decide +kernel
theorem dX11_steps_58 : decode cX11_steps 58 = .ok (.return_, 1) := by decide +kernel
theorem dX11_steps_59 : decode cX11_steps 59 = .ok (.aload_n 0, 1) := by decide +kernel
theorem dX11_steps_60 : decode cX11_steps 60 = .ok (.getfield 7, 3) := by decide +kernel
theorem dX11_steps_63 : decode cX11_steps 63 = .ok (.iconst 0, 1) := by decide +kernel
theorem dX11_steps_64 : decode cX11_steps 64 = .ok (.iload_n 1, 1) := by decide +kernel
theorem dX11_steps_65 : decode cX11_steps 65 = .ok (.iadd, 1) := by decide +kernel
theorem dX11_steps_66 : decode cX11_steps 66 = .ok (.iload_n 3, 1) := by decide +kernel
theorem dX11_steps_67 : decode cX11_steps 67 = .ok (.iastore, 1) := by decide +kernel
theorem dX11_steps_68 : decode cX11_steps 68 = .ok (.return_, 1) := by decide +kernel
theorem dX11_types_0 : decode cX11_types 0 = .ok (.iconst 3, 1) := by decide +kernel
theorem dX11_types_1 : decode cX11_types 1 = .ok (.istore_n 2, 1) := by decide +kernel
theorem dX11_types_2 : decode cX11_types 2 = .ok (.iload_n 2, 1) := by decide +kernel
theorem dX11_types_3 : decode cX11_types 3 = .ok (.ifCond .lt 35, 3) := by decide +kernel
theorem dX11_types_6 : decode cX11_types 6 = .ok (.aload_n 0, 1) := by decide +kernel
theorem dX11_types_7 : decode cX11_types 7 = .ok (.getfield 32, 3) := by decide +kernel
theorem dX11_types_10 : decode cX11_types 10 = .ok (.aload_n 0, 1) := by decide +kernel
theorem dX11_types_11 : decode cX11_types 11 = .ok (.getfield 164, 3) := by decide +kernel
theorem dX11_types_14 : decode cX11_types 14 = .ok (.iload_n 1, 1) := by decide +kernel
theorem dX11_types_15 : decode cX11_types 15 = .ok (.bipush 8, 2) := by decide +kernel
theorem dX11_types_17 : decode cX11_types 17 = .ok (.iload_n 2, 1) := by decide +kernel
theorem dX11_types_18 : decode cX11_types 18 = .ok (.imul, 1) := by decide +kernel
theorem dX11_types_19 : decode cX11_types 19 = .ok (.ishr, 1) := by decide +kernel
theorem dX11_types_20 : decode cX11_types 20 = .ok (.i2b, 1) := by decide +kernel
theorem dX11_types_21 : decode cX11_types 21 = .ok (.bastore, 1) := by decide +kernel
theorem dX11_types_22 : decode cX11_types 22 = .ok (.aload_n 0, 1) := by decide +kernel
theorem dX11_types_23 : decode cX11_types 23 = .ok (.aload_n 0, 1) := by decide +kernel
theorem dX11_types_24 : decode cX11_types 24 = .ok (.getfield 164, 3) := by decide +kernel
theorem dX11_types_27 : decode cX11_types 27 = .ok (.iconst 1, 1) := by decide +kernel
theorem dX11_types_28 : decode cX11_types 28 = .ok (.iadd, 1) := by decide +kernel
theorem dX11_types_29 : decode cX11_types 29 = .ok (.putfield 164, 3) := by decide +kernel
theorem dX11_types_32 : decode cX11_types 32 = .ok (.iinc 2 (-1), 3) := by decide +kernel
theorem dX11_types_35 : decode cX11_types 35 = .ok (.goto (-33), 3) := by decide +kernel
theorem dX11_types_38 : decode cX11_types 38 = .ok (.return_, 1) := by decide +kernel
theorem dX11_walksOn_0 : decode cX11_walksOn 0 = .ok (.aload_n 0, 1) := by decide +kernel
theorem dX11_walksOn_1 : decode cX11_walksOn 1 = .ok (.iload_n 1, 1) := by decide +kernel
theorem dX11_walksOn_2 : decode cX11_walksOn 2 = .ok (.invokevirtual 260, 3) := by decide +kernel
theorem dX11_walksOn_5 : decode cX11_walksOn 5 = .ok (.ifCond .eq 20, 3) := by decide +kernel
theorem dX11_walksOn_8 : decode cX11_walksOn 8 = .ok (.aload_n 0, 1) := by decide +kernel
theorem dX11_walksOn_9 : decode cX11_walksOn 9 = .ok (.getfield 7, 3) := by decide +kernel
theorem dX11_walksOn_12 : decode cX11_walksOn 12 = .ok (.iconst 2, 1) := by decide +kernel
theorem dX11_walksOn_13 : decode cX11_walksOn 13 = .ok (.iload_n 1, 1) := by decide +kernel
theorem dX11_walksOn_14 : decode cX11_walksOn 14 = .ok (.iadd, 1) := by decide +kernel
theorem dX11_walksOn_15 : decode cX11_walksOn 15 = .ok (.iaload, 1) := by decide +kernel
theorem dX11_walksOn_16 : decode cX11_walksOn 16 = .ok (.aload_n 0, 1) := by decide +kernel
theorem dX11_walksOn_17 : decode cX11_walksOn 17 = .ok (.getfield 25, 3) := by decide +kernel
theorem dX11_walksOn_20 : decode cX11_walksOn 20 = .ok (.iload_n 1, 1) := by decide +kernel
theorem dX11_walksOn_21 : decode cX11_walksOn 21 = .ok (.iaload, 1) := by decide +kernel
theorem dX11_walksOn_22 : decode cX11_walksOn 22 = .ok (.if_icmp .lt 4, 3) := by decide +kernel
theorem dX11_walksOn_25 : decode cX11_walksOn 25 = .ok (.return_, 1) := by decide +kernel
theorem dX11_walksOn_26 : decode cX11_walksOn 26 = .ok (.aload_n 0, 1) := by decide +kernel
theorem dX11_walksOn_27 : decode cX11_walksOn 27 = .ok (.getfield 28, 3) := by decide +kernel
theorem dX11_walksOn_30 : decode cX11_walksOn 30 = .ok (.bipush 60, 2) := by decide +kernel
theorem dX11_walksOn_32 : decode cX11_walksOn 32 = .ok (.iload_n 1, 1) := by decide +kernel
theorem dX11_walksOn_33 : decode cX11_walksOn 33 = .ok (.imul, 1) := by decide +kernel
theorem dX11_walksOn_34 : decode cX11_walksOn 34 = .ok (.aload_n 0, 1) := by decide +kernel
theorem dX11_walksOn_35 : decode cX11_walksOn 35 = .ok (.getfield 7, 3) := by decide +kernel
theorem dX11_walksOn_38 : decode cX11_walksOn 38 = .ok (.iconst 2, 1) := by decide +kernel
theorem dX11_walksOn_39 : decode cX11_walksOn 39 = .ok (.iload_n 1, 1) := by decide +kernel
theorem dX11_walksOn_40 : decode cX11_walksOn 40 = .ok (.iadd, 1) := by decide +kernel
theorem dX11_walksOn_41 : decode cX11_walksOn 41 = .ok (.iaload, 1) := by decide +kernel
theorem dX11_walksOn_42 : decode cX11_walksOn 42 = .ok (.iadd, 1) := by decide +kernel
theorem dX11_walksOn_43 : decode cX11_walksOn 43 = .ok (.baload, 1) := by decide +kernel
theorem dX11_walksOn_44 : decode cX11_walksOn 44 = .ok (.istore_n 2, 1) := by decide +kernel
theorem dX11_walksOn_45 : decode cX11_walksOn 45 = .ok (.aload_n 0, 1) := by decide +kernel
theorem dX11_walksOn_46 : decode cX11_walksOn 46 = .ok (.getfield 7, 3) := by decide +kernel
theorem dX11_walksOn_49 : decode cX11_walksOn 49 = .ok (.iconst 2, 1) := by decide +kernel
theorem dX11_walksOn_50 : decode cX11_walksOn 50 = .ok (.iload_n 1, 1) := by decide +kernel
theorem dX11_walksOn_51 : decode cX11_walksOn 51 = .ok (.iadd, 1) := by decide +kernel
theorem dX11_walksOn_52 : decode cX11_walksOn 52 = .ok (.aload_n 0, 1) := by decide +kernel
theorem dX11_walksOn_53 : decode cX11_walksOn 53 = .ok (.getfield 7, 3) := by decide +kernel
theorem dX11_walksOn_56 : decode cX11_walksOn 56 = .ok (.iconst 2, 1) := by decide +kernel
theorem dX11_walksOn_57 : decode cX11_walksOn 57 = .ok (.iload_n 1, 1) := by decide +kernel
theorem dX11_walksOn_58 : decode cX11_walksOn 58 = .ok (.iadd, 1) := by decide +kernel
theorem dX11_walksOn_59 : decode cX11_walksOn 59 = .ok (.iaload, 1) := by decide +kernel
theorem dX11_walksOn_60 : decode cX11_walksOn 60 = .ok (.iconst 1, 1) := by decide +kernel
theorem dX11_walksOn_61 : decode cX11_walksOn 61 = .ok (.iadd, 1) := by decide +kernel
theorem dX11_walksOn_62 : decode cX11_walksOn 62 = .ok (.iastore, 1) := by decide +kernel
theorem dX11_walksOn_63 : decode cX11_walksOn 63 = .ok (.aload_n 0, 1) := by decide +kernel
theorem dX11_walksOn_64 : decode cX11_walksOn 64 = .ok (.iload_n 1, 1) := by decide +kernel
theorem dX11_walksOn_65 : decode cX11_walksOn 65 = .ok (.iload_n 2, 1) := by decide +kernel
theorem dX11_walksOn_66 : decode cX11_walksOn 66 = .ok (.invokevirtual 345, 3) := by decide +kernel
theorem dX11_walksOn_69 : decode cX11_walksOn 69 = .ok (.return_, 1) := by decide +kernel
theorem dX11_wayX_0 : decode cX11_wayX 0 = .ok (.iload_n 0, 1) := by decide +kernel
theorem dX11_wayX_1 : decode cX11_wayX 1 = .ok (.ifCond .eq 8, 3) := by decide +kernel
theorem dX11_wayX_4 : decode cX11_wayX 4 = .ok (.iload_n 0, 1) := by decide +kernel
theorem dX11_wayX_5 : decode cX11_wayX 5 = .ok (.iconst 4, 1) := by decide +kernel
theorem dX11_wayX_6 : decode cX11_wayX 6 = .ok (.if_icmp .ne 7, 3) := by decide +kernel
theorem dX11_wayX_9 : decode cX11_wayX 9 = .ok (.iconst 0, 1) := by decide +kernel
theorem dX11_wayX_10 : decode cX11_wayX 10 = .ok (.goto 13, 3) := by decide +kernel
theorem dX11_wayX_13 : decode cX11_wayX 13 = .ok (.iload_n 0, 1) := by decide +kernel
theorem dX11_wayX_14 : decode cX11_wayX 14 = .ok (.iconst 4, 1) := by decide +kernel
theorem dX11_wayX_15 : decode cX11_wayX 15 = .ok (.if_icmp .ge 7, 3) := by decide +kernel
theorem dX11_wayX_18 : decode cX11_wayX 18 = .ok (.iconst 1, 1) := by decide +kernel
theorem dX11_wayX_19 : decode cX11_wayX 19 = .ok (.goto 4, 3) := by decide +kernel
theorem dX11_wayX_22 : decode cX11_wayX 22 = .ok (.iconst (-1), 1) := by decide +kernel
theorem dX11_wayX_23 : decode cX11_wayX 23 = .ok (.ireturn, 1) := by decide +kernel
theorem dX11_wayY_0 : decode cX11_wayY 0 = .ok (.iload_n 0, 1) := by decide +kernel
theorem dX11_wayY_1 : decode cX11_wayY 1 = .ok (.iconst 2, 1) := by decide +kernel
theorem dX11_wayY_2 : decode cX11_wayY 2 = .ok (.if_icmp .eq 9, 3) := by decide +kernel
theorem dX11_wayY_5 : decode cX11_wayY 5 = .ok (.iload_n 0, 1) := by decide +kernel
theorem dX11_wayY_6 : decode cX11_wayY 6 = .ok (.bipush 6, 2) := by decide +kernel
theorem dX11_wayY_8 : decode cX11_wayY 8 = .ok (.if_icmp .ne 7, 3) := by decide +kernel
theorem dX11_wayY_11 : decode cX11_wayY 11 = .ok (.iconst 0, 1) := by decide +kernel
theorem dX11_wayY_12 : decode cX11_wayY 12 = .ok (.goto 17, 3) := by decide +kernel
theorem dX11_wayY_15 : decode cX11_wayY 15 = .ok (.iload_n 0, 1) := by decide +kernel
theorem dX11_wayY_16 : decode cX11_wayY 16 = .ok (.iconst 3, 1) := by decide +kernel
theorem dX11_wayY_17 : decode cX11_wayY 17 = .ok (.iconst 5, 1) := by decide +kernel
theorem dX11_wayY_18 : decode cX11_wayY 18 = .ok (.invokestatic 150, 3) := by decide +kernel
theorem dX11_wayY_21 : decode cX11_wayY 21 = .ok (.ifCond .eq 7, 3) := by decide +kernel
theorem dX11_wayY_24 : decode cX11_wayY 24 = .ok (.iconst (-1), 1) := by decide +kernel
theorem dX11_wayY_25 : decode cX11_wayY 25 = .ok (.goto 4, 3) := by decide +kernel
theorem dX11_wayY_28 : decode cX11_wayY 28 = .ok (.iconst 1, 1) := by decide +kernel
theorem dX11_wayY_29 : decode cX11_wayY 29 = .ok (.ireturn, 1) := by decide +kernel


