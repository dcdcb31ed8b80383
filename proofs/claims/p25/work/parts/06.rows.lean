section X7
variable {p : Program} {l : Launch} {e : Env} {R : Room} {s : State} {m : MethodId} {args : Array Value} {below : List Frame} {meth : Method} {c : Code} {H : Heap} {locs : List Loc} {cells slots : Nat} {Q : State → Prop}
variable {cc : ByteArray} {pc : Nat} {ls : Array Slot} {rest st0 : List Value} {D : va_G} {g : xG} {T : Nat × Nat × Nat} {h0 : Nat} {σ : xS} {own : String} {index nL : Nat}
theorem x_mmin (hx : p.tables.exec = Jvm.exec) (hb : c.code = cc) (hml : c.maxLocals = nL) (hls : ls.size = nL) (hown : s.vm.findClass own = some m.cls) (hT : ∀ w ∈ xTB, w.before args s = true) (hl : Cond.methodLink own index Lib.Math.min.name ∈ xTB) (h2 : Cond.static Lib.Math.min.name ∈ xTB) (h3 : Cond.initialized "java/lang/Math" ∈ xTB) (h4 : Cond.code Lib.Math.min.name Lib.Math.min.code 2 (some .int) ∈ xTB) (hrm : 1 ≤ R.frames ∧ (rest.map fun v => v.category).sum + 13 ≤ R.locals ∧ cells ≤ R.cells ∧ slots ≤ R.slots) {a b : Int} (ha : xR a) (hb2 : xR b) (hdg : decode cc pc = .ok (.invokestatic index, 3))
    (kk : W p l e R s m args below meth c H locs cells slots Q (F0 m (pc + 3) ls (.int (xJ (if b < a then b else a)) :: rest))) : W p l e R s m args below meth c H locs cells slots Q (F0 m pc ls (.int (xJ b) :: .int (xJ a) :: rest)) :=
  va_mmin hx hb (hml.trans hls.symm) hown (hT _ hl) (hT _ h2) (hT _ h3) (hT _ h4) hrm.1 hrm.2.1 hrm.2.2.1 hrm.2.2.2 hdg (by
    have e : (if xJ b < xJ a then xJ b else xJ a) = xJ (if b < a then b else a) := by
      by_cases h : b < a
      · rw [if_pos h, if_pos ((xJ_lt hb2 ha).mpr h)]
      · rw [if_neg h, if_neg (fun q => h ((xJ_lt hb2 ha).mp q))]
    rw [e]; exact kk)
theorem xAr.celn {r : Nat} (h : xAr σ r) : xcel h0 g σ r = .inl (g.1, xlen σ r, .inl (fun j => xJ (σ r j))) := by
  unfold xlen
  rcases h with ⟨h1, h2⟩ | h
  · obtain ⟨q, e⟩ : ∃ q, xtab.getD r (9, 0) = (0, q) := ⟨_, Prod.ext h2 rfl⟩
    unfold xcel
    rw [if_pos h1, if_pos h1, e]
    rfl
  · unfold xcel
    rw [if_neg (by omega), if_neg (by omega)]
    rfl
theorem xtab_len : ∀ r, r < 310 → (xtab.getD r (9, 0)).2 ≤ 10000 := by decide +kernel
theorem xlen_le (h : xRR σ) (r : Nat) : xlen σ r ≤ 2147483647 := by
  unfold xlen
  split
  · rename_i q
    have := xtab_len r q
    omega
  · have := h 999998 r
    omega
theorem x_alenW {v : Int} (hx : p.tables.exec = Jvm.exec) (hb : c.code = cc) (hE : xE D g T h0 s) (hW : xW D g h0 s H locs σ) (h : xAr σ v.toNat) (hdg : decode cc pc = .ok (.arraylength, 1))
    (kk : ∀ n : Int, n = (xlen σ v.toNat : Int) → (0 ≤ n ∧ n ≤ 2147483647) → W p l e R s m args below meth c H locs cells slots Q (F0 m (pc + 1) ls (.int (xJ n) :: rest))) : W p l e R s m args below meth c H locs cells slots Q (F0 m pc ls (.ref (h0 + v.toNat) :: rest)) := by
  have h1 := xlen_le hW.2.1 v.toNat
  exact x_alen (k := v.toNat) (n := xlen σ v.toNat) (t0 := 0) hx hb hE hW h.v (h.celn) rfl rfl hdg (kk _ rfl (by omega))
theorem x_ialdW {v a : Int} (hx : p.tables.exec = Jvm.exec) (hb : c.code = cc) (hE : xE D g T h0 s) (hW : xW D g h0 s H locs σ) (h : xAr σ v.toNat) (hi : 0 ≤ a ∧ a < (xlen σ v.toNat : Int)) (hdg : decode cc pc = .ok (.iaload, 1))
    (kk : ∀ y : Int, xR y → W p l e R s m args below meth c H locs cells slots Q (F0 m (pc + 1) ls (.int (xJ y) :: rest))) : W p l e R s m args below meth c H locs cells slots Q (F0 m pc ls (.int (xJ a) :: .ref (h0 + v.toNat) :: rest)) :=
  x_iald (k := v.toNat) (n := xlen σ v.toNat) hx hb hE hW h.v h.celn hi (xlen_le hW.2.1 _) hdg (kk _ (hW.2.1 _ _))
/-- System.arraycopy of a row of ints, from its first on to the other's first on -/
def xC (σ : xS) (ks kd : Nat) (n : Int) : xS := fun k j => if k = kd ∧ 0 ≤ j ∧ j < n then σ ks j else σ k j
theorem xC_k (σ : xS) (ks : Nat) {kd k : Nat} (n : Int) (h : k ≠ kd) : xC σ ks kd n k = σ k := funext fun j => if_neg (fun q => h q.1)
theorem xC_j (σ : xS) (ks kd : Nat) (n j : Int) : xC σ ks kd n kd j = if 0 ≤ j ∧ j < n then σ ks j else σ kd j := by by_cases h : 0 ≤ j ∧ j < n <;> simp [xC, h]
theorem xFr.cpy {M : Nat → Prop} {s0 s1 s2 : xS} {ks kd : Nat} {n : Int} (h : xFr M s0 s1) (e : s2 = xC s1 ks kd n) (hk : M kd) : xFr M s0 s2 := fun k2 h2 => by
  rw [e, xC_k s1 ks n (fun q => h2 (by rw [q]; exact hk))]
  exact h k2 h2
theorem x_copyi {ks kd ns nd : Nat} {n : Int} (hx : p.tables.exec = Jvm.exec) (hb : c.code = cc) (hml : c.maxLocals = nL) (hls : ls.size = nL) (hown : s.vm.findClass own = some m.cls) (hT : ∀ w ∈ xTB, w.before args s = true) (hE : xE D g T h0 s) (hW : xW D g h0 s H locs σ) (hlk : Cond.methodLink own index arraycopyName ∈ xTB) (hnat : Cond.native arraycopyName ∈ xTB) (hstat : Cond.static arraycopyName ∈ xTB) (hini : Cond.initialized "java/lang/System" ∈ xTB) (hks : xV σ ks) (hcs : xcel h0 g σ ks = .inl (g.1, ns, .inl (fun j => xJ (σ ks j)))) (hkd : kd < 310) (hcd : ∀ σ : xS, xcel h0 g σ kd = .inl (g.1, nd, .inl (fun j => xJ (σ kd j)))) (hn : 0 ≤ n ∧ n ≤ (ns : Int) ∧ n ≤ (nd : Int) ∧ xR n)
    (hrm : 1 ≤ R.frames ∧ (rest.map fun v => v.category).sum + (nativeFrameWords "java/lang/System" "arraycopy" 5 + 11) ≤ R.locals) (hdg : decode cc pc = .ok (.invokestatic index, 3))
    (kk : ∀ (H1 : Heap) (locs1 : List Loc) (τ : xS), τ = xC σ ks kd n → xW D g h0 s H1 locs1 τ → W p l e R s m args below meth c H1 locs1 cells slots Q (F0 m (pc + 3) ls rest)) : W p l e R s m args below meth c H locs cells slots Q (F0 m pc ls (.int (xJ n) :: .int (xJ 0) :: .ref (h0 + kd) :: .int (xJ 0) :: .ref (h0 + ks) :: rest)) := by
  obtain ⟨hn0, hn1, hn2, hnR⟩ := hn
  have hz : ¬ xJ 0 < 0 := by decide
  have hz3 : ¬ xJ n < 0 := fun q => by have := (xJ_lt hnR (by omega : xR 0)).mp q; omega
  have hcn : (xJ n).toNatClampNeg = n.toNat := xJ_cl hnR
  have h1 := hW.1.1 ks hks
  rw [hcs] at h1
  have h1 : H[h0 + ks]? = some (arrV g.1 ns (fun j => .int (xJ (σ ks j)))) := h1
  have h2 := hW.1.1 kd (Or.inl hkd)
  rw [hcd σ] at h2
  have h2 : H[h0 + kd]? = some (arrV g.1 nd (fun j => .int (xJ (σ kd j)))) := h2
  obtain ⟨-, k0, hk0, cm0, hkk0⟩ := (hE.1.2 0 _ rfl).1 0 (fun _ => .null)
  intro U hU X
  obtain ⟨vm', X', step⟩ := X.arraycopy hx hown (hT _ hlk) (hT _ hnat) (hT _ hstat) (hT _ hini) (src := h0 + ks) (dst := h0 + kd) (cs := arrV g.1 ns (fun j => .int (xJ (σ ks j)))) (cd := arrV g.1 nd (fun j => .int (xJ (σ kd j)))) (srcPos := xJ 0) (destPos := xJ 0) (n := xJ n) (by rw [hU]; exact h1) (by rw [hU]; exact h2)
    (fun _ h => by cases h) (fun _ h => by cases h) (fun h => by cases h) (fun h => by cases h) hk0 hk0 hkk0 hkk0 rfl hz hz hz3
    (by rw [xJ_toInt (by omega : xR 0), xJ_toInt hnR, arrV_size]; omega)
    (by rw [xJ_toInt (by omega : xR 0), xJ_toInt hnR, arrV_size]; omega)
    (fun vm₁ _ i hi => by
      rw [hcn] at hi
      have e : (arrV g.1 ns (fun j => Value.int (xJ (σ ks j)))).slots.getD ((xJ 0).toNatClampNeg + i) .null = .int (xJ (σ ks i)) := by
        rw [show (xJ 0).toNatClampNeg + i = i from by rw [xJ_cl (by omega)]; simp, Array.getD_eq_getD_getElem?, arrV_read _ _ (by omega)]
        rfl
      rw [e]
      exact ⟨rfl, trivial⟩)
    (g := F0 m pc ls (.int (xJ n) :: .int (xJ 0) :: .ref (h0 + kd) :: .int (xJ 0) :: .ref (h0 + ks) :: rest)) rfl (by rw [hml, hls]) (rest := rest) rfl (by rw [hb]; exact hdg) hrm.1 (by have := hrm.2; show 2 * 0 + _ + _ ≤ _; omega)
  have hc0 : (xJ 0).toNatClampNeg = 0 := rfl
  have e1 : copied (arrV g.1 ns (fun j => .int (xJ (σ ks j)))) (arrV g.1 nd (fun j => .int (xJ (σ kd j)))) (xJ 0) (xJ 0) (xJ n) = arrV g.1 nd (fun j => Value.int (xJ (xC σ ks kd n kd j))) := by
    refine (va_copied (fun z => Value.int z) g.1 g.1 (fun j => xJ (σ ks j)) (fun j => xJ (σ kd j)) (by rw [hc0, hcn]; omega)).trans ?_
    congr 1
    funext j
    rw [xC_j, hc0, hcn]
    unfold va_cpy
    by_cases hj : j < n.toNat
    · rw [if_pos (by omega), if_pos (by omega)]
      simp
    · rw [if_neg (by omega), if_neg (by omega)]
  rw [e1] at X' step
  have hl : h0 + kd < H.size := (Array.getElem?_eq_some_iff.mp h2).1
  have ha : xA h0 (h0 + kd) := Nat.le_add_right _ _
  have oq : ∀ (v : Cell) (q : Nat), q ≠ h0 + kd → (H.setIfInBounds (h0 + kd) v)[q]? = H[q]? := fun v q hq => by simp [Array.getElem?_setIfInBounds, Ne.symm hq]
  have hheap : ((U.setVm vm').setCell (h0 + kd) (arrV g.1 nd (fun j => Value.int (xJ (xC σ ks kd n kd j))))).heap = H.setIfInBounds (h0 + kd) (arrV g.1 nd (fun j => Value.int (xJ (xC σ ks kd n kd j)))) := by rw [← hU]; rfl
  have hW1 : ∀ L : List Loc, (∀ q ∈ L, xA h0 q.base) → xW D g h0 s (H.setIfInBounds (h0 + kd) (arrV g.1 nd (fun j => Value.int (xJ (xC σ ks kd n kd j))))) (locs ++ L) (xC σ ks kd n) := fun L hL => by
    refine ⟨⟨fun k hk => ?_, ?_⟩, fun k j => ?_, ?_, fun q g1 g2 => ?_, fun q hq => ?_⟩
    · by_cases e : k = kd
      · subst e
        rw [hcd]
        show (H.setIfInBounds (h0 + k) _)[h0 + k]? = some _
        simp [Array.getElem?_setIfInBounds, hl]
        rfl
      · have e7 : xC σ ks kd n 999997 = σ 999997 := xC_k σ ks n (by omega)
        have e8 : xC σ ks kd n 999998 = σ 999998 := xC_k σ ks n (by omega)
        have h9 := hW.1.1 k (by unfold xV at hk ⊢; rw [e7] at hk; exact hk)
        rw [xcel_f h0 g (xC_k σ ks n e) (Or.inr (by rw [e8]))]
        exact h9.kept (oq _ _ (fun q => e (by simpa using q)))
    · rw [show xC σ ks kd n 999996 = σ 999996 from xC_k σ ks n (by omega)]
      simp
      exact hW.1.2
    · unfold xC
      split
      · exact hW.2.1 _ _
      · exact hW.2.1 _ _
    · simp
      exact hW.2.2.1
    · rw [oq _ q (fun e => g2 (by rw [e]; exact ha))]
      exact hW.2.2.2.1 q g1 g2
    · rcases List.mem_append.mp hq with h | h
      · exact hW.2.2.2.2 q h
      · exact hL q h
  obtain ⟨t, a1, b1⟩ := kk _ _ _ rfl (hW1 _ (fun q hq => by
    obtain ⟨z, -, hz⟩ := List.mem_map.mp hq
    rw [← hz]
    exact ha)) _ hheap X'
  exact ⟨t, step t a1, b1⟩
end X7

