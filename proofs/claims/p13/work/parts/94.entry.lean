/-! ===== the world at the law's entry ===== -/
theorem xRR_I : xRR xI := fun k j => by
  unfold xI xR
  simp only [Bool.cond_eq_ite]
  (repeat' split) <;> omega
theorem xV_I {k : Nat} (h : xV xI k) : k < 310 := by
  rcases h with h | ⟨h, h2⟩
  · exact h
  · have : xI 999997 k = 0 := rfl
    rw [this] at h2
    cases h2
section EN
variable {s : State} {args : Array Value}
theorem en_K (hT : ∀ w ∈ xTB, w.before args s = true) (hq : ∀ w ∈ lw_tbl, w.before args s = true) : ∀ c : Nat, ∃ (cC : ClassId) (iS : Nat → Nat), ∀ q : vw_C, vwCl[c]? = some q → u_Kn s q.1 q.2.1 q.2.2 cC iS
  | 0 => by obtain ⟨a, b, h⟩ := u_known (T := TX0) (N := 6) hT cls_X0.1 (hT _ (xq (w := Cond.instantiable RX0 6) 319 (by decide +kernel) rfl)); exact ⟨a, b, fun q hq => by cases hq; exact h⟩
  | 1 => by obtain ⟨a, b, h⟩ := u_known (T := TX1) (N := 6) hT cls_X1.1 (hT _ (xq (w := Cond.instantiable RX1 6) 488 (by decide +kernel) rfl)); exact ⟨a, b, fun q hq => by cases hq; exact h⟩
  | 2 => by obtain ⟨a, b, h⟩ := u_known (T := TX2) (N := 12) hT cls_X2.1 (hT _ (xq (w := Cond.instantiable RX2 12) 377 (by decide +kernel) rfl)); exact ⟨a, b, fun q hq => by cases hq; exact h⟩
  | 3 => by obtain ⟨a, b, h⟩ := u_known (T := TX3) (N := 11) hT cls_X3.1 (hT _ (xq (w := Cond.instantiable RX3 11) 441 (by decide +kernel) rfl)); exact ⟨a, b, fun q hq => by cases hq; exact h⟩
  | 4 => by obtain ⟨a, b, h⟩ := u_known (T := TX4) (N := 9) hT cls_X4.1 (hT _ (xq (w := Cond.instantiable RX4 9) 244 (by decide +kernel) rfl)); exact ⟨a, b, fun q hq => by cases hq; exact h⟩
  | 5 => by obtain ⟨a, b, h⟩ := u_known (T := TX5) (N := 2) hT cls_X5.1 (hT _ (xq (w := Cond.instantiable RX5 2) 286 (by decide +kernel) rfl)); exact ⟨a, b, fun q hq => by cases hq; exact h⟩
  | 6 => by obtain ⟨a, b, h⟩ := u_known (T := TX6) (N := 5) hT cls_X6.1 (hT _ (xq (w := Cond.instantiable RX6 5) 219 (by decide +kernel) rfl)); exact ⟨a, b, fun q hq => by cases hq; exact h⟩
  | 7 => by obtain ⟨a, b, h⟩ := u_known (T := TX7) (N := 4) hT cls_X7.1 (hT _ (xq (w := Cond.instantiable RX7 4) 325 (by decide +kernel) rfl)); exact ⟨a, b, fun q hq => by cases hq; exact h⟩
  | 8 => by obtain ⟨a, b, h⟩ := u_known (T := TX8) (N := 5) hT cls_X8.1 (hT _ (xq (w := Cond.instantiable RX8 5) 191 (by decide +kernel) rfl)); exact ⟨a, b, fun q hq => by cases hq; exact h⟩
  | 9 => by obtain ⟨a, b, h⟩ := u_known (T := TX9) (N := 3) hT cls_X9.1 (hT _ (xq (w := Cond.instantiable RX9 3) 302 (by decide +kernel) rfl)); exact ⟨a, b, fun q hq => by cases hq; exact h⟩
  | 10 => by obtain ⟨a, b, h⟩ := u_known (T := TX10) (N := 12) hT cls_X10.1 (hT _ (xq (w := Cond.instantiable RX10 12) 183 (by decide +kernel) rfl)); exact ⟨a, b, fun q hq => by cases hq; exact h⟩
  | 11 => by obtain ⟨a, b, h⟩ := u_known (T := TX11) (N := 61) hT cls_X11.1 (hT _ (xq (w := Cond.instantiable RX11 61) 1180 (by decide +kernel) rfl)); exact ⟨a, b, fun q hq => by cases hq; exact h⟩
  | n + 12 => ⟨0, fun _ => 0, fun q hq => by cases hq⟩
theorem en_A {ty : FieldType} (h : (Cond.arrayClass ty).before args s = true) : ∃ cA : ClassId, s.vm.findClass ("[" ++ ty.toString) = some cA ∧ ArrOfT s cA ty := by
  obtain ⟨cA, k, comp, h1, h2, h3⟩ := Cond.arrayClass_spec h
  exact ⟨cA, h1, fun n z => ⟨fun k h => (by cases h), k, h2, comp, h3⟩⟩
theorem z_el {tm : Term} (j : Int32) {z z' : Int32} (h : (Cond.eq (.elem tm (.int j)) (.int z)).before args s = true) (hz : z = z') : (Term.elem tm (.int j)).eval args s none [] s = some (.int z') := by
  subst hz
  exact va_eqt h
theorem z_len {tm : Term} {z z' : Int32} (h : (Cond.eq (.length tm) (.int z)).before args s = true) (hz : z = z') : (Term.length tm).eval args s none [] s = some (.int z') := by
  subst hz
  exact va_eqt h
theorem z_A {s : State} : ∀ a : Nat, a < s.heap.size → ¬ xA s.heap.size a := fun a h h2 => absurd (show s.heap.size ≤ a from h2) (by omega)
theorem en_X (hq : ∀ w ∈ lw_tbl, w.before args s = true) (hgv : (Cond.and given_1 narrow_1).before args s = true) : ∃ t : Nat, va_Z "ShadowCourt" "WAY_X" "[I" (.ref t) (xA s.heap.size) s s.heap ∧ va_T .int t 8 (fun j => .int (xJ (xwx j))) (xA s.heap.size) s s.heap := by
  have hs := flat_of_before _ hgv
  obtain ⟨t, h1, h2⟩ := va_Tof (tm := .static "ShadowCourt" "WAY_X" "[I") (ty := .int) (N := 8) (f := fun j => .int (xJ (xwx j))) (A := xA s.heap.size) (by decide) (hs _ (by decide +kernel)) (z_len (z := 8) (hs _ (by decide +kernel)) (by decide +kernel))
    (allS (allS (allS (allS (allS (allS (allS (allS allZ (z_el (Int32.ofNat 0) (z := 0) (hs _ (by decide +kernel)) (by decide +kernel))) (z_el (Int32.ofNat 1) (z := 1) (hs _ (by decide +kernel)) (by decide +kernel))) (z_el (Int32.ofNat 2) (z := 1) (hs _ (by decide +kernel)) (by decide +kernel))) (z_el (Int32.ofNat 3) (z := 1) (hs _ (by decide +kernel)) (by decide +kernel))) (z_el (Int32.ofNat 4) (z := 0) (hs _ (by decide +kernel)) (by decide +kernel))) (z_el (Int32.ofNat 5) (z := -1) (hs _ (by decide +kernel)) (by decide +kernel))) (z_el (Int32.ofNat 6) (z := -1) (hs _ (by decide +kernel)) (by decide +kernel))) (z_el (Int32.ofNat 7) (z := -1) (hs _ (by decide +kernel)) (by decide +kernel))) z_A
  exact ⟨t, va_Zref (hq _ (List.mem_of_getElem? (i := 787) (by decide +kernel))) (hq _ (List.mem_of_getElem? (i := 168) (by decide +kernel))) h1 z_A, h2⟩
theorem en_Y (hq : ∀ w ∈ lw_tbl, w.before args s = true) (hgv : (Cond.and given_1 narrow_1).before args s = true) : ∃ t : Nat, va_Z "ShadowCourt" "WAY_Y" "[I" (.ref t) (xA s.heap.size) s s.heap ∧ va_T .int t 8 (fun j => .int (xJ (xwy j))) (xA s.heap.size) s s.heap := by
  have hs := flat_of_before _ hgv
  obtain ⟨t, h1, h2⟩ := va_Tof (tm := .static "ShadowCourt" "WAY_Y" "[I") (ty := .int) (N := 8) (f := fun j => .int (xJ (xwy j))) (A := xA s.heap.size) (by decide) (hs _ (by decide +kernel)) (z_len (z := 8) (hs _ (by decide +kernel)) (by decide +kernel))
    (allS (allS (allS (allS (allS (allS (allS (allS allZ (z_el (Int32.ofNat 0) (z := 1) (hs _ (by decide +kernel)) (by decide +kernel))) (z_el (Int32.ofNat 1) (z := 1) (hs _ (by decide +kernel)) (by decide +kernel))) (z_el (Int32.ofNat 2) (z := 0) (hs _ (by decide +kernel)) (by decide +kernel))) (z_el (Int32.ofNat 3) (z := -1) (hs _ (by decide +kernel)) (by decide +kernel))) (z_el (Int32.ofNat 4) (z := -1) (hs _ (by decide +kernel)) (by decide +kernel))) (z_el (Int32.ofNat 5) (z := -1) (hs _ (by decide +kernel)) (by decide +kernel))) (z_el (Int32.ofNat 6) (z := 0) (hs _ (by decide +kernel)) (by decide +kernel))) (z_el (Int32.ofNat 7) (z := 1) (hs _ (by decide +kernel)) (by decide +kernel))) z_A
  exact ⟨t, va_Zref (hq _ (List.mem_of_getElem? (i := 789) (by decide +kernel))) (hq _ (List.mem_of_getElem? (i := 168) (by decide +kernel))) h1 z_A, h2⟩
theorem en_L (hq : ∀ w ∈ lw_tbl, w.before args s = true) (hgv : (Cond.and given_1 narrow_1).before args s = true) : ∃ t : Nat, va_Z "ShadowCourt$Law" "LETTERS" "[I" (.ref t) (xA s.heap.size) s s.heap ∧ va_T .int t 7 (fun j => .int (xJ (xlt j))) (xA s.heap.size) s s.heap := by
  have hs := flat_of_before _ hgv
  obtain ⟨t, h1, h2⟩ := va_Tof (tm := .static "ShadowCourt$Law" "LETTERS" "[I") (ty := .int) (N := 7) (f := fun j => .int (xJ (xlt j))) (A := xA s.heap.size) (by decide) (hs _ (by decide +kernel)) (z_len (z := 7) (hs _ (by decide +kernel)) (by decide +kernel))
    (allS (allS (allS (allS (allS (allS (allS allZ (z_el (Int32.ofNat 0) (z := 116) (hs _ (by decide +kernel)) (by decide +kernel))) (z_el (Int32.ofNat 1) (z := 104) (hs _ (by decide +kernel)) (by decide +kernel))) (z_el (Int32.ofNat 2) (z := 106) (hs _ (by decide +kernel)) (by decide +kernel))) (z_el (Int32.ofNat 3) (z := 102) (hs _ (by decide +kernel)) (by decide +kernel))) (z_el (Int32.ofNat 4) (z := 119) (hs _ (by decide +kernel)) (by decide +kernel))) (z_el (Int32.ofNat 5) (z := 98) (hs _ (by decide +kernel)) (by decide +kernel))) (z_el (Int32.ofNat 6) (z := 115) (hs _ (by decide +kernel)) (by decide +kernel))) z_A
  exact ⟨t, va_Zref (hq _ (List.mem_of_getElem? (i := 250) (by decide +kernel))) (hq _ (List.mem_of_getElem? (i := 171) (by decide +kernel))) h1 z_A, h2⟩
theorem en_W (hq : ∀ w ∈ lw_tbl, w.before args s = true) (hgv : (Cond.and given_1 narrow_1).before args s = true) : ∃ (D : va_G) (g : xG) (T : Nat × Nat × Nat), xE D g T s.heap.size s ∧ bO s := by
  have hT : ∀ w ∈ xTB, w.before args s = true := fun w hw => hq w (List.mem_filter.mp hw).1
  have hK := en_K hT hq
  obtain ⟨g1, a1, b1⟩ := en_A (ty := .int) (hq _ (List.mem_of_getElem? (i := 217) (by decide +kernel)))
  obtain ⟨g2, a2, b2⟩ := en_A (ty := .boolean) (hq _ (List.mem_of_getElem? (i := 242) (by decide +kernel)))
  obtain ⟨g3, a3, b3⟩ := en_A (ty := .byte) (hq _ (List.mem_of_getElem? (i := 1369) (by decide +kernel)))
  have ho : (Cond.arrayOver (.array .int)).before args s = true := hq _ (List.mem_of_getElem? (i := 225) (by decide +kernel))
  have hd : (Cond.arrayOver (.object "ShadowCourt$Day")).before args s = true := hq _ (List.mem_of_getElem? (i := 447) (by decide +kernel))
  obtain ⟨comp4, g4, k4, c1, -, c3, c4, c5⟩ := arrayOverA_spec ho
  obtain ⟨comp5, g5, k5, d1, -, d3, d4, d5⟩ := Cond.arrayOver_spec hd
  have e4 : comp4 = g1 := Option.some.inj (c1.symm.trans a1)
  subst e4
  obtain ⟨tx, hx⟩ := en_X hq hgv
  obtain ⟨ty, hy⟩ := en_Y hq hgv
  obtain ⟨tl, hl⟩ := en_L hq hgv
  refine ⟨(fun c => Classical.choose (hK c), fun c => Classical.choose (Classical.choose_spec (hK c))), (comp4, g2, g3, g4, g5), (tx, ty, tl), ⟨⟨fun c q hc => Classical.choose_spec (Classical.choose_spec (hK c)) q hc, fun k q hk => ?_⟩, ⟨fun w hw => ?_, ⟨k4, c3, c4⟩⟩, ⟨hx, hy, hl⟩⟩, over_moved (Vm.Alike.refl _) ho, Cond.arrayOver_alike (Vm.Alike.refl _) hd⟩
  · match k, hk with
    | 0, hk => cases hk; exact ⟨b1, a1⟩
    | 1, hk => cases hk; exact ⟨b2, a2⟩
    | 2, hk => cases hk; exact ⟨b3, a3⟩
    | 3, hk => cases hk; exact ⟨fun n z => ⟨fun k h => (by cases h), k4, c3, comp4, c4⟩, c5⟩
    | 4, hk => cases hk; exact ⟨fun n z => ⟨fun k h => (by cases h), k5, d3, comp5, d4⟩, k5, comp5, d3, d4, d1, d5⟩
    | n + 5, hk => cases hk
  · have hw9 := List.mem_filter.mp hw
    have hb9 := hq w hw9.1
    have hn9 := hw9.2
    cases w <;> first | exact va_Nw.of rfl hb9 | cases hn9
end EN
theorem bm_o {w : Nat → va_E} {k n q : Nat} {E : Nat → va_E} (h : q < k ∨ k + n ≤ q) : bm w k n E q = w q := by unfold bm; rw [b_out h]; rfl
theorem bm_i {w : Nat → va_E} {k n q : Nat} {E : Nat → va_E} (h2 : q < n) : bm w k n E (k + q) = E q := by
  unfold bm
  rw [b_in (by omega) (by omega)]
  show E (k + q - k) = E q
  rw [Nat.add_sub_cancel_left]
/-- what both constructors leave is the state of fresh objects -/
theorem en_S {D : va_G} {g : xG} {h0 : Nat} {s : State} {H : Heap} {locs : List Loc} {w : Nat → va_E} {e : va_E} (hB : bB D h0 s H locs 310 (bm (bs (bm w 0 268 (fun k => xcel h0 g xI (0 + k))) 268 e) 268 42 (fun k => xcel h0 g xI (268 + k)))) : xW D g h0 s H locs xI := by
  refine ⟨⟨fun k hk => ?_, hB.1.1⟩, xRR_I, hB.2⟩
  have hk := xV_I hk
  have h9 := hB.1.2 k hk
  by_cases h1 : k < 268
  · obtain ⟨q, rfl⟩ : ∃ q, k = 0 + q := ⟨k, by omega⟩
    rw [bm_o (Or.inl h1), bs_n _ _ (by omega), bm_i (by omega)] at h9
    exact h9
  · obtain ⟨q, rfl⟩ : ∃ q, k = 268 + q := ⟨k - 268, by omega⟩
    rw [bm_i (by omega)] at h9
    exact h9
