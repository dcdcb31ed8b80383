section
theorem zba_0 {S Y : Int → Int} : zba S Y 0 = (S (-1), -2) := rfl
end

section
section WN
variable {g g2 : Int → Int} {n r c i : Int}
variable {S S2 : Int → Int}
theorem zbx_c : ∀ {k : Nat}, (∀ i : Int, 0 ≤ i → i < (k : Int) → S2 i = S i) → zbx S2 k = zbx S k
  | 0, _ => rfl
  | k + 1, h => by
    have ih := zbx_c (k := k) (fun i i1 i2 => h i i1 (by omega))
    unfold zbx
    rw [ih, h (k : Int) (by omega) (by omega)]
end WN
section YH
variable {K n lm L T : Int → Int} {w : Int → Int → Int} {q : zLaw} {Y Y2 g : Int → Int} {ah f nt e j v : Int} {P : Int × Int × Int × Int}
theorem zYj_0 : zYj Y P 0 = P.1 := by
  unfold zYj
  rw [xud_o _ _ (show (0 : Int) ≠ 3 from by decide), xud_o _ _ (show (0 : Int) ≠ 2 from by decide), xud_o _ _ (show (0 : Int) ≠ 1 from by decide), xud_s]
theorem zYj_1 : zYj Y P 1 = P.2.1 := by
  unfold zYj
  rw [xud_o _ _ (show (1 : Int) ≠ 3 from by decide), xud_o _ _ (show (1 : Int) ≠ 2 from by decide), xud_s]
theorem zYj_2 : zYj Y P 2 = P.2.2.1 := by
  unfold zYj
  rw [xud_o _ _ (show (2 : Int) ≠ 3 from by decide), xud_s]
theorem zYj_3 : zYj Y P 3 = P.2.2.2 := by
  unfold zYj
  rw [xud_s]
/-- the class's STEP and the other side's -/
theorem zhk_c (h : zYh (2 + j) Y Y2) (hj : 0 ≤ j ∧ j < 2) (ht : Y2 j ≠ -1) : zYh (2 + j) (zm1 K (zhn n j) (zhw w j v) (xud Y (2 + j) 0)) (zYj Y2 (zhk K n w j v (zY4 Y2))) := fun i h0 h1 h2 h3 => by
  rcases (by omega : j = 0 ∨ j = 1) with rfl | rfl
  · have a0 := h 0 (by decide) (by decide) (by decide) (by decide)
    have a1 := h 1 (by decide) (by decide) (by decide) (by decide)
    have a3 := h 3 (by decide) (by decide) (by decide) (by decide)
    have e1 : zhn n 0 1 = n 1 := xud_o n 1 (by decide)
    have e2 : zhw w 0 v 1 = w 1 := zhw_o (by decide)
    have e3 : zhn n 0 0 = 1 := xud_s n 0 1
    have z0 : zY4 (xud Y (2 + 0) 0) = (Y2 0, Y2 1, 0, Y2 3) := by
      show (xud Y 2 0 0, xud Y 2 0 1, xud Y 2 0 2, xud Y 2 0 3) = _
      rw [xud_o _ _ (show (0 : Int) ≠ 2 from by decide), xud_o _ _ (show (1 : Int) ≠ 2 from by decide), xud_s, xud_o _ _ (show (3 : Int) ≠ 2 from by decide), a0, a1, a3]
    have st : zjk K (zhn n 0) (zhw w 0 v) 0 (Y2 0, Y2 1, 0, Y2 3) = (znW K (Y2 0) (Y2 1) v, Y2 1, 1, Y2 3) := by
      show (znw K (Y2 0) (Y2 1) 0 (zhn n 0 0) (zhw w 0 v 0 0), Y2 1, znc (Y2 0) 0 (zhn n 0 0), Y2 3) = _
      rw [e3, zhw_s, znc_s ht (by decide)]
      unfold znw
      rw [if_neg (by omega)]
      rfl
    have zc : zjs K (zhn n 0) (zhw w 0 v) (zY4 (xud Y (2 + 0) 0)) = (znW K (Y2 0) (Y2 1) v, znw K (Y2 1) (znW K (Y2 0) (Y2 1) v) (Y2 3) (n 1) (w 1 (Y2 3)), 1, znc (Y2 1) (Y2 3) (n 1)) := by
      rw [z0]
      show zjk K (zhn n 0) (zhw w 0 v) 1 (zjk K (zhn n 0) (zhw w 0 v) 0 (Y2 0, Y2 1, 0, Y2 3)) = _
      rw [st]
      show (znW K (Y2 0) (Y2 1) v, znw K (Y2 1) (znW K (Y2 0) (Y2 1) v) (Y2 3) (zhn n 0 1) (zhw w 0 v 1 (Y2 3)), 1, znc (Y2 1) (Y2 3) (zhn n 0 1)) = _
      rw [e1, e2]
    have zr : zhk K n w 0 v (zY4 Y2) = (znW K (Y2 0) (Y2 1) v, znw K (Y2 1) (znW K (Y2 0) (Y2 1) v) (Y2 3) (n 1) (w 1 (Y2 3)), Y2 2, znc (Y2 1) (Y2 3) (n 1)) := rfl
    unfold zm1
    rw [zc, zr]
    by_cases i0 : i = 0
    · rw [i0, zYj_0, zYj_0]
    by_cases i1 : i = 1
    · rw [i1, zYj_1, zYj_1]
    by_cases i3 : i = 3
    · rw [i3, zYj_3, zYj_3]
    rw [zYj_o (by omega), zYj_o (by omega), xud_o _ _ h0]
    exact h i h0 h1 h2 h3
  · have a0 := h 0 (by decide) (by decide) (by decide) (by decide)
    have a1 := h 1 (by decide) (by decide) (by decide) (by decide)
    have a2 := h 2 (by decide) (by decide) (by decide) (by decide)
    have e1 : zhn n 1 0 = n 0 := xud_o n 1 (by decide)
    have e2 : zhw w 1 v 0 = w 0 := zhw_o (by decide)
    have e3 : zhn n 1 1 = 1 := xud_s n 1 1
    have z0 : zY4 (xud Y (2 + 1) 0) = (Y2 0, Y2 1, Y2 2, 0) := by
      show (xud Y 3 0 0, xud Y 3 0 1, xud Y 3 0 2, xud Y 3 0 3) = _
      rw [xud_o _ _ (show (0 : Int) ≠ 3 from by decide), xud_o _ _ (show (1 : Int) ≠ 3 from by decide), xud_o _ _ (show (2 : Int) ≠ 3 from by decide), xud_s, a0, a1, a2]
    have zc : zjs K (zhn n 1) (zhw w 1 v) (zY4 (xud Y (2 + 1) 0)) = (znw K (Y2 0) (Y2 1) (Y2 2) (n 0) (w 0 (Y2 2)), znW K (Y2 1) (znw K (Y2 0) (Y2 1) (Y2 2) (n 0) (w 0 (Y2 2))) v, znc (Y2 0) (Y2 2) (n 0), 1) := by
      rw [z0]
      show (znw K (Y2 0) (Y2 1) (Y2 2) (zhn n 1 0) (zhw w 1 v 0 (Y2 2)), znw K (Y2 1) (znw K (Y2 0) (Y2 1) (Y2 2) (zhn n 1 0) (zhw w 1 v 0 (Y2 2))) 0 (zhn n 1 1) (zhw w 1 v 1 0), znc (Y2 0) (Y2 2) (zhn n 1 0), znc (Y2 1) 0 (zhn n 1 1)) = _
      rw [e1, e2, e3, zhw_s, znc_s ht (by decide)]
      have er : znw K (Y2 1) (znw K (Y2 0) (Y2 1) (Y2 2) (n 0) (w 0 (Y2 2))) 0 1 v = znW K (Y2 1) (znw K (Y2 0) (Y2 1) (Y2 2) (n 0) (w 0 (Y2 2))) v := if_neg (by omega)
      rw [er]
      rfl
    have zr : zhk K n w 1 v (zY4 Y2) = (znw K (Y2 0) (Y2 1) (Y2 2) (n 0) (w 0 (Y2 2)), znW K (Y2 1) (znw K (Y2 0) (Y2 1) (Y2 2) (n 0) (w 0 (Y2 2))) v, znc (Y2 0) (Y2 2) (n 0), Y2 3) := rfl
    unfold zm1
    rw [zc, zr]
    by_cases i0 : i = 0
    · rw [i0, zYj_0, zYj_0]
    by_cases i1 : i = 1
    · rw [i1, zYj_1, zYj_1]
    by_cases i2 : i = 2
    · rw [i2, zYj_2, zYj_2]
    rw [zYj_o (by omega), zYj_o (by omega), xud_o _ _ h0]
    exact h i h0 h1 h2 h3
theorem zhr_t (hj : 0 ≤ j ∧ j < 2) (ht : Y j ≠ -1) {gg : Int} : zhr K q lm n w j gg ah Y j ≠ -1 := by
  unfold zhr
  split
  · have e : zmB K q lm ah (zYj Y (zhk K n w j (2 * gg) (zY4 Y))) j = zYj Y (zhk K n w j (2 * gg) (zY4 Y)) j := by
      unfold zmB zb4
      rw [xud_o _ _ (by omega), zgo_o (by omega) _ (fun x hx => zlu_in hx (by decide)), zb3_o (by omega)]
    rw [e]
    rcases (by omega : j = 0 ∨ j = 1) with rfl | rfl
    · rw [zYj_0]; exact znW_t ht
    · rw [zYj_1]; exact znW_t ht
  · exact ht
theorem zhr_c (h : zYh (2 + j) Y Y2) (hj : 0 ≤ j ∧ j < 2) (ht : Y2 j ≠ -1) {gg : Int} : zYh (2 + j) (zhc K q lm n w j gg Y) (zhr K q lm n w j gg (-1) Y2) := by
  have e44 := h 44 (by omega) (by decide) (by decide) (by decide)
  have e0 : zmn K q lm (zhn n j) (zhw w j (2 * gg)) (-1) 0 (xud Y (2 + j) 0) = xud Y (2 + j) 0 := rfl
  have x44 : xud Y (2 + j) 0 44 = Y 44 := xud_o _ _ (by omega)
  unfold zhr
  by_cases c : Y2 44 < 9999
  · have z : zhc K q lm n w j gg Y = zmi K q lm (zhn n j) (zhw w j (2 * gg)) (-1) (xud Y (2 + j) 0) := by
      unfold zhc
      rw [zmn_s (by rw [e0, x44, e44]; exact c), e0]
    rw [if_pos c, z, zmi_B]
    exact (zhk_c h hj ht).mB (by omega)
  · have z : zhc K q lm n w j gg Y = xud Y (2 + j) 0 := by
      unfold zhc
      exact (zmn_stop (k := 0) (by rw [e0, x44, e44]; omega) 1)
    rw [if_neg c, z]
    intro i h0 h1 h2 h3
    rw [xud_o _ _ h0]
    exact h i h0 h1 h2 h3
theorem zhR_t (hj : 0 ≤ j ∧ j < 2) (ht : Y j ≠ -1) : ∀ k : Nat, zhR K q lm n w j ah g Y k j ≠ -1
  | 0 => ht
  | k + 1 => zhr_t hj (zhR_t hj ht k)
theorem zhR_c (h : zYh (2 + j) Y Y2) (hj : 0 ≤ j ∧ j < 2) (ht : Y2 j ≠ -1) : ∀ k : Nat, zYh (2 + j) (zhD K q lm n w j g Y k) (zhR K q lm n w j (-1) g Y2 k)
  | 0 => h
  | k + 1 => zhr_c (zhR_c h hj ht k) hj (zhR_t hj ht k)
end YH
theorem zhT_S {K lm n : Int → Int} {q : zLaw} {w : Int → Int → Int} {Y Y2 : Int → Int} {j m c : Int} (h : zYh (2 + j) Y Y2) (hj : 0 ≤ j ∧ j < 2) (ht : Y2 j ≠ -1) : zhS K q lm n w j m Y c = zhT K q lm n w j m (-1) Y2 c := by
  have a := h.sm (by omega)
  have b := (zhR_c (K := K) (q := q) (lm := lm) (n := n) (w := w) (g := zdgt m c) h hj ht m.toNat).sm (by omega)
  unfold zhS zhT
  rw [a, b]
end

section
section R9
variable {σ τ : xS} {d N M S : Nat} {K Y Y2 Y3 : Int → Int} {q : zLaw} {a c s j f v : Int}
theorem zfi_e {l : Int → Int} {w : Int} (h : zYe Y Y2) (hf : 0 ≤ f ∧ f < 10) : zfi K q l Y f w = zfi K q l Y2 f w := by
  unfold zfi
  rw [h (4 + f) (by omega) (by omega) (by omega), h (14 + f) (by omega) (by omega) (by omega), h (24 + f) (by omega) (by omega) (by omega), h (34 + f) (by omega) (by omega) (by omega), h.vF hf, h 44 (by decide) (by decide) (by decide), zLy_J (J2 := Y) (J := Y2) (h 0 (by decide) (by decide) (by decide)) (h 1 (by decide) (by decide) (by decide))]
theorem zcw_e {l n : Int → Int} {tp w : Int} (h : zYe Y Y2) : zcw K l n q Y tp w = zcw K l n q Y2 tp w := by
  have e1 : zbv Y 2 = zbv Y2 2 := zbv_c (fun i i1 i2 => by rw [h i (by omega) (by omega) (by omega)])
  have e2 : zbv (fun i => Y (4 + i)) 10 = zbv (fun i => Y2 (4 + i)) 10 := zbv_c (fun i i1 i2 => by
    show Y (4 + i) ≠ -1 ↔ Y2 (4 + i) ≠ -1
    rw [h (4 + i) (by omega) (by omega) (by omega)])
  unfold zcw
  rw [h 44 (by decide) (by decide) (by decide), h 45 (by decide) (by decide) (by decide), e1, e2, h.sm]
  by_cases c : 10 ≤ w ∧ w ≤ 11
  · rw [h (w - 10) (by omega) (by omega) (by omega)]
    rw [if_neg (show ¬ (20 ≤ w ∧ w ≤ 21) from by omega), if_neg (show ¬ (20 ≤ w ∧ w ≤ 21) from by omega)]
  · rw [if_neg c, if_neg c]
    by_cases c2 : 20 ≤ w ∧ w ≤ 21
    · rw [h (w - 18) (by omega) (by omega) (by omega)]
    · rw [if_neg c2, if_neg c2]
theorem zba_c {S S2 : Int → Int} (hY : ∀ f : Int, 0 ≤ f → f < 10 → (zOw Y f ↔ zOw Y2 f)) (hS : ∀ f : Int, S f = S2 f) : ∀ k : Nat, k ≤ 10 → zba S Y k = zba S2 Y2 k
  | 0, _ => by rw [zba_0, zba_0, hS]
  | k + 1, hk => by
    have ih := zba_c hY hS k (by omega)
    by_cases c : zOw Y (k : Int)
    · by_cases c2 : (zba S Y k).1 < S (k : Int)
      · rw [zba_y rfl c c2, zba_y rfl ((hY _ (by omega) (by omega)).mp c) (by rw [← ih, ← hS]; exact c2), hS]
      · rw [zba_n rfl (Or.inr (by omega)), zba_n rfl (Or.inr (by rw [← ih, ← hS]; omega)), ih]
    · rw [zba_n rfl (Or.inl c), zba_n rfl (Or.inl (fun z => c ((hY _ (by omega) (by omega)).mpr z))), ih]
theorem zck_c {g O O2 : Int → Int} : ∀ {k : Nat}, (∀ i : Int, 0 ≤ i → i < (k : Int) → O i = O2 i) → zck g O k = zck g O2 k
  | 0, _ => rfl
  | k + 1, h => by
    have ih := zck_c (g := g) (k := k) (fun i i1 i2 => h i i1 (by omega))
    unfold zck
    rw [ih, h (k : Int) (by omega) (by omega)]
theorem zDd.tF (h : zDd σ d N) (hn : okN σ N) (hf : 0 ≤ f ∧ f < 10) : zYc σ d (4 + f) ≠ -1 ↔ xsh (σ N 35) f % 2 = 1 := by
  rw [h.1 (4 + f) (by omega) (by omega) (by omega)]
  exact zYN_Fn hf (hn.2.2.1 (4 + f) (by omega) (by omega)).1
theorem zDd.tJ (h : zDd σ d N) (hn : okN σ N) (hj : 0 ≤ j ∧ j < 2) : zYc σ d j ≠ -1 ↔ xsh (σ N 34) j % 2 = 1 := by
  rw [h.1 j (by omega) (by omega) (by omega)]
  exact zYN_Jn hj (hn.1 j hj.1 hj.2).1
end R9

end
