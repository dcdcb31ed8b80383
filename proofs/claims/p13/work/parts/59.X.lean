/-! ===== ways, and who stands where ===== -/
def zwx (w : Int) : Int := if w = 0 ∨ w = 4 then 0 else if w < 4 then 1 else -1
def zwy (w : Int) : Int := if w = 2 ∨ w = 6 then 0 else if 3 ≤ w ∧ w ≤ 5 then -1 else 1
theorem zw_r (w : Int) : -1 ≤ zwx w ∧ zwx w ≤ 1 ∧ -1 ≤ zwy w ∧ zwy w ≤ 1 := by
  unfold zwx zwy
  (repeat' split) <;> omega
theorem zw_n {w : Int} (h : 0 ≤ w ∧ w < 8) : zwx w ≠ 0 ∨ zwy w ≠ 0 := by
  unfold zwx zwy
  (repeat' split) <;> omega
/-- the spot beside another one; -1 at the market's end -/
def zbe (s w : Int) : Int := if 0 ≤ s % 10 + zwx w ∧ s % 10 + zwx w < 10 ∧ 0 ≤ s / 10 + zwy w ∧ s / 10 + zwy w < 10 then 10 * (s / 10 + zwy w) + (s % 10 + zwx w) else -1
theorem zbe_r (s w : Int) : zbe s w = -1 ∨ (0 ≤ zbe s w ∧ zbe s w < 100 ∧ zbe s w % 10 = s % 10 + zwx w ∧ zbe s w / 10 = s / 10 + zwy w) := by
  unfold zbe
  split
  · exact Or.inr (by omega)
  · exact Or.inl rfl
theorem zbe_i {s w x y r : Int} (hx : x = s % 10 + zwx w) (hy : y = s / 10 + zwy w) (h : (0 ≤ x ∧ x < 10 ∧ 0 ≤ y ∧ y < 10 ∧ r = 10 * y + x) ∨ ((x < 0 ∨ 10 ≤ x ∨ y < 0 ∨ 10 ≤ y) ∧ r = -1)) : r = zbe s w := by
  unfold zbe
  subst hx; subst hy
  split <;> omega

theorem zwx_t {w : Int} (h : 0 ≤ w ∧ w < 8) : xwx w.toNat = zwx w := by
  rcases (by omega : w = 0 ∨ w = 1 ∨ w = 2 ∨ w = 3 ∨ w = 4 ∨ w = 5 ∨ w = 6 ∨ w = 7) with rfl | rfl | rfl | rfl | rfl | rfl | rfl | rfl <;> decide
theorem zwy_t {w : Int} (h : 0 ≤ w ∧ w < 8) : xwy w.toNat = zwy w := by
  rcases (by omega : w = 0 ∨ w = 1 ∨ w = 2 ∨ w = 3 ∨ w = 4 ∨ w = 5 ∨ w = 6 ∨ w = 7) with rfl | rfl | rfl | rfl | rfl | rfl | rfl | rfl <;> decide
section XJ
variable {p : Program} {l : Launch} {e : Env} {R : Room} {s : State} {m : MethodId} {args : Array Value} {below : List Frame} {meth : Method} {c : Code} {H : Heap} {locs : List Loc} {cells slots : Nat} {Q : State → Prop}
variable {pc : Nat} {ls : Array Slot} {rest : List Value}
theorem x_anyE {z : Int32} (kk : ∀ v : Int, xJ v = z → xR v → W p l e R s m args below meth c H locs cells slots Q (F0 m pc ls (.int (xJ v) :: rest))) : W p l e R s m args below meth c H locs cells slots Q (F0 m pc ls (.int z :: rest)) := by
  obtain ⟨v, hv, hr⟩ := xJ_ex z
  rw [hv]; exact kk v hv.symm hr
end XJ
/-! ===== who is told, as bits ===== -/
def zor (a j : Int) : Int := if xsh a j % 2 = 1 then a else a + (j + 1)
def znd (a j : Int) : Int := if xsh a j % 2 = 1 then a - (j + 1) else a
theorem zor_j {a j v x : Int} (ha : 0 ≤ a ∧ a ≤ 3) (hj : 0 ≤ j ∧ j < 2) (hv : xJ v = xJ 1 <<< (xJ j &&& 31)) (rx : xR x) (hx : xJ x = xJ a ||| xJ v) : x = zor a j := by
  have e : x = (xJ a ||| (xJ 1 <<< (xJ j &&& 31))).toInt := by rw [← hv, ← hx, xJ_toInt rx]
  rw [e]
  rcases (by omega : a = 0 ∨ a = 1 ∨ a = 2 ∨ a = 3) with rfl | rfl | rfl | rfl <;> rcases (by omega : j = 0 ∨ j = 1) with rfl | rfl <;> decide
theorem znd_j {a j v y x : Int} (ha : 0 ≤ a ∧ a ≤ 3) (hj : 0 ≤ j ∧ j < 2) (hv : xJ v = xJ 1 <<< (xJ j &&& 31)) (hy : xJ y = xJ v ^^^ xJ (-1)) (rx : xR x) (hx : xJ x = xJ a &&& xJ y) : x = znd a j := by
  have e : x = (xJ a &&& ((xJ 1 <<< (xJ j &&& 31)) ^^^ xJ (-1))).toInt := by rw [← hv, ← hy, ← hx, xJ_toInt rx]
  rw [e]
  rcases (by omega : a = 0 ∨ a = 1 ∨ a = 2 ∨ a = 3) with rfl | rfl | rfl | rfl <;> rcases (by omega : j = 0 ∨ j = 1) with rfl | rfl <;> decide
theorem zor_b {a j : Int} (ha : 0 ≤ a ∧ a ≤ 3) (hj : 0 ≤ j ∧ j < 2) : (0 ≤ zor a j ∧ zor a j ≤ 3) ∧ (xsh (zor a j) 0 % 2 = if j = 0 then 1 else xsh a 0 % 2) ∧ (xsh (zor a j) 1 % 2 = if j = 1 then 1 else xsh a 1 % 2) := by
  rcases (by omega : a = 0 ∨ a = 1 ∨ a = 2 ∨ a = 3) with rfl | rfl | rfl | rfl <;> rcases (by omega : j = 0 ∨ j = 1) with rfl | rfl <;> decide
theorem znd_b {a j : Int} (ha : 0 ≤ a ∧ a ≤ 3) (hj : 0 ≤ j ∧ j < 2) : (0 ≤ znd a j ∧ znd a j ≤ 3) ∧ (xsh (znd a j) 0 % 2 = if j = 0 then 0 else xsh a 0 % 2) ∧ (xsh (znd a j) 1 % 2 = if j = 1 then 0 else xsh a 1 % 2) := by
  rcases (by omega : a = 0 ∨ a = 1 ∨ a = 2 ∨ a = 3) with rfl | rfl | rfl | rfl <;> rcases (by omega : j = 0 ∨ j = 1) with rfl | rfl <;> decide
theorem znd_q {a j q : Int} (ha : 0 ≤ a ∧ a ≤ 3) (hj : 0 ≤ j ∧ j < 2) (hq : 0 ≤ q ∧ q < 2) : (q = j → xsh (znd a j) q % 2 = 0) ∧ (q ≠ j → xsh (znd a j) q % 2 = xsh a q % 2) := by
  have b := znd_b ha hj
  rcases (by omega : j = 0 ∨ j = 1) with rfl | rfl <;> rcases (by omega : q = 0 ∨ q = 1) with rfl | rfl
  · exact ⟨fun _ => b.2.1, fun h => absurd rfl h⟩
  · exact ⟨fun h => absurd h (by decide), fun _ => b.2.2⟩
  · exact ⟨fun h => absurd h (by decide), fun _ => b.2.1⟩
  · exact ⟨fun _ => b.2.2, fun h => absurd rfl h⟩
/-- the spot of a JUDGE by the reference's row; -1 of one who isn't told -/
def zrj (N : Int → Int) (j : Int) : Int := if xsh (N 34) j % 2 = 1 then N j else -1
def zrt (N : Int → Int) : Int × Int × Int × Int := (zrj N 0, zrj N 1, N 2, N 3)
def zt (J S : Int → Int) : Int × Int × Int × Int := (J 0, J 1, S 0, S 1)
/-! ===== a JUDGE's step: a the spot, b the other one's, c steps done of n, w the way of the next one (8: a stay) ===== -/
def znW (K : Int → Int) (a b w : Int) : Int := if w = 8 ∨ zbe a w = -1 ∨ K (zbe a w) = 1 ∨ K (zbe a w) = 3 ∨ b = zbe a w then a else zbe a w
def znw (K : Int → Int) (a b c n w : Int) : Int := if a = -1 ∨ n ≤ c then a else znW K a b w
def znc (a c n : Int) : Int := if a = -1 ∨ n ≤ c then c else c + 1
section ZJ
variable {K n : Int → Int} {w : Int → Int → Int} {a b c m v t j k : Int} {J S J2 S2 N N2 : Int → Int}
theorem znW_r (h : -1 ≤ a ∧ a ≤ 99) : -1 ≤ znW K a b v ∧ znW K a b v ≤ 99 := by
  have := zbe_r a v
  unfold znW
  split <;> omega
theorem znw_r (h : -1 ≤ a ∧ a ≤ 99) : -1 ≤ znw K a b c m v ∧ znw K a b c m v ≤ 99 := by
  have := @znW_r K a b v h
  unfold znw
  split <;> omega
theorem znw_no (h : a = -1 ∨ m ≤ c) : znw K a b c m v = a := if_pos h
theorem znw_st (h : v = 8 ∨ zbe a v = -1 ∨ K (zbe a v) = 1 ∨ K (zbe a v) = 3 ∨ b = zbe a v) : znw K a b c m v = a := by
  unfold znw znW
  split
  · rfl
  · first | rfl | exact if_pos h
theorem znw_go (h1 : a ≠ -1) (h2 : c < m) (h : ¬ (v = 8 ∨ zbe a v = -1 ∨ K (zbe a v) = 1 ∨ K (zbe a v) = 3 ∨ b = zbe a v)) : znw K a b c m v = zbe a v := by
  unfold znw znW
  rw [if_neg (by omega), if_neg h]
theorem znc_no (h : a = -1 ∨ m ≤ c) : znc a c m = c := if_pos h
theorem znc_s (h1 : a ≠ -1) (h2 : c < m) : znc a c m = c + 1 := if_neg (by omega)
theorem zxud_i (f : Int → Int) (j : Int) : xud f j (f j) = f := funext fun i => by
  unfold xud
  split
  · rename_i h; rw [h]
  · rfl
theorem zxud_e {f : Int → Int} (h : v = f j) : f = xud f j v := by rw [h, zxud_i]
def zjk (K n : Int → Int) (w : Int → Int → Int) (j : Int) (Y : Int × Int × Int × Int) : Int × Int × Int × Int := if j = 0 then (znw K Y.1 Y.2.1 Y.2.2.1 (n 0) (w 0 Y.2.2.1), Y.2.1, znc Y.1 Y.2.2.1 (n 0), Y.2.2.2) else (Y.1, znw K Y.2.1 Y.1 Y.2.2.2 (n 1) (w 1 Y.2.2.2), Y.2.2.1, znc Y.2.1 Y.2.2.2 (n 1))
def zjs (K n : Int → Int) (w : Int → Int → Int) (Y : Int × Int × Int × Int) : Int × Int × Int × Int := zjk K n w 1 (zjk K n w 0 Y)
def zjp (K n : Int → Int) (w : Int → Int → Int) (k : Int) (Y : Int × Int × Int × Int) : Int × Int × Int × Int := if k ≤ 0 then Y else if k = 1 then zjk K n w 0 Y else zjs K n w Y
def zjn (K n : Int → Int) (w : Int → Int → Int) : Nat → Int × Int × Int × Int → Int × Int × Int × Int
  | 0, Y => Y
  | q + 1, Y => zjs K n w (zjn K n w q Y)
def zok (Y : Int × Int × Int × Int) : Prop := (-1 ≤ Y.1 ∧ Y.1 ≤ 99) ∧ (-1 ≤ Y.2.1 ∧ Y.2.1 ≤ 99) ∧ 0 ≤ Y.2.2.1 ∧ 0 ≤ Y.2.2.2
variable {Y : Int × Int × Int × Int}
theorem zjp_0 (h : k = 0) : zjp K n w k Y = Y := if_pos (by omega)
theorem zjp_2 (h : 2 ≤ k) : zjp K n w k Y = zjs K n w Y := by
  unfold zjp
  rw [if_neg (by omega), if_neg (by omega)]
theorem zjp_s (h : 0 ≤ k ∧ k < 2) : zjp K n w (k + 1) Y = zjk K n w k (zjp K n w k Y) := by
  rcases (by omega : k = 0 ∨ k = 1) with rfl | rfl
  · unfold zjp
    rw [if_neg (by decide), if_pos (by decide), if_pos (by decide)]
  · unfold zjp
    rw [if_neg (by decide), if_neg (by decide), if_neg (by decide), if_pos rfl]
    rfl
theorem znc_r (h : 0 ≤ c) : 0 ≤ znc a c m := by
  unfold znc
  split <;> omega
theorem zok_k (h : zok Y) : zok (zjk K n w j Y) := by
  obtain ⟨h1, h2, h3, h4⟩ := h
  unfold zjk
  split
  · exact ⟨znw_r h1, h2, znc_r h3, h4⟩
  · exact ⟨h1, znw_r h2, h3, znc_r h4⟩
theorem zok_s (h : zok Y) : zok (zjs K n w Y) := zok_k (zok_k h)
theorem zok_p (h : zok Y) : zok (zjp K n w k Y) := by
  unfold zjp
  split
  · exact h
  · split
    · exact zok_k h
    · exact zok_s h
theorem zok_at (h : zok (zt J S)) (hj : 0 ≤ j ∧ j < 2) : -1 ≤ J j ∧ J j ≤ 99 := by
  rcases (by omega : j = 0 ∨ j = 1) with rfl | rfl
  · exact h.1
  · exact h.2.1
theorem zjk_c (hj : 0 ≤ j ∧ j < 2) (hJ : J2 = xud J j (znw K (J j) (J (1 - j)) (S j) (n j) (w j (S j)))) (hS : S2 = xud S j (znc (J j) (S j) (n j))) : zt J2 S2 = zjk K n w j (zt J S) := by
  subst hJ; subst hS
  rcases (by omega : j = 0 ∨ j = 1) with rfl | rfl <;> rfl
/-! the reference's row -/
theorem zrj_p (h : xsh (N 34) j % 2 = 1) : zrj N j = N j := if_pos h
theorem zrj_n (h : xsh (N 34) j % 2 ≠ 1) : zrj N j = -1 := if_neg h
theorem zrt_f (h0 : N2 0 = N 0) (h1 : N2 1 = N 1) (h2 : N2 2 = N 2) (h3 : N2 3 = N 3) (h4 : N2 34 = N 34) : zrt N2 = zrt N := by
  unfold zrt zrj
  rw [h0, h1, h2, h3, h4]
theorem zrj_o {i q : Int} (h1 : (34 : Int) ≠ q) (h2 : i ≠ q) : zrj (xud N q v) i = zrj N i := by
  unfold zrj
  rw [xud_o _ _ h1, xud_o _ _ h2]
theorem znW_st (h : v = 8 ∨ zbe a v = -1 ∨ K (zbe a v) = 1 ∨ K (zbe a v) = 3 ∨ b = zbe a v) : znW K a b v = a := if_pos h
theorem znW_go (h : ¬ (v = 8 ∨ zbe a v = -1 ∨ K (zbe a v) = 1 ∨ K (zbe a v) = 3 ∨ b = zbe a v)) : znW K a b v = zbe a v := if_neg h
theorem zjk_no (hj : 0 ≤ j ∧ j < 2) (h : xsh (N 34) j % 2 ≠ 1 ∨ n j ≤ N (2 + j)) : zrt N = zjk K n w j (zrt N) := by
  rcases (by omega : j = 0 ∨ j = 1) with rfl | rfl
  · have e : zrj N 0 = -1 ∨ n 0 ≤ N 2 := h.elim (fun q => Or.inl (zrj_n q)) Or.inr
    show _ = (znw K (zrj N 0) (zrj N 1) (N 2) (n 0) (w 0 (N 2)), zrj N 1, znc (zrj N 0) (N 2) (n 0), N 3)
    rw [znw_no e, znc_no e]
    rfl
  · have e : zrj N 1 = -1 ∨ n 1 ≤ N 3 := h.elim (fun q => Or.inl (zrj_n q)) Or.inr
    show _ = (zrj N 0, znw K (zrj N 1) (zrj N 0) (N 3) (n 1) (w 1 (N 3)), N 2, znc (zrj N 1) (N 3) (n 1))
    rw [znw_no e, znc_no e]
    rfl
theorem zjk_r (hj : 0 ≤ j ∧ j < 2) (h1 : xsh (N 34) j % 2 = 1) (h0 : N j ≠ -1) (h2 : N (2 + j) < n j) (e : N2 = xud (xud N (2 + j) (N (2 + j) + 1)) j (znW K (N j) (zrj N (1 - j)) (w j (N (2 + j))))) : zrt N2 = zjk K n w j (zrt N) := by
  subst e
  rcases (by omega : j = 0 ∨ j = 1) with rfl | rfl
  · have a1 : zrj N 0 = N 0 := zrj_p h1
    have b1 : N 2 < n 0 := h2
    show (zrj _ 0, zrj _ 1, N 2 + 1, N 3) = (znw K (zrj N 0) (zrj N 1) (N 2) (n 0) (w 0 (N 2)), zrj N 1, znc (zrj N 0) (N 2) (n 0), N 3)
    have h3 : xsh (xud (xud N (2 + 0) (N (2 + 0) + 1)) 0 (znW K (N 0) (zrj N (1 - 0)) (w 0 (N (2 + 0)))) 34) 0 % 2 = 1 := by
      rw [xud_o _ _ (show (34 : Int) ≠ 0 from by decide), xud_o _ _ (show (34 : Int) ≠ 2 + 0 from by decide)]
      exact h1
    rw [a1, znc_s h0 b1, zrj_p h3]
    unfold znw
    rw [if_neg (by omega)]
    rfl
  · have a1 : zrj N 1 = N 1 := zrj_p h1
    have b1 : N 3 < n 1 := h2
    show (zrj _ 0, zrj _ 1, N 2, N 3 + 1) = (zrj N 0, znw K (zrj N 1) (zrj N 0) (N 3) (n 1) (w 1 (N 3)), N 2, znc (zrj N 1) (N 3) (n 1))
    have h3 : xsh (xud (xud N (2 + 1) (N (2 + 1) + 1)) 1 (znW K (N 1) (zrj N (1 - 1)) (w 1 (N (2 + 1)))) 34) 1 % 2 = 1 := by
      rw [xud_o _ _ (show (34 : Int) ≠ 1 from by decide), xud_o _ _ (show (34 : Int) ≠ 2 + 1 from by decide)]
      exact h1
    rw [a1, znc_s h0 b1, zrj_p h3]
    unfold znw
    rw [if_neg (by omega)]
    rfl
end ZJ
/-! ===== the class's WALKS: rows that nobody writes into any more ===== -/
def zRo (σ : xS) (r : Nat) : Prop := r = 139 ∨ r = 140 ∨ r = 149 ∨ r = 150 ∨ (219 ≤ r ∧ r < 224) ∨ (310 ≤ r ∧ r < 310 + (σ 999996 0).toNat ∧ r < 999990)
def zWc (σ : xS) (d : Nat) (n : Int → Int) (w : Int → Int → Int) : Prop := ∀ j : Int, 0 ≤ j → j < 2 → zRo σ (σ (d + 2) j).toNat ∧ (xlen σ (σ (d + 2) j).toNat : Int) = n j ∧ ∀ i : Int, 0 ≤ i → i < n j → 2 * σ (σ (d + 2) j).toNat i = w j i ∧ 0 ≤ w j i ∧ w j i ≤ 8
theorem zRo.f {σ τ : xS} {r : Nat} (h : zRo σ r) (e : τ 999996 = σ 999996) : zRo τ r := by unfold zRo; rw [e]; exact h
theorem zWc.f {σ τ : xS} {d : Nat} {n : Int → Int} {w : Int → Int → Int} (h : zWc σ d n w) (e2 : τ (d + 2) = σ (d + 2)) (e : ∀ k : Nat, (k = 139 ∨ k = 140 ∨ k = 149 ∨ k = 150 ∨ (219 ≤ k ∧ k < 224) ∨ 310 ≤ k) → τ k = σ k) : zWc τ d n w := fun j j1 j2 => by
  obtain ⟨h1, h2, h3⟩ := h j j1 j2
  have l8 : xlen τ = xlen σ := funext fun r => by unfold xlen; rw [e 999998 (by omega)]
  have er : τ (σ (d + 2) j).toNat = σ (σ (d + 2) j).toNat := e _ (by unfold zRo at h1; omega)
  rw [e2, l8, er]
  exact ⟨h1.f (e 999996 (by omega)), h2, h3⟩
/-- the spot ahead of another one, seen from t on in that way -/
def zah (t w s : Int) : Prop := (zwx w = 1 → t % 10 ≤ s % 10) ∧ (zwx w = -1 → s % 10 ≤ t % 10) ∧ (zwx w = 0 → (zwy w = 1 → t / 10 ≤ s / 10) ∧ (zwy w = -1 → s / 10 ≤ t / 10))
theorem zah_0 (t w : Int) : zah t w t := ⟨fun _ => Int.le_refl _, fun _ => Int.le_refl _, fun _ => ⟨fun _ => Int.le_refl _, fun _ => Int.le_refl _⟩⟩
theorem zah_s {t w s : Int} (hw : 0 ≤ w ∧ w < 8) (h : zah t w s) (hb : zbe s w ≠ -1) : zah t w (zbe s w) ∧ zbe s w ≠ t := by
  have r := zbe_r s w
  have n := zw_n hw
  have b := zw_r w
  unfold zah at h ⊢
  have e := r.resolve_left hb
  refine ⟨⟨fun q => ?_, fun q => ?_, fun q => ⟨fun q2 => ?_, fun q2 => ?_⟩⟩, fun q => ?_⟩
  · have := h.1 q; omega
  · have := h.2.1 q; omega
  · have := (h.2.2 q).1 q2; omega
  · have := (h.2.2 q).2 q2; omega
  · rw [q] at e
    by_cases x1 : zwx w = 1
    · have := h.1 x1; omega
    · by_cases x2 : zwx w = -1
      · have := h.2.1 x2; omega
      · have x0 : zwx w = 0 := by omega
        by_cases y1 : zwy w = 1
        · have := (h.2.2 x0).1 y1; omega
        · have := (h.2.2 x0).2 (by omega); omega
/-- how often x lies among so many spots from beside s on, up to the first wall or the end -/
def zpc (K : Int → Int) : Nat → Int → Int → Int → Int
  | 0, _, _, _ => 0
  | k + 1, s, w, x => if zbe s w = -1 ∨ K (zbe s w) = 1 then 0 else (if x = zbe s w then 1 else 0) + zpc K k (zbe s w) w x
theorem zpc_n (K : Int → Int) : ∀ (k : Nat) (s w x : Int), 0 ≤ zpc K k s w x
  | 0, _, _, _ => Int.le_refl _
  | k + 1, s, w, x => by
    have := zpc_n K k (zbe s w) w x
    unfold zpc
    (repeat' split) <;> omega
/-- where a lamp's light meets a JUDGE: so many spots from beside s on; the shadow behind the one that stands there -/
def zlv (K J : Int → Int) : Nat → Int → Int → Int → Int
  | 0, _, _, _ => 0
  | k + 1, s, w, x => if zbe s w = -1 ∨ K (zbe s w) = 1 then 0 else (if J 0 = zbe s w ∨ J 1 = zbe s w then zpc K 2 (zbe s w) w x else 0) + zlv K J k (zbe s w) w x
/-- whether t is seen within so many spots from beside s on -/
def zvi (K : Int → Int) : Nat → Int → Int → Int → Bool
  | 0, _, _, _ => false
  | k + 1, s, w, t => if zbe s w = -1 ∨ K (zbe s w) = 1 then false else if zbe s w = t then true else zvi K k (zbe s w) w t
theorem zvi_ah {K : Int → Int} {t w : Int} (hw : 0 ≤ w ∧ w < 8) : ∀ (k : Nat) (s : Int), zah t w s → zvi K k s w t = false
  | 0, _, _ => rfl
  | k + 1, s, h => by
    unfold zvi
    split
    · rfl
    · rename_i e
      have z := zah_s hw h (fun q => e (Or.inl q))
      rw [if_neg z.2]
      exact zvi_ah hw k _ z.1
theorem zlv_vi {K J : Int → Int} {w : Int} (hw : 0 ≤ w ∧ w < 8) (hJ : J 0 ≠ J 1 ∨ J 0 = -1) (x : Int) : ∀ (k : Nat) (s : Int), zlv K J k s w x = (if J 0 ≠ -1 ∧ zvi K k s w (J 0) = true then zpc K 2 (J 0) w x else 0) + (if J 1 ≠ -1 ∧ zvi K k s w (J 1) = true then zpc K 2 (J 1) w x else 0)
  | 0, s => by
    show (0 : Int) = _
    rw [if_neg (fun q => by cases q.2), if_neg (fun q => by cases q.2)]
    rfl
  | k + 1, s => by
    have ih := zlv_vi (K := K) hw hJ x k (zbe s w)
    unfold zlv zvi
    by_cases e : zbe s w = -1 ∨ K (zbe s w) = 1
    · rw [if_pos e, if_pos e, if_pos e, if_neg (fun q => by cases q.2), if_neg (fun q => by cases q.2)]
      rfl
    · have e1 : zbe s w ≠ -1 := fun q => e (Or.inl q)
      rw [if_neg e, if_neg e, if_neg e, ih]
      by_cases j0 : zbe s w = J 0
      · have v0 : zvi K k (zbe s w) w (J 0) = false := by rw [j0]; exact zvi_ah hw k _ (zah_0 _ _)
        have n1 : ¬ zbe s w = J 1 := by omega
        rw [if_pos (Or.inl j0.symm), if_pos j0, if_neg n1, v0]
        rw [if_neg (c := J 0 ≠ -1 ∧ false = true) (fun q => by cases q.2), if_pos (c := J 0 ≠ -1 ∧ true = true) ⟨by omega, rfl⟩, j0]
        omega
      · by_cases j1 : zbe s w = J 1
        · have v1 : zvi K k (zbe s w) w (J 1) = false := by rw [j1]; exact zvi_ah hw k _ (zah_0 _ _)
          rw [if_pos (Or.inr j1.symm), if_neg j0, if_pos j1, v1]
          rw [if_neg (c := J 1 ≠ -1 ∧ false = true) (fun q => by cases q.2), if_pos (c := J 1 ≠ -1 ∧ true = true) ⟨by omega, rfl⟩, j1]
          omega
        · rw [if_neg (by omega), if_neg j0, if_neg j1]
          omega
/-! ===== how many STEPS lead from one spot to another (9: more than so many) ===== -/
def zdn (f : Int → Int) (t w : Int) : Int := if zbe t w = -1 then 9 else f (zbe t w)
def zds (K : Int → Int) (a : Int) : Nat → Int → Int
  | 0, t => if t = a then 0 else 9
  | n + 1, t => if zds K a n t ≠ 9 then zds K a n t else if K t ≠ 1 ∧ (zdn (zds K a n) t 0 = (n : Int) ∨ zdn (zds K a n) t 2 = (n : Int) ∨ zdn (zds K a n) t 4 = (n : Int) ∨ zdn (zds K a n) t 6 = (n : Int)) then (n : Int) + 1 else 9
theorem zds_s (K : Int → Int) (a : Int) (n : Nat) (t : Int) : zds K a (n + 1) t = if zds K a n t ≠ 9 then zds K a n t else if K t ≠ 1 ∧ (zdn (zds K a n) t 0 = (n : Int) ∨ zdn (zds K a n) t 2 = (n : Int) ∨ zdn (zds K a n) t 4 = (n : Int) ∨ zdn (zds K a n) t 6 = (n : Int)) then (n : Int) + 1 else 9 := rfl
theorem zds_r (K : Int → Int) (a : Int) : ∀ (n : Nat) (t : Int), zds K a n t = 9 ∨ (0 ≤ zds K a n t ∧ zds K a n t ≤ (n : Int))
  | 0, t => by
    show (if t = a then (0 : Int) else 9) = 9 ∨ (0 ≤ (if t = a then (0 : Int) else 9) ∧ (if t = a then (0 : Int) else 9) ≤ ((0 : Nat) : Int))
    split <;> omega
  | n + 1, t => by
    have ih := zds_r K a n t
    rw [zds_s]
    split
    · omega
    · split <;> omega
theorem zds_m {K : Int → Int} {a : Int} {n : Nat} {t : Int} (h : zds K a n t ≠ 9) : zds K a (n + 1) t = zds K a n t := by rw [zds_s, if_pos h]
theorem zds_9 {K : Int → Int} {a : Int} {n : Nat} {t : Int} (h : zds K a n t = 9) : zds K a (n + 1) t = 9 ∨ zds K a (n + 1) t = (n : Int) + 1 := by
  rw [zds_s, if_neg (fun q => q h)]
  split
  · exact Or.inr rfl
  · exact Or.inl rfl
theorem zds_m3 {K : Int → Int} {a : Int} {n : Nat} {t : Int} (h : zds K a n t ≠ 9) : ∀ k : Nat, zds K a (n + k) t = zds K a n t
  | 0 => rfl
  | k + 1 => by
    have ih := zds_m3 h k
    show zds K a (n + k + 1) t = _
    rw [zds_m (by rw [ih]; exact h), ih]
theorem zds_93 {K : Int → Int} {a : Int} {n : Nat} {t : Int} (h : zds K a n t = 9) : ∀ k : Nat, zds K a (n + k) t = 9 ∨ (n : Int) < zds K a (n + k) t
  | 0 => Or.inl h
  | k + 1 => by
    show zds K a (n + k + 1) t = 9 ∨ (n : Int) < zds K a (n + k + 1) t
    rcases zds_93 h k with q | q
    · have := zds_9 q
      omega
    · by_cases e : zds K a (n + k) t = 9
      · have := zds_9 e
        omega
      · rw [zds_m e]; exact Or.inr q
/-- within v STEPS: the row of v rounds and the one of three say the same -/
theorem zds_v {K : Int → Int} {a v t : Int} (hv : 0 ≤ v ∧ v ≤ 3) : (zds K a 3 t ≤ v → zds K a v.toNat t = zds K a 3 t) ∧ (zds K a v.toNat t ≠ 9 → zds K a 3 t = zds K a v.toNat t ∧ zds K a 3 t ≤ v) := by
  obtain ⟨n, rfl⟩ := Int.eq_ofNat_of_zero_le hv.1
  have e : ((n : Int)).toNat = n := by omega
  rw [e]
  have hn : n + (3 - n) = 3 := by omega
  have r := zds_r K a n t
  refine ⟨fun h => ?_, fun h => ?_⟩
  · by_cases q : zds K a n t = 9
    · have z := zds_93 q (3 - n)
      rw [hn] at z
      have r3 := zds_r K a 3 t
      omega
    · have z := zds_m3 q (3 - n)
      rw [hn] at z
      exact z.symm
  · have z := zds_m3 h (3 - n)
    rw [hn] at z
    exact ⟨z, by omega⟩
theorem zbe_b {u t q : Int} (hq : 0 ≤ q ∧ q < 4) (hu : 0 ≤ u ∧ u < 100) (h : zbe u (2 * q) = t) (ht : t ≠ -1) : zbe t (2 * ((q + 2) % 4)) = u := by
  have r := (zbe_r u (2 * q)).resolve_left (by omega)
  rw [h] at r
  rcases (by omega : q = 0 ∨ q = 1 ∨ q = 2 ∨ q = 3) with rfl | rfl | rfl | rfl
  · have a1 : zwx (2 * 0) = 0 := by decide
    have a2 : zwy (2 * 0) = 1 := by decide
    have b1 : zwx (2 * ((0 + 2) % 4)) = 0 := by decide
    have b2 : zwy (2 * ((0 + 2) % 4)) = -1 := by decide
    exact (zbe_i (s := t) (w := 2 * ((0 + 2) % 4)) (x := u % 10) (y := u / 10) (r := u) (by omega) (by omega) (Or.inl (by omega))).symm
  · have a1 : zwx (2 * 1) = 1 := by decide
    have a2 : zwy (2 * 1) = 0 := by decide
    have b1 : zwx (2 * ((1 + 2) % 4)) = -1 := by decide
    have b2 : zwy (2 * ((1 + 2) % 4)) = 0 := by decide
    exact (zbe_i (s := t) (w := 2 * ((1 + 2) % 4)) (x := u % 10) (y := u / 10) (r := u) (by omega) (by omega) (Or.inl (by omega))).symm
  · have a1 : zwx (2 * 2) = 0 := by decide
    have a2 : zwy (2 * 2) = -1 := by decide
    have b1 : zwx (2 * ((2 + 2) % 4)) = 0 := by decide
    have b2 : zwy (2 * ((2 + 2) % 4)) = 1 := by decide
    exact (zbe_i (s := t) (w := 2 * ((2 + 2) % 4)) (x := u % 10) (y := u / 10) (r := u) (by omega) (by omega) (Or.inl (by omega))).symm
  · have a1 : zwx (2 * 3) = -1 := by decide
    have a2 : zwy (2 * 3) = 0 := by decide
    have b1 : zwx (2 * ((3 + 2) % 4)) = 1 := by decide
    have b2 : zwy (2 * ((3 + 2) % 4)) = 0 := by decide
    exact (zbe_i (s := t) (w := 2 * ((3 + 2) % 4)) (x := u % 10) (y := u / 10) (r := u) (by omega) (by omega) (Or.inl (by omega))).symm
/-- a row in the midst of a round (F: its far) -/
def zdf (F v : Int) : Int := if v = 9 then F else v
def zdQ (F : Int) (R K : Int → Int) (a : Int) (n : Nat) (i : Int) : Prop := (∀ t : Int, 0 ≤ t → t < 100 → (zds K a n t ≠ 9 ∧ R t = zds K a n t) ∨ (zds K a n t = 9 ∧ R t = F) ∨ (zds K a n t = 9 ∧ R t = (n : Int) + 1 ∧ zds K a (n + 1) t = (n : Int) + 1)) ∧ ∀ m : Int, 0 ≤ m → m < i → zds K a n (m / 4) = (n : Int) → zbe (m / 4) (2 * (m % 4)) ≠ -1 → K (zbe (m / 4) (2 * (m % 4))) ≠ 1 → R (zbe (m / 4) (2 * (m % 4))) ≠ F
section ZQ
variable {F : Int} {R R2 K : Int → Int} {a i i2 t : Int} {n : Nat}
theorem zdQ.new (h : ∀ t : Int, 0 ≤ t → t < 100 → R t = zdf F (zds K a n t)) (hi : i ≤ 0) : zdQ F R K a n i := by
  refine ⟨fun t t1 t2 => ?_, fun m m1 m2 => absurd m2 (by omega)⟩
  have e := h t t1 t2
  unfold zdf at e
  by_cases q : zds K a n t = 9
  · rw [if_pos q] at e; exact Or.inr (Or.inl ⟨q, e⟩)
  · rw [if_neg q] at e; exact Or.inl ⟨q, e⟩
theorem zdQ.at_ (h : zdQ F R K a n i) (hF : 9 ≤ F) (hn : n ≤ 2) (ht : 0 ≤ t ∧ t < 100) : R t = (n : Int) ↔ zds K a n t = (n : Int) := by
  have z := h.1 t ht.1 ht.2
  omega
theorem zdQ.skip (h : zdQ F R K a n i) (hi : i2 = i + 1) (c : zds K a n (i / 4) = (n : Int) → zbe (i / 4) (2 * (i % 4)) ≠ -1 → K (zbe (i / 4) (2 * (i % 4))) ≠ 1 → R (zbe (i / 4) (2 * (i % 4))) ≠ F) : zdQ F R K a n i2 := by
  refine ⟨h.1, fun m m1 m2 => ?_⟩
  by_cases e : m = i
  · subst e; exact c
  · exact h.2 m m1 (by omega)
theorem zdQ.far (h : zdQ F R K a n i) (hF : 9 ≤ F) (hn : n ≤ 2) (ht : 0 ≤ t ∧ t < 100) (hr : R t = F) : zds K a n t = 9 := by
  have z := h.1 t ht.1 ht.2
  have r := zds_r K a n t
  omega
theorem zdQ.set (h : zdQ F R K a n i) (hF : 9 ≤ F) (hn : n ≤ 2) (hi : 0 ≤ i ∧ i < 400) (h2 : i2 = i + 1) (ht : t = zbe (i / 4) (2 * (i % 4))) (h1 : t ≠ -1) (hk : K t ≠ 1) (hd : zds K a n (i / 4) = (n : Int)) (hr : R t = F) (hR : R2 = xud R t ((n : Int) + 1)) : zdQ F R2 K a n i2 := by
  have rt := (zbe_r (i / 4) (2 * (i % 4))).resolve_left (by omega)
  rw [← ht] at rt
  have h9 := h.far hF hn ⟨rt.1, rt.2.1⟩ hr
  have hb := zbe_b (u := i / 4) (t := t) (q := i % 4) (by omega) (by omega) ht.symm h1
  have en : zdn (zds K a n) t (2 * ((i % 4 + 2) % 4)) = (n : Int) := by
    unfold zdn
    rw [hb, if_neg (by omega)]
    exact hd
  have es : zds K a (n + 1) t = (n : Int) + 1 := by
    rw [zds_s, if_neg (fun q => q h9), if_pos]
    refine ⟨hk, ?_⟩
    rcases (by omega : i % 4 = 0 ∨ i % 4 = 1 ∨ i % 4 = 2 ∨ i % 4 = 3) with q | q | q | q <;> rw [q] at en
    · exact Or.inr (Or.inr (Or.inl en))
    · exact Or.inr (Or.inr (Or.inr en))
    · exact Or.inl en
    · exact Or.inr (Or.inl en)
  subst hR
  refine ⟨fun x x1 x2 => ?_, fun m m1 m2 c1 c2 c3 => ?_⟩
  · by_cases e : x = t
    · subst e
      rw [xud_s]
      exact Or.inr (Or.inr ⟨h9, rfl, es⟩)
    · rw [xud_o _ _ e]; exact h.1 x x1 x2
  · by_cases e : zbe (m / 4) (2 * (m % 4)) = t
    · rw [e, xud_s]; omega
    · rw [xud_o _ _ e]
      by_cases e2 : m = i
      · subst e2; exact absurd ht.symm e
      · exact h.2 m m1 (by omega) c1 c2 c3
theorem zdQ.fin (h : zdQ F R K a n i) (hi : 400 ≤ i) (hF : 9 ≤ F) (hn : n ≤ 2) : ∀ t : Int, 0 ≤ t → t < 100 → R t = zdf F (zds K a (n + 1) t) := fun t t1 t2 => by
  have r := zds_r K a n t
  rcases h.1 t t1 t2 with q | q | q
  · rw [zds_m q.1, q.2]
    unfold zdf
    rw [if_neg q.1]
  · have e9 : zds K a (n + 1) t = 9 := by
      rw [zds_s, if_neg (fun z => z q.1), if_neg]
      rintro ⟨k1, k2⟩
      have go : ∀ w : Int, 0 ≤ w → w < 4 → zdn (zds K a n) t (2 * w) = (n : Int) → False := fun w w1 w2 e => by
        unfold zdn at e
        by_cases b : zbe t (2 * w) = -1
        · rw [if_pos b] at e; omega
        · rw [if_neg b] at e
          have rb := (zbe_r t (2 * w)).resolve_left b
          have hb := zbe_b (u := t) (t := zbe t (2 * w)) (q := w) ⟨w1, w2⟩ ⟨t1, t2⟩ rfl b
          obtain ⟨u, hu⟩ : ∃ u, u = zbe t (2 * w) := ⟨_, rfl⟩
          rw [← hu] at e rb hb
          have em : (4 * u + (w + 2) % 4) / 4 = u := by omega
          have eq : (4 * u + (w + 2) % 4) % 4 = (w + 2) % 4 := by omega
          have z := h.2 (4 * u + (w + 2) % 4) (by omega) (by omega)
          rw [em, eq, hb] at z
          exact z e (by omega) k1 q.2
      rcases k2 with k2 | k2 | k2 | k2
      · exact go 0 (by omega) (by omega) k2
      · exact go 1 (by omega) (by omega) k2
      · exact go 2 (by omega) (by omega) k2
      · exact go 3 (by omega) (by omega) k2
    rw [e9, q.2]
    unfold zdf
    rw [if_pos rfl]
  · rw [q.2.1, q.2.2]
    unfold zdf
    rw [if_neg (by omega)]
theorem zdf_9 (v : Int) : zdf 9 v = v := by
  unfold zdf
  split <;> omega
/-- a row at its start -/
theorem zdQ_0 {R : Int → Int} (h : ∀ t : Int, 0 ≤ t → t < 100 → (t = a ∧ R t = 0) ∨ (t ≠ a ∧ R t = F)) : ∀ t : Int, 0 ≤ t → t < 100 → R t = zdf F (zds K a 0 t) := fun t t1 t2 => by
  show R t = zdf F (if t = a then 0 else 9)
  unfold zdf
  rcases h t t1 t2 with q | q
  · rw [if_pos q.1, if_neg (by decide)]; exact q.2
  · rw [if_neg q.1, if_pos rfl]; exact q.2
end ZQ
/-- the class's rows of STEPS that stand -/
def zCA (σ : xS) : Prop := ∀ a : Int, 0 ≤ a → a < 100 → σ 107 a ≠ 0 → ∀ t : Int, 0 ≤ t → t < 100 → σ (7 + a.toNat) t = zds (σ 4) a 3 t
theorem zCA.f {σ τ : xS} (h : zCA σ) (e : ∀ k : Nat, (k = 4 ∨ (7 ≤ k ∧ k ≤ 107)) → τ k = σ k) : zCA τ := fun a a1 a2 a3 t t1 t2 => by
  rw [e (7 + a.toNat) (Or.inr (by omega)), e 4 (Or.inl rfl)]
  rw [e 107 (Or.inr (by omega))] at a3
  exact h a a1 a2 a3 t t1 t2
/-- what a STEPS question is answered -/
def zsb (K : Int → Int) (a b : Int) : Int := if 0 ≤ a ∧ a < 100 ∧ 0 ≤ b ∧ b < 100 then zds K a 3 b else 9
theorem zdQ.four {F : Int} {R K : Int → Int} {a i i2 : Int} {n : Nat} (h : zdQ F R K a n (4 * i)) (hF : 9 ≤ F) (hn : n ≤ 2) (hi : 0 ≤ i ∧ i < 100) (hr : R i ≠ (n : Int)) (h2 : i2 = 4 * (i + 1)) : zdQ F R K a n i2 := by
  subst h2
  refine ⟨h.1, fun m m1 m2 c => ?_⟩
  by_cases e : m < 4 * i
  · exact h.2 m m1 e c
  · rw [show m / 4 = i from by omega] at c
    exact absurd ((h.at_ hF hn hi).mpr c) hr
/-! ===== what a law's letters come to ===== -/
abbrev zLaw : Type := (Int → Int) × (Int → Int) × (Int → Int) × (Int → Int) × (Int → Int) × Int
def zclp (hi v : Int) : Int := if v < 0 then 0 else if hi < v then hi else v
theorem zclp_r {hi v : Int} (h : 0 ≤ hi) : 0 ≤ zclp hi v ∧ zclp hi v ≤ hi := by
  unfold zclp
  (repeat' split) <;> omega
def zwoN (q : zLaw) (kd hi : Int) (F : Int → Int) : Nat → Int → Int
  | 0, _ => 0
  | k + 1, i => if q.2.1 i = kd ∧ zEV q.1 F (q.2.2.2.1 i) (q.2.2.2.2.1 i) ≠ 0 then zclp hi (zEV q.1 F (q.2.2.1 i) (q.2.2.2.1 i)) else zwoN q kd hi F k (i + 1)
def zwo (q : zLaw) (kd hi : Int) (F : Int → Int) : Int := zwoN q kd hi F q.2.2.2.2.2.toNat 0
def zniN (q : zLaw) (F : Int → Int) : Nat → Int → Int
  | 0, _ => 0
  | k + 1, i => if q.2.1 i = 110 ∧ zEV q.1 F (q.2.2.2.1 i) (q.2.2.2.2.1 i) ≠ 0 then 1 else zniN q F k (i + 1)
def zf0 (m : Int) : Int → Int := fun k => if k = 0 then m else if k = 1 then m / 60 % 24 else 0
def zfJ (m j : Int) : Int → Int := xud (zf0 m) 2 j
def zfF (m f w b s : Int) : Int → Int := xud (xud (xud (xud (zf0 m) 3 f) 4 w) 5 b) 6 s
def zni (q : zLaw) (m : Int) : Int := zniN q (zf0 m) q.2.2.2.2.2.toNat 0
theorem zwoN_r {q : zLaw} {kd hi : Int} {F : Int → Int} (h : 0 ≤ hi) : ∀ (k : Nat) (i : Int), 0 ≤ zwoN q kd hi F k i ∧ zwoN q kd hi F k i ≤ hi
  | 0, _ => ⟨Int.le_refl _, h⟩
  | k + 1, i => by
    have ih := zwoN_r (q := q) (kd := kd) (F := F) h k (i + 1)
    unfold zwoN
    split
    · exact zclp_r h
    · exact ih
theorem zwo_r {q : zLaw} {kd hi : Int} {F : Int → Int} (h : 0 ≤ hi) : 0 ≤ zwo q kd hi F ∧ zwo q kd hi F ≤ hi := zwoN_r h _ _
theorem zniN_r {q : zLaw} {F : Int → Int} : ∀ (k : Nat) (i : Int), zniN q F k i = 0 ∨ zniN q F k i = 1
  | 0, _ => Or.inl rfl
  | k + 1, i => by
    have ih := zniN_r (q := q) (F := F) k (i + 1)
    unfold zniN
    split
    · exact Or.inr rfl
    · exact ih
theorem zni_r (q : zLaw) (m : Int) : zni q m = 0 ∨ zni q m = 1 := zniN_r _ _
/-- a law that can be gone through: each clause's code, told from where and to where -/
def zLok (q : zLaw) : Prop := (0 ≤ q.2.2.2.2.2 ∧ q.2.2.2.2.2 ≤ 16) ∧ ∀ i : Int, 0 ≤ i → i < q.2.2.2.2.2 → (q.2.1 i ≠ 110 → ∃ d, zGD q.1 (q.2.2.1 i) (q.2.2.2.1 i) false d) ∧ ∃ d, zGD q.1 (q.2.2.2.1 i) (q.2.2.2.2.1 i) true d
theorem zf0_i {m k v : Int} (h0 : k = 0 → v = m) (h1 : k = 1 → v = m / 60 % 24) (h2 : k ≠ 0 → k ≠ 1 → v = 0) : v = zf0 m k := by
  unfold zf0
  split
  · rename_i h; exact h0 h
  · rename_i h
    split
    · rename_i h3; exact h1 h3
    · rename_i h3; exact h2 h h3
theorem zud_c {f g : Int → Int} {i v k : Int} (h : k ≠ i → f k = g k) : xud f i v k = xud g i v k := by
  unfold xud
  split
  · rfl
  · rename_i e; exact h e
/-- the letters' values past the seventh don't matter -/
theorem zev_F {C F F2 d : Int → Int} {a t : Int} {m : Bool} (hg : zGD C a t m d) (h : ∀ k : Int, 0 ≤ k → k < 7 → F k = F2 k) : ∀ (k : Nat) (p : Int) (st : List Int), a ≤ p → zev C F t k p st = zev C F2 t k p st := by
  intro k
  induction k with
  | zero => intro p st _; rfl
  | succ k ih =>
    intro p st hp
    unfold zev
    by_cases e : t ≤ p
    · rw [if_pos e, if_pos e]
    · have A := hg.at_ hp (by omega)
      rw [if_neg e, if_neg e]
      by_cases c1 : C p < 1048576
      · rw [if_pos c1, if_pos c1]; exact ih _ _ (by omega)
      · rw [if_neg c1, if_neg c1]
        by_cases c2 : C p < 2097152
        · rw [if_pos c2, if_pos c2, h (C p - 1048576) (by omega) (by omega)]; exact ih _ _ (by omega)
        · rw [if_neg c2, if_neg c2]
          by_cases c3 : C p / 1048576 = 10
          · rw [if_pos c3, if_pos c3]; exact ih _ _ (by omega)
          · rw [if_neg c3, if_neg c3]
            by_cases c4 : C p / 1048576 = 11
            · rw [if_pos c4, if_pos c4]
              split
              · exact ih _ _ (by omega)
              · exact ih _ _ (by omega)
            · rw [if_neg c4, if_neg c4]
              by_cases c5 : C p / 1048576 = 12
              · rw [if_pos c5, if_pos c5]
                split
                · exact ih _ _ (by omega)
                · exact ih _ _ (by omega)
              · rw [if_neg c5, if_neg c5]
                split
                · rfl
                · exact ih _ _ (by omega)
theorem zEV_F {C F F2 d : Int → Int} {a t : Int} {m : Bool} (hg : zGD C a t m d) (h : ∀ k : Int, 0 ≤ k → k < 7 → F k = F2 k) : zEV C F a t = zEV C F2 a t := zev_F hg h _ _ _ (Int.le_refl _)
/-- a C comes to 0 or 1 -/
theorem zEV_b {C F d : Int → Int} {a t : Int} (hg : zGD C a t true d) : zEV C F a t = 0 ∨ zEV C F a t = 1 := by
  have go : ∀ (k : Nat) (V p : Int) (st : List Int), t - p ≤ (k : Int) → zVS C F d a t V p st → V = 0 ∨ V = 1 := by
    intro k
    induction k with
    | zero =>
      intro V p st hk h
      have e : p = t := by have := h.2.1; omega
      have z := h.2.2.2
      have b := hg.2.2.2.2.1.2.2 rfl
      rw [h.fin e]
      exact z (by omega) (by rw [e]; exact b.2)
    | succ k ih =>
      intro V p st hk h
      by_cases e : p = t
      · have z := h.2.2.2
        have b := hg.2.2.2.2.1.2.2 rfl
        rw [h.fin e]
        exact z (by omega) (by rw [e]; exact b.2)
      · have hp : p < t := by have := h.2.1; omega
        have A := hg.at_ h.2.1.1 hp
        by_cases c1 : C p < 1048576
        · exact ih _ _ _ (by omega) (h.num hg hp c1 rfl rfl)
        by_cases c2 : C p < 2097152
        · exact ih _ _ _ (by omega) (h.let_ hg hp (by omega) rfl rfl)
        by_cases c3 : 10485760 ≤ C p
        · have tp := h.top hg hp c3
          cases st with
          | nil => exact absurd tp.1 (by show ¬ (1 : Int) ≤ ((0 : Nat) : Int); omega)
          | cons y r =>
            by_cases c4 : C p < 11534336
            · exact ih _ _ _ (by omega) (h.not hg hp ⟨c3, c4⟩ rfl rfl rfl)
            · by_cases c5 : (C p < 12582912 ∧ y = 0) ∨ (12582912 ≤ C p ∧ y = 1)
              · have j := h.jmp hg hp (p2 := C p % 1048576) (by show (11534336 ≤ C p ∧ C p < 12582912 ∧ y = 0) ∨ (12582912 ≤ C p ∧ C p < 13631488 ∧ y = 1); omega) rfl
                exact ih _ _ _ (by omega) j.1
              · exact ih _ _ _ (by omega) (h.stay hg hp (by show (11534336 ≤ C p ∧ C p < 12582912 ∧ y ≠ 0) ∨ (12582912 ≤ C p ∧ C p < 13631488 ∧ y ≠ 1); omega) rfl rfl)
        · have l := h.2.2.1
          cases st with
          | nil => have l : ((0 : Nat) : Int) = d p := l; omega
          | cons y r =>
            cases r with
            | nil => have l : ((1 : Nat) : Int) = d p := l; omega
            | cons x r =>
              by_cases c4 : (5242880 ≤ C p ∧ C p < 7340032) ∧ y = 0
              · exact Or.inl (h.zero hp c4.1 c4.2)
              · exact ih _ _ _ (by omega) (h.op hg hp (by omega) c4 rfl rfl rfl)
  exact go (t - a).toNat _ a [] (by omega) (zVS.new hg)
/-- the class's law is q -/
def zLD (σ : xS) (q : zLaw) : Prop := σ 109 6 = q.2.2.2.2.2 ∧ ∃ c : Int, σ 109 2 = c + 2 * q.2.2.2.2.2 ∧ zKR (σ 110) (σ 111) (σ 112) (σ 113) (σ 114) q.1 q.2.1 q.2.2.1 q.2.2.2.1 q.2.2.2.2.1 q.2.2.2.2.2 c
theorem zLD.f {σ τ : xS} {q : zLaw} (h : zLD σ q) (e : ∀ k : Nat, (109 ≤ k ∧ k ≤ 114) → τ k = σ k) : zLD τ q := by
  unfold zLD
  rw [e 109 (by omega), e 110 (by omega), e 111 (by omega), e 112 (by omega), e 113 (by omega), e 114 (by omega)]
  exact h
theorem zLD.k {σ : xS} {q : zLaw} {i : Int} (h : zLD σ q) (hok : zLok q) (i1 : 0 ≤ i) (i2 : i < σ 109 6) : σ 112 i = q.2.1 i := by
  obtain ⟨c, hc, hk⟩ := h.2
  exact (hk i i1 (by rw [← h.1]; exact i2)).1.1
theorem zLD.c {σ : xS} {q : zLaw} {i : Int} (h : zLD σ q) (hok : zLok q) (i1 : 0 ≤ i) (i2 : i < σ 109 6) : ((∀ k, q.2.2.2.1 i ≤ k → k < q.2.2.2.2.1 i → σ 110 (k + (2 * i + 1)) = zom (q.1 k) ∧ σ 111 (k + (2 * i + 1)) = zwm (2 * i + 1) (q.1 k)) ∧ σ 110 (q.2.2.2.2.1 i + (2 * i + 1)) = 0 ∧ (0 ≤ 2 * i + 1 ∧ 2 * i + 1 ≤ 31 ∧ q.2.2.2.2.1 i + (2 * i + 1) < σ 109 2)) ∧ σ 114 i = q.2.2.2.1 i + (2 * i + 1) := by
  obtain ⟨c, hc, hk⟩ := h.2
  have hM := hok.1
  have e := h.1
  have z := hk i i1 (by rw [← e]; exact i2)
  exact ⟨⟨z.2.2.2.1, z.2.2.2.2, by omega⟩, by have := z.1.2.2; omega⟩
theorem zLD.e {σ : xS} {q : zLaw} {i : Int} (h : zLD σ q) (hok : zLok q) (i1 : 0 ≤ i) (i2 : i < σ 109 6) : ((∀ k, q.2.2.1 i ≤ k → k < q.2.2.2.1 i → σ 110 (k + 2 * i) = zom (q.1 k) ∧ σ 111 (k + 2 * i) = zwm (2 * i) (q.1 k)) ∧ σ 110 (q.2.2.2.1 i + 2 * i) = 0 ∧ (0 ≤ 2 * i ∧ 2 * i ≤ 31 ∧ q.2.2.2.1 i + 2 * i < σ 109 2)) ∧ σ 113 i = q.2.2.1 i + 2 * i := by
  obtain ⟨c, hc, hk⟩ := h.2
  have hM := hok.1
  have e := h.1
  have z := hk i i1 (by rw [← e]; exact i2)
  exact ⟨⟨z.2.2.1.1, z.2.2.1.2, by omega⟩, z.1.2.1⟩
/-- the reference's law is q -/
def zLR (σ : xS) (q : zLaw) : Prop := σ 283 = q.1 ∧ σ 284 = q.2.1 ∧ σ 285 = q.2.2.1 ∧ σ 286 = q.2.2.2.1 ∧ σ 287 = q.2.2.2.2.1 ∧ σ 268 17 = q.2.2.2.2.2
theorem zLR.g {σ τ : xS} {q : zLaw} (h : zLR σ q) (e : ∀ k : Nat, (283 ≤ k ∧ k ≤ 287) → τ k = σ k) : τ 283 = q.1 ∧ τ 284 = q.2.1 ∧ τ 285 = q.2.2.1 ∧ τ 286 = q.2.2.2.1 ∧ τ 287 = q.2.2.2.2.1 := by
  rw [e 283 (by omega), e 284 (by omega), e 285 (by omega), e 286 (by omega), e 287 (by omega)]
  exact ⟨h.1, h.2.1, h.2.2.1, h.2.2.2.1, h.2.2.2.2.1⟩
theorem zLR.f {σ τ : xS} {q : zLaw} (h : zLR σ q) (e : ∀ k : Nat, (283 ≤ k ∧ k ≤ 287) → τ k = σ k) (e2 : τ 268 17 = σ 268 17) : zLR τ q := by
  have z := h.g e
  exact ⟨z.1, z.2.1, z.2.2.1, z.2.2.2.1, z.2.2.2.2, e2.trans h.2.2.2.2.2⟩
/-! ===== sums ===== -/
def zsu (f : Int → Int) : Nat → Int
  | 0 => 0
  | n + 1 => zsu f n + f (n : Int)
theorem zsu_c {f g : Int → Int} : ∀ {n : Nat}, (∀ i : Int, 0 ≤ i → i < (n : Int) → f i = g i) → zsu f n = zsu g n
  | 0, _ => rfl
  | n + 1, h => by
    show zsu f n + f (n : Int) = zsu g n + g (n : Int)
    rw [zsu_c (fun i h1 h2 => h i h1 (by omega)), h (n : Int) (by omega) (by omega)]
theorem zsu_add (f g : Int → Int) : ∀ n : Nat, zsu (fun i => f i + g i) n = zsu f n + zsu g n
  | 0 => rfl
  | n + 1 => by
    show zsu (fun i => f i + g i) n + (f (n : Int) + g (n : Int)) = (zsu f n + f (n : Int)) + (zsu g n + g (n : Int))
    rw [zsu_add f g n]
    omega
theorem zsu_0 : ∀ n : Nat, zsu (fun _ => 0) n = 0
  | 0 => rfl
  | n + 1 => by
    show zsu (fun _ => 0) n + 0 = 0
    rw [zsu_0 n]
    rfl
theorem zsu_b {f : Int → Int} {b : Int} : ∀ {n : Nat}, (∀ i : Int, 0 ≤ i → i < (n : Int) → 0 ≤ f i ∧ f i ≤ b) → 0 ≤ zsu f n ∧ zsu f n ≤ b * (n : Int)
  | 0, _ => by
    show (0 : Int) ≤ 0 ∧ (0 : Int) ≤ b * ((0 : Nat) : Int)
    simp
  | n + 1, h => by
    have ih := zsu_b (n := n) (fun i h1 h2 => h i h1 (by omega))
    have z := h (n : Int) (by omega) (by omega)
    have e : b * ((n + 1 : Nat) : Int) = b * (n : Int) + b := by rw [Int.natCast_add, Int.mul_add]; simp
    rw [e]
    show 0 ≤ zsu f n + f (n : Int) ∧ zsu f n + f (n : Int) ≤ b * (n : Int) + b
    omega
theorem zsu_1 {f g : Int → Int} {t : Int} : ∀ {n : Nat}, 0 ≤ t → t < (n : Int) → (∀ i : Int, i ≠ t → g i = f i) → zsu g n = zsu f n - f t + g t
  | 0, h1, h2, _ => absurd h2 (by omega)
  | n + 1, h1, h2, h => by
    show zsu g n + g (n : Int) = zsu f n + f (n : Int) - f t + g t
    by_cases e : t = (n : Int)
    · subst e
      rw [zsu_c (f := g) (g := f) (fun i _ i2 => h i (by omega))]
      omega
    · rw [zsu_1 h1 (by omega) h, h (n : Int) (by omega)]
      omega
theorem zsu_lt {f : Int → Int} {t : Int} {n : Nat} (h1 : 0 ≤ t) (h2 : t < (n : Int)) (h : ∀ i : Int, f i ≤ 1) (h0 : f t = 0) : zsu f n < (n : Int) := by
  have z := zsu_1 (f := fun _ => 1) (g := fun i => if i = t then f i else 1) (n := n) h1 h2 (fun i hi => if_neg hi)
  have le : ∀ m : Nat, zsu f m ≤ zsu (fun i => if i = t then f i else 1) m := by
    intro m
    induction m with
    | zero => exact Int.le_refl _
    | succ m ih =>
      show zsu f m + f (m : Int) ≤ zsu (fun i => if i = t then f i else 1) m + (if (m : Int) = t then f (m : Int) else 1)
      have q := h (m : Int)
      split <;> omega
  have one : ∀ m : Nat, zsu (fun _ => 1) m = (m : Int) := by
    intro m
    induction m with
    | zero => rfl
    | succ m ih =>
      show zsu (fun _ => 1) m + 1 = ((m + 1 : Nat) : Int)
      rw [ih]; omega
  have lz := le n
  rw [z, one n] at lz
  have e : (if t = t then f t else 1) = 0 := by rw [if_pos rfl]; exact h0
  have lz : zsu f n ≤ (n : Int) - 1 + (if t = t then f t else 1) := lz
  omega
theorem zsu_n1 (m : Nat) : zsu (fun _ => 1) m = (m : Int) := by
  induction m with
  | zero => rfl
  | succ m ih =>
    show zsu (fun _ => 1) m + 1 = ((m + 1 : Nat) : Int)
    rw [ih]; omega
/-! ===== the list of spots in a SHADOW: z of them, p; L: the layers ===== -/
def zSL (L p : Int → Int) (z : Int) : Prop := (0 ≤ z ∧ z ≤ 100) ∧ (∀ i : Int, 0 ≤ i → i < z → 0 ≤ p i ∧ p i < 100 ∧ L (p i) ≠ 0) ∧ (∀ t : Int, 0 ≤ t → t < 100 → L t ≠ 0 → ∃ i : Int, 0 ≤ i ∧ i < z ∧ p i = t) ∧ ∀ g : Int → Int, zsu (fun i => g (p i)) z.toNat = zsu (fun t => if L t ≠ 0 then g t else 0) 100
section SL
variable {L L2 p p2 : Int → Int} {z z2 t v : Int}
theorem zSL.none (h : ∀ t : Int, 0 ≤ t → t < 100 → L t = 0) (hz : z = 0) : zSL L p z := by
  subst hz
  refine ⟨by omega, fun i i1 i2 => absurd i2 (by omega), fun t t1 t2 h3 => absurd (h t t1 t2) h3, fun g => ?_⟩
  show (0 : Int) = _
  rw [zsu_c (g := fun _ => 0) (fun i i1 i2 => if_neg (fun q => q (h i i1 i2))), zsu_0]
theorem zSL.inc (h : zSL L p z) (ht : L t ≠ 0) (hv : v ≠ 0) (e : L2 = xud L t v) : zSL L2 p z := by
  subst e
  have hne : ∀ x : Int, xud L t v x ≠ 0 ↔ L x ≠ 0 := fun x => by
    by_cases q : x = t
    · subst q; rw [xud_s]; exact ⟨fun _ => ht, fun _ => hv⟩
    · rw [xud_o _ _ q]
  refine ⟨h.1, fun i i1 i2 => ?_, fun x x1 x2 h3 => h.2.2.1 x x1 x2 ((hne x).mp h3), fun g => ?_⟩
  · have y := h.2.1 i i1 i2
    exact ⟨y.1, y.2.1, (hne _).mpr y.2.2⟩
  · rw [h.2.2.2 g]
    refine zsu_c (fun i _ _ => ?_)
    by_cases q : L i ≠ 0
    · rw [if_pos q, if_pos ((hne i).mpr q)]
    · rw [if_neg q, if_neg (fun r => q ((hne i).mp r))]
theorem zSL.room (h : zSL L p z) (ht : 0 ≤ t ∧ t < 100) (h0 : L t = 0) : z < 100 := by
  have y := h.2.2.2 (fun _ => 1)
  rw [zsu_n1] at y
  have w := zsu_lt (f := fun t => if L t ≠ 0 then 1 else 0) (t := t) (n := 100) ht.1 ht.2 (fun i => by show (if L i ≠ 0 then (1 : Int) else 0) ≤ 1; split <;> omega) (if_neg (fun q => q h0))
  have b := h.1
  have w : zsu (fun t => if L t ≠ 0 then 1 else 0) 100 < 100 := w
  omega
theorem zSL.new (h : zSL L p z) (ht : 0 ≤ t ∧ t < 100) (h0 : L t = 0) (hv : v ≠ 0) (e : L2 = xud L t v) (ep : p2 = xud p z t) (ez : z2 = z + 1) : zSL L2 p2 z2 := by
  have r := h.room ht h0
  have b := h.1
  subst e; subst ep; subst ez
  refine ⟨by omega, fun i i1 i2 => ?_, fun x x1 x2 h3 => ?_, fun g => ?_⟩
  · by_cases q : i = z
    · subst q; rw [xud_s, xud_s]; exact ⟨ht.1, ht.2, hv⟩
    · rw [xud_o p _ q]
      have y := h.2.1 i i1 (by omega)
      have n : p i ≠ t := fun e => y.2.2 (e ▸ h0)
      rw [xud_o L _ n]
      exact y
  · by_cases q : x = t
    · subst q; exact ⟨z, by omega, by omega, xud_s p z x⟩
    · rw [xud_o L _ q] at h3
      obtain ⟨i, i1, i2, i3⟩ := h.2.2.1 x x1 x2 h3
      exact ⟨i, i1, by omega, by rw [xud_o p _ (by omega)]; exact i3⟩
  · have hz : (z + 1).toNat = z.toNat + 1 := by omega
    rw [hz]
    show zsu (fun i => g (xud p z t i)) z.toNat + g (xud p z t ((z.toNat : Nat) : Int)) = _
    rw [show ((z.toNat : Nat) : Int) = z from by omega, xud_s, zsu_c (g := fun i => g (p i)) (fun i i1 i2 => by rw [xud_o p _ (by omega)]), h.2.2.2 g]
    have y := zsu_1 (f := fun t => if L t ≠ 0 then g t else 0) (g := fun x => if xud L t v x ≠ 0 then g x else 0) (t := t) (n := 100) ht.1 ht.2 (fun i hi => by show (if xud L t v i ≠ 0 then g i else 0) = _; rw [xud_o L _ hi])
    have y : zsu (fun x => if xud L t v x ≠ 0 then g x else 0) 100 = zsu (fun t => if L t ≠ 0 then g t else 0) 100 - (if L t ≠ 0 then g t else 0) + (if xud L t v t ≠ 0 then g t else 0) := y
    rw [xud_s, if_pos hv, if_neg (c := L t ≠ 0) (fun q => q h0)] at y
    omega
end SL
/-- what holds of the class's shadows between calls -/
def IS (σ : xS) : Prop := zSL (σ 131) (σ 132) (σ 130 3) ∧ ∀ t : Int, 0 ≤ t → t < 100 → σ 133 t ≠ 0 → ∃ i : Int, 0 ≤ i ∧ i < σ 130 3 ∧ σ 132 i = t
def suIS (k : Nat) : Prop := 130 ≤ k ∧ k ≤ 133
theorem IS_f {σ τ : xS} (e : ∀ k, suIS k → τ k = σ k) (h : IS σ) : IS τ := by
  unfold IS at h ⊢
  rw [e 130 (by unfold suIS; omega), e 131 (by unfold suIS; omega), e 132 (by unfold suIS; omega), e 133 (by unfold suIS; omega)]
  exact h
theorem IS_o {σ : xS} {k : Nat} {j v : Int} (hk : ¬ suIS k) (h : IS σ) : IS (xU σ k j v) := IS_f (fun k2 h2 => xU_k σ j v (fun q => hk (q ▸ h2))) h
def IQ (σ : xS) : Prop := zCA σ
def suIQ (k : Nat) : Prop := k = 4 ∨ (7 ≤ k ∧ k ≤ 107)
theorem IQ_f {σ τ : xS} (e : ∀ k, suIQ k → τ k = σ k) (h : IQ σ) : IQ τ := zCA.f h e
theorem IQ_o {σ : xS} {k : Nat} {j v : Int} (hk : ¬ suIQ k) (h : IQ σ) : IQ (xU σ k j v) := IQ_f (fun k2 h2 => xU_k σ j v (fun q => hk (q ▸ h2))) h
/-! ===== a SHADOW's way ===== -/
section PC
variable {K : Int → Int} {k : Int} {s w x : Int}
theorem zpc_le (K : Int → Int) : ∀ (k : Nat) (s w x : Int), zpc K k s w x ≤ (k : Int)
  | 0, _, _, _ => Int.le_refl _
  | k + 1, s, w, x => by
    have ih := zpc_le K k (zbe s w) w x
    unfold zpc
    split
    · omega
    · split <;> omega
theorem zpc_stop (h : zbe s w = -1 ∨ K (zbe s w) = 1) : ∀ k : Nat, zpc K k s w x = 0
  | 0 => rfl
  | k + 1 => if_pos h
theorem zpc_go (hk : 0 < k) (h : ¬ (zbe s w = -1 ∨ K (zbe s w) = 1)) : zpc K k.toNat s w x = (if x = zbe s w then 1 else 0) + zpc K (k - 1).toNat (zbe s w) w x := by
  rw [show k.toNat = (k - 1).toNat + 1 from by omega]
  exact if_neg h
/-- one spot of the way laid -/
theorem zpc_put {L L2 L0 : Int → Int} {q a i s2 : Int} (h : ∀ t : Int, 0 ≤ t → t < 100 → L t + zpc K (q - i).toNat s w t = L0 t + zpc K q.toNat a w t) (hi : i < q) (hs : s2 = zbe s w) (h1 : s2 ≠ -1) (h2 : K s2 ≠ 1) (e : L2 = xud L s2 (L s2 + 1)) : ∀ t : Int, 0 ≤ t → t < 100 → L2 t + zpc K (q - (i + 1)).toNat s2 w t = L0 t + zpc K q.toNat a w t := fun t t1 t2 => by
  have z := h t t1 t2
  subst hs
  rw [zpc_go (by omega) (by omega), show q - i - 1 = q - (i + 1) from by omega] at z
  subst e
  by_cases c : t = zbe s w
  · rw [if_pos c] at z
    rw [← c, xud_s]
    rw [← c] at z
    omega
  · rw [if_neg c] at z
    rw [xud_o _ _ c]
    omega
theorem zpc_end {L L0 : Int → Int} {q a i : Int} (h : ∀ t : Int, 0 ≤ t → t < 100 → L t + zpc K (q - i).toNat s w t = L0 t + zpc K q.toNat a w t) (c : q ≤ i ∨ (zbe s w = -1 ∨ K (zbe s w) = 1)) : ∀ t : Int, 0 ≤ t → t < 100 → L t = L0 t + zpc K q.toNat a w t := fun t t1 t2 => by
  have z := h t t1 t2
  have e : zpc K (q - i).toNat s w t = 0 := by
    rcases c with c | c
    · rw [show (q - i).toNat = 0 from by omega]; rfl
    · exact zpc_stop c _
  omega
end PC
/-! ===== all SHADOWS ===== -/
theorem zlv_r (K J : Int → Int) : ∀ (k : Nat) (s w x : Int), 0 ≤ zlv K J k s w x ∧ zlv K J k s w x ≤ 2 * (k : Int)
  | 0, _, _, _ => by show (0 : Int) ≤ 0 ∧ (0 : Int) ≤ 2 * ((0 : Nat) : Int); omega
  | k + 1, s, w, x => by
    have ih := zlv_r K J k (zbe s w) w x
    have p1 := zpc_n K 2 (zbe s w) w x
    have p2 := zpc_le K 2 (zbe s w) w x
    unfold zlv
    split
    · omega
    · split <;> omega
def zLL (K J : Int → Int) (a t : Int) : Int := if a = -1 then 0 else zsu (fun w => zlv K J 4 a w t) 8
theorem zLL_r (K J : Int → Int) (a t : Int) : 0 ≤ zLL K J a t ∧ zLL K J a t ≤ 64 := by
  have z := zsu_b (f := fun w => zlv K J 4 a w t) (b := 8) (n := 8) (fun i _ _ => by have := zlv_r K J 4 a i t; omega)
  unfold zLL
  split
  · omega
  · omega
def zJL (K : Int → Int) (q : zLaw) (m : Int) (J : Int → Int) (t j : Int) : Int := if J j = -1 then 0 else zpc K (zwo q 108 9 (zfJ m j)).toNat (J j) (zwo q 97 7 (zfJ m j)) t
theorem zJL_r (K : Int → Int) (q : zLaw) (m : Int) (J : Int → Int) (t j : Int) : 0 ≤ zJL K q m J t j ∧ zJL K q m J t j ≤ 9 := by
  have r := zwo_r (q := q) (kd := 108) (hi := 9) (F := zfJ m j) (by decide)
  have z1 := zpc_n K (zwo q 108 9 (zfJ m j)).toNat (J j) (zwo q 97 7 (zfJ m j)) t
  have z2 := zpc_le K (zwo q 108 9 (zfJ m j)).toNat (J j) (zwo q 97 7 (zfJ m j)) t
  unfold zJL
  split <;> omega
/-- the layers at t: of JUDGES, if oj, of LAMPS, if ol -/
def zLy (K : Int → Int) (q : zLaw) (lm : Int → Int) (m : Int) (J : Int → Int) (oj ol t : Int) : Int := (if oj ≠ 0 then zsu (zJL K q m J t) 2 else 0) + (if ol ≠ 0 then zsu (fun i => zLL K J (lm i) t) 4 else 0)
theorem zud_0 {f g : Int → Int} {i t : Int} (h : f t = 0 ∨ f t = g t) : xud f i 0 t = 0 ∨ xud f i 0 t = g t := by
  unfold xud
  split
  · exact Or.inl rfl
  · exact h
theorem IS_0 {σ : xS} (h1 : σ 130 3 = 0) (h2 : ∀ t : Int, 0 ≤ t → t < 100 → σ 131 t = 0) (h3 : ∀ t : Int, 0 ≤ t → t < 100 → σ 133 t = 0) : IS σ := ⟨zSL.none h2 h1, fun t t1 t2 c => absurd (h3 t t1 t2) c⟩
theorem zSL.two {L p : Int → Int} {z : Int} (h : zSL L p z) : zsu (fun i => if 1 < L (p i) then 1 else 0) z.toNat = zsu (fun t => if 1 < L t then 1 else 0) 100 := by
  rw [h.2.2.2 (fun x => if 1 < L x then 1 else 0)]
  refine zsu_c (fun i _ _ => ?_)
  by_cases c : 1 < L i
  · first | (rw [if_pos (by omega)]; done) | (rw [if_pos (by omega)])
  · split
    · first | rfl | rw [if_neg c]
    · first | rfl | rw [if_neg c]
theorem zSL.size {L p : Int → Int} {z : Int} (h : zSL L p z) : z = zsu (fun t => if L t ≠ 0 then 1 else 0) 100 := by
  have y := h.2.2.2 (fun _ => 1)
  rw [zsu_n1] at y
  have b := h.1
  have y : ((z.toNat : Nat) : Int) = zsu (fun t => if L t ≠ 0 then 1 else 0) 100 := y
  omega
theorem zlv_stop {K J : Int → Int} {s w x : Int} (h : zbe s w = -1 ∨ K (zbe s w) = 1) : ∀ k : Nat, zlv K J k s w x = 0
  | 0 => rfl
  | k + 1 => if_pos h
theorem zlv_go {K J : Int → Int} {k : Nat} {s w x : Int} (h : ¬ (zbe s w = -1 ∨ K (zbe s w) = 1)) : zlv K J (k + 1) s w x = (if J 0 = zbe s w ∨ J 1 = zbe s w then zpc K 2 (zbe s w) w x else 0) + zlv K J k (zbe s w) w x := if_neg h
theorem zlv_end {K J : Int → Int} {i s w x L A : Int} (h : L + zlv K J (4 - i).toNat s w x = A) (c : 4 ≤ i ∨ (zbe s w = -1 ∨ K (zbe s w) = 1)) : L = A := by
  have e : zlv K J (4 - i).toNat s w x = 0 := by
    rcases c with c | c
    · rw [show (4 - i).toNat = 0 from by omega]; rfl
    · exact zlv_stop c _
  omega
/-! the other side's LAMPS -/
def zvh (K : Int → Int) (k : Nat) (s w t : Int) : Bool := if s = -1 ∨ K s = 1 then false else if s = t then true else zvi K k s w t
theorem zvh_s {K : Int → Int} {n s w t : Int} (hn : n < 4) (h1 : ¬ (s = -1 ∨ K s = 1)) (h2 : s ≠ t) : zvh K (4 - n).toNat s w t = zvh K (4 - (n + 1)).toNat (zbe s w) w t := by
  unfold zvh
  rw [if_neg h1, if_neg h2, show (4 - n).toNat = (4 - (n + 1)).toNat + 1 from by omega]
  rfl
theorem zvh_end {K : Int → Int} {n s w t : Int} (c : 4 ≤ n ∨ s = -1 ∨ s = t ∨ K s = 1) (hK : K t ≠ 1) (ht : t ≠ -1) : (s = t ∧ zvh K (4 - n).toNat s w t = true) ∨ (s ≠ t ∧ zvh K (4 - n).toNat s w t = false) := by
  unfold zvh
  by_cases e : s = t
  · subst e
    rw [if_neg (by omega), if_pos rfl]
    exact Or.inl ⟨rfl, rfl⟩
  · refine Or.inr ⟨e, ?_⟩
    by_cases b : s = -1 ∨ K s = 1
    · rw [if_pos b]
    · rw [if_neg b, if_neg e, show (4 - n).toNat = 0 from by omega]
      rfl
/-- behind JUDGE j, of a LAMP at a -/
def zbh (K N : Int → Int) (a t j : Int) : Int := if a ≠ -1 ∧ xsh (N 34) j % 2 = 1 then zsu (fun w => if zvi K 4 a w (N j) = true then zpc K 2 (N j) w t else 0) 8 else 0
theorem zbh_0 {K N : Int → Int} {a t j : Int} (h : a = -1 ∨ xsh (N 34) j % 2 ≠ 1) : zbh K N a t j = 0 := if_neg (by omega)
theorem zbh_1 {K N : Int → Int} {a t j : Int} (h : a ≠ -1) (h2 : xsh (N 34) j % 2 = 1) : zbh K N a t j = zsu (fun w => if zvi K 4 a w (N j) = true then zpc K 2 (N j) w t else 0) 8 := if_pos ⟨h, h2⟩
theorem zbh_r (K N : Int → Int) (a t j : Int) : 0 ≤ zbh K N a t j ∧ zbh K N a t j ≤ 16 := by
  have z := zsu_b (f := fun w => if zvi K 4 a w (N j) = true then zpc K 2 (N j) w t else 0) (b := 2) (n := 8) (fun i _ _ => by
    have a1 := zpc_n K 2 (N j) i t
    have a2 := zpc_le K 2 (N j) i t
    show 0 ≤ (if zvi K 4 a i (N j) = true then zpc K 2 (N j) i t else 0) ∧ (if zvi K 4 a i (N j) = true then zpc K 2 (N j) i t else 0) ≤ 2
    split <;> omega)
  unfold zbh
  split <;> omega
theorem zbh_LL {K N : Int → Int} {a t : Int} (hN : zrj N 0 ≠ zrj N 1 ∨ zrj N 0 = -1) (h0 : N 0 ≠ -1) (h1 : N 1 ≠ -1) : zsu (fun j => zbh K N a t j) 2 = zLL K (zrj N) a t := by
  show 0 + zbh K N a t ((0 : Nat) : Int) + zbh K N a t ((1 : Nat) : Int) = _
  rw [show ((0 : Nat) : Int) = 0 from rfl, show ((1 : Nat) : Int) = 1 from rfl]
  unfold zLL
  by_cases ha : a = -1
  · rw [if_pos ha, zbh_0 (Or.inl ha), zbh_0 (Or.inl ha)]
    rfl
  · rw [if_neg ha]
    have go : ∀ j : Int, N j ≠ -1 ∨ xsh (N 34) j % 2 ≠ 1 → zbh K N a t j = zsu (fun w => if zrj N j ≠ -1 ∧ zvi K 4 a w (zrj N j) = true then zpc K 2 (zrj N j) w t else 0) 8 := fun j hj => by
      by_cases h : xsh (N 34) j % 2 = 1
      · rw [zbh_1 ha h, zrj_p h]
        refine zsu_c (fun w _ _ => ?_)
        have n : N j ≠ -1 := hj.resolve_right (fun q => q h)
        by_cases c : zvi K 4 a w (N j) = true
        · rw [if_pos c, if_pos ⟨n, c⟩]
        · rw [if_neg c, if_neg (fun q => c q.2)]
      · rw [zbh_0 (Or.inr h), zrj_n h, zsu_c (g := fun _ => 0) (fun w _ _ => if_neg (fun q => q.1 rfl)), zsu_0]
    rw [go 0 (Or.inl h0), go 1 (Or.inl h1), Int.zero_add, ← zsu_add]
    exact zsu_c (fun w w1 w2 => (zlv_vi ⟨w1, w2⟩ hN t 4 a).symm)
/-! ===== a day: 0, 1 the JUDGES' spots, 2, 3 STEPS done; FELONS from 4 on: spots, 14 OWED, 24 AWAY, 34 drowned; 44 THE MINUTE, 45 X; 46 how often AWAY, 47 cloudy MINUTES, 48 STEPS ===== -/
def zYc (σ : xS) (d : Nat) : Int → Int := fun i => if i < 0 then 0 else if i < 2 then σ (d + 1) i else if i < 4 then σ (d + 5) (i - 2) else if i < 14 then σ (d + 6) (i - 4) else if i < 24 then σ (d + 7) (i - 14) else if i < 34 then σ (d + 8) (i - 24) else if i < 44 then σ (d + 9) (i - 34) else if i < 49 then σ d (i - 37) else 0
section YC
variable {σ τ : xS} {d : Nat} {f v c : Int}
theorem zYc_J (h : 0 ≤ f ∧ f < 2) : zYc σ d f = σ (d + 1) f := by
  unfold zYc
  rw [if_neg (by omega), if_pos (by omega)]
theorem zYc_S (h : 0 ≤ f ∧ f < 2) : zYc σ d (2 + f) = σ (d + 5) f := by
  unfold zYc
  rw [if_neg (by omega), if_neg (by omega), if_pos (by omega), show 2 + f - 2 = f from by omega]
theorem zYc_F (h : 0 ≤ f ∧ f < 10) : zYc σ d (4 + f) = σ (d + 6) f := by
  unfold zYc
  rw [if_neg (by omega), if_neg (by omega), if_neg (by omega), if_pos (by omega), show 4 + f - 4 = f from by omega]
theorem zYc_O (h : 0 ≤ f ∧ f < 10) : zYc σ d (14 + f) = σ (d + 7) f := by
  unfold zYc
  rw [if_neg (by omega), if_neg (by omega), if_neg (by omega), if_neg (by omega), if_pos (by omega), show 14 + f - 14 = f from by omega]
theorem zYc_A (h : 0 ≤ f ∧ f < 10) : zYc σ d (24 + f) = σ (d + 8) f := by
  unfold zYc
  rw [if_neg (by omega), if_neg (by omega), if_neg (by omega), if_neg (by omega), if_neg (by omega), if_pos (by omega), show 24 + f - 24 = f from by omega]
theorem zYc_D (h : 0 ≤ f ∧ f < 10) : zYc σ d (34 + f) = σ (d + 9) f := by
  unfold zYc
  rw [if_neg (by omega), if_neg (by omega), if_neg (by omega), if_neg (by omega), if_neg (by omega), if_neg (by omega), if_pos (by omega), show 34 + f - 34 = f from by omega]
theorem zYc_M (h : 7 ≤ c ∧ c < 12) : zYc σ d (37 + c) = σ d c := by
  unfold zYc
  rw [if_neg (by omega), if_neg (by omega), if_neg (by omega), if_neg (by omega), if_neg (by omega), if_neg (by omega), if_neg (by omega), if_pos (by omega), show 37 + c - 37 = c from by omega]
theorem zYc_f (e : ∀ o : Nat, (o = 0 ∨ o = 1 ∨ (5 ≤ o ∧ o ≤ 9)) → τ (d + o) = σ (d + o)) : zYc τ d = zYc σ d := by
  unfold zYc
  have e0 : τ d = σ d := e 0 (by omega)
  rw [e0, e 1 (by omega), e 5 (by omega), e 6 (by omega), e 7 (by omega), e 8 (by omega), e 9 (by omega)]
theorem zYc_f0 (e0 : τ d = σ d) (e : ∀ o : Nat, (o = 1 ∨ (5 ≤ o ∧ o ≤ 9)) → τ (d + o) = σ (d + o)) : zYc τ d = zYc σ d := zYc_f (fun o ho => by
  by_cases h : o = 0
  · subst h; exact e0
  · exact e o (by omega))
theorem zYc_uF (h : 0 ≤ f ∧ f < 10) : zYc (xU σ (d + 6) f v) d = xud (zYc σ d) (4 + f) v := by
  funext i
  unfold zYc xud
  rw [xU_k _ _ _ (show d + 1 ≠ d + 6 from by omega), xU_k _ _ _ (show d + 5 ≠ d + 6 from by omega), xU_k _ _ _ (show d + 7 ≠ d + 6 from by omega), xU_k _ _ _ (show d + 8 ≠ d + 6 from by omega), xU_k _ _ _ (show d + 9 ≠ d + 6 from by omega), xU_k _ _ _ (show d ≠ d + 6 from by omega), xU_i]
  by_cases e : i = 4 + f
  · rw [if_pos e, if_neg (by omega), if_neg (by omega), if_neg (by omega), if_pos (by omega), if_pos (by omega)]
  · rw [if_neg e]
    by_cases c : i - 4 = f
    · exact absurd c (by omega)
    · rw [if_neg c]
theorem zYc_uO (h : 0 ≤ f ∧ f < 10) : zYc (xU σ (d + 7) f v) d = xud (zYc σ d) (14 + f) v := by
  funext i
  unfold zYc xud
  rw [xU_k _ _ _ (show d + 1 ≠ d + 7 from by omega), xU_k _ _ _ (show d + 5 ≠ d + 7 from by omega), xU_k _ _ _ (show d + 6 ≠ d + 7 from by omega), xU_k _ _ _ (show d + 8 ≠ d + 7 from by omega), xU_k _ _ _ (show d + 9 ≠ d + 7 from by omega), xU_k _ _ _ (show d ≠ d + 7 from by omega), xU_i]
  by_cases e : i = 14 + f
  · rw [if_pos e, if_neg (by omega), if_neg (by omega), if_neg (by omega), if_neg (by omega), if_pos (by omega), if_pos (by omega)]
  · rw [if_neg e]
    by_cases c : i - 14 = f
    · exact absurd c (by omega)
    · rw [if_neg c]
theorem zYc_uA (h : 0 ≤ f ∧ f < 10) : zYc (xU σ (d + 8) f v) d = xud (zYc σ d) (24 + f) v := by
  funext i
  unfold zYc xud
  rw [xU_k _ _ _ (show d + 1 ≠ d + 8 from by omega), xU_k _ _ _ (show d + 5 ≠ d + 8 from by omega), xU_k _ _ _ (show d + 6 ≠ d + 8 from by omega), xU_k _ _ _ (show d + 7 ≠ d + 8 from by omega), xU_k _ _ _ (show d + 9 ≠ d + 8 from by omega), xU_k _ _ _ (show d ≠ d + 8 from by omega), xU_i]
  by_cases e : i = 24 + f
  · rw [if_pos e, if_neg (by omega), if_neg (by omega), if_neg (by omega), if_neg (by omega), if_neg (by omega), if_pos (by omega), if_pos (by omega)]
  · rw [if_neg e]
    by_cases c : i - 24 = f
    · exact absurd c (by omega)
    · rw [if_neg c]
theorem zYc_uD (h : 0 ≤ f ∧ f < 10) : zYc (xU σ (d + 9) f v) d = xud (zYc σ d) (34 + f) v := by
  funext i
  unfold zYc xud
  rw [xU_k _ _ _ (show d + 1 ≠ d + 9 from by omega), xU_k _ _ _ (show d + 5 ≠ d + 9 from by omega), xU_k _ _ _ (show d + 6 ≠ d + 9 from by omega), xU_k _ _ _ (show d + 7 ≠ d + 9 from by omega), xU_k _ _ _ (show d + 8 ≠ d + 9 from by omega), xU_k _ _ _ (show d ≠ d + 9 from by omega), xU_i]
  by_cases e : i = 34 + f
  · rw [if_pos e, if_neg (by omega), if_neg (by omega), if_neg (by omega), if_neg (by omega), if_neg (by omega), if_neg (by omega), if_pos (by omega), if_pos (by omega)]
  · rw [if_neg e]
    by_cases c : i - 34 = f
    · exact absurd c (by omega)
    · rw [if_neg c]
theorem zYc_uM (h : 7 ≤ c ∧ c < 12) : zYc (xU σ d c v) d = xud (zYc σ d) (37 + c) v := by
  funext i
  unfold zYc xud
  rw [xU_k _ _ _ (show d + 1 ≠ d from by omega), xU_k _ _ _ (show d + 5 ≠ d from by omega), xU_k _ _ _ (show d + 6 ≠ d from by omega), xU_k _ _ _ (show d + 7 ≠ d from by omega), xU_k _ _ _ (show d + 8 ≠ d from by omega), xU_k _ _ _ (show d + 9 ≠ d from by omega), xU_i]
  by_cases e : i = 37 + c
  · rw [if_pos e, if_neg (by omega), if_neg (by omega), if_neg (by omega), if_neg (by omega), if_neg (by omega), if_neg (by omega), if_neg (by omega), if_pos (by omega), if_pos (by omega)]
  · rw [if_neg e]
    by_cases q : i - 37 = c
    · exact absurd q (by omega)
    · rw [if_neg q]
theorem zYc_u44 : zYc (xU σ d 7 v) d = xud (zYc σ d) 44 v := zYc_uM (c := 7) (by omega)
theorem zYc_u45 : zYc (xU σ d 8 v) d = xud (zYc σ d) 45 v := zYc_uM (c := 8) (by omega)
theorem zYc_u46 : zYc (xU σ d 9 v) d = xud (zYc σ d) 46 v := zYc_uM (c := 9) (by omega)
theorem zYc_u47 : zYc (xU σ d 10 v) d = xud (zYc σ d) 47 v := zYc_uM (c := 10) (by omega)
theorem zYc_u48 : zYc (xU σ d 11 v) d = xud (zYc σ d) 48 v := zYc_uM (c := 11) (by omega)
theorem zYc_o {k : Nat} (h : k ≠ d ∧ k ≠ d + 1 ∧ (k < d + 5 ∨ d + 9 < k)) : zYc (xU σ k c v) d = zYc σ d := zYc_f (fun o ho => xU_k _ _ _ (by omega))
end YC
/-! ===== FELONS ===== -/
def zOw (Y : Int → Int) (f : Int) : Prop := Y (4 + f) ≠ -1 ∧ 0 < Y (14 + f) ∧ Y (34 + f) = 0
def zff (K Y : Int → Int) (f : Int) : Int → Int := zfF (Y 44) f (Y (14 + f)) (Y (24 + f)) (if K (Y (4 + f)) = 2 then 1 else 0)
def zvF (K : Int → Int) (q : zLaw) (Y : Int → Int) (kd hi f : Int) : Int := zwo q kd hi (zff K Y f)
def zins (rk : Int → Int) (f : Int) : List Int → List Int
  | [] => [f]
  | x :: r => if rk x < rk f then x :: zins rk f r else f :: x :: r
theorem zls_ap (w : Int → Int) (b : Int) (n : Nat) : ∀ m : Nat, zls w b (n + m) = zls w (b + (n : Int)) m ++ zls w b n
  | 0 => rfl
  | m + 1 => by
    show w (b + ((n + m : Nat) : Int)) :: zls w b (n + m) = (w (b + (n : Int) + (m : Int)) :: zls w (b + (n : Int)) m) ++ zls w b n
    rw [zls_ap w b n m, show b + ((n + m : Nat) : Int) = b + (n : Int) + (m : Int) from by omega]
    rfl
theorem zls_cg {w w2 : Int → Int} {b : Int} : ∀ {n : Nat}, (∀ i : Int, b ≤ i → i < b + (n : Int) → w i = w2 i) → zls w b n = zls w2 b n
  | 0, _ => rfl
  | n + 1, h => by
    show w (b + (n : Int)) :: zls w b n = w2 (b + (n : Int)) :: zls w2 b n
    rw [zls_cg (fun i i1 i2 => h i i1 (by omega)), h _ (by omega) (by omega)]
/-- a FELON on its way to its place in the line: the line w, of m, it at k -/
def zIN (rk : Int → Int) (f : Int) (L0 : List Int) (w : Int → Int) (m k : Int) : Prop := zins rk f L0 = zls w (k + 1) (m - k).toNat ++ zins rk f (zls w 0 k.toNat)
section IN
variable {rk w w2 : Int → Int} {f m k k2 m2 : Int} {L0 : List Int}
theorem zIN.new (h : L0 = zls w 0 m.toNat) (hk : k = m) : zIN rk f L0 w m k := by
  subst hk
  unfold zIN
  rw [h, Int.sub_self]
  rfl
theorem zIN.step (h : zIN rk f L0 w m k) (hk : 0 < k ∧ k ≤ m) (hr : rk (w (k - 1)) < rk f) (e : w2 = xud w k (w (k - 1))) (h2 : k2 = k - 1) : zIN rk f L0 w2 m k2 := by
  unfold zIN at h ⊢
  subst h2
  rw [show k.toNat = (k - 1).toNat + 1 from by omega] at h
  have h : zins rk f L0 = zls w (k + 1) (m - k).toNat ++ zins rk f (w (0 + (((k - 1).toNat : Nat) : Int)) :: zls w 0 (k - 1).toNat) := h
  rw [show (0 : Int) + (((k - 1).toNat : Nat) : Int) = k - 1 from by omega] at h
  have h : zins rk f L0 = zls w (k + 1) (m - k).toNat ++ (if rk (w (k - 1)) < rk f then w (k - 1) :: zins rk f (zls w 0 (k - 1).toNat) else f :: w (k - 1) :: zls w 0 (k - 1).toNat) := h
  rw [if_pos hr] at h
  rw [h, show (m - (k - 1)).toNat = 1 + (m - k).toNat from by omega, zls_ap w2 _ 1, show k - 1 + 1 + ((1 : Nat) : Int) = k + 1 from by omega]
  subst e
  rw [zls_cg (w := xud w k (w (k - 1))) (w2 := w) (b := k + 1) (fun i i1 i2 => xud_o w _ (by omega)), zls_cg (w := xud w k (w (k - 1))) (w2 := w) (b := 0) (fun i i1 i2 => xud_o w _ (by omega))]
  show _ = (zls w (k + 1) (m - k).toNat ++ [xud w k (w (k - 1)) (k - 1 + 1 + ((0 : Nat) : Int))]) ++ _
  rw [show k - 1 + 1 + ((0 : Nat) : Int) = k from by omega, xud_s, List.append_assoc]
  rfl
theorem zIN.fin (h : zIN rk f L0 w m k) (hk : 0 ≤ k ∧ k ≤ m) (c : k ≤ 0 ∨ rk f ≤ rk (w (k - 1))) (e : w2 = xud w k f) (h2 : m2 = m + 1) : zls w2 0 m2.toNat = zins rk f L0 := by
  unfold zIN at h
  subst h2
  have e2 : zins rk f (zls w 0 k.toNat) = f :: zls w 0 k.toNat := by
    by_cases z : k ≤ 0
    · rw [show k.toNat = 0 from by omega]
      rfl
    · rw [show k.toNat = (k - 1).toNat + 1 from by omega]
      show (if rk (w (0 + (((k - 1).toNat : Nat) : Int))) < rk f then _ else _) = _
      rw [show (0 : Int) + (((k - 1).toNat : Nat) : Int) = k - 1 from by omega, if_neg (by omega)]
      show _ = f :: w (0 + (((k - 1).toNat : Nat) : Int)) :: zls w 0 (k - 1).toNat
      rw [show (0 : Int) + (((k - 1).toNat : Nat) : Int) = k - 1 from by omega]
  rw [h, e2, show (m + 1).toNat = (k.toNat + 1) + (m - k).toNat from by omega, zls_ap w2 0 (k.toNat + 1), show (0 : Int) + ((k.toNat + 1 : Nat) : Int) = k + 1 from by omega]
  subst e
  rw [zls_cg (w := xud w k f) (w2 := w) (b := k + 1) (fun i i1 i2 => xud_o w _ (by omega))]
  show _ ++ (xud w k f (0 + ((k.toNat : Nat) : Int)) :: zls (xud w k f) 0 k.toNat) = _
  rw [show (0 : Int) + ((k.toNat : Nat) : Int) = k from by omega, xud_s, zls_cg (w := xud w k f) (w2 := w) (b := 0) (fun i i1 i2 => xud_o w _ (by omega))]
end IN
/-- who goes when: the last one first; ah goes ahead of all -/
def zrq (K : Int → Int) (q : zLaw) (Y : Int → Int) (ah tp f : Int) : Int := if f = ah then tp else zvF K q Y 111 999 f
noncomputable def zlu (K : Int → Int) (q : zLaw) (Y : Int → Int) (ah tp : Int) : Nat → List Int
  | 0 => []
  | n + 1 => @ite _ (zOw Y (n : Int)) (Classical.propDecidable _) (zins (zrq K q Y ah tp) (n : Int) (zlu K q Y ah tp n)) (zlu K q Y ah tp n)
section LU
variable {K : Int → Int} {q : zLaw} {Y : Int → Int} {ah tp tp2 : Int}
theorem zlu_y {n : Nat} {i : Int} (hi : i = (n : Int)) (h : zOw Y i) : zlu K q Y ah tp (n + 1) = zins (zrq K q Y ah tp) i (zlu K q Y ah tp n) := by
  subst hi
  exact if_pos h
theorem zlu_n {n : Nat} {i : Int} (hi : i = (n : Int)) (h : ¬ zOw Y i) : zlu K q Y ah tp (n + 1) = zlu K q Y ah tp n := by
  subst hi
  exact if_neg h
theorem zins_mem {rk : Int → Int} {f x : Int} : ∀ {L : List Int}, x ∈ zins rk f L → x = f ∨ x ∈ L
  | [], h => by
    have h : x ∈ [f] := h
    exact Or.inl (List.mem_singleton.mp h)
  | y :: r, h => by
    unfold zins at h
    split at h
    · rcases List.mem_cons.mp h with e | e
      · exact Or.inr (List.mem_cons.mpr (Or.inl e))
      · exact (zins_mem e).imp id (fun z => List.mem_cons_of_mem _ z)
    · rcases List.mem_cons.mp h with e | e
      · exact Or.inl e
      · exact Or.inr e
theorem zlu_mem {x : Int} : ∀ {n : Nat}, x ∈ zlu K q Y ah tp n → 0 ≤ x ∧ x < (n : Int) ∧ zOw Y x
  | 0, h => by cases h
  | n + 1, h => by
    by_cases c : zOw Y (n : Int)
    · rw [zlu_y rfl c] at h
      rcases zins_mem h with e | e
      · subst e; exact ⟨by omega, by omega, c⟩
      · have z := zlu_mem e; exact ⟨z.1, by omega, z.2.2⟩
    · rw [zlu_n rfl c] at h
      have z := zlu_mem h; exact ⟨z.1, by omega, z.2.2⟩
theorem zins_cg {rk rk2 : Int → Int} {f : Int} : ∀ {L : List Int}, (∀ x, x ∈ L → (rk x < rk f ↔ rk2 x < rk2 f)) → zins rk f L = zins rk2 f L
  | [], _ => rfl
  | x :: r, h => by
    have z := h x List.mem_cons_self
    unfold zins
    by_cases c : rk x < rk f
    · rw [if_pos c, if_pos (z.mp c), zins_cg (fun y hy => h y (List.mem_cons_of_mem _ hy))]
    · rw [if_neg c, if_neg (fun e => c (z.mpr e))]
theorem zvF_r {kd hi f : Int} (h : 0 ≤ hi) : 0 ≤ zvF K q Y kd hi f ∧ zvF K q Y kd hi f ≤ hi := zwo_r h
/-- ahead of all is ahead of all -/
theorem zlu_tp (h1 : 999 < tp) (h2 : 999 < tp2) : ∀ n : Nat, zlu K q Y ah tp n = zlu K q Y ah tp2 n
  | 0 => rfl
  | n + 1 => by
    have ih := zlu_tp h1 h2 n
    by_cases c : zOw Y (n : Int)
    · rw [zlu_y rfl c, zlu_y rfl c, ih]
      refine zins_cg (fun x hx => ?_)
      have z := zlu_mem hx
      have r1 := zvF_r (K := K) (q := q) (Y := Y) (kd := 111) (hi := 999) (f := x) (by decide)
      have r2 := zvF_r (K := K) (q := q) (Y := Y) (kd := 111) (hi := 999) (f := (n : Int)) (by decide)
      unfold zrq
      (repeat' split) <;> omega
    · rw [zlu_n rfl c, zlu_n rfl c, ih]
end LU
/-- the best spot for one at a: of those with L > 0, T = 0 within v STEPS the nearest, of like ones the lowest -/
def zbk (K L T : Int → Int) (a : Int) (v : Nat) : Nat → Int
  | 0 => -1
  | n + 1 => if (0 < L (n : Int) ∧ T (n : Int) = 0 ∧ zds K a v (n : Int) ≠ 9) ∧ (zbk K L T a v n = -1 ∨ zds K a v (n : Int) < zds K a v (zbk K L T a v n)) then (n : Int) else zbk K L T a v n
def zbc2 (K L T : Int → Int) (a : Int) (v : Nat) (t : Int) : Prop := 0 < L t ∧ T t = 0 ∧ zds K a v t ≠ 9
theorem zbk_c (K L T : Int → Int) (a : Int) (v : Nat) : ∀ n : Nat, (zbk K L T a v n = -1 ∧ ∀ t : Int, 0 ≤ t → t < (n : Int) → ¬ zbc2 K L T a v t) ∨ ((0 ≤ zbk K L T a v n ∧ zbk K L T a v n < (n : Int)) ∧ zbc2 K L T a v (zbk K L T a v n) ∧ ∀ t : Int, 0 ≤ t → t < (n : Int) → zbc2 K L T a v t → zds K a v (zbk K L T a v n) < zds K a v t ∨ (zds K a v (zbk K L T a v n) = zds K a v t ∧ zbk K L T a v n ≤ t))
  | 0 => Or.inl ⟨rfl, fun t t1 t2 => absurd t2 (by omega)⟩
  | n + 1 => by
    have ih := zbk_c K L T a v n
    obtain ⟨b, hb⟩ : ∃ b, b = zbk K L T a v n := ⟨_, rfl⟩
    have es : zbk K L T a v (n + 1) = if (0 < L (n : Int) ∧ T (n : Int) = 0 ∧ zds K a v (n : Int) ≠ 9) ∧ (b = -1 ∨ zds K a v (n : Int) < zds K a v b) then (n : Int) else b := by rw [hb]; rfl
    rw [← hb] at ih
    by_cases c : (0 < L (n : Int) ∧ T (n : Int) = 0 ∧ zds K a v (n : Int) ≠ 9) ∧ (b = -1 ∨ zds K a v (n : Int) < zds K a v b)
    · rw [es, if_pos c]
      refine Or.inr ⟨by omega, c.1, fun t t1 t2 h => ?_⟩
      by_cases e : t = (n : Int)
      · subst e; exact Or.inr ⟨rfl, Int.le_refl _⟩
      · rcases ih with i | i
        · exact absurd h (i.2 t t1 (by omega))
        · have z := i.2.2 t t1 (by omega) h
          omega
    · rw [es, if_neg c]
      rcases ih with i | i
      · refine Or.inl ⟨i.1, fun t t1 t2 h => ?_⟩
        by_cases e : t = (n : Int)
        · subst e; exact c ⟨h, Or.inl i.1⟩
        · exact i.2 t t1 (by omega) h
      · refine Or.inr ⟨by omega, i.2.1, fun t t1 t2 h => ?_⟩
        by_cases e : t = (n : Int)
        · subst e
          have : ¬ (b = -1 ∨ zds K a v (n : Int) < zds K a v b) := fun q => c ⟨h, q⟩
          omega
        · exact i.2.2 t t1 (by omega) h
/-- it is the only one such -/
theorem zbk_u {K L T : Int → Int} {a : Int} {v : Nat} {r : Int} (h : (r = -1 ∧ ∀ t : Int, 0 ≤ t → t < 100 → ¬ zbc2 K L T a v t) ∨ ((0 ≤ r ∧ r < 100) ∧ zbc2 K L T a v r ∧ ∀ t : Int, 0 ≤ t → t < 100 → zbc2 K L T a v t → zds K a v r < zds K a v t ∨ (zds K a v r = zds K a v t ∧ r ≤ t))) : r = zbk K L T a v 100 := by
  have z := zbk_c K L T a v 100
  obtain ⟨b, hb⟩ : ∃ b, b = zbk K L T a v 100 := ⟨_, rfl⟩
  rw [← hb] at z ⊢
  rcases h with h | h <;> rcases z with z | z
  · omega
  · exact absurd z.2.1 (h.2 b z.1.1 z.1.2)
  · exact absurd h.2.1 (z.2 r h.1.1 h.1.2)
  · have y1 := h.2.2 b z.1.1 z.1.2 z.2.1
    have y2 := z.2.2 r h.1.1 h.1.2 h.2.1
    omega
theorem zds_f {K K2 : Int → Int} {a : Int} (h : ∀ t : Int, 0 ≤ t → t < 100 → K2 t = K t) : ∀ (n : Nat) (t : Int), 0 ≤ t → t < 100 → zds K2 a n t = zds K a n t
  | 0, _, _, _ => rfl
  | n + 1, t, t1, t2 => by
    have ih := zds_f (a := a) h n
    have g : ∀ w : Int, zdn (zds K2 a n) t w = zdn (zds K a n) t w := fun w => by
      have r := zbe_r t w
      unfold zdn
      by_cases b : zbe t w = -1
      · rw [if_pos b, if_pos b]
      · rw [if_neg b, if_neg b]
        exact ih _ (by omega) (by omega)
    rw [zds_s, zds_s, ih t t1 t2, h t t1 t2, g 0, g 2, g 4, g 6]
theorem zsb_f {K K2 : Int → Int} {a b : Int} (h : ∀ t : Int, 0 ≤ t → t < 100 → K2 t = K t) : zsb K2 a b = zsb K a b := by
  unfold zsb
  by_cases c : 0 ≤ a ∧ a < 100 ∧ 0 ≤ b ∧ b < 100
  · rw [if_pos c, if_pos c]; exact zds_f h 3 b (by omega) (by omega)
  · rw [if_neg c, if_neg c]
/-- one FELON's turn: Y the day, T the spots taken -/
def zsv (K : Int → Int) (q : zLaw) (L : Int → Int) (nt f : Int) (S : (Int → Int) × (Int → Int)) : (Int → Int) × (Int → Int) :=
  if zbk K L S.2 (S.1 (4 + f)) (zvF K q S.1 118 3 f).toNat 100 = -1 then (xud (xud S.1 46 (zwp (S.1 46 + 1))) (24 + f) (if S.1 (24 + f) + 1 ≤ 999 then S.1 (24 + f) + 1 else 999), S.2) else
  (xud (xud (xud (xud S.1 48 (zwp (S.1 48 + zds K (S.1 (4 + f)) (zvF K q S.1 118 3 f).toNat (zbk K L S.2 (S.1 (4 + f)) (zvF K q S.1 118 3 f).toNat 100)))) (4 + f) (zbk K L S.2 (S.1 (4 + f)) (zvF K q S.1 118 3 f).toNat 100))
    (14 + f) (if S.1 (14 + f) ≤ (if nt ≠ 0 then (if S.1 44 % 3 = 0 then 1 else 0) else L (zbk K L S.2 (S.1 (4 + f)) (zvF K q S.1 118 3 f).toNat 100)) then 0 else S.1 (14 + f) - (if nt ≠ 0 then (if S.1 44 % 3 = 0 then 1 else 0) else L (zbk K L S.2 (S.1 (4 + f)) (zvF K q S.1 118 3 f).toNat 100))))
    (34 + f) (if K (zbk K L S.2 (S.1 (4 + f)) (zvF K q S.1 118 3 f).toNat 100) = 3 then 1 else S.1 (34 + f)), xud S.2 (zbk K L S.2 (S.1 (4 + f)) (zvF K q S.1 118 3 f).toNat 100) 1)
def zgo (K : Int → Int) (q : zLaw) (L : Int → Int) (nt : Int) : List Int → (Int → Int) × (Int → Int) → (Int → Int) × (Int → Int)
  | [], S => S
  | f :: r, S => zsv K q L nt f (zgo K q L nt r S)
section FW
variable {σ τ : xS} {d : Nat} {K Y L T p D : Int → Int} {q : zLaw} {f v a b i fw z n : Int}
theorem zYc_44 : zYc σ d 44 = σ d 7 := zYc_M (c := 7) (by omega)
theorem zYc_45 : zYc σ d 45 = σ d 8 := zYc_M (c := 8) (by omega)
theorem zYc_46 : zYc σ d 46 = σ d 9 := zYc_M (c := 9) (by omega)
theorem zYc_47 : zYc σ d 47 = σ d 10 := zYc_M (c := 10) (by omega)
theorem zYc_48 : zYc σ d 48 = σ d 11 := zYc_M (c := 11) (by omega)
theorem zff_c (h : 0 ≤ f ∧ f < 10) : zff K (zYc σ d) f = zfF (σ d 7) f (σ (d + 7) f) (σ (d + 8) f) (if K (σ (d + 6) f) = 2 then 1 else 0) := by
  unfold zff
  rw [zYc_44, zYc_O h, zYc_A h, zYc_F h]
theorem zOw_c (h : 0 ≤ f ∧ f < 10) : zOw (zYc σ d) f ↔ (σ (d + 6) f ≠ -1 ∧ 0 < σ (d + 7) f ∧ σ (d + 9) f = 0) := by
  unfold zOw
  rw [zYc_F h, zYc_O h, zYc_D h]
theorem IS_t {t v : Int} (h : IS σ) (e : τ = xU σ 133 t v) (ht : 0 ≤ t ∧ t < 100) (hL : σ 131 t ≠ 0) : IS τ := by
  subst e
  refine ⟨by rw [xU_k _ _ _ (show 131 ≠ 133 from by decide), xU_k _ _ _ (show 132 ≠ 133 from by decide), xU_k _ _ _ (show 130 ≠ 133 from by decide)]; exact h.1, fun x x1 x2 c => ?_⟩
  rw [xU_k _ _ _ (show 132 ≠ 133 from by decide), xU_k _ _ _ (show 130 ≠ 133 from by decide)]
  by_cases q : x = t
  · subst q; exact h.1.2.2.1 x x1 x2 hL
  · rw [xU_j _ _ q] at c; exact h.2 x x1 x2 c
/-- looking through the list of spots for the best one -/
def zfb (D L T p : Int → Int) (n fw b i : Int) : Prop := (b = -1 ∧ fw = n + 1 ∧ ∀ k : Int, 0 ≤ k → k < i → T (p k) = 0 → n < D (p k)) ∨ ((0 ≤ b ∧ b < 100) ∧ L b ≠ 0 ∧ T b = 0 ∧ D b = fw ∧ fw ≤ n ∧ ∀ k : Int, 0 ≤ k → k < i → T (p k) = 0 → fw < D (p k) ∨ (fw = D (p k) ∧ b ≤ p k))
theorem zfb.skip (h : zfb D L T p n fw b i) (hx : v = p i) (c : T v ≠ 0 ∨ ¬ (D v < fw ∨ (D v = fw ∧ v < b))) : zfb D L T p n fw b (i + 1) := by
  subst hx
  rcases h with h | h
  · refine Or.inl ⟨h.1, h.2.1, fun k k1 k2 k3 => ?_⟩
    by_cases e : k = i
    · subst e
      rcases c with c | c
      · exact absurd k3 c
      · have := h.2.1; omega
    · exact h.2.2 k k1 (by omega) k3
  · refine Or.inr ⟨h.1, h.2.1, h.2.2.1, h.2.2.2.1, h.2.2.2.2.1, fun k k1 k2 k3 => ?_⟩
    by_cases e : k = i
    · subst e
      rcases c with c | c
      · exact absurd k3 c
      · omega
    · exact h.2.2.2.2.2 k k1 (by omega) k3
theorem zfb.upd (h : zfb D L T p n fw b i) (hx : v = p i) (hv : 0 ≤ v ∧ v < 100) (hL : L v ≠ 0) (hT : T v = 0) (c : D v < fw ∨ (D v = fw ∧ v < b)) : zfb D L T p n (D v) v (i + 1) := by
  subst hx
  have hn : D (p i) ≤ n := by
    rcases h with h | h
    · have := h.1; have := h.2.1; omega
    · have := h.2.2.2.2.1; omega
  refine Or.inr ⟨hv, hL, hT, rfl, hn, fun k k1 k2 k3 => ?_⟩
  by_cases e : k = i
  · subst e; exact Or.inr ⟨rfl, Int.le_refl _⟩
  · rcases h with h | h
    · have := h.2.2 k k1 (by omega) k3; omega
    · have := h.2.2.2.2.2 k k1 (by omega) k3; omega
theorem zfb.fin (h : zfb D L T p n fw b i) (hS : zSL L p z) (hi : z ≤ i) (hL : ∀ t : Int, 0 ≤ t → t < 100 → 0 ≤ L t) (hn : 0 ≤ n ∧ n ≤ 3) (hD : ∀ t : Int, 0 ≤ t → t < 100 → D t = zds K a 3 t) : b = zbk K L T a n.toNat 100 ∧ (b ≠ -1 → fw = zds K a n.toNat b) := by
  have cv : ∀ t : Int, 0 ≤ t → t < 100 → zbc2 K L T a n.toNat t → L t ≠ 0 ∧ T t = 0 ∧ D t ≤ n ∧ zds K a n.toNat t = D t := fun t t1 t2 h => by
    have y := (zds_v (K := K) (a := a) (t := t) hn).2 h.2.2
    have e := hD t t1 t2
    have := h.1
    exact ⟨by omega, h.2.1, by omega, by omega⟩
  rcases h with h | h
  · have e := zbk_u (K := K) (L := L) (T := T) (a := a) (v := n.toNat) (r := b) (Or.inl ⟨h.1, fun t t1 t2 q => by
      have y := cv t t1 t2 q
      obtain ⟨k, k1, k2, k3⟩ := hS.2.2.1 t t1 t2 y.1
      have w := h.2.2 k k1 (by omega) (by rw [k3]; exact y.2.1)
      rw [k3] at w
      omega⟩)
    exact ⟨e, fun q => absurd h.1 q⟩
  · have e0 := hD b h.1.1 h.1.2
    have y0 := (zds_v (K := K) (a := a) (t := b) hn).1 (by omega)
    have r0 := zds_r K a 3 b
    have e := zbk_u (K := K) (L := L) (T := T) (a := a) (v := n.toNat) (r := b) (Or.inr ⟨h.1, ⟨by have := hL b h.1.1 h.1.2; have := h.2.1; omega, h.2.2.1, by omega⟩, fun t t1 t2 q => by
      have y := cv t t1 t2 q
      obtain ⟨k, k1, k2, k3⟩ := hS.2.2.1 t t1 t2 y.1
      have w := h.2.2.2.2.2 k k1 (by omega) (by rw [k3]; exact y.2.1)
      rw [k3] at w
      omega⟩)
    exact ⟨e, fun _ => by omega⟩
theorem zbk_0 {v : Nat} (h : ∀ t : Int, 0 ≤ t → t < 100 → ¬ 0 < L t) : zbk K L T a v 100 = -1 := (zbk_u (K := K) (L := L) (T := T) (a := a) (v := v) (r := -1) (Or.inl ⟨rfl, fun t t1 t2 q => h t t1 t2 q.1⟩)).symm
theorem zbk_r {v : Nat} : zbk K L T a v 100 = -1 ∨ ((0 ≤ zbk K L T a v 100 ∧ zbk K L T a v 100 < 100) ∧ 0 < L (zbk K L T a v 100) ∧ T (zbk K L T a v 100) = 0) := by
  rcases zbk_c K L T a v 100 with h | h
  · exact Or.inl h.1
  · exact Or.inr ⟨h.1, h.2.1.1, h.2.1.2.1⟩
/-- FELONS' numbers in their bounds -/
def zYq (Y : Int → Int) : Prop := ∀ f : Int, 0 ≤ f → f < 10 → (Y (4 + f) = -1 ∨ (0 ≤ Y (4 + f) ∧ Y (4 + f) < 100)) ∧ (0 ≤ Y (14 + f) ∧ Y (14 + f) ≤ 999) ∧ (0 ≤ Y (24 + f) ∧ Y (24 + f) ≤ 999) ∧ (Y (34 + f) = 0 ∨ Y (34 + f) = 1)
end FW
section SV
variable {K L L2 Y T T2 : Int → Int} {q : zLaw} {f g nt b : Int} {S : (Int → Int) × (Int → Int)}
theorem zsv_none (h : zbk K L T (Y (4 + f)) (zvF K q Y 118 3 f).toNat 100 = -1) : zsv K q L nt f (Y, T) = (xud (xud Y 46 (zwp (Y 46 + 1))) (24 + f) (if Y (24 + f) + 1 ≤ 999 then Y (24 + f) + 1 else 999), T) := if_pos h
theorem zsv_some (hb : b = zbk K L T (Y (4 + f)) (zvF K q Y 118 3 f).toNat 100) (h : b ≠ -1) : zsv K q L nt f (Y, T) = (xud (xud (xud (xud Y 48 (zwp (Y 48 + zds K (Y (4 + f)) (zvF K q Y 118 3 f).toNat b))) (4 + f) b) (14 + f) (if Y (14 + f) ≤ (if nt ≠ 0 then (if Y 44 % 3 = 0 then 1 else 0) else L b) then 0 else Y (14 + f) - (if nt ≠ 0 then (if Y 44 % 3 = 0 then 1 else 0) else L b))) (34 + f) (if K b = 3 then 1 else Y (34 + f)), xud T b 1) := by
  subst hb
  exact if_neg h
/-- what a turn leaves as it was -/
theorem zsv_o (hf : 0 ≤ f ∧ f < 10) {i : Int} (h : i ≠ 46 ∧ i ≠ 48 ∧ i ≠ 4 + f ∧ i ≠ 14 + f ∧ i ≠ 24 + f ∧ i ≠ 34 + f) : (zsv K q L nt f (Y, T)).1 i = Y i := by
  by_cases c : zbk K L T (Y (4 + f)) (zvF K q Y 118 3 f).toNat 100 = -1
  · rw [zsv_none c]
    show xud (xud Y 46 _) (24 + f) _ i = _
    rw [xud_o _ _ (by omega), xud_o _ _ (by omega)]
  · rw [zsv_some rfl c]
    show xud (xud (xud (xud Y 48 _) (4 + f) _) (14 + f) _) (34 + f) _ i = _
    rw [xud_o _ _ (by omega), xud_o _ _ (by omega), xud_o _ _ (by omega), xud_o _ _ (by omega)]
theorem zsv_q (hf : 0 ≤ f ∧ f < 10) (hL : ∀ t : Int, 0 ≤ t → t < 100 → 0 ≤ L t) (h : zYq Y) : zYq (zsv K q L nt f (Y, T)).1 ∧ (Y (4 + f) ≠ -1 → (zsv K q L nt f (Y, T)).1 (4 + f) ≠ -1) ∧ ((zsv K q L nt f (Y, T)).1 (14 + f) ≤ Y (14 + f)) := by
  have hq := h f hf.1 hf.2
  by_cases c : zbk K L T (Y (4 + f)) (zvF K q Y 118 3 f).toNat 100 = -1
  · rw [zsv_none c]
    refine ⟨fun g g1 g2 => ?_, fun e => ?_, ?_⟩
    · have z := h g g1 g2
      dsimp only
      rw [xud_o _ _ (show 4 + g ≠ 24 + f from by omega), xud_o _ _ (show 4 + g ≠ 46 from by omega), xud_o _ _ (show 14 + g ≠ 24 + f from by omega), xud_o _ _ (show 14 + g ≠ 46 from by omega), xud_o _ _ (show 34 + g ≠ 24 + f from by omega), xud_o _ _ (show 34 + g ≠ 46 from by omega)]
      refine ⟨z.1, z.2.1, ?_, z.2.2.2⟩
      by_cases e : g = f
      · subst e
        rw [xud_s]
        split <;> omega
      · rw [xud_o _ _ (by omega), xud_o _ _ (by omega)]
        exact z.2.2.1
    · show xud (xud Y 46 _) (24 + f) _ (4 + f) ≠ -1
      rw [xud_o _ _ (by omega), xud_o _ _ (by omega)]
      exact e
    · show xud (xud Y 46 _) (24 + f) _ (14 + f) ≤ _
      rw [xud_o _ _ (by omega), xud_o _ _ (by omega)]
      exact Int.le_refl _
  · obtain ⟨b, hb⟩ : ∃ b, b = zbk K L T (Y (4 + f)) (zvF K q Y 118 3 f).toNat 100 := ⟨_, rfl⟩
    have rb : (0 ≤ b ∧ b < 100) ∧ 0 < L b ∧ T b = 0 := by rw [hb]; exact zbk_r.resolve_left c
    rw [zsv_some hb (by omega)]
    have sv : 0 ≤ (if nt ≠ 0 then (if Y 44 % 3 = 0 then 1 else 0) else L b) := by
      (repeat' split) <;> omega
    obtain ⟨s, hs⟩ : ∃ s : Int, s = (if nt ≠ 0 then (if Y 44 % 3 = 0 then 1 else 0) else L b) := ⟨_, rfl⟩
    rw [← hs] at sv ⊢
    refine ⟨fun g g1 g2 => ?_, fun e => ?_, ?_⟩
    · have z := h g g1 g2
      by_cases e : g = f
      · subst e
        dsimp only
        rw [xud_o _ _ (show 4 + g ≠ 34 + g from by omega), xud_o _ _ (show 4 + g ≠ 14 + g from by omega), xud_s, xud_o _ _ (show 14 + g ≠ 34 + g from by omega), xud_s, xud_o _ _ (show 24 + g ≠ 34 + g from by omega), xud_o _ _ (show 24 + g ≠ 14 + g from by omega), xud_o _ _ (show 24 + g ≠ 4 + g from by omega), xud_o _ _ (show 24 + g ≠ 48 from by omega), xud_s]
        refine ⟨Or.inr rb.1, ?_, z.2.2.1, ?_⟩
        · split <;> omega
        · split
          · exact Or.inr rfl
          · exact z.2.2.2
      · dsimp only
        rw [xud_o _ _ (show 4 + g ≠ 34 + f from by omega), xud_o _ _ (show 4 + g ≠ 14 + f from by omega), xud_o _ _ (show 4 + g ≠ 4 + f from by omega), xud_o _ _ (show 4 + g ≠ 48 from by omega), xud_o _ _ (show 14 + g ≠ 34 + f from by omega), xud_o _ _ (show 14 + g ≠ 14 + f from by omega), xud_o _ _ (show 14 + g ≠ 4 + f from by omega), xud_o _ _ (show 14 + g ≠ 48 from by omega), xud_o _ _ (show 24 + g ≠ 34 + f from by omega), xud_o _ _ (show 24 + g ≠ 14 + f from by omega), xud_o _ _ (show 24 + g ≠ 4 + f from by omega), xud_o _ _ (show 24 + g ≠ 48 from by omega), xud_o _ _ (show 34 + g ≠ 34 + f from by omega), xud_o _ _ (show 34 + g ≠ 14 + f from by omega), xud_o _ _ (show 34 + g ≠ 4 + f from by omega), xud_o _ _ (show 34 + g ≠ 48 from by omega)]
        exact z
    · show xud (xud (xud (xud Y 48 _) (4 + f) b) (14 + f) _) (34 + f) _ (4 + f) ≠ -1
      rw [xud_o _ _ (show 4 + f ≠ 34 + f from by omega), xud_o _ _ (show 4 + f ≠ 14 + f from by omega), xud_s]
      omega
    · show xud (xud (xud (xud Y 48 _) (4 + f) b) (14 + f) _) (34 + f) _ (14 + f) ≤ _
      rw [xud_o _ _ (show 14 + f ≠ 34 + f from by omega), xud_s]
      split <;> omega
theorem zbk_cg {a : Int} {v : Nat} (h1 : ∀ t : Int, 0 ≤ t → t < 100 → L2 t = L t) (h2 : ∀ t : Int, 0 ≤ t → t < 100 → T2 t = T t) : zbk K L2 T2 a v 100 = zbk K L T a v 100 := by
  refine zbk_u ?_
  have cc : ∀ t : Int, 0 ≤ t → t < 100 → (zbc2 K L2 T2 a v t ↔ zbc2 K L T a v t) := fun t t1 t2 => by
    unfold zbc2
    rw [h1 t t1 t2, h2 t t1 t2]
  rcases zbk_c K L2 T2 a v 100 with z | z
  · exact Or.inl ⟨z.1, fun t t1 t2 q => z.2 t t1 t2 ((cc t t1 t2).mpr q)⟩
  · exact Or.inr ⟨z.1, (cc _ z.1.1 z.1.2).mp z.2.1, fun t t1 t2 q => z.2.2 t t1 t2 ((cc t t1 t2).mpr q)⟩
theorem zsv_cg (h1 : ∀ t : Int, 0 ≤ t → t < 100 → L2 t = L t) (h2 : ∀ t : Int, 0 ≤ t → t < 100 → T2 t = T t) : (zsv K q L2 nt f (Y, T2)).1 = (zsv K q L nt f (Y, T)).1 ∧ ∀ t : Int, 0 ≤ t → t < 100 → (zsv K q L2 nt f (Y, T2)).2 t = (zsv K q L nt f (Y, T)).2 t := by
  have e := zbk_cg (K := K) (a := Y (4 + f)) (v := (zvF K q Y 118 3 f).toNat) h1 h2
  obtain ⟨b, hb⟩ : ∃ b, b = zbk K L T (Y (4 + f)) (zvF K q Y 118 3 f).toNat 100 := ⟨_, rfl⟩
  by_cases c : b = -1
  · rw [zsv_none (T := T2) (by rw [e, ← hb]; exact c), zsv_none (T := T) (by rw [← hb]; exact c)]
    exact ⟨rfl, h2⟩
  · have rb : (0 ≤ b ∧ b < 100) ∧ 0 < L b ∧ T b = 0 := by rw [hb]; exact zbk_r.resolve_left (by rw [← hb]; exact c)
    rw [zsv_some (T := T2) (b := b) (by rw [e]; exact hb) c, zsv_some (T := T) hb c, h1 b rb.1.1 rb.1.2]
    refine ⟨rfl, fun t t1 t2 => ?_⟩
    show xud T2 b 1 t = xud T b 1 t
    exact zud_c (fun _ => h2 t t1 t2)
theorem zgo_cg (h1 : ∀ t : Int, 0 ≤ t → t < 100 → L2 t = L t) (h2 : ∀ t : Int, 0 ≤ t → t < 100 → T2 t = T t) : ∀ l : List Int, (zgo K q L2 nt l (Y, T2)).1 = (zgo K q L nt l (Y, T)).1 ∧ ∀ t : Int, 0 ≤ t → t < 100 → (zgo K q L2 nt l (Y, T2)).2 t = (zgo K q L nt l (Y, T)).2 t
  | [] => ⟨rfl, h2⟩
  | f :: r => by
    have ih := zgo_cg h1 h2 r
    obtain ⟨S2, e2⟩ : ∃ S, S = zgo K q L2 nt r (Y, T2) := ⟨_, rfl⟩
    obtain ⟨S1, e1⟩ : ∃ S, S = zgo K q L nt r (Y, T) := ⟨_, rfl⟩
    show (zsv K q L2 nt f (zgo K q L2 nt r (Y, T2))).1 = (zsv K q L nt f (zgo K q L nt r (Y, T))).1 ∧ ∀ t : Int, 0 ≤ t → t < 100 → (zsv K q L2 nt f (zgo K q L2 nt r (Y, T2))).2 t = (zsv K q L nt f (zgo K q L nt r (Y, T))).2 t
    rw [← e2, ← e1] at ih ⊢
    obtain ⟨Y2, T2⟩ := S2
    obtain ⟨Y1, T1⟩ := S1
    have i1 : Y2 = Y1 := ih.1
    subst i1
    exact zsv_cg h1 ih.2
end SV
/-! ===== a MINUTE ===== -/
def zY4 (Y : Int → Int) : Int × Int × Int × Int := (Y 0, Y 1, Y 2, Y 3)
def zYj (Y : Int → Int) (P : Int × Int × Int × Int) : Int → Int := xud (xud (xud (xud Y 0 P.1) 1 P.2.1) 2 P.2.2.1) 3 P.2.2.2
def zX (x : Int) : Int := (25173 * x + 13849) % 65536
def zm1 (K n : Int → Int) (w : Int → Int → Int) (Y : Int → Int) : Int → Int := zYj Y (zjs K n w (zY4 Y))
def zm2 (K n : Int → Int) (w : Int → Int → Int) (Y : Int → Int) : Int → Int := xud (zm1 K n w Y) 45 (zX (Y 45))
def zcl (q : zLaw) (Y : Int → Int) : Int := if zX (Y 45) % 10 < zwo q 99 10 (zf0 (Y 44)) then 1 else 0
def zm3 (K : Int → Int) (q : zLaw) (n : Int → Int) (w : Int → Int → Int) (Y : Int → Int) : Int → Int := if zcl q Y ≠ 0 then xud (zm2 K n w Y) 47 (zwp (zm2 K n w Y 47 + 1)) else zm2 K n w Y
def zmL (K : Int → Int) (q : zLaw) (lm n : Int → Int) (w : Int → Int → Int) (Y : Int → Int) (t : Int) : Int := zLy K q lm (Y 44) (zm3 K q n w Y) (if zcl q Y ≠ 0 then 0 else 1) (zni q (Y 44)) t
noncomputable def zm4 (K : Int → Int) (q : zLaw) (lm n : Int → Int) (w : Int → Int → Int) (ah : Int) (Y : Int → Int) : Int → Int := (zgo K q (zmL K q lm n w Y) (zni q (Y 44)) (zlu K q (zm3 K q n w Y) ah 1000 10) (zm3 K q n w Y, fun _ => 0)).1
noncomputable def zmi (K : Int → Int) (q : zLaw) (lm n : Int → Int) (w : Int → Int → Int) (ah : Int) (Y : Int → Int) : Int → Int := xud (zm4 K q lm n w ah Y) 44 (Y 44 + 1)
noncomputable def zmn (K : Int → Int) (q : zLaw) (lm n : Int → Int) (w : Int → Int → Int) (ah : Int) : Nat → (Int → Int) → Int → Int
  | 0, Y => Y
  | k + 1, Y => if zmn K q lm n w ah k Y 44 < 9999 then zmi K q lm n w ah (zmn K q lm n w ah k Y) else zmn K q lm n w ah k Y
def zSm (Y : Int → Int) : Int := zsu (fun f => Y (14 + f)) 10
section MI
variable {σ τ : xS} {d : Nat} {K n lm : Int → Int} {w : Int → Int → Int} {q : zLaw} {Y J J2 : Int → Int} {ah m oj ol t : Int} {P : Int × Int × Int × Int}
theorem zmn_s {k : Nat} (h : zmn K q lm n w ah k Y 44 < 9999) : zmn K q lm n w ah (k + 1) Y = zmi K q lm n w ah (zmn K q lm n w ah k Y) := if_pos h
theorem zmn_stop {k : Nat} (h : 9999 ≤ zmn K q lm n w ah k Y 44) : ∀ i : Nat, zmn K q lm n w ah (k + i) Y = zmn K q lm n w ah k Y
  | 0 => rfl
  | i + 1 => by
    have ih := zmn_stop h i
    show (if zmn K q lm n w ah (k + i) Y 44 < 9999 then _ else zmn K q lm n w ah (k + i) Y) = _
    rw [ih, if_neg (by omega)]
theorem zt_Y : zt (σ (d + 1)) (σ (d + 5)) = zY4 (zYc σ d) := by
  show (σ (d + 1) 0, σ (d + 1) 1, σ (d + 5) 0, σ (d + 5) 1) = (zYc σ d 0, zYc σ d 1, zYc σ d (2 + 0), zYc σ d (2 + 1))
  rw [zYc_J (by omega), zYc_J (by omega), zYc_S (by omega), zYc_S (by omega)]
theorem zYc_js (h : zt (τ (d + 1)) (τ (d + 5)) = P) (e0 : τ d = σ d) (e : ∀ o : Nat, 6 ≤ o ∧ o ≤ 9 → τ (d + o) = σ (d + o)) : zYc τ d = zYj (zYc σ d) P := by
  subst h
  funext i
  show zYc τ d i = xud (xud (xud (xud (zYc σ d) 0 (τ (d + 1) 0)) 1 (τ (d + 1) 1)) 2 (τ (d + 5) 0)) 3 (τ (d + 5) 1) i
  by_cases h3 : i = 3
  · subst h3
    rw [xud_s]
    exact zYc_S (f := 1) (by omega)
  rw [xud_o _ _ h3]
  by_cases h2 : i = 2
  · subst h2
    rw [xud_s]
    exact zYc_S (f := 0) (by omega)
  rw [xud_o _ _ h2]
  by_cases h1 : i = 1
  · subst h1
    rw [xud_s]
    exact zYc_J (f := 1) (by omega)
  rw [xud_o _ _ h1]
  by_cases h0 : i = 0
  · subst h0
    rw [xud_s]
    exact zYc_J (f := 0) (by omega)
  rw [xud_o _ _ h0]
  unfold zYc
  rw [e0, e 6 (by omega), e 7 (by omega), e 8 (by omega), e 9 (by omega)]
  by_cases a : i < 0
  · rw [if_pos a, if_pos a]
  · simp only [if_neg (show ¬ i < 2 from by omega), if_neg (show ¬ i < 4 from by omega)]
/-- only the JUDGES' own spots matter -/
theorem zlv_J (h0 : J2 0 = J 0) (h1 : J2 1 = J 1) : ∀ (k : Nat) (s v x : Int), zlv K J2 k s v x = zlv K J k s v x
  | 0, _, _, _ => rfl
  | k + 1, s, v, x => by
    unfold zlv
    rw [h0, h1, zlv_J h0 h1 k]
theorem zLy_J (h0 : J2 0 = J 0) (h1 : J2 1 = J 1) : zLy K q lm m J2 oj ol t = zLy K q lm m J oj ol t := by
  have e1 : zsu (zJL K q m J2 t) 2 = zsu (zJL K q m J t) 2 := zsu_c (fun i i1 i2 => by
    have g : J2 i = J i := by
      rcases (by omega : i = 0 ∨ i = 1) with rfl | rfl
      · exact h0
      · exact h1
    unfold zJL
    rw [g])
  have e2 : zsu (fun i => zLL K J2 (lm i) t) 4 = zsu (fun i => zLL K J (lm i) t) 4 := zsu_c (fun i _ _ => by
    unfold zLL
    split
    · rfl
    · exact zsu_c (fun v _ _ => zlv_J h0 h1 4 (lm i) v t))
  unfold zLy
  rw [e1, e2]
theorem zLy_r (K : Int → Int) (q : zLaw) (lm : Int → Int) (m : Int) (J : Int → Int) (oj ol t : Int) : 0 ≤ zLy K q lm m J oj ol t ∧ zLy K q lm m J oj ol t ≤ 1000 := by
  have y := zsu_b (f := zJL K q m J t) (b := 9) (n := 2) (fun i _ _ => zJL_r K q m J t i)
  have z := zsu_b (f := fun i => zLL K J (lm i) t) (b := 64) (n := 4) (fun i _ _ => zLL_r K J (lm i) t)
  unfold zLy
  split <;> split <;> omega
theorem zLy_o {oj2 : Int} (h : oj ≠ 0 ↔ oj2 ≠ 0) : zLy K q lm m J oj ol t = zLy K q lm m J oj2 ol t := by
  unfold zLy
  by_cases c : oj ≠ 0
  · rw [if_pos c, if_pos (h.mp c)]
  · rw [if_neg c, if_neg (fun z => c (h.mpr z))]
theorem zcl_y (h : zX (Y 45) % 10 < zwo q 99 10 (zf0 (Y 44))) : zcl q Y = 1 := if_pos h
theorem zcl_n (h : ¬ zX (Y 45) % 10 < zwo q 99 10 (zf0 (Y 44))) : zcl q Y = 0 := if_neg h
theorem zm3_y (h : zcl q Y ≠ 0) : zm3 K q n w Y = xud (zm2 K n w Y) 47 (zwp (zm2 K n w Y 47 + 1)) := if_pos h
theorem zm3_n (h : zcl q Y = 0) : zm3 K q n w Y = zm2 K n w Y := if_neg (fun c => c h)
theorem zYj_o {i : Int} (h : i ≠ 0 ∧ i ≠ 1 ∧ i ≠ 2 ∧ i ≠ 3) : zYj Y P i = Y i := by
  unfold zYj
  rw [xud_o _ _ h.2.2.2, xud_o _ _ h.2.2.1, xud_o _ _ h.2.1, xud_o _ _ h.1]
theorem zm1_o {i : Int} (h : i ≠ 0 ∧ i ≠ 1 ∧ i ≠ 2 ∧ i ≠ 3) : zm1 K n w Y i = Y i := zYj_o h
theorem zYj_4 : zY4 (zYj Y P) = P := by
  show (zYj Y P 0, zYj Y P 1, zYj Y P 2, zYj Y P 3) = P
  unfold zYj
  rw [xud_o _ _ (show (0 : Int) ≠ 3 from by decide), xud_o _ _ (show (0 : Int) ≠ 2 from by decide), xud_o _ _ (show (0 : Int) ≠ 1 from by decide), xud_s,
    xud_o _ _ (show (1 : Int) ≠ 3 from by decide), xud_o _ _ (show (1 : Int) ≠ 2 from by decide), xud_s, xud_o _ _ (show (2 : Int) ≠ 3 from by decide), xud_s, xud_s]
theorem zm2_o {i : Int} (h : i ≠ 0 ∧ i ≠ 1 ∧ i ≠ 2 ∧ i ≠ 3 ∧ i ≠ 45) : zm2 K n w Y i = Y i := by
  unfold zm2
  rw [xud_o _ _ h.2.2.2.2, zm1_o ⟨h.1, h.2.1, h.2.2.1, h.2.2.2.1⟩]
theorem zm3_2 {i : Int} (h : i ≠ 47) : zm3 K q n w Y i = zm2 K n w Y i := by
  unfold zm3
  split
  · exact xud_o _ _ h
  · rfl
theorem zm3_o {i : Int} (h : i ≠ 0 ∧ i ≠ 1 ∧ i ≠ 2 ∧ i ≠ 3 ∧ i ≠ 45 ∧ i ≠ 47) : zm3 K q n w Y i = Y i := (zm3_2 h.2.2.2.2.2).trans (zm2_o ⟨h.1, h.2.1, h.2.2.1, h.2.2.2.1, h.2.2.2.2.1⟩)
theorem zm3_4 : zY4 (zm3 K q n w Y) = zjs K n w (zY4 Y) := by
  have e : ∀ i : Int, i ≠ 45 → i ≠ 47 → zm3 K q n w Y i = zm1 K n w Y i := fun i h1 h2 => (zm3_2 h2).trans (xud_o _ _ h1)
  have z : zY4 (zm3 K q n w Y) = zY4 (zm1 K n w Y) := by
    show (zm3 K q n w Y 0, zm3 K q n w Y 1, zm3 K q n w Y 2, zm3 K q n w Y 3) = _
    rw [e 0 (by decide) (by decide), e 1 (by decide) (by decide), e 2 (by decide) (by decide), e 3 (by decide) (by decide)]
    rfl
  rw [z]
  exact zYj_4
theorem zm3_ok (h : zok (zY4 Y)) : zok (zY4 (zm3 K q n w Y)) := by rw [zm3_4]; exact zok_s h
theorem zm3_q (h : zYq Y) : zYq (zm3 K q n w Y) := fun f f1 f2 => by
  rw [zm3_o (by omega), zm3_o (by omega), zm3_o (by omega), zm3_o (by omega)]
  exact h f f1 f2
theorem zgo_o {L : Int → Int} {nt i : Int} {T : Int → Int} (hi : i < 4 ∨ i = 44 ∨ i = 45 ∨ i = 47) : ∀ l : List Int, (∀ x, x ∈ l → 0 ≤ x ∧ x < 10) → (zgo K q L nt l (Y, T)).1 i = Y i
  | [], _ => rfl
  | f :: r, h => by
    have ih := zgo_o (L := L) (nt := nt) (T := T) hi r (fun x hx => h x (List.mem_cons_of_mem _ hx))
    have hf := h f List.mem_cons_self
    obtain ⟨S, e⟩ : ∃ S, S = zgo K q L nt r (Y, T) := ⟨_, rfl⟩
    show (zsv K q L nt f (zgo K q L nt r (Y, T))).1 i = Y i
    rw [← e] at ih ⊢
    obtain ⟨Y1, T1⟩ := S
    rw [zsv_o hf (by omega)]
    exact ih
theorem zgo_q {L : Int → Int} {nt : Int} {T : Int → Int} (hL : ∀ t : Int, 0 ≤ t → t < 100 → 0 ≤ L t) (hY : zYq Y) : ∀ l : List Int, (∀ x, x ∈ l → 0 ≤ x ∧ x < 10) → zYq (zgo K q L nt l (Y, T)).1
  | [], _ => hY
  | f :: r, h => by
    have ih := zgo_q (L := L) (nt := nt) (T := T) hL hY r (fun x hx => h x (List.mem_cons_of_mem _ hx))
    have hf := h f List.mem_cons_self
    obtain ⟨S, e⟩ : ∃ S, S = zgo K q L nt r (Y, T) := ⟨_, rfl⟩
    show zYq (zsv K q L nt f (zgo K q L nt r (Y, T))).1
    rw [← e] at ih ⊢
    obtain ⟨Y1, T1⟩ := S
    exact (zsv_q hf hL ih).1
theorem zlu_in {x : Int} {tp : Int} {m : Nat} (h : x ∈ zlu K q Y ah tp m) (hm : m ≤ 10) : 0 ≤ x ∧ x < 10 := by
  have z := zlu_mem h
  omega
theorem zm4_o {i : Int} (hi : i < 4 ∨ i = 44 ∨ i = 45 ∨ i = 47) : zm4 K q lm n w ah Y i = zm3 K q n w Y i := zgo_o hi _ (fun x hx => zlu_in hx (by decide))
theorem zmi_4 : zY4 (zmi K q lm n w ah Y) = zjs K n w (zY4 Y) := by
  have e : ∀ i : Int, i < 4 → zmi K q lm n w ah Y i = zm3 K q n w Y i := fun i h => (xud_o _ _ (by omega)).trans (zm4_o (Or.inl h))
  rw [← zm3_4 (q := q)]
  show (zmi K q lm n w ah Y 0, zmi K q lm n w ah Y 1, zmi K q lm n w ah Y 2, zmi K q lm n w ah Y 3) = _
  rw [e 0 (by decide), e 1 (by decide), e 2 (by decide), e 3 (by decide)]
  rfl
theorem zmi_ok (h : zok (zY4 Y)) : zok (zY4 (zmi K q lm n w ah Y)) := by rw [zmi_4]; exact zok_s h
theorem zmL_r (t : Int) : 0 ≤ zmL K q lm n w Y t ∧ zmL K q lm n w Y t ≤ 1000 := zLy_r _ _ _ _ _ _ _ _
theorem zmi_q (h : zYq Y) : zYq (zmi K q lm n w ah Y) := by
  have z : zYq (zm4 K q lm n w ah Y) := zgo_q (fun t _ _ => (zmL_r t).1) (zm3_q h) _ (fun x hx => zlu_in hx (by decide))
  intro f f1 f2
  unfold zmi
  rw [xud_o _ _ (by omega), xud_o _ _ (by omega), xud_o _ _ (by omega), xud_o _ _ (by omega)]
  exact z f f1 f2
theorem zok_j (h : zok (zY4 Y)) : ∀ j : Int, 0 ≤ j → j < 2 → Y j = -1 ∨ (0 ≤ Y j ∧ Y j < 100) := fun j j1 j2 => by
  rcases (by omega : j = 0 ∨ j = 1) with rfl | rfl
  · have z : -1 ≤ Y 0 ∧ Y 0 ≤ 99 := h.1
    omega
  · have z : -1 ≤ Y 1 ∧ Y 1 ≤ 99 := h.2.1
    omega
theorem zSm_r (h : zYq Y) : 0 ≤ zSm Y ∧ zSm Y ≤ 9990 := by
  have z := zsu_b (f := fun f => Y (14 + f)) (b := 999) (n := 10) (fun f f1 f2 => (h f f1 (by omega)).2.1)
  unfold zSm
  omega
theorem zls_mem {v : Int → Int} {b k : Int} : ∀ {m : Nat}, b ≤ k → k < b + (m : Int) → v k ∈ zls v b m
  | 0, h1, h2 => absurd h2 (by omega)
  | m + 1, h1, h2 => by
    show v k ∈ v (b + (m : Int)) :: zls v b m
    by_cases e : k = b + (m : Int)
    · rw [e]; exact List.mem_cons_self
    · exact List.mem_cons_of_mem _ (zls_mem h1 (by omega))
end MI
/-! the same MINUTE from behind the JUDGES' steps on -/
def zb3 (q : zLaw) (Y : Int → Int) : Int → Int := if zcl q Y ≠ 0 then xud (xud Y 45 (zX (Y 45))) 47 (zwp (Y 47 + 1)) else xud Y 45 (zX (Y 45))
def zbL (K : Int → Int) (q : zLaw) (lm : Int → Int) (Y : Int → Int) (t : Int) : Int := zLy K q lm (Y 44) (zb3 q Y) (if zcl q Y ≠ 0 then 0 else 1) (zni q (Y 44)) t
noncomputable def zb4 (K : Int → Int) (q : zLaw) (lm : Int → Int) (ah : Int) (Y : Int → Int) : Int → Int := (zgo K q (zbL K q lm Y) (zni q (Y 44)) (zlu K q (zb3 q Y) ah 1000 10) (zb3 q Y, fun _ => 0)).1
noncomputable def zmB (K : Int → Int) (q : zLaw) (lm : Int → Int) (ah : Int) (Y : Int → Int) : Int → Int := xud (zb4 K q lm ah Y) 44 (Y 44 + 1)
section MB
variable {K n lm : Int → Int} {w : Int → Int → Int} {q : zLaw} {Y Y2 : Int → Int} {ah f : Int}
theorem zcl_r (q : zLaw) (Y : Int → Int) : zcl q Y = 0 ∨ zcl q Y = 1 := by
  unfold zcl
  split
  · exact Or.inr rfl
  · exact Or.inl rfl
theorem zcl_1 : zcl q (zm1 K n w Y) = zcl q Y := by
  unfold zcl
  rw [zm1_o (by omega), zm1_o (by omega)]
theorem zb3_1 : zb3 q (zm1 K n w Y) = zm3 K q n w Y := by
  have e2 : xud (zm1 K n w Y) 45 (zX (zm1 K n w Y 45)) = zm2 K n w Y := by
    rw [zm1_o (show (45 : Int) ≠ 0 ∧ (45 : Int) ≠ 1 ∧ (45 : Int) ≠ 2 ∧ (45 : Int) ≠ 3 from by decide)]
    rfl
  have e7 : zm2 K n w Y 47 = zm1 K n w Y 47 := xud_o _ _ (by decide)
  unfold zb3 zm3
  rw [zcl_1, e2, e7]
theorem zmi_B : zmi K q lm n w ah Y = zmB K q lm ah (zm1 K n w Y) := by
  have e44 : zm1 K n w Y 44 = Y 44 := zm1_o (by decide)
  have eL : zbL K q lm (zm1 K n w Y) = zmL K q lm n w Y := by
    funext t
    unfold zbL zmL
    rw [zb3_1, zcl_1, e44]
  unfold zmi zm4 zmB zb4
  rw [eL, zb3_1, e44]
theorem zb3_o {i : Int} (h : i ≠ 45 ∧ i ≠ 47) : zb3 q Y i = Y i := by
  unfold zb3
  split
  · rw [xud_o _ _ h.2, xud_o _ _ h.1]
  · rw [xud_o _ _ h.1]
theorem zb3_q (h : zYq Y) : zYq (zb3 q Y) := fun f f1 f2 => by
  rw [zb3_o (by omega), zb3_o (by omega), zb3_o (by omega), zb3_o (by omega)]
  exact h f f1 f2
theorem zSm_1 (hf : 0 ≤ f ∧ f < 10) (h : ∀ g : Int, 0 ≤ g → g < 10 → g ≠ f → Y2 (14 + g) = Y (14 + g)) : zSm Y2 = zSm Y - Y (14 + f) + Y2 (14 + f) := by
  unfold zSm
  have z := zsu_1 (f := fun g => Y (14 + g)) (g := fun g => if g = f then Y2 (14 + f) else Y (14 + g)) (t := f) (n := 10) hf.1 hf.2 (fun i hi => if_neg hi)
  have e : zsu (fun g => Y2 (14 + g)) 10 = zsu (fun g => if g = f then Y2 (14 + f) else Y (14 + g)) 10 := zsu_c (fun i i1 i2 => by
    show Y2 (14 + i) = if i = f then Y2 (14 + f) else Y (14 + i)
    by_cases c : i = f
    · rw [if_pos c, c]
    · rw [if_neg c]; exact h i i1 i2 c)
  rw [e, z]
  show _ = zsu (fun g => Y (14 + g)) 10 - Y (14 + f) + Y2 (14 + f)
  have y : (if f = f then Y2 (14 + f) else Y (14 + f)) = Y2 (14 + f) := if_pos rfl
  show zsu (fun g => Y (14 + g)) 10 - Y (14 + f) + (if f = f then Y2 (14 + f) else Y (14 + f)) = _
  rw [y]
theorem zSm_o (h : ∀ g : Int, 0 ≤ g → g < 10 → Y2 (14 + g) = Y (14 + g)) : zSm Y2 = zSm Y := zsu_c (fun i i1 i2 => h i i1 i2)
end MB
/-! JUDGES stand on open ground, not on the same spot -/
def zJt (K : Int → Int) (P : Int × Int × Int × Int) : Prop := (P.1 = -1 ∨ (K P.1 ≠ 1 ∧ K P.1 ≠ 3)) ∧ (P.2.1 = -1 ∨ (K P.2.1 ≠ 1 ∧ K P.2.1 ≠ 3)) ∧ (P.1 ≠ P.2.1 ∨ P.1 = -1)
theorem znw_g {K : Int → Int} {a b c m v : Int} (ha : a = -1 ∨ (K a ≠ 1 ∧ K a ≠ 3)) (hb : a ≠ b ∨ a = -1) : (znw K a b c m v = -1 ∨ (K (znw K a b c m v) ≠ 1 ∧ K (znw K a b c m v) ≠ 3)) ∧ (znw K a b c m v ≠ b ∨ znw K a b c m v = -1) := by
  unfold znw
  by_cases h : a = -1 ∨ m ≤ c
  · rw [if_pos h]; exact ⟨ha, hb⟩
  · rw [if_neg h]
    by_cases h2 : v = 8 ∨ zbe a v = -1 ∨ K (zbe a v) = 1 ∨ K (zbe a v) = 3 ∨ b = zbe a v
    · rw [znW_st h2]; exact ⟨ha, hb⟩
    · rw [znW_go h2]
      exact ⟨Or.inr ⟨fun e => h2 (Or.inr (Or.inr (Or.inl e))), fun e => h2 (Or.inr (Or.inr (Or.inr (Or.inl e))))⟩, Or.inl (fun e => h2 (Or.inr (Or.inr (Or.inr (Or.inr e.symm)))))⟩
theorem zjs_g {K n : Int → Int} {w : Int → Int → Int} {P : Int × Int × Int × Int} (h : zJt K P) : zJt K (zjs K n w P) := by
  obtain ⟨a, b, c, d⟩ := P
  obtain ⟨h1, h2, h3⟩ := h
  have h1 : a = -1 ∨ (K a ≠ 1 ∧ K a ≠ 3) := h1
  have h2 : b = -1 ∨ (K b ≠ 1 ∧ K b ≠ 3) := h2
  have h3 : a ≠ b ∨ a = -1 := h3
  have g1 := znw_g (c := c) (m := n 0) (v := w 0 c) h1 h3
  have g2 := znw_g (a := b) (b := znw K a b c (n 0) (w 0 c)) (c := d) (m := n 1) (v := w 1 d) h2 (by
    rcases g1.2 with e | e
    · exact Or.inl (fun q => e q.symm)
    · by_cases hb : b = -1
      · exact Or.inr hb
      · exact Or.inl (by omega))
  show zJt K (znw K a b c (n 0) (w 0 c), znw K b (znw K a b c (n 0) (w 0 c)) d (n 1) (w 1 d), _, _)
  refine ⟨g1.1, g2.1, ?_⟩
  show znw K a b c (n 0) (w 0 c) ≠ znw K b (znw K a b c (n 0) (w 0 c)) d (n 1) (w 1 d) ∨ znw K a b c (n 0) (w 0 c) = -1
  rcases g2.2 with e | e
  · exact Or.inl (fun q => e q.symm)
  · by_cases q : znw K a b c (n 0) (w 0 c) = -1
    · exact Or.inr q
    · exact Or.inl (by omega)
/-! but for what is counted on the way -/
def zYe (Y Y2 : Int → Int) : Prop := ∀ i : Int, i ≠ 46 → i ≠ 47 → i ≠ 48 → Y i = Y2 i
def zY0 (Y : Int → Int) : Int → Int := xud (xud (xud Y 46 0) 47 0) 48 0
section YE
variable {K n lm L T : Int → Int} {w : Int → Int → Int} {q : zLaw} {Y Y2 : Int → Int} {ah f nt : Int}
theorem zYe.ff (h : zYe Y Y2) (hf : 0 ≤ f ∧ f < 10) : zff K Y f = zff K Y2 f := by
  unfold zff
  rw [h 44 (by decide) (by decide) (by decide), h (14 + f) (by omega) (by omega) (by omega), h (24 + f) (by omega) (by omega) (by omega), h (4 + f) (by omega) (by omega) (by omega)]
theorem zYe.vF (h : zYe Y Y2) (hf : 0 ≤ f ∧ f < 10) {kd hi : Int} : zvF K q Y kd hi f = zvF K q Y2 kd hi f := by
  unfold zvF
  rw [h.ff hf]
theorem zYe.ow (h : zYe Y Y2) (hf : 0 ≤ f ∧ f < 10) : zOw Y f ↔ zOw Y2 f := by
  unfold zOw
  rw [h (14 + f) (by omega) (by omega) (by omega), h (34 + f) (by omega) (by omega) (by omega), h (4 + f) (by omega) (by omega) (by omega)]
theorem zYe.lu (h : zYe Y Y2) {tp : Int} : ∀ m : Nat, m ≤ 10 → zlu K q Y ah tp m = zlu K q Y2 ah tp m
  | 0, _ => rfl
  | m + 1, hm => by
    have ih := h.lu (tp := tp) m (by omega)
    by_cases c : zOw Y (m : Int)
    · rw [zlu_y rfl c, zlu_y rfl ((h.ow (by omega)).mp c), ih]
      refine zins_cg (fun x hx => ?_)
      have z := zlu_mem hx
      have e : ∀ y : Int, 0 ≤ y ∧ y < 10 → zrq K q Y ah tp y = zrq K q Y2 ah tp y := fun y hy => by
        unfold zrq
        rw [h.vF hy]
      rw [e x (by omega), e (m : Int) (by omega)]
    · rw [zlu_n rfl c, zlu_n rfl (fun k => c ((h.ow (by omega)).mpr k)), ih]
theorem zYe.sv (h : zYe Y Y2) (hf : 0 ≤ f ∧ f < 10) : zYe (zsv K q L nt f (Y, T)).1 (zsv K q L nt f (Y2, T)).1 ∧ (zsv K q L nt f (Y, T)).2 = (zsv K q L nt f (Y2, T)).2 := by
  have e4 := h (4 + f) (by omega) (by omega) (by omega)
  have ev := h.vF (K := K) (q := q) (kd := 118) (hi := 3) hf
  obtain ⟨b, hb⟩ : ∃ b, b = zbk K L T (Y (4 + f)) (zvF K q Y 118 3 f).toNat 100 := ⟨_, rfl⟩
  have hb2 : b = zbk K L T (Y2 (4 + f)) (zvF K q Y2 118 3 f).toNat 100 := by rw [← e4, ← ev]; exact hb
  by_cases c : b = -1
  · rw [zsv_none (by rw [← hb]; exact c), zsv_none (by rw [← hb2]; exact c)]
    refine ⟨fun i h1 h2 h3 => ?_, rfl⟩
    show xud (xud Y 46 _) (24 + f) _ i = xud (xud Y2 46 _) (24 + f) _ i
    rw [h (24 + f) (by omega) (by omega) (by omega)]
    exact zud_c (fun _ => by rw [xud_o _ _ h1, xud_o _ _ h1]; exact h i h1 h2 h3)
  · rw [zsv_some hb c, zsv_some hb2 c]
    refine ⟨fun i h1 h2 h3 => ?_, rfl⟩
    show xud (xud (xud (xud Y 48 _) (4 + f) b) (14 + f) _) (34 + f) _ i = xud (xud (xud (xud Y2 48 _) (4 + f) b) (14 + f) _) (34 + f) _ i
    rw [h (14 + f) (by omega) (by omega) (by omega), h (34 + f) (by omega) (by omega) (by omega), h 44 (by decide) (by decide) (by decide)]
    exact zud_c (fun _ => zud_c (fun _ => zud_c (fun _ => by rw [xud_o _ _ h3, xud_o _ _ h3]; exact h i h1 h2 h3)))
theorem zYe.go (h : zYe Y Y2) : ∀ l : List Int, (∀ x, x ∈ l → 0 ≤ x ∧ x < 10) → zYe (zgo K q L nt l (Y, T)).1 (zgo K q L nt l (Y2, T)).1 ∧ (zgo K q L nt l (Y, T)).2 = (zgo K q L nt l (Y2, T)).2
  | [], _ => ⟨h, rfl⟩
  | f :: r, hm => by
    have ih := h.go r (fun x hx => hm x (List.mem_cons_of_mem _ hx))
    have hf := hm f List.mem_cons_self
    obtain ⟨S1, e1⟩ : ∃ S, S = zgo K q L nt r (Y, T) := ⟨_, rfl⟩
    obtain ⟨S2, e2⟩ : ∃ S, S = zgo K q L nt r (Y2, T) := ⟨_, rfl⟩
    show zYe (zsv K q L nt f (zgo K q L nt r (Y, T))).1 (zsv K q L nt f (zgo K q L nt r (Y2, T))).1 ∧ (zsv K q L nt f (zgo K q L nt r (Y, T))).2 = (zsv K q L nt f (zgo K q L nt r (Y2, T))).2
    rw [← e1, ← e2] at ih ⊢
    obtain ⟨A1, T1⟩ := S1
    obtain ⟨A2, T2⟩ := S2
    have i2 : T1 = T2 := ih.2
    subst i2
    exact zYe.sv ih.1 hf
theorem zYe.b3 (h : zYe Y Y2) : zYe (zb3 q Y) (zb3 q Y2) ∧ zcl q Y = zcl q Y2 := by
  have ec : zcl q Y = zcl q Y2 := by
    unfold zcl
    rw [h 44 (by decide) (by decide) (by decide), h 45 (by decide) (by decide) (by decide)]
  refine ⟨fun i h1 h2 h3 => ?_, ec⟩
  unfold zb3
  rw [← ec, h 45 (by decide) (by decide) (by decide)]
  split
  · rw [xud_o _ _ h2, xud_o _ _ h2]
    exact zud_c (fun _ => h i h1 h2 h3)
  · exact zud_c (fun _ => h i h1 h2 h3)
theorem zYe.mB (h : zYe Y Y2) : zYe (zmB K q lm ah Y) (zmB K q lm ah Y2) := by
  have z := h.b3 (q := q)
  have e44 := h 44 (by decide) (by decide) (by decide)
  have eL : zbL K q lm Y = zbL K q lm Y2 := by
    funext t
    unfold zbL
    rw [e44, z.2, zLy_J (J2 := zb3 q Y) (J := zb3 q Y2) (z.1 0 (by decide) (by decide) (by decide)) (z.1 1 (by decide) (by decide) (by decide))]
  have el : zlu K q (zb3 q Y) ah 1000 10 = zlu K q (zb3 q Y2) ah 1000 10 := z.1.lu 10 (by decide)
  have g := z.1.go (K := K) (q := q) (L := zbL K q lm Y2) (nt := zni q (Y2 44)) (T := fun _ => 0) (zlu K q (zb3 q Y2) ah 1000 10) (fun x hx => zlu_in hx (by decide))
  intro i h1 h2 h3
  unfold zmB zb4
  rw [e44, eL, el]
  exact zud_c (fun _ => g.1 i h1 h2 h3)
theorem zYe.m1 (h : zYe Y Y2) : zYe (zm1 K n w Y) (zm1 K n w Y2) := by
  have e : zY4 Y = zY4 Y2 := by
    show (Y 0, Y 1, Y 2, Y 3) = (Y2 0, Y2 1, Y2 2, Y2 3)
    rw [h 0 (by decide) (by decide) (by decide), h 1 (by decide) (by decide) (by decide), h 2 (by decide) (by decide) (by decide), h 3 (by decide) (by decide) (by decide)]
  intro i h1 h2 h3
  unfold zm1 zYj
  rw [e]
  exact zud_c (fun _ => zud_c (fun _ => zud_c (fun _ => zud_c (fun _ => h i h1 h2 h3))))
theorem zYe.mi (h : zYe Y Y2) : zYe (zmi K q lm n w ah Y) (zmi K q lm n w ah Y2) := by
  rw [zmi_B, zmi_B]
  exact h.m1.mB
theorem zYe.mn (h : zYe Y Y2) : ∀ k : Nat, zYe (zmn K q lm n w ah k Y) (zmn K q lm n w ah k Y2)
  | 0 => h
  | k + 1 => by
    have ih := h.mn k
    have e44 := ih 44 (by decide) (by decide) (by decide)
    unfold zmn
    rw [e44]
    split
    · exact ih.mi
    · exact ih
theorem zYe.sm (h : zYe Y Y2) : zSm Y = zSm Y2 := zSm_o (fun g g1 g2 => h _ (by omega) (by omega) (by omega))
theorem zYe.yq (h : zYe Y Y2) (hq : zYq Y2) : zYq Y := fun f f1 f2 => by
  rw [h (4 + f) (by omega) (by omega) (by omega), h (14 + f) (by omega) (by omega) (by omega), h (24 + f) (by omega) (by omega) (by omega), h (34 + f) (by omega) (by omega) (by omega)]
  exact hq f f1 f2
theorem zmn_q (h : zYq Y) : ∀ k : Nat, zYq (zmn K q lm n w ah k Y)
  | 0 => h
  | k + 1 => by
    have ih := zmn_q h k
    unfold zmn
    split
    · exact zmi_q ih
    · exact ih
theorem zmn_g (h : zJt K (zY4 Y)) : ∀ k : Nat, zJt K (zY4 (zmn K q lm n w ah k Y))
  | 0 => h
  | k + 1 => by
    have ih := zmn_g h k
    unfold zmn
    split
    · rw [zmi_4]; exact zjs_g ih
    · exact ih
theorem zmn_ok (h : zok (zY4 Y)) : ∀ k : Nat, zok (zY4 (zmn K q lm n w ah k Y))
  | 0 => h
  | k + 1 => by
    have ih := zmn_ok h k
    unfold zmn
    split
    · exact zmi_ok ih
    · exact ih
end YE
/-! ===== sets of ten as bits ===== -/
def zp2 (f : Int) : Int := if f = 0 then 1 else if f = 1 then 2 else if f = 2 then 4 else if f = 3 then 8 else if f = 4 then 16 else if f = 5 then 32 else if f = 6 then 64 else if f = 7 then 128 else if f = 8 then 256 else 512
theorem xsh_z {a g : Int} (hg : 0 ≤ g ∧ g < 10) : xsh a g = a / zp2 g := by
  rcases (by omega : g = 0 ∨ g = 1 ∨ g = 2 ∨ g = 3 ∨ g = 4 ∨ g = 5 ∨ g = 6 ∨ g = 7 ∨ g = 8 ∨ g = 9) with rfl | rfl | rfl | rfl | rfl | rfl | rfl | rfl | rfl | rfl <;> rfl
def zbo (a f : Int) : Int := if a / zp2 f % 2 = 1 then a else a + zp2 f
def zbn (a f : Int) : Int := if a / zp2 f % 2 = 1 then a - zp2 f else a
theorem zbo_s {a f : Int} (ha : 0 ≤ a ∧ a < 1024) (hf : 0 ≤ f ∧ f < 10) : (0 ≤ zbo a f ∧ zbo a f < 1024) ∧ xsh (zbo a f) f % 2 = 1 := by
  rw [xsh_z hf]
  unfold zbo
  rcases (by omega : f = 0 ∨ f = 1 ∨ f = 2 ∨ f = 3 ∨ f = 4 ∨ f = 5 ∨ f = 6 ∨ f = 7 ∨ f = 8 ∨ f = 9) with rfl | rfl | rfl | rfl | rfl | rfl | rfl | rfl | rfl | rfl
  · rw [show zp2 0 = 1 from by decide]; split <;> omega
  · rw [show zp2 1 = 2 from by decide]; split <;> omega
  · rw [show zp2 2 = 4 from by decide]; split <;> omega
  · rw [show zp2 3 = 8 from by decide]; split <;> omega
  · rw [show zp2 4 = 16 from by decide]; split <;> omega
  · rw [show zp2 5 = 32 from by decide]; split <;> omega
  · rw [show zp2 6 = 64 from by decide]; split <;> omega
  · rw [show zp2 7 = 128 from by decide]; split <;> omega
  · rw [show zp2 8 = 256 from by decide]; split <;> omega
  · rw [show zp2 9 = 512 from by decide]; split <;> omega
theorem zbn_s {a f : Int} (ha : 0 ≤ a ∧ a < 1024) (hf : 0 ≤ f ∧ f < 10) : (0 ≤ zbn a f ∧ zbn a f < 1024) ∧ xsh (zbn a f) f % 2 = 0 := by
  rw [xsh_z hf]
  unfold zbn
  rcases (by omega : f = 0 ∨ f = 1 ∨ f = 2 ∨ f = 3 ∨ f = 4 ∨ f = 5 ∨ f = 6 ∨ f = 7 ∨ f = 8 ∨ f = 9) with rfl | rfl | rfl | rfl | rfl | rfl | rfl | rfl | rfl | rfl
  · rw [show zp2 0 = 1 from by decide]; split <;> omega
  · rw [show zp2 1 = 2 from by decide]; split <;> omega
  · rw [show zp2 2 = 4 from by decide]; split <;> omega
  · rw [show zp2 3 = 8 from by decide]; split <;> omega
  · rw [show zp2 4 = 16 from by decide]; split <;> omega
  · rw [show zp2 5 = 32 from by decide]; split <;> omega
  · rw [show zp2 6 = 64 from by decide]; split <;> omega
  · rw [show zp2 7 = 128 from by decide]; split <;> omega
  · rw [show zp2 8 = 256 from by decide]; split <;> omega
  · rw [show zp2 9 = 512 from by decide]; split <;> omega
theorem zbo_o {a f g : Int} (hf : 0 ≤ f ∧ f < 10) (hg : 0 ≤ g ∧ g < 10) (h : g ≠ f) : xsh (zbo a f) g % 2 = xsh a g % 2 ∧ xsh (zbn a f) g % 2 = xsh a g % 2 := by
  rw [xsh_z hg, xsh_z hg, xsh_z hg]
  unfold zbo zbn
  have e0 : zp2 0 = 1 := by decide
  have e1 : zp2 1 = 2 := by decide
  have e2 : zp2 2 = 4 := by decide
  have e3 : zp2 3 = 8 := by decide
  have e4 : zp2 4 = 16 := by decide
  have e5 : zp2 5 = 32 := by decide
  have e6 : zp2 6 = 64 := by decide
  have e7 : zp2 7 = 128 := by decide
  have e8 : zp2 8 = 256 := by decide
  have e9 : zp2 9 = 512 := by decide
  rcases (by omega : f = 0 ∨ f = 1 ∨ f = 2 ∨ f = 3 ∨ f = 4 ∨ f = 5 ∨ f = 6 ∨ f = 7 ∨ f = 8 ∨ f = 9) with rfl | rfl | rfl | rfl | rfl | rfl | rfl | rfl | rfl | rfl <;>
  rcases (by omega : g = 0 ∨ g = 1 ∨ g = 2 ∨ g = 3 ∨ g = 4 ∨ g = 5 ∨ g = 6 ∨ g = 7 ∨ g = 8 ∨ g = 9) with rfl | rfl | rfl | rfl | rfl | rfl | rfl | rfl | rfl | rfl <;>
  first
    | exact absurd rfl h
    | (simp only [e0, e1, e2, e3, e4, e5, e6, e7, e8, e9]; constructor <;> split <;> omega)
theorem zbo_d : ∀ a : Fin 1024, ∀ f : Fin 10, xJ ((a.val : Nat) : Int) ||| (xJ 1 <<< (xJ ((f.val : Nat) : Int) &&& 31)) = xJ (zbo ((a.val : Nat) : Int) ((f.val : Nat) : Int)) := by decide +kernel
theorem zbn_d : ∀ a : Fin 1024, ∀ f : Fin 10, xJ ((a.val : Nat) : Int) &&& ((xJ 1 <<< (xJ ((f.val : Nat) : Int) &&& 31)) ^^^ xJ (-1)) = xJ (zbn ((a.val : Nat) : Int) ((f.val : Nat) : Int)) := by decide +kernel
theorem zbo_j {a f v x : Int} (ha : 0 ≤ a ∧ a < 1024) (hf : 0 ≤ f ∧ f < 10) (hv : xJ v = xJ 1 <<< (xJ f &&& 31)) (rx : xR x) (hx : xJ x = xJ a ||| xJ v) : x = zbo a f := by
  have z := zbo_d ⟨a.toNat, by omega⟩ ⟨f.toNat, by omega⟩
  have ea : ((a.toNat : Nat) : Int) = a := by omega
  have ef : ((f.toNat : Nat) : Int) = f := by omega
  have z : xJ ((a.toNat : Nat) : Int) ||| (xJ 1 <<< (xJ ((f.toNat : Nat) : Int) &&& 31)) = xJ (zbo ((a.toNat : Nat) : Int) ((f.toNat : Nat) : Int)) := z
  rw [ea, ef, ← hv, ← hx] at z
  have r := zbo_s ha hf
  exact (xJ_eq rx (by omega)).mp z
theorem zbn_j {a f v y x : Int} (ha : 0 ≤ a ∧ a < 1024) (hf : 0 ≤ f ∧ f < 10) (hv : xJ v = xJ 1 <<< (xJ f &&& 31)) (hy : xJ y = xJ v ^^^ xJ (-1)) (rx : xR x) (hx : xJ x = xJ a &&& xJ y) : x = zbn a f := by
  have z := zbn_d ⟨a.toNat, by omega⟩ ⟨f.toNat, by omega⟩
  have ea : ((a.toNat : Nat) : Int) = a := by omega
  have ef : ((f.toNat : Nat) : Int) = f := by omega
  have z : xJ ((a.toNat : Nat) : Int) &&& ((xJ 1 <<< (xJ ((f.toNat : Nat) : Int) &&& 31)) ^^^ xJ (-1)) = xJ (zbn ((a.toNat : Nat) : Int) ((f.toNat : Nat) : Int)) := z
  rw [ea, ef, ← hv, ← hy, ← hx] at z
  have r := zbn_s ha hf
  exact (xJ_eq rx (by omega)).mp z
/-! ===== a day by the reference's row N ===== -/
def zYN (N : Int → Int) (a c s : Int) : Int → Int := fun i => if i < 0 then 0 else if i < 2 then zrj N i else if i < 4 then N i else if i < 14 then (if xsh (N 35) (i - 4) % 2 = 1 then N i else -1) else if i < 24 then (if xsh (N 35) (i - 14) % 2 = 1 then N i else 0) else if i < 34 then (if xsh (N 35) (i - 24) % 2 = 1 then N i else 0) else if i < 44 then (if xsh (N 35) (i - 34) % 2 = 1 then xsh (N 36) (i - 34) % 2 else 0) else if i = 44 then N 37 else if i = 45 then N 38 else if i = 46 then a else if i = 47 then c else if i = 48 then s else 0
def zYr (σ : xS) : Int → Int := zYN (σ 269) (σ 268 42) (σ 268 43) (σ 268 44)
section YN
variable {N N2 : Int → Int} {a c s f v : Int}
theorem zYN_J (h : 0 ≤ f ∧ f < 2) : zYN N a c s f = zrj N f := by
  unfold zYN
  rw [if_neg (by omega), if_pos (by omega)]
theorem zYN_S (h : 2 ≤ f ∧ f < 4) : zYN N a c s f = N f := by
  unfold zYN
  rw [if_neg (by omega), if_neg (by omega), if_pos (by omega)]
theorem zYN_F (h : 0 ≤ f ∧ f < 10) : zYN N a c s (4 + f) = if xsh (N 35) f % 2 = 1 then N (4 + f) else -1 := by
  unfold zYN
  rw [if_neg (by omega), if_neg (by omega), if_neg (by omega), if_pos (by omega), show 4 + f - 4 = f from by omega]
theorem zYN_O (h : 0 ≤ f ∧ f < 10) : zYN N a c s (14 + f) = if xsh (N 35) f % 2 = 1 then N (14 + f) else 0 := by
  unfold zYN
  rw [if_neg (by omega), if_neg (by omega), if_neg (by omega), if_neg (by omega), if_pos (by omega), show 14 + f - 14 = f from by omega]
theorem zYN_A (h : 0 ≤ f ∧ f < 10) : zYN N a c s (24 + f) = if xsh (N 35) f % 2 = 1 then N (24 + f) else 0 := by
  unfold zYN
  rw [if_neg (by omega), if_neg (by omega), if_neg (by omega), if_neg (by omega), if_neg (by omega), if_pos (by omega), show 24 + f - 24 = f from by omega]
theorem zYN_D (h : 0 ≤ f ∧ f < 10) : zYN N a c s (34 + f) = if xsh (N 35) f % 2 = 1 then xsh (N 36) f % 2 else 0 := by
  unfold zYN
  rw [if_neg (by omega), if_neg (by omega), if_neg (by omega), if_neg (by omega), if_neg (by omega), if_neg (by omega), if_pos (by omega), show 34 + f - 34 = f from by omega]
theorem zYN_44 : zYN N a c s 44 = N 37 := rfl
theorem zYN_45 : zYN N a c s 45 = N 38 := rfl
theorem zYN_46 : zYN N a c s 46 = a := rfl
theorem zYN_47 : zYN N a c s 47 = c := rfl
theorem zYN_48 : zYN N a c s 48 = s := rfl
/-- two rows with the same numbers but one -/
theorem zYN_c {i0 : Int} {Y : Int → Int} (h : ∀ i : Int, i ≠ i0 → zYN N2 a c s i = Y i) (h0 : zYN N2 a c s i0 = v) : zYN N2 a c s = xud Y i0 v := by
  funext i
  by_cases e : i = i0
  · subst e; rw [xud_s]; exact h0
  · rw [xud_o _ _ e]; exact h i e
theorem zrj_c {i : Int} (h : N2 i = N i) (h34 : N2 34 = N 34) : zrj N2 i = zrj N i := by
  unfold zrj
  rw [h, h34]
theorem zYN_u {k i : Int} (hk : k ≠ 34 ∧ k ≠ 35 ∧ k ≠ 36) (hi : i < 34 → i ≠ k) (h1 : i = 44 → k ≠ 37) (h2 : i = 45 → k ≠ 38) : zYN (xud N k v) a c s i = zYN N a c s i := by
  unfold zYN
  rw [xud_o N _ (show (35 : Int) ≠ k from by omega), xud_o N _ (show (36 : Int) ≠ k from by omega)]
  by_cases c0 : i < 0
  · rw [if_pos c0, if_pos c0]
  rw [if_neg c0, if_neg c0]
  by_cases c1 : i < 2
  · rw [if_pos c1, if_pos c1]
    exact zrj_c (xud_o N _ (by omega)) (xud_o N _ (by omega))
  rw [if_neg c1, if_neg c1]
  by_cases c2 : i < 34
  · rw [xud_o N _ (show i ≠ k from hi c2)]
    simp only [if_pos c2]
  simp only [if_neg (show ¬ i < 4 from by omega), if_neg (show ¬ i < 14 from by omega), if_neg (show ¬ i < 24 from by omega), if_neg (show ¬ i < 34 from by omega)]
  by_cases c3 : i < 44
  · rw [if_pos c3, if_pos c3]
  rw [if_neg c3, if_neg c3]
  by_cases c5 : i = 44
  · rw [if_pos c5, if_pos c5, xud_o N _ (Ne.symm (h1 c5))]
  rw [if_neg c5, if_neg c5]
  by_cases c6 : i = 45
  · rw [if_pos c6, if_pos c6, xud_o N _ (Ne.symm (h2 c6))]
  rw [if_neg c6, if_neg c6]
theorem zYN_uF (h : 0 ≤ f ∧ f < 10) (ht : xsh (N 35) f % 2 = 1) : zYN (xud N (4 + f) v) a c s = xud (zYN N a c s) (4 + f) v := zYN_c (fun i hi => zYN_u (by omega) (fun _ => hi) (by omega) (by omega)) (by rw [zYN_F h, xud_o N _ (show (35 : Int) ≠ 4 + f from by omega), if_pos ht, xud_s])
theorem zYN_uO (h : 0 ≤ f ∧ f < 10) (ht : xsh (N 35) f % 2 = 1) : zYN (xud N (14 + f) v) a c s = xud (zYN N a c s) (14 + f) v := zYN_c (fun i hi => zYN_u (by omega) (fun _ => hi) (by omega) (by omega)) (by rw [zYN_O h, xud_o N _ (show (35 : Int) ≠ 14 + f from by omega), if_pos ht, xud_s])
theorem zYN_uA (h : 0 ≤ f ∧ f < 10) (ht : xsh (N 35) f % 2 = 1) : zYN (xud N (24 + f) v) a c s = xud (zYN N a c s) (24 + f) v := zYN_c (fun i hi => zYN_u (by omega) (fun _ => hi) (by omega) (by omega)) (by rw [zYN_A h, xud_o N _ (show (35 : Int) ≠ 24 + f from by omega), if_pos ht, xud_s])
theorem zYN_u37 : zYN (xud N 37 v) a c s = xud (zYN N a c s) 44 v := zYN_c (fun i hi => zYN_u (by omega) (by omega) (fun e => absurd e hi) (by omega)) (by rw [zYN_44, xud_s])
theorem zYN_u38 : zYN (xud N 38 v) a c s = xud (zYN N a c s) 45 v := zYN_c (fun i hi => zYN_u (by omega) (by omega) (by omega) (fun e => absurd e hi)) (by rw [zYN_45, xud_s])
theorem zYN_uD (h : 0 ≤ f ∧ f < 10) (ht : xsh (N 35) f % 2 = 1) (hb : 0 ≤ N 36 ∧ N 36 < 1024) : zYN (xud N 36 (zbo (N 36) f)) a c s = xud (zYN N a c s) (34 + f) 1 := by
  have z := zbo_s hb h
  refine zYN_c (fun i hi => ?_) (by rw [zYN_D h, xud_o N _ (show (35 : Int) ≠ 36 from by decide), if_pos ht, xud_s]; exact z.2)
  unfold zYN
  rw [xud_o N _ (show (35 : Int) ≠ 36 from by decide), xud_s, xud_o N _ (show (37 : Int) ≠ 36 from by decide), xud_o N _ (show (38 : Int) ≠ 36 from by decide)]
  by_cases c0 : i < 0
  · rw [if_pos c0, if_pos c0]
  rw [if_neg c0, if_neg c0]
  by_cases c1 : i < 2
  · rw [if_pos c1, if_pos c1]
    exact zrj_c (xud_o N _ (by omega)) (xud_o N _ (by omega))
  rw [if_neg c1, if_neg c1]
  by_cases c2 : i < 34
  · rw [xud_o N _ (show i ≠ 36 from by omega), if_pos (show i < 44 from by omega), if_pos (show i < 44 from by omega)]
    by_cases d1 : i < 4
    · rw [if_pos d1, if_pos d1]
    rw [if_neg d1, if_neg d1]
    by_cases d2 : i < 14
    · rw [if_pos d2, if_pos d2]
    rw [if_neg d2, if_neg d2]
    by_cases d3 : i < 24
    · rw [if_pos d3, if_pos d3]
    rw [if_neg d3, if_neg d3, if_pos c2, if_pos c2]
  simp only [if_neg (show ¬ i < 4 from by omega), if_neg (show ¬ i < 14 from by omega), if_neg (show ¬ i < 24 from by omega), if_neg (show ¬ i < 34 from by omega)]
  by_cases c3 : i < 44
  · rw [if_pos c3, if_pos c3, (zbo_o h (show 0 ≤ i - 34 ∧ i - 34 < 10 from by omega) (by omega)).1]
  rw [if_neg c3, if_neg c3]
theorem zYN_ua {a2 : Int} : zYN N a2 c s = xud (zYN N a c s) 46 a2 := by
  funext i
  unfold zYN xud
  by_cases e : i = 46
  · subst e; rfl
  · rw [if_neg e]
    simp only [if_neg e]
theorem zYN_uc {c2 : Int} : zYN N a c2 s = xud (zYN N a c s) 47 c2 := by
  funext i
  unfold zYN xud
  by_cases e : i = 47
  · subst e; rfl
  · rw [if_neg e]
    simp only [if_neg e]
theorem zYN_us {s2 : Int} : zYN N a c s2 = xud (zYN N a c s) 48 s2 := by
  funext i
  unfold zYN xud
  by_cases e : i = 48
  · subst e; rfl
  · rw [if_neg e]
    simp only [if_neg e]
end YN
section FRW
variable {σ : xS} {K : Int → Int} {f : Int}
theorem zOw_r (h : 0 ≤ f ∧ f < 10) : zOw (zYr σ) f ↔ ((xsh (σ 269 35) f % 2 = 1 ∧ σ 269 (4 + f) ≠ -1) ∧ 0 < σ 269 (14 + f) ∧ xsh (σ 269 36) f % 2 = 0) := by
  unfold zOw zYr
  rw [zYN_F h, zYN_O h, zYN_D h]
  by_cases c : xsh (σ 269 35) f % 2 = 1
  · rw [if_pos c, if_pos c, if_pos c]
    exact ⟨fun z => ⟨⟨c, z.1⟩, z.2⟩, fun z => ⟨z.1.2, z.2⟩⟩
  · rw [if_neg c, if_neg c, if_neg c]
    exact ⟨fun z => absurd rfl z.1, fun z => absurd z.1.1 c⟩
theorem zff_r (h : 0 ≤ f ∧ f < 10) (ht : xsh (σ 269 35) f % 2 = 1) : zff K (zYr σ) f = zfF (σ 269 37) f (σ 269 (14 + f)) (σ 269 (24 + f)) (if K (σ 269 (4 + f)) = 2 then 1 else 0) := by
  unfold zff zYr
  rw [zYN_44, zYN_O h, zYN_A h, zYN_F h, if_pos ht, if_pos ht, if_pos ht]
end FRW
theorem zYN_js {N N2 : Int → Int} {a c s : Int} {P : Int × Int × Int × Int} (h : zrt N2 = P) (e : ∀ i : Int, 4 ≤ i → N2 i = N i) : zYN N2 a c s = zYj (zYN N a c s) P := by
  subst h
  funext i
  show zYN N2 a c s i = xud (xud (xud (xud (zYN N a c s) 0 (zrj N2 0)) 1 (zrj N2 1)) 2 (N2 2)) 3 (N2 3) i
  by_cases h3 : i = 3
  · subst h3; rw [xud_s]; rfl
  rw [xud_o _ _ h3]
  by_cases h2 : i = 2
  · subst h2; rw [xud_s]; rfl
  rw [xud_o _ _ h2]
  by_cases h1 : i = 1
  · subst h1; rw [xud_s]; rfl
  rw [xud_o _ _ h1]
  by_cases h0 : i = 0
  · subst h0; rw [xud_s]; rfl
  rw [xud_o _ _ h0]
  unfold zYN
  rw [e 35 (by decide), e 36 (by decide), e 37 (by decide), e 38 (by decide)]
  by_cases c0 : i < 0
  · rw [if_pos c0, if_pos c0]
  · rw [if_neg c0, if_neg c0, if_neg (show ¬ i < 2 from by omega), if_neg (show ¬ i < 2 from by omega), if_neg (show ¬ i < 4 from by omega), if_neg (show ¬ i < 4 from by omega), e i (by omega)]
theorem zYr_f {σ τ : xS} (h : τ 269 = σ 269) (h2 : τ 268 = σ 268) : zYr τ = zYr σ := by
  unfold zYr
  rw [h, h2]
theorem zdf_c {x y : Int} (h : x = zdf 1000000000 y) : (y = 9 ∧ x = 1000000000) ∨ (y ≠ 9 ∧ x = y) := by
  unfold zdf at h
  by_cases c : y = 9
  · rw [if_pos c] at h; exact Or.inl ⟨c, h⟩
  · rw [if_neg c] at h; exact Or.inr ⟨c, h⟩
theorem zbk_s {K L T : Int → Int} {a i b r : Int} {v n : Nat} (hi : i = (n : Int)) (hb : b = zbk K L T a v n) (h : ((0 < L i ∧ T i = 0 ∧ zds K a v i ≠ 9) ∧ (b = -1 ∨ zds K a v i < zds K a v b) ∧ r = i) ∨ (((0 < L i ∧ T i = 0 ∧ zds K a v i ≠ 9) → ¬ (b = -1 ∨ zds K a v i < zds K a v b)) ∧ r = b)) : r = zbk K L T a v (n + 1) := by
  subst hi; subst hb
  show r = if (0 < L (n : Int) ∧ T (n : Int) = 0 ∧ zds K a v (n : Int) ≠ 9) ∧ (zbk K L T a v n = -1 ∨ zds K a v (n : Int) < zds K a v (zbk K L T a v n)) then (n : Int) else zbk K L T a v n
  rcases h with h | h
  · rw [if_pos ⟨h.1, h.2.1⟩]; exact h.2.2
  · rw [if_neg (fun c => h.1 c.1 c.2)]; exact h.2
theorem zbk_9 {K L T : Int → Int} {a : Int} {v n : Nat} : zbk K L T a v n = -1 ∨ zbc2 K L T a v (zbk K L T a v n) := by
  rcases zbk_c K L T a v n with h | h
  · exact Or.inl h.1
  · exact Or.inr h.2.1
section MR
variable {K n : Int → Int} {w : Int → Int → Int} {N Y : Int → Int} {a c s a2 c2 s2 : Int}
theorem zYN_q (h : zYq (zYN N a c s)) : zYq (zYN N a2 c2 s2) := fun f f1 f2 => by
  have z := h f f1 f2
  rw [zYN_F ⟨f1, f2⟩, zYN_O ⟨f1, f2⟩, zYN_A ⟨f1, f2⟩, zYN_D ⟨f1, f2⟩] at z ⊢
  exact z
theorem zm1_q (h : zYq Y) : zYq (zm1 K n w Y) := fun f f1 f2 => by
  rw [zm1_o (by omega), zm1_o (by omega), zm1_o (by omega), zm1_o (by omega)]
  exact h f f1 f2
theorem zSm_m1 : zSm (zm1 K n w Y) = zSm Y := zSm_o (fun g g1 g2 => zm1_o (by omega))
theorem zJg_G (h : zJt K (zrt N)) (hn : ∀ j : Int, 0 ≤ j → j < 2 → 0 ≤ N j) : ∀ j : Int, 0 ≤ j → j < 2 → xsh (N 34) j % 2 = 1 → K (N j) ≠ 1 := fun j j1 j2 c => by
  rcases (by omega : j = 0 ∨ j = 1) with rfl | rfl
  · have z : zrj N 0 = -1 ∨ (K (zrj N 0) ≠ 1 ∧ K (zrj N 0) ≠ 3) := h.1
    rw [zrj_p c] at z
    have := hn 0 (by decide) (by decide)
    omega
  · have z : zrj N 1 = -1 ∨ (K (zrj N 1) ≠ 1 ∧ K (zrj N 1) ≠ 3) := h.2.1
    rw [zrj_p c] at z
    have := hn 1 (by decide) (by decide)
    omega
theorem zJg_N (h : zJt K (zrt N)) : zrj N 0 ≠ zrj N 1 ∨ zrj N 0 = -1 := h.2.2
end MR
/-! ===== what a walk's text comes to does not hang on what stood there before ===== -/
def zCu (u z : Int) (K N : Int → Int) : Prop := ∀ j : Int, 0 ≤ j → j < z → N j = u * K j ∧ 0 ≤ K j ∧ K j ≤ 4
def zSb (z : Int) (st : List (Int × Int × Int)) : Prop := ∀ q ∈ st, 0 ≤ q.2.1 ∧ q.2.1 ≤ z ∧ 1 ≤ q.2.2
section WY
variable {f : Int → Int} {n u p z z2 b m v v2 t p1 p2 c s : Int} {K K2 N N2 : Int → Int} {Z : Int × Int × (Int → Int)} {st r : List (Int × Int × Int)}
theorem zSb.up (h : zSb z st) (hz : z ≤ z2) : zSb z2 st := fun q hq => by have y := h q hq; omega
theorem zSb.cons (h : zSb z st) (hz : 0 ≤ z) (ht : 1 ≤ t) : zSb z ((p, z, t) :: st) := fun q hq => (List.mem_cons.mp hq).elim (fun e => by subst e; exact ⟨hz, Int.le_refl _, ht⟩) (fun e => h q e)
theorem zSb.tl (h : zSb z ((s, b, t) :: r)) : zSb z r := fun q hq => h q (List.mem_cons_of_mem _ hq)
theorem zSb.hd (h : zSb z ((s, b, t) :: r)) : 0 ≤ b ∧ b ≤ z ∧ 1 ≤ t := h (s, b, t) List.mem_cons_self
theorem zCu_step (h : zCu u z K N) (hv : 0 ≤ v ∧ v ≤ 4) (h2 : v2 = u * v) : zCu u (z + t) (wrep (xud K z v) z (z + 1) (t - 1)) (wrep (xud N z v2) z (z + 1) (t - 1)) := fun j j1 j2 => by
  unfold wrep
  by_cases a : z + 1 ≤ j ∧ j < z + 1 + (t - 1)
  · rw [if_pos a, if_pos a, show z + 1 - z = 1 from by omega, Int.emod_one, Int.add_zero, xud_s, xud_s]
    exact ⟨h2, hv⟩
  · rw [if_neg a, if_neg a]
    by_cases e : j = z
    · rw [e, xud_s, xud_s]
      exact ⟨h2, hv⟩
    · rw [xud_o _ _ e, xud_o _ _ e]
      exact h j j1 (by omega)
theorem zCu_rep (h : zCu u z K N) (hb : 0 ≤ b ∧ b ≤ z) (hm : b = z → m ≤ 0) : zCu u (z + m) (wrep K b z m) (wrep N b z m) := fun j j1 j2 => by
  unfold wrep
  by_cases a : z ≤ j ∧ j < z + m
  · rw [if_pos a, if_pos a]
    have q := Int.emod_nonneg (j - b) (show z - b ≠ 0 from by omega)
    have q2 := Int.emod_lt_of_pos (j - b) (show 0 < z - b from by omega)
    exact h _ (by omega) (by omega)
  · rw [if_neg a, if_neg a]
    exact h j j1 (by omega)
theorem zmul_0 (ht : 1 ≤ t) (hb : b ≤ z) : 0 ≤ (t - 1) * (z - b) ∧ (b = z → (t - 1) * (z - b) ≤ 0) := ⟨Int.mul_nonneg (by omega) (by omega), fun e => by rw [e, Int.sub_self, Int.mul_zero]; exact Int.le_refl _⟩
theorem zws_c {f : Int → Int} {n u : Int} : ∀ (k : Nat) (m : Bool) (p z : Int) (K K2 : Int → Int) (st : List (Int × Int × Int)), 0 ≤ z → zCu u z K K2 → zSb z st → zCu u (zws f n 1 k m p z K st).2.1 (zws f n 1 k m p z K st).2.2 (zws f n u k m p z K2 st).2.2
  | 0, _, _, _, _, _, _, _, h, _ => h
  | k + 1, true, p, z, K, K2, st, hz, h, hs => by
    have w := wst_cs (zch f n (wp1 f n p))
    have t := wtm_cs (zch f n p)
    unfold zws
    split
    · split
      · exact h
      · exact zws_c k _ _ _ _ _ _ hz h (hs.cons hz (by omega))
    split
    · exact h
    split
    · exact h
    · exact zws_c k _ _ _ _ _ _ (by omega) (zCu_step h (by omega) (by rw [Int.one_mul])) (hs.up (by omega))
  | k + 1, false, p, z, K, K2, [], hz, h, hs => by
    unfold zws
    split
    · exact zws_c k _ _ _ _ _ _ hz h hs
    · exact h
  | k + 1, false, p, z, K, K2, (s, b, t) :: r, hz, h, hs => by
    have y := hs.hd
    have y2 := zmul_0 y.2.2 y.2.1
    unfold zws
    split
    · split
      · exact h
      · exact zws_c k _ _ _ _ _ _ (by omega) (zCu_rep h ⟨y.1, y.2.1⟩ y2.2) (hs.tl.up (by omega))
    · exact zws_c k _ _ _ _ _ _ hz h hs
/-- the reference's reading: its bytes are twice the steps -/
def zWY (f : Int → Int) (n : Int) (Z : Int × Int × (Int → Int)) (m : Bool) (p z : Int) (N : Int → Int) (st : List (Int × Int × Int)) : Prop := ∃ K, zWS f n 1 Z m p z K st ∧ 0 ≤ z ∧ zCu 2 z K N ∧ zSb z st
theorem zWY.x {m : Bool} (h : zWY f n Z m p z N st) : zWX f n Z m p z st := h.imp (fun _ q => q.1)
theorem zWY.new (f : Int → Int) (n : Int) (K N : Int → Int) : zWY f n (zws f n 1 (2 * n + 1).toNat true 0 0 K []) true 0 0 N [] := ⟨K, zWS.new f n 1 0 K, Int.le_refl _, fun j j1 j2 => by omega, fun q hq => by cases hq⟩
theorem zWY.open_ (h : zWY f n Z true p z N st) (hp : p ≤ n) (h1 : p1 = wp1 f n p) (ht : t = wtm (zch f n p)) (hc : zch f n p1 = 40) (hl : st.length < 2) (h2 : p2 = p1 + 1) : zWY f n Z true p2 z N ((p, z, t) :: st) := by
  obtain ⟨K, k1, k2, k3, k4⟩ := h
  have y := wtm_cs (zch f n p)
  exact ⟨K, k1.open_ hp h1 ht hc hl h2, k2, k3, k4.cons k2 (by omega)⟩
theorem zWY.step (h : zWY f n Z true p z N st) (hp : p ≤ n) (h1 : p1 = wp1 f n p) (ht : t = wtm (zch f n p)) (hc : zch f n p1 ≠ 40) (hs : wst (zch f n p1) ≠ -1) (h6 : z + t ≤ 60) (h2 : p2 = p1 + 1) (hz : z2 = z + t) (hN : N2 = wrep (xud N z (2 * wst (zch f n p1))) z (z + 1) (t - 1)) : zWY f n Z false p2 z2 N2 st := by
  obtain ⟨K, k1, k2, k3, k4⟩ := h
  have y := wtm_cs (zch f n p)
  have w := wst_cs (zch f n p1)
  subst hN; subst hz
  exact ⟨_, k1.step hp h1 ht hc hs h6 h2 rfl rfl, by omega, zCu_step k3 (by omega) (by rw [Int.one_mul]), k4.up (by omega)⟩
theorem zWY.pop (h : zWY f n Z false p z N ((s, b, t) :: r)) (hp : p ≤ n) (hc : zch f n p = 41) (h6 : z + (t - 1) * (z - b) ≤ 60) (h2 : p2 = p + 1) (hz : z2 = z + (t - 1) * (z - b)) (hN : N2 = wrep N b z ((t - 1) * (z - b))) : zWY f n Z false p2 z2 N2 r := by
  obtain ⟨K, k1, k2, k3, k4⟩ := h
  have y := k4.hd
  have y2 := zmul_0 y.2.2 y.2.1
  subst hN; subst hz
  exact ⟨_, k1.pop hp hc h6 h2 rfl rfl, by omega, zCu_rep k3 ⟨y.1, y.2.1⟩ y2.2, k4.tl.up (by omega)⟩
theorem zWY.fin0 (h : zWY f n Z false p z N st) (hl : st.length = 0) (hp : p = n) : Z.1 = 0 ∧ Z.2.1 = z ∧ zCu 2 z Z.2.2 N := by
  obtain ⟨K, k1, k2, k3, k4⟩ := h
  have e := k1.fin0 hl hp
  rw [e]
  exact ⟨rfl, rfl, k3⟩
theorem zWY.more0 (h : zWY f n Z false p z N st) (hl : st.length = 0) (hp : p < n) : zWY f n Z true p z N st := h.imp (fun _ q => ⟨q.1.more0 hl hp, q.2⟩)
theorem zWY.moreN (h : zWY f n Z false p z N st) (hl : 0 < st.length) (hp : p ≤ n) (hc : zch f n p ≠ 41) : zWY f n Z true p z N st := h.imp (fun _ q => ⟨q.1.moreN hl hp hc, q.2⟩)
theorem zWY.bb {m : Bool} (h : zWY f n Z m p z N st) : ∀ j : Int, 0 ≤ j → j < z → 0 ≤ N j ∧ N j ≤ 8 := fun j j1 j2 => by
  obtain ⟨K, k1, k2, k3, k4⟩ := h
  have y := k3 j j1 j2
  omega
theorem zWY.hd {m : Bool} (h : zWY f n Z m p z N ((s, b, t) :: r)) : 0 ≤ b ∧ b ≤ z ∧ 1 ≤ t := by
  obtain ⟨K, k1, k2, k3, k4⟩ := h
  exact k4.hd
end WY
/-! ===== how both sides' JUDGES stand to each other ===== -/
def zB8 (σ : xS) (S : Nat) : Prop := ∀ q : Int, 0 ≤ q → q < 120 → 0 ≤ σ S q ∧ σ S q ≤ 8
def zJD (σ : xS) (d N M S : Nat) : Prop := zt (σ (d + 1)) (σ (d + 5)) = zrt (σ N) ∧ (0 ≤ σ N 34 ∧ σ N 34 ≤ 3) ∧ zWc σ d (σ M) (fun j i => σ S (60 * j + i)) ∧ zB8 σ S
section ZR
variable {σ τ : xS} {d N M S d2 N2 M2 S2 : Nat} {j x y n : Int}
theorem zok_N (h : okN σ N) : zok (zrt (σ N)) := by
  have a := h.1 0 (by decide) (by decide)
  have b := h.1 1 (by decide) (by decide)
  have c := h.2.1 2 (by decide) (by decide)
  have e := h.2.1 3 (by decide) (by decide)
  refine ⟨?_, ?_, c, e⟩
  · show -1 ≤ zrj (σ N) 0 ∧ zrj (σ N) 0 ≤ 99
    unfold zrj
    split <;> omega
  · show -1 ≤ zrj (σ N) 1 ∧ zrj (σ N) 1 ≤ 99
    unfold zrj
    split <;> omega
theorem zJD.j0 (h : zJD σ d N M S) : σ (d + 1) 0 = zrj (σ N) 0 ∧ σ (d + 1) 1 = zrj (σ N) 1 ∧ σ (d + 5) 0 = σ N 2 ∧ σ (d + 5) 1 = σ N 3 := by
  have e := h.1
  unfold zt zrt at e
  simp only [Prod.mk.injEq] at e
  exact e
theorem zJD.at_ (h : zJD σ d N M S) (hj : 0 ≤ j ∧ j < 2) : σ (d + 1) j = zrj (σ N) j ∧ σ (d + 5) j = σ N (2 + j) := by
  have e := h.j0
  rcases (by omega : j = 0 ∨ j = 1) with rfl | rfl
  · exact ⟨e.1, e.2.2.1⟩
  · exact ⟨e.2.1, e.2.2.2⟩
theorem zJD.f (h : zJD σ d N M S) (e1 : τ (d + 1) = σ (d + 1)) (e2 : τ (d + 2) = σ (d + 2)) (e5 : τ (d + 5) = σ (d + 5)) (eR : ∀ k : Nat, (k = 139 ∨ k = 140 ∨ k = 149 ∨ k = 150 ∨ (219 ≤ k ∧ k < 224) ∨ 310 ≤ k) → τ k = σ k)
    (n0 : τ N 0 = σ N 0) (n1 : τ N 1 = σ N 1) (n2 : τ N 2 = σ N 2) (n3 : τ N 3 = σ N 3) (n4 : τ N 34 = σ N 34) (eM : τ M = σ M) (eS : τ S = σ S) : zJD τ d N M S := by
  obtain ⟨h1, h2, h3, h4⟩ := h
  refine ⟨?_, ?_, ?_, ?_⟩
  · rw [e1, e5, zrt_f n0 n1 n2 n3 n4]; exact h1
  · rw [n4]; exact h2
  · rw [eM, eS]; exact h3.f e2 eR
  · unfold zB8; rw [eS]; exact h4
theorem zt_at {J S J2 S2 : Int → Int} (h : ∀ j : Int, 0 ≤ j → j < 2 → J2 j = J j ∧ S2 j = S j) : zt J2 S2 = zt J S := by
  have a := h 0 (by decide) (by decide)
  have b := h 1 (by decide) (by decide)
  unfold zt
  rw [a.1, a.2, b.1, b.2]
/-- a copy of both -/
theorem zJD.cp (h : zJD σ d N M S) (hc : ∀ j : Int, 0 ≤ j → j < 2 → τ (d2 + 1) j = σ (d + 1) j ∧ τ (d2 + 2) j = σ (d + 2) j ∧ τ (d2 + 5) j = σ (d + 5) j) (eR : ∀ k : Nat, (k = 139 ∨ k = 140 ∨ k = 149 ∨ k = 150 ∨ (219 ≤ k ∧ k < 224) ∨ 310 ≤ k) → τ k = σ k)
    (hN : ∀ q : Int, 0 ≤ q → q < 39 → τ N2 q = σ N q) (hM : ∀ q : Int, 0 ≤ q → q < 2 → τ M2 q = σ M q) (hS : ∀ q : Int, 0 ≤ q → q < 120 → τ S2 q = σ S q) (hm : ∀ q : Int, 0 ≤ q → q < 2 → 0 ≤ σ M q ∧ σ M q ≤ 60) : zJD τ d2 N2 M2 S2 := by
  obtain ⟨h1, h2, h3, h4⟩ := h
  refine ⟨?_, ?_, fun j j1 j2 => ?_, fun q q1 q2 => ?_⟩
  · rw [zt_at (J := σ (d + 1)) (S := σ (d + 5)) (fun j j1 j2 => ⟨(hc j j1 j2).1, (hc j j1 j2).2.2⟩), h1]
    unfold zrt zrj
    rw [hN 0 (by decide) (by decide), hN 1 (by decide) (by decide), hN 2 (by decide) (by decide), hN 3 (by decide) (by decide), hN 34 (by decide) (by decide)]
  · rw [hN 34 (by decide) (by decide)]; exact h2
  · obtain ⟨g1, g2, g3⟩ := h3 j j1 j2
    have l8 : xlen τ = xlen σ := funext fun r => by unfold xlen; rw [eR 999998 (by omega)]
    have er : τ (σ (d + 2) j).toNat = σ (σ (d + 2) j).toNat := eR _ (by unfold zRo at g1; omega)
    rw [(hc j j1 j2).2.1, l8, er, hM j j1 j2]
    refine ⟨g1.f (eR 999996 (by omega)), g2, fun i i1 i2 => ?_⟩
    have g := g3 i i1 i2
    by_cases hi : 60 * j + i < 120
    · show _ = τ S2 (60 * j + i) ∧ 0 ≤ τ S2 (60 * j + i) ∧ τ S2 (60 * j + i) ≤ 8
      rw [hS _ (by omega) hi]
      exact g
    · have y := hm j j1 j2
      exact absurd (show 60 * j + i < 120 from by omega) hi
  · rw [hS q q1 q2]; exact h4 q q1 q2
abbrev eRows (σ τ : xS) : Prop := ∀ k : Nat, (k = 139 ∨ k = 140 ∨ k = 149 ∨ k = 150 ∨ (219 ≤ k ∧ k < 224) ∨ 310 ≤ k) → τ k = σ k
theorem zJD.judge {r1 r2 : Int} (h : zJD σ 136 269 274 275) (kk : ∀ t : Int, 0 ≤ t → t < 100 → σ 4 t = σ 272 t ∧ 0 ≤ σ 4 t ∧ σ 4 t ≤ 3)
    (c : (r1 = 1 ∧ (0 ≤ j ∧ j < 2 ∧ (0 ≤ x ∧ x < 10 ∧ 0 ≤ y ∧ y < 10 ∧ σ 4 (10 * y + x) ≠ 1 ∧ σ 4 (10 * y + x) ≠ 3) ∧ σ 137 (1 - j) ≠ 10 * y + x) ∧ τ 137 = xud (σ 137) j (10 * y + x)) ∨ (r1 = 0 ∧ ¬ (0 ≤ j ∧ j < 2 ∧ (0 ≤ x ∧ x < 10 ∧ 0 ≤ y ∧ y < 10 ∧ σ 4 (10 * y + x) ≠ 1 ∧ σ 4 (10 * y + x) ≠ 3) ∧ σ 137 (1 - j) ≠ 10 * y + x) ∧ τ 137 = σ 137))
    (m : (r2 = 1 ∧ (0 ≤ j ∧ j < 2 ∧ (0 ≤ x ∧ x < 10 ∧ 0 ≤ y ∧ y < 10 ∧ (σ 272 (10 * y + x) = 0 ∨ σ 272 (10 * y + x) = 2)) ∧ zrj (σ 269) (1 - j) ≠ 10 * y + x) ∧ τ 269 = xud (xud (σ 269) 34 (zor (σ 269 34) j)) j (10 * y + x)) ∨ (r2 = 0 ∧ ¬ (0 ≤ j ∧ j < 2 ∧ (0 ≤ x ∧ x < 10 ∧ 0 ≤ y ∧ y < 10 ∧ (σ 272 (10 * y + x) = 0 ∨ σ 272 (10 * y + x) = 2)) ∧ zrj (σ 269) (1 - j) ≠ 10 * y + x) ∧ τ 269 = σ 269))
    (e2 : τ 138 = σ 138) (e5 : τ 141 = σ 141) (eR : eRows σ τ) (eM : τ 274 = σ 274) (eS : τ 275 = σ 275) : zJD τ 136 269 274 275 ∧ r1 = r2 := by
  have hi : (0 ≤ j ∧ j < 2 ∧ (0 ≤ x ∧ x < 10 ∧ 0 ≤ y ∧ y < 10 ∧ σ 4 (10 * y + x) ≠ 1 ∧ σ 4 (10 * y + x) ≠ 3) ∧ σ 137 (1 - j) ≠ 10 * y + x) ↔ (0 ≤ j ∧ j < 2 ∧ (0 ≤ x ∧ x < 10 ∧ 0 ≤ y ∧ y < 10 ∧ (σ 272 (10 * y + x) = 0 ∨ σ 272 (10 * y + x) = 2)) ∧ zrj (σ 269) (1 - j) ≠ 10 * y + x) := by
    constructor
    · intro q
      have k := kk (10 * y + x) (by omega) (by omega)
      have g : σ 137 (1 - j) = zrj (σ 269) (1 - j) := (h.at_ (j := 1 - j) (by omega)).1
      omega
    · intro q
      have k := kk (10 * y + x) (by omega) (by omega)
      have g : σ 137 (1 - j) = zrj (σ 269) (1 - j) := (h.at_ (j := 1 - j) (by omega)).1
      omega
  rcases c with ⟨c0, c1, c2⟩ | ⟨c0, c1, c2⟩
  · rcases m with ⟨m0, m1, m2⟩ | ⟨m0, m1, m2⟩
    · refine ⟨?_, c0.trans m0.symm⟩
      have hj : 0 ≤ j ∧ j < 2 := ⟨c1.1, c1.2.1⟩
      have b := zor_b h.2.1 hj
      have g := h.j0
      have z34 : τ 269 34 = zor (σ 269 34) j := by rw [m2, xud_o _ _ (by omega), xud_s]
      refine ⟨?_, by rw [z34]; exact b.1, by rw [eM, eS]; exact h.2.2.1.f e2 eR, by unfold zB8; rw [eS]; exact h.2.2.2⟩
      have n2 : τ 269 2 = σ 269 2 := by rw [m2, xud_o _ _ (by omega), xud_o _ _ (by decide)]
      have n3 : τ 269 3 = σ 269 3 := by rw [m2, xud_o _ _ (by omega), xud_o _ _ (by decide)]
      show (τ 137 0, τ 137 1, τ 141 0, τ 141 1) = (zrj (τ 269) 0, zrj (τ 269) 1, τ 269 2, τ 269 3)
      rw [n2, n3, e5, show σ 141 0 = σ 269 2 from g.2.2.1, show σ 141 1 = σ 269 3 from g.2.2.2, c2]
      rcases (by omega : j = 0 ∨ j = 1) with rfl | rfl
      · have p0 : zrj (τ 269) 0 = 10 * y + x := by
          rw [zrj_p (by rw [z34, b.2.1]; rfl), m2, xud_s]
        have p1 : zrj (τ 269) 1 = zrj (σ 269) 1 := by
          unfold zrj
          rw [z34, b.2.2, m2, xud_o _ _ (by decide), xud_o _ _ (by decide)]
          rfl
        rw [p0, p1, xud_s, xud_o _ _ (by decide), show σ 137 1 = zrj (σ 269) 1 from g.2.1]
      · have p0 : zrj (τ 269) 0 = zrj (σ 269) 0 := by
          unfold zrj
          rw [z34, b.2.1, m2, xud_o _ _ (by decide), xud_o _ _ (by decide)]
          rfl
        have p1 : zrj (τ 269) 1 = 10 * y + x := by
          rw [zrj_p (by rw [z34, b.2.2]; rfl), m2, xud_s]
        rw [p0, p1, xud_s, xud_o _ _ (by decide), show σ 137 0 = zrj (σ 269) 0 from g.1]
    · exact absurd (hi.mp c1) m1
  · rcases m with ⟨m0, m1, m2⟩ | ⟨m0, m1, m2⟩
    · exact absurd (hi.mpr m1) c1
    · exact ⟨h.f c2 e2 e5 eR (by rw [m2]) (by rw [m2]) (by rw [m2]) (by rw [m2]) (by rw [m2]) eM eS, c0.trans m0.symm⟩
theorem zJD.market (h : zJD σ 136 269 274 275) (im : okN σ 269) (kk : ∀ t : Int, 0 ≤ t → t < 100 → τ 4 t = τ 272 t ∧ 0 ≤ τ 4 t ∧ τ 4 t ≤ 3)
    (c : ∀ q : Int, 0 ≤ q → q < 2 → ((0 ≤ σ 137 q ∧ σ 137 q < 100 ∧ τ 4 (σ 137 q) ≠ 1 ∧ τ 4 (σ 137 q) ≠ 3) ∧ τ 137 q = σ 137 q) ∨ (¬ (0 ≤ σ 137 q ∧ σ 137 q < 100 ∧ τ 4 (σ 137 q) ≠ 1 ∧ τ 4 (σ 137 q) ≠ 3) ∧ τ 137 q = -1))
    (m0 : 0 ≤ τ 269 34 ∧ τ 269 34 ≤ 3) (m : ∀ q : Int, 0 ≤ q → q < 2 → (xsh (τ 269 34) q % 2 = 1 ∧ xsh (σ 269 34) q % 2 = 1 ∧ (τ 272 (σ 269 q) = 0 ∨ τ 272 (σ 269 q) = 2)) ∨ (xsh (τ 269 34) q % 2 = 0 ∧ ¬ (xsh (σ 269 34) q % 2 = 1 ∧ (τ 272 (σ 269 q) = 0 ∨ τ 272 (σ 269 q) = 2))))
    (n0 : τ 269 0 = σ 269 0) (n1 : τ 269 1 = σ 269 1) (n2 : τ 269 2 = σ 269 2) (n3 : τ 269 3 = σ 269 3) (e2 : τ 138 = σ 138) (e5 : τ 141 = σ 141) (eR : eRows σ τ) (eM : τ 274 = σ 274) (eS : τ 275 = σ 275) : zJD τ 136 269 274 275 := by
  have nn : ∀ q : Int, 0 ≤ q → q < 2 → τ 269 q = σ 269 q := fun q q1 q2 => by rcases (by omega : q = 0 ∨ q = 1) with rfl | rfl <;> assumption
  have key : ∀ q : Int, 0 ≤ q → q < 2 → τ 137 q = zrj (τ 269) q := fun q q1 q2 => by
    have a := c q q1 q2
    have b := m q q1 q2
    have g : σ 137 q = zrj (σ 269) q := (h.at_ ⟨q1, q2⟩).1
    have r := im.1 q q1 q2
    by_cases e : xsh (σ 269 34) q % 2 = 1
    · rw [zrj_p e] at g
      have k := kk (σ 269 q) r.1 (by omega)
      rw [g] at a
      rcases b with b | b
      · rw [zrj_p b.1, nn q q1 q2]; omega
      · rw [zrj_n (by omega)]; omega
    · rw [zrj_n e] at g
      rcases b with b | b
      · exact absurd b.2.1 e
      · rw [zrj_n (by omega)]; omega
  have g := h.j0
  refine ⟨?_, m0, by rw [eM, eS]; exact h.2.2.1.f e2 eR, by unfold zB8; rw [eS]; exact h.2.2.2⟩
  show (τ 137 0, τ 137 1, τ 141 0, τ 141 1) = (zrj (τ 269) 0, zrj (τ 269) 1, τ 269 2, τ 269 3)
  rw [n2, n3, e5, show σ 141 0 = σ 269 2 from g.2.2.1, show σ 141 1 = σ 269 3 from g.2.2.2, key 0 (by decide) (by decide), key 1 (by decide) (by decide)]
theorem zJD.minutes (h : zJD σ 136 269 274 275) {q q2 : Nat} (hq : q = q2) (c : zt (τ 137) (τ 141) = zjn (σ 4) (σ 274) (fun j i => σ 275 (60 * j + i)) q (zt (σ 137) (σ 141))) (m : zrt (τ 269) = zjn (σ 4) (σ 274) (fun j i => σ 275 (60 * j + i)) q2 (zrt (σ 269)))
    (n4 : τ 269 34 = σ 269 34) (e2 : τ 138 = σ 138) (eR : eRows σ τ) (eM : τ 274 = σ 274) (eS : τ 275 = σ 275) : zJD τ 136 269 274 275 := by
  subst hq
  refine ⟨?_, by rw [n4]; exact h.2.1, by rw [eM, eS]; exact h.2.2.1.f e2 eR, by unfold zB8; rw [eS]; exact h.2.2.2⟩
  have e : zt (σ 137) (σ 141) = zrt (σ 269) := h.1
  show zt (τ 137) (τ 141) = _
  rw [c, m, e]
/-- a new row -/
abbrev eNew (σ τ : xS) : Prop := τ 999996 0 = σ 999996 0 + 1 ∧ ∀ k : Nat, (k = 139 ∨ k = 140 ∨ k = 149 ∨ k = 150 ∨ (219 ≤ k ∧ k < 224) ∨ (310 ≤ k ∧ k < 310 + (σ 999996 0).toNat ∧ k < 999990)) → τ k = σ k ∧ xlen τ k = xlen σ k
theorem zRo.g {r : Nat} (h : zRo σ r) (hz : 0 ≤ σ 999996 0) (e : τ 999996 0 = σ 999996 0 + 1) : zRo τ r := by unfold zRo at h ⊢; omega
theorem zWc.g {w : Int → Int → Int} {n : Int → Int} (h : zWc σ d n w) (hz : 0 ≤ σ 999996 0) (e2 : τ (d + 2) = σ (d + 2)) (e : eNew σ τ) : zWc τ d n w := fun j j1 j2 => by
  obtain ⟨h1, h2, h3⟩ := h j j1 j2
  have er := e.2 (σ (d + 2) j).toNat (by unfold zRo at h1; omega)
  rw [e2, er.2, er.1]
  exact ⟨h1.g hz e.1, h2, h3⟩
theorem zJD.new (h : zJD σ d N M S) (hz : 0 ≤ σ 999996 0) (e1 : τ (d + 1) = σ (d + 1)) (e2 : τ (d + 2) = σ (d + 2)) (e5 : τ (d + 5) = σ (d + 5)) (e : eNew σ τ) (eN : τ N = σ N) (eM : τ M = σ M) (eS : τ S = σ S) : zJD τ d N M S := by
  obtain ⟨h1, h2, h3, h4⟩ := h
  refine ⟨by rw [e1, e5, eN]; exact h1, by rw [eN]; exact h2, ?_, by unfold zB8; rw [eS]; exact h4⟩
  rw [eM, eS]
  exact h3.g hz e2 e
theorem zJD.walk {len : Int} {K1 K2 : Int → Int} (h : zJD σ 136 269 274 275) (hj : 0 ≤ j ∧ j < 2) (hz : 0 ≤ σ 999996 0 ∧ σ 999996 0 ≤ 900000) (hl : len ≤ 60) (e1 : τ 137 = σ 137) (e : eNew σ τ) (c2 : τ 138 = xud (σ 138) j (310 + σ 999996 0)) (c5 : τ 141 = xud (σ 141) j 0)
    (cl : (xlen τ (310 + (σ 999996 0).toNat) : Int) = len) (ci : ∀ i : Int, 0 ≤ i → i < len → τ (310 + (σ 999996 0).toNat) i = K1 i) (k1 : zCu 1 len K2 K1)
    (m1 : τ 274 = xud (σ 274) j len) (m2 : τ 269 = xud (σ 269) (2 + j) 0) (k2 : zCu 2 len K2 (fun i => τ 275 (60 * j + i))) (mo : ∀ i : Int, (i < 60 * j ∨ 60 * j + 60 ≤ i) → τ 275 i = σ 275 i) (m8 : zB8 τ 275) (hm : ∀ q : Int, 0 ≤ q → q < 2 → 0 ≤ σ 274 q ∧ σ 274 q ≤ 60) : zJD τ 136 269 274 275 := by
  have n4 : τ 269 34 = σ 269 34 := by rw [m2, xud_o _ _ (by omega)]
  have g := h.j0
  refine ⟨?_, by rw [n4]; exact h.2.1, fun q q1 q2 => ?_, m8⟩
  · have z0 : zrj (τ 269) 0 = zrj (σ 269) 0 := by rw [m2, zrj_o (by omega) (by omega)]
    have z1 : zrj (τ 269) 1 = zrj (σ 269) 1 := by rw [m2, zrj_o (by omega) (by omega)]
    show (τ 137 0, τ 137 1, τ 141 0, τ 141 1) = (zrj (τ 269) 0, zrj (τ 269) 1, τ 269 2, τ 269 3)
    rw [z0, z1, e1, c5, m2, show σ 137 0 = zrj (σ 269) 0 from g.1, show σ 137 1 = zrj (σ 269) 1 from g.2.1]
    have s0 : σ 141 0 = σ 269 2 := g.2.2.1
    have s1 : σ 141 1 = σ 269 3 := g.2.2.2
    rcases (by omega : j = 0 ∨ j = 1) with rfl | rfl
    · rw [xud_s, xud_o _ _ (by decide), s1, show xud (σ 269) (2 + 0) 0 2 = 0 from xud_s _ _ _, show xud (σ 269) (2 + 0) 0 3 = σ 269 3 from xud_o _ _ (by decide)]
    · rw [xud_s, xud_o _ _ (by decide), s0, show xud (σ 269) (2 + 1) 0 3 = 0 from xud_s _ _ _, show xud (σ 269) (2 + 1) 0 2 = σ 269 2 from xud_o _ _ (by decide)]
  · show zRo τ (τ 138 q).toNat ∧ (xlen τ (τ 138 q).toNat : Int) = τ 274 q ∧ ∀ i : Int, 0 ≤ i → i < τ 274 q → 2 * τ (τ 138 q).toNat i = τ 275 (60 * q + i) ∧ 0 ≤ τ 275 (60 * q + i) ∧ τ 275 (60 * q + i) ≤ 8
    rw [c2, m1]
    by_cases hq : q = j
    · subst hq
      rw [xud_s, xud_s, show (310 + σ 999996 0).toNat = 310 + (σ 999996 0).toNat from by omega]
      refine ⟨?_, cl, fun i i1 i2 => ?_⟩
      · unfold zRo
        have y := e.1
        omega
      · have a := k1 i i1 i2
        have b := k2 i i1 i2
        have b1 : τ 275 (60 * q + i) = 2 * K2 i := b.1
        rw [ci i i1 i2]
        omega
    · rw [xud_o _ _ hq, xud_o _ _ hq]
      obtain ⟨h1, h2, h3⟩ := h.2.2.1 q q1 q2
      have er := e.2 (σ 138 q).toNat (by have h1 : zRo σ (σ 138 q).toNat := h1; unfold zRo at h1; omega)
      rw [er.2, er.1]
      refine ⟨zRo.g h1 hz.1 e.1, h2, fun i i1 i2 => ?_⟩
      have y := hm q q1 q2
      rw [mo _ (by omega)]
      exact h3 i i1 i2
end ZR


set_option maxHeartbeats 4000000 in
set_option maxRecDepth 100000 in
theorem c_X6_besideJ (l : Launch) (D : va_G) (g : xG) (T : Nat × Nat × Nat) (h0 : Nat) (s0 : xS) (hσ : xRR s0) (x : Int) (rx : xR x) (w : Int) (rw : xR w) : Met l yX6_beside (xws yX6_beside cX6_beside 4 (some .int)) { frames := 0, cells := 0, slots := 0, locals := 0 } (xP [.int (xJ x), .int (xJ w)] D g T h0 s0) (xQi D g h0 (fun r τ => s0 = τ ∧ (((0 ≤ x ∧ x < 100 ∧ 0 ≤ w ∧ w < 8) ∧ r = zbe x w) ∨ (¬ (0 ≤ x ∧ x < 100 ∧ 0 ≤ w ∧ w < 8) ∧ r = -1)))) 0 0 (xA h0) := by
  refine x_met hσ (by decide) (Nat.le_of_ble_eq_true rfl) ?_
  intro p e s m args below meth c hx hb hr hml hown hT hlk hnm hE hW ls hl
  have hl : lv_has ls 4 [(0, .int (xJ x)), (1, .int (xJ w))] := hl
  obtain ⟨Q, eQ⟩ : ∃ Q, Q = MQ below (xQi D g h0 (fun r τ => s0 = τ ∧ (((0 ≤ x ∧ x < 100 ∧ 0 ≤ w ∧ w < 8) ∧ r = zbe x w) ∨ (¬ (0 ≤ x ∧ x < 100 ∧ 0 ≤ w ∧ w < 8) ∧ r = -1)))) args s 0 0 (xA h0) := ⟨_, rfl⟩
  rw [← eQ]
  generalize hHe : ([] : List Loc) = locs at hW ⊢
  obtain ⟨H, eH⟩ : ∃ H, H = s.heap := ⟨_, rfl⟩
  rw [← eH] at hW ⊢
  refine x_iload_n hx hb hl 0 rfl dX6_beside_0 rfl ?_
  refine x_if_lt (tgt := 20) hx hb rx dX6_beside_1 (by decide) (fun c1 => ?_) (fun c1 => ?_)
  · skip
    refine x_iconst hx hb dX6_beside_20 ?_
    rw [eQ]
    exact x_iret hx hb hr hlk hW (by decide) ⟨rfl, Or.inr ⟨by omega, rfl⟩⟩ dX6_beside_21
  refine x_iload_n hx hb hl 0 rfl dX6_beside_4 rfl ?_
  refine x_bipush hx hb dX6_beside_5 (by decide) ?_
  refine x_icmp_ge (tgt := 20) hx hb rx (by decide) dX6_beside_7 (by decide) (fun c2 => ?_) (fun c2 => ?_)
  · skip
    refine x_iconst hx hb dX6_beside_20 ?_
    rw [eQ]
    exact x_iret hx hb hr hlk hW (by decide) ⟨rfl, Or.inr ⟨by omega, rfl⟩⟩ dX6_beside_21
  refine x_iload_n hx hb hl 1 rfl dX6_beside_10 rfl ?_
  refine x_if_lt (tgt := 20) hx hb rw dX6_beside_11 (by decide) (fun c3 => ?_) (fun c3 => ?_)
  · skip
    refine x_iconst hx hb dX6_beside_20 ?_
    rw [eQ]
    exact x_iret hx hb hr hlk hW (by decide) ⟨rfl, Or.inr ⟨by omega, rfl⟩⟩ dX6_beside_21
  refine x_iload_n hx hb hl 1 rfl dX6_beside_14 rfl ?_
  refine x_bipush hx hb dX6_beside_15 (by decide) ?_
  refine x_icmp_lt (tgt := 22) hx hb rw (by decide) dX6_beside_17 (by decide) (fun c4 => ?_) (fun c4 => ?_)
  · skip
    refine x_iload_n hx hb hl 0 rfl dX6_beside_22 rfl ?_
    refine x_bipush hx hb dX6_beside_23 (by decide) ?_
    refine x_irem hx hb rx (by decide) (by omega) (by decide) dX6_beside_25 ?_
    refine va_getsN hx hb hE.2.2.1.1 hW.2.2 hown (xE_N hE wn786 rfl) (fun _ h9 => h9) dX6_beside_26 ?_
    refine x_iload_n hx hb hl 1 rfl dX6_beside_29 rfl ?_
    refine x_wx hx hb hE hW (by omega) dX6_beside_30 ?_
    refine x_nm (fun x5 ex5 => ?_)
    have rx5 : -1 ≤ x5 ∧ x5 ≤ 1 := by rw [ex5]; exact xwx_in _
    have V30 : x5 = zwx w := ex5.trans (zwx_t (by omega))
    refine x_iadd hx hb dX6_beside_31 ?_
    refine x_nm (fun x6 ex6 => ?_)
    refine lv_istore_n (lv' := [(2, .int (xJ x6)), (0, .int (xJ x)), (1, .int (xJ w))]) hx hb dX6_beside_32 rfl hl (by decide) rfl (fun ls hl => ?_)
    refine x_iload_n hx hb hl 1 rfl dX6_beside_33 rfl ?_
    refine x_bipush hx hb dX6_beside_34 (by decide) ?_
    refine x_idiv hx hb rx (by decide) (by omega) (by decide) dX6_beside_36 ?_
    refine va_getsN hx hb hE.2.2.2.1.1 hW.2.2 hown (xE_N hE wn788 rfl) (fun _ h9 => h9) dX6_beside_37 ?_
    refine x_iload_n hx hb hl 2 rfl dX6_beside_40 rfl ?_
    refine x_wy hx hb hE hW (by omega) dX6_beside_41 ?_
    refine x_nm (fun x7 ex7 => ?_)
    have rx7 : -1 ≤ x7 ∧ x7 ≤ 1 := by rw [ex7]; exact xwy_in _
    have V41 : x7 = zwy w := ex7.trans (zwy_t (by omega))
    refine x_iadd hx hb dX6_beside_42 ?_
    refine x_nm (fun x8 ex8 => ?_)
    refine lv_istore_n (lv' := [(3, .int (xJ x8)), (2, .int (xJ x6)), (0, .int (xJ x)), (1, .int (xJ w))]) hx hb dX6_beside_43 rfl hl (by decide) rfl (fun ls hl => ?_)
    have B43 : 0 ≤ x ∧ x < 100 ∧ 0 ≤ w ∧ w < 8 := by omega
    refine x_iload_n hx hb hl 1 rfl dX6_beside_44 rfl ?_
    refine x_if_lt (tgt := 73) hx hb (by omega) dX6_beside_45 (by decide) (fun c9 => ?_) (fun c9 => ?_)
    · skip
      refine x_iconst hx hb dX6_beside_73 ?_
      rw [eQ]
      exact x_iret hx hb hr hlk hW (by decide) ⟨rfl, Or.inl ⟨B43, zbe_i (s := x) (w := w) (x := x6) (y := x8) (by omega) (by omega) (by first | exact Or.inl ⟨by omega, by omega, by omega, by omega, by omega⟩ | exact Or.inr ⟨by omega, by omega⟩)⟩⟩ dX6_beside_74
    refine x_iload_n hx hb hl 1 rfl dX6_beside_48 rfl ?_
    refine x_bipush hx hb dX6_beside_49 (by decide) ?_
    refine x_icmp_ge (tgt := 73) hx hb (by omega) (by decide) dX6_beside_51 (by decide) (fun c10 => ?_) (fun c10 => ?_)
    · skip
      refine x_iconst hx hb dX6_beside_73 ?_
      rw [eQ]
      exact x_iret hx hb hr hlk hW (by decide) ⟨rfl, Or.inl ⟨B43, zbe_i (s := x) (w := w) (x := x6) (y := x8) (by omega) (by omega) (by first | exact Or.inl ⟨by omega, by omega, by omega, by omega, by omega⟩ | exact Or.inr ⟨by omega, by omega⟩)⟩⟩ dX6_beside_74
    refine x_iload_n hx hb hl 0 rfl dX6_beside_54 rfl ?_
    refine x_if_lt (tgt := 73) hx hb (by omega) dX6_beside_55 (by decide) (fun c11 => ?_) (fun c11 => ?_)
    · skip
      refine x_iconst hx hb dX6_beside_73 ?_
      rw [eQ]
      exact x_iret hx hb hr hlk hW (by decide) ⟨rfl, Or.inl ⟨B43, zbe_i (s := x) (w := w) (x := x6) (y := x8) (by omega) (by omega) (by first | exact Or.inl ⟨by omega, by omega, by omega, by omega, by omega⟩ | exact Or.inr ⟨by omega, by omega⟩)⟩⟩ dX6_beside_74
    refine x_iload_n hx hb hl 0 rfl dX6_beside_58 rfl ?_
    refine x_bipush hx hb dX6_beside_59 (by decide) ?_
    refine x_icmp_ge (tgt := 73) hx hb (by omega) (by decide) dX6_beside_61 (by decide) (fun c12 => ?_) (fun c12 => ?_)
    · skip
      refine x_iconst hx hb dX6_beside_73 ?_
      rw [eQ]
      exact x_iret hx hb hr hlk hW (by decide) ⟨rfl, Or.inl ⟨B43, zbe_i (s := x) (w := w) (x := x6) (y := x8) (by omega) (by omega) (by first | exact Or.inl ⟨by omega, by omega, by omega, by omega, by omega⟩ | exact Or.inr ⟨by omega, by omega⟩)⟩⟩ dX6_beside_74
    refine x_bipush hx hb dX6_beside_64 (by decide) ?_
    refine x_iload_n hx hb hl 0 rfl dX6_beside_66 rfl ?_
    refine x_imul hx hb dX6_beside_67 ?_
    refine x_iload_n hx hb hl 1 rfl dX6_beside_68 rfl ?_
    refine x_iadd hx hb dX6_beside_69 ?_
    refine lv_goto (tgt := 74) hx hb dX6_beside_70 (by decide) ?_
    rw [eQ]
    exact x_iret hx hb hr hlk hW (by omega) ⟨rfl, Or.inl ⟨B43, zbe_i (s := x) (w := w) (x := x6) (y := x8) (by omega) (by omega) (by first | exact Or.inl ⟨by omega, by omega, by omega, by omega, by omega⟩ | exact Or.inr ⟨by omega, by omega⟩)⟩⟩ dX6_beside_74
  refine x_iconst hx hb dX6_beside_20 ?_
  rw [eQ]
  exact x_iret hx hb hr hlk hW (by decide) ⟨rfl, Or.inr ⟨by omega, rfl⟩⟩ dX6_beside_21
set_option maxHeartbeats 4000000 in
set_option maxRecDepth 100000 in
theorem c_X2_hasJudgeJ (l : Launch) (D : va_G) (g : xG) (T : Nat × Nat × Nat) (h0 : Nat) (s0 : xS) (hσ : xRR s0) (d : Nat) (hd : xDay d) (j : Int) (rj : xR j) (p0 : IC s0) : Met l yX2_hasJudge (xws yX2_hasJudge cX2_hasJudge 2 (some .boolean)) { frames := 0, cells := 0, slots := 0, locals := 0 } (xP [.ref (h0 + d), .int (xJ j)] D g T h0 s0) (xQi D g h0 (fun r τ => s0 = τ ∧ ((r = 1 ∧ 0 ≤ j ∧ j < 2 ∧ s0 (d + 1) j ≠ -1) ∨ (r = 0 ∧ ¬ (0 ≤ j ∧ j < 2 ∧ s0 (d + 1) j ≠ -1))))) 0 0 (xA h0) := by
  refine x_met hσ (by decide) (Nat.le_of_ble_eq_true rfl) ?_
  intro p e s m args below meth c hx hb hr hml hown hT hlk hnm hE hW ls hl
  have hl : lv_has ls 2 [(0, .ref (h0 + d)), (1, .int (xJ j))] := hl
  obtain ⟨Q, eQ⟩ : ∃ Q, Q = MQ below (xQi D g h0 (fun r τ => s0 = τ ∧ ((r = 1 ∧ 0 ≤ j ∧ j < 2 ∧ s0 (d + 1) j ≠ -1) ∨ (r = 0 ∧ ¬ (0 ≤ j ∧ j < 2 ∧ s0 (d + 1) j ≠ -1))))) args s 0 0 (xA h0) := ⟨_, rfl⟩
  rw [← eQ]
  generalize hHe : ([] : List Loc) = locs at hW ⊢
  obtain ⟨H, eH⟩ : ∃ H, H = s.heap := ⟨_, rfl⟩
  rw [← eH] at hW ⊢
  have hbd : (136 ≤ d ∧ d < 209) ∧ (d ≤ 146 ∨ 158 ≤ d) := by unfold xDay at hd; omega
  have k1_1 : s0 1 1 = s0 1 1 := rfl
  refine x_iload_n hx hb hl 1 rfl dX2_hasJudge_0 rfl ?_
  refine x_if_lt (tgt := 23) hx hb rj dX2_hasJudge_1 (by decide) (fun c1 => ?_) (fun c1 => ?_)
  · skip
    refine x_iconst hx hb dX2_hasJudge_23 ?_
    rw [eQ]
    exact x_zret hx hb hr hlk hW (by omega) ⟨rfl, by omega⟩ dX2_hasJudge_24
  refine x_iload_n hx hb hl 1 rfl dX2_hasJudge_4 rfl ?_
  refine x_iconst hx hb dX2_hasJudge_5 ?_
  refine x_icmp_ge (tgt := 23) hx hb rj (by decide) dX2_hasJudge_6 (by decide) (fun c2 => ?_) (fun c2 => ?_)
  · skip
    refine x_iconst hx hb dX2_hasJudge_23 ?_
    rw [eQ]
    exact x_zret hx hb hr hlk hW (by omega) ⟨rfl, by omega⟩ dX2_hasJudge_24
  refine x_aload_n hx hb hl 0 rfl dX2_hasJudge_9 rfl ?_
  refine x_get (j := 0) (v := .ref (h0 + (d + 1))) hx hb hown hT hE hW cls_X2 (Or.inl (by omega)) (so_day0 h0 g hd _) (by decide) rfl wq383 dX2_hasJudge_10 ?_
  refine x_iload_n hx hb hl 1 rfl dX2_hasJudge_13 rfl ?_
  refine x_iald hx hb hE hW (Or.inl (by omega)) (sa_day1 h0 g hd _) (by omega) (by decide) dX2_hasJudge_14 ?_
  refine x_rd hW (fun x3 ex3 rx3 => ?_)
  refine x_iconst hx hb dX2_hasJudge_15 ?_
  refine x_icmp_eq (tgt := 23) hx hb rx3 (by decide) dX2_hasJudge_16 (by decide) (fun c4 => ?_) (fun c4 => ?_)
  · skip
    refine x_iconst hx hb dX2_hasJudge_23 ?_
    rw [eQ]
    exact x_zret hx hb hr hlk hW (by omega) ⟨rfl, by omega⟩ dX2_hasJudge_24
  refine x_iconst hx hb dX2_hasJudge_19 ?_
  refine lv_goto (tgt := 24) hx hb dX2_hasJudge_20 (by decide) ?_
  rw [eQ]
  exact x_zret hx hb hr hlk hW (by omega) ⟨rfl, by omega⟩ dX2_hasJudge_24
set_option maxHeartbeats 4000000 in
set_option maxRecDepth 100000 in
theorem c_X2_takeStepJ (l : Launch) (D : va_G) (g : xG) (T : Nat × Nat × Nat) (h0 : Nat) (s0 : xS) (hσ : xRR s0) (d : Nat) (hd : xDay d) (j : Int) (rj : xR j) (n9 : Int → Int) (w9 : Int → Int → Int) (hj : 0 ≤ j ∧ j < 2) (hw : zWc s0 d n9 w9) (p0 : IC s0) : Met l yX2_takeStep (xws yX2_takeStep cX2_takeStep 3 (some .int)) { frames := 1, cells := 0, slots := 0, locals := 21 } (xP [.ref (h0 + d), .int (xJ j)] D g T h0 s0) (xQi D g h0 (fun r τ => xFr (fun k => k = d + 5) s0 τ ∧ (((IC τ) ∧ True) ∧ ((n9 j ≤ s0 (d + 5) j ∧ r = 4 ∧ τ (d + 5) = s0 (d + 5)) ∨ (s0 (d + 5) j < n9 j ∧ 2 * r = w9 j (s0 (d + 5) j) ∧ (0 ≤ r ∧ r ≤ 4) ∧ τ (d + 5) = xud (s0 (d + 5)) j (s0 (d + 5) j + 1)))))) 0 0 (xA h0) := by
  refine x_met hσ (by decide) (Nat.le_of_ble_eq_true rfl) ?_
  intro p e s m args below meth c hx hb hr hml hown hT hlk hnm hE hW ls hl
  have hl : lv_has ls 3 [(0, .ref (h0 + d)), (1, .int (xJ j))] := hl
  obtain ⟨Q, eQ⟩ : ∃ Q, Q = MQ below (xQi D g h0 (fun r τ => xFr (fun k => k = d + 5) s0 τ ∧ (((IC τ) ∧ True) ∧ ((n9 j ≤ s0 (d + 5) j ∧ r = 4 ∧ τ (d + 5) = s0 (d + 5)) ∨ (s0 (d + 5) j < n9 j ∧ 2 * r = w9 j (s0 (d + 5) j) ∧ (0 ≤ r ∧ r ≤ 4) ∧ τ (d + 5) = xud (s0 (d + 5)) j (s0 (d + 5) j + 1)))))) args s 0 0 (xA h0) := ⟨_, rfl⟩
  rw [← eQ]
  generalize hHe : ([] : List Loc) = locs at hW ⊢
  obtain ⟨H, eH⟩ : ∃ H, H = s.heap := ⟨_, rfl⟩
  rw [← eH] at hW ⊢
  have hF : xFr (fun k => k = d + 5) s0 s0 := xFr.rf
  have hbd : (136 ≤ d ∧ d < 209) ∧ (d ≤ 146 ∨ 158 ≤ d) := by unfold xDay at hd; omega
  have k1_1 : s0 1 1 = s0 1 1 := rfl
  have kd_7 : s0 d 7 = s0 d 7 := rfl
  have hw1 := hw j hj.1 hj.2
  have hp5 := IC.p p0 hd j hj.1 hj.2
  refine x_aload_n hx hb hl 0 rfl dX2_takeStep_0 rfl ?_
  refine x_iload_n hx hb hl 1 rfl dX2_takeStep_1 rfl ?_
  refine x_goi (x_runV (As := [.int (xJ j)]) hx hb hml hown hT hE hW hl.1 (Or.inl (by omega)) (so_day0 h0 g hd _) rfl cf_X2_stepsLeft wq781 wq39 wq779 (c_X2_stepsLeft l D g T h0 s0 hW.2.1 d hd j rj p0) ⟨rfl, rfl, ⟨by decide, by decide⟩, ⟨by decide, by decide⟩⟩ rfl rfl (Nat.le_of_ble_eq_true rfl) dX2_takeStep_2) hW (fun x1 s2 H locs rx1 hp3 hW => ?_)
  obtain ⟨es2, hp3⟩ := hp3
  subst es2
  have ghp3 := hp3
  have H2 := (ghp3.resolve_right (fun q => by omega)).2.2
  rw [hw1.2.1] at H2
  refine x_if_le (tgt := 17) hx hb rx1 dX2_takeStep_5 (by decide) (fun c4 => ?_) (fun c4 => ?_)
  · skip
    refine x_iconst hx hb dX2_takeStep_17 ?_
    rw [eQ]
    exact x_iret hx hb hr hlk hW (by decide) ⟨hF, ⟨p0, trivial⟩, Or.inl ⟨by omega, rfl, rfl⟩⟩ dX2_takeStep_18
  refine x_aload_n hx hb hl 0 rfl dX2_takeStep_8 rfl ?_
  refine x_get (j := 2) (v := .ref (h0 + (d + 5))) hx hb hown hT hE hW cls_X2 (Or.inl (by omega)) (so_day0 h0 g hd _) (by decide) rfl wq387 dX2_takeStep_9 ?_
  refine x_iload_n hx hb hl 1 rfl dX2_takeStep_12 rfl ?_
  refine x_iald hx hb hE hW (Or.inl (by omega)) (sa_day5 h0 g hd _) (by omega) (by decide) dX2_takeStep_13 ?_
  refine x_rd hW (fun x5 ex5 rx5 => ?_)
  have bx5 : 0 ≤ x5 := by rw [ex5]; exact IC.p p0 hd _ (by omega) (by omega)
  refine x_if_ge (tgt := 19) hx hb rx5 dX2_takeStep_14 (by decide) (fun c6 => ?_) (fun c6 => ?_)
  · skip
    refine x_aload_n hx hb hl 0 rfl dX2_takeStep_19 rfl ?_
    refine x_get (j := 1) (v := .ref (h0 + (d + 2))) hx hb hown hT hE hW cls_X2 (Or.inl (by omega)) (so_day0 h0 g hd _) (by decide) rfl wq386 dX2_takeStep_20 ?_
    refine x_iload_n hx hb hl 1 rfl dX2_takeStep_23 rfl ?_
    refine x_aaldR (t0 := 3) (n := 2) (r := (s0 (d + 2) j).toNat) hx hb hE hW (by omega) rfl rfl (sg_day2 h0 g hd _) (by omega) (by decide) (by rw [xrow_day hd, Int.toNat_of_nonneg (by omega)]) dX2_takeStep_24 ?_
    obtain ⟨v7, ev7, rv7⟩ : ∃ v : Int, v = s0 (d + 2) j ∧ xR v := ⟨_, rfl, hW.2.1 _ _⟩
    have zv7 : (xlen s0 v7.toNat : Int) = xlen s0 (s0 (d + 2) j).toNat := by rw [ev7]
    have yv7 := xlen_le hW.2.1 v7.toNat
    rw [← ev7]
    have V24 := ev7
    refine x_aload_n hx hb hl 0 rfl dX2_takeStep_25 rfl ?_
    refine x_get (j := 2) (v := .ref (h0 + (d + 5))) hx hb hown hT hE hW cls_X2 (Or.inl (by omega)) (so_day0 h0 g hd _) (by decide) rfl wq387 dX2_takeStep_26 ?_
    refine x_iload_n hx hb hl 1 rfl dX2_takeStep_29 rfl ?_
    refine x_iald hx hb hE hW (Or.inl (by omega)) (sa_day5 h0 g hd _) (by omega) (by decide) dX2_takeStep_30 ?_
    refine x_rd hW (fun x8 ex8 rx8 => ?_)
    have bx8 : 0 ≤ x8 := by rw [ex8]; exact IC.p p0 hd _ (by omega) (by omega)
    have V30 : x8 = s0 (d + 5) j := ex8
    refine x_iald (k := (v7).toNat) (n := xlen s0 (v7).toNat) hx hb hE hW (show xAr s0 (v7).toNat from by rw [ev7]; exact IC.w p0 hd _ (by omega) (by omega)).v (show xAr s0 (v7).toNat from by rw [ev7]; exact IC.w p0 hd _ (by omega) (by omega)).celn (by omega) (xlen_le hW.2.1 _) dX2_takeStep_31 ?_
    refine x_rd hW (fun x9 ex9 rx9 => ?_)
    have V31 := ex9
    rw [V24, V30] at V31
    have W31 := hw1.2.2 (s0 (d + 5) j) hp5 (by omega)
    refine lv_istore_n (lv' := [(2, .int (xJ x9)), (0, .ref (h0 + d)), (1, .int (xJ j))]) hx hb dX2_takeStep_32 rfl hl (by decide) rfl (fun ls hl => ?_)
    refine x_aload_n hx hb hl 1 rfl dX2_takeStep_33 rfl ?_
    refine x_get (j := 2) (v := .ref (h0 + (d + 5))) hx hb hown hT hE hW cls_X2 (Or.inl (by omega)) (so_day0 h0 g hd _) (by decide) rfl wq387 dX2_takeStep_34 ?_
    refine x_iload_n hx hb hl 2 rfl dX2_takeStep_37 rfl ?_
    refine lv_dup2_11 hx hb dX2_takeStep_38 rfl rfl ?_
    refine x_iald hx hb hE hW (Or.inl (by omega)) (sa_day5 h0 g hd _) (by omega) (by decide) dX2_takeStep_39 ?_
    refine x_rd hW (fun x10 ex10 rx10 => ?_)
    have bx10 : 0 ≤ x10 := by rw [ex10]; exact IC.p p0 hd _ (by omega) (by omega)
    have V39 : x10 = s0 (d + 5) j := ex10
    refine x_iconst hx hb dX2_takeStep_40 ?_
    refine x_iadd hx hb dX2_takeStep_41 ?_
    refine x_iast hx hb hE hW (by omega) (fun σ => sa_day5 h0 g hd σ) (by omega) (by decide) (by omega) dX2_takeStep_42 (fun H locs s11 es11 hW => ?_)
    have q12 : IC s11 := by rw [es11]; exact IC_p hd p0 (by omega)
    have q13 : s11 1 1 = s0 1 1 := (show s11 1 1 = s0 1 1 from by rw [es11, xU_k _ _ _ (by first | decide | omega)]).trans k1_1
    have q14 : s11 d 7 = s0 d 7 := (show s11 d 7 = s0 d 7 from by rw [es11, xU_k _ _ _ (by first | decide | omega)]).trans kd_7
    have hF15 := hF.put es11 (by omega)
    have E42 := es11
    refine x_iload_n hx hb hl 0 rfl dX2_takeStep_43 rfl ?_
    rw [eQ]
    exact x_iret hx hb hr hlk hW rx9 ⟨hF15, ⟨q12, trivial⟩, Or.inr ⟨by omega, by omega, by omega, by rw [E42, xU_xud, V39]⟩⟩ dX2_takeStep_44
  refine x_iconst hx hb dX2_takeStep_17 ?_
  rw [eQ]
  exact x_iret hx hb hr hlk hW (by decide) ⟨hF, ⟨p0, trivial⟩, Or.inl ⟨by omega, rfl, rfl⟩⟩ dX2_takeStep_18
set_option maxHeartbeats 4000000 in
set_option maxRecDepth 100000 in
theorem c_X0_judgesStepJ (l : Launch) (D : va_G) (g : xG) (T : Nat × Nat × Nat) (h0 : Nat) (s0 : xS) (hσ : xRR s0) (d : Nat) (hd : xDay d) (K9 : Int → Int) (n9 : Int → Int) (w9 : Int → Int → Int) (hK : ∀ t : Int, 0 ≤ t → t < 100 → s0 4 t = K9 t) (hw : zWc s0 d n9 w9) (ho : zok (zt (s0 (d + 1)) (s0 (d + 5)))) (p0 : IC s0) : Met l yX0_judgesStep (xws yX0_judgesStep cX0_judgesStep 5 none) { frames := 2, cells := 0, slots := 0, locals := 43 } (xP [.ref (h0 + 128), .ref (h0 + d)] D g T h0 s0) (xQv D g h0 (fun τ => xFr (fun k => k = d + 1 ∨ k = d + 5) s0 τ ∧ (((IC τ) ∧ True) ∧ (zt (τ (d + 1)) (τ (d + 5)) = zjs K9 n9 w9 (zt (s0 (d + 1)) (s0 (d + 5))))))) 0 0 (xA h0) := by
  refine x_met hσ (by decide) (Nat.le_of_ble_eq_true rfl) ?_
  intro p e s m args below meth c hx hb hr hml hown hT hlk hnm hE hW ls hl
  have hl : lv_has ls 5 [(0, .ref (h0 + 128)), (1, .ref (h0 + d))] := hl
  obtain ⟨Q, eQ⟩ : ∃ Q, Q = MQ below (xQv D g h0 (fun τ => xFr (fun k => k = d + 1 ∨ k = d + 5) s0 τ ∧ (((IC τ) ∧ True) ∧ (zt (τ (d + 1)) (τ (d + 5)) = zjs K9 n9 w9 (zt (s0 (d + 1)) (s0 (d + 5))))))) args s 0 0 (xA h0) := ⟨_, rfl⟩
  rw [← eQ]
  generalize hHe : ([] : List Loc) = locs at hW ⊢
  obtain ⟨H, eH⟩ : ∃ H, H = s.heap := ⟨_, rfl⟩
  rw [← eH] at hW ⊢
  have hF : xFr (fun k => k = d + 1 ∨ k = d + 5) s0 s0 := xFr.rf
  have hbd : (136 ≤ d ∧ d < 209) ∧ (d ≤ 146 ∨ 158 ≤ d) := by unfold xDay at hd; omega
  have k1_1 : s0 1 1 = s0 1 1 := rfl
  have kd_7 : s0 d 7 = s0 d 7 := rfl
  refine x_iconst hx hb dX0_judgesStep_0 ?_
  refine lv_istore_n (lv' := [(2, .int (xJ 0)), (0, .ref (h0 + 128)), (1, .ref (h0 + d))]) hx hb dX0_judgesStep_1 rfl hl (by decide) rfl (fun ls hl => ?_)
  have L2 : ∀ (fu : Nat) (i2_2 : Int) (s_2 : xS) (H : Heap) (locs : List Loc) (ls : Array Slot), (xR i2_2) → (xFr (fun k => k = d + 1 ∨ k = d + 5) s0 s_2) → (IC s_2) → (s_2 1 1 = s0 1 1) → (s_2 d 7 = s0 d 7) → (0 ≤ i2_2 ∧ i2_2 ≤ 2) → (zt (s_2 (d + 1)) (s_2 (d + 5)) = zjp K9 n9 w9 i2_2 (zt (s0 (d + 1)) (s0 (d + 5)))) → (2 - i2_2).toNat < fu → xW D g h0 s H locs s_2 → lv_has ls 5 [(0, .ref (h0 + 128)), (1, .ref (h0 + d)), (2, .int (xJ i2_2))] → W p l e { frames := 2, cells := 0, slots := 0, locals := 43 } s m args below meth c H locs 0 0 Q (F0 m 2 ls []) := by
    intro fu
    induction fu with
    | zero => intro i2_2 s_2 H locs ls ri2_2 hF_2 q2_0 q2_1 q2_2 v2_0 v2_1 hm; exact absurd hm (Nat.not_lt_zero _)
    | succ fu ih2 =>
      intro i2_2 s_2 H locs ls ri2_2 hF_2 q2_0 q2_1 q2_2 v2_0 v2_1 hm hW hl
      have hm_2 := fun (_ : Unit) => hm
      clear hm
      have ok2 : zok (zt (s_2 (d + 1)) (s_2 (d + 5))) := by rw [v2_1]; exact zok_p ho
      refine x_iload_n hx hb hl 2 rfl dX0_judgesStep_2 rfl ?_
      refine x_iconst hx hb dX0_judgesStep_3 ?_
      refine x_icmp_ge (tgt := 85) hx hb ri2_2 (by decide) dX0_judgesStep_4 (by decide) (fun c1 => ?_) (fun c1 => ?_)
      · skip
        rw [eQ]
        exact x_vret hx hb hr hlk hW ⟨hF_2, ⟨q2_0, trivial⟩, by rw [← zjp_2 (k := i2_2) (by omega)]; exact v2_1⟩ dX0_judgesStep_85
      refine x_aload_n hx hb hl 1 rfl dX0_judgesStep_7 rfl ?_
      refine x_iload_n hx hb hl 2 rfl dX0_judgesStep_8 rfl ?_
      refine x_goi (x_runVN (As := [.int (xJ i2_2)]) hx hb hml hown hT hE hW hl.1 (Or.inl (by omega)) (so_day0 h0 g hd _) rfl cf_X2_hasJudge wq773 wq37 wn771 (c_X2_hasJudgeJ l D g T h0 s_2 hW.2.1 d hd i2_2 ri2_2 q2_0) ⟨rfl, rfl, ⟨by decide, by decide⟩, ⟨by decide, by decide⟩⟩ rfl rfl (Nat.le_of_ble_eq_true rfl) dX0_judgesStep_9) hW (fun x2 s3 H locs rx2 hp4 hW => ?_)
      obtain ⟨es3, hp4⟩ := hp4
      subst es3
      have ghp4 := hp4
      have H9 := ghp4
      have A9 : x2 = 0 → s_2 (d + 1) i2_2 = -1 := fun h => by omega
      refine x_if_ne (tgt := 18) hx hb rx2 dX0_judgesStep_12 (by decide) (fun c5 => ?_) (fun c5 => ?_)
      · skip
        refine x_aload_n hx hb hl 1 rfl dX0_judgesStep_18 rfl ?_
        refine x_iload_n hx hb hl 2 rfl dX0_judgesStep_19 rfl ?_
        refine x_goi (x_runVN (As := [.int (xJ i2_2)]) hx hb hml hown hT hE hW hl.1 (Or.inl (by omega)) (so_day0 h0 g hd _) rfl cf_X2_takeStep wq777 wq38 wn775 (c_X2_takeStepJ l D g T h0 s_2 hW.2.1 d hd i2_2 ri2_2 n9 w9 (by omega) (by first | exact hw | exact hw.f (hF_2 _ (by omega)) (fun k hk => hF_2 k (by first | omega | (unfold xDay at hd; omega)))) q2_0) ⟨rfl, rfl, ⟨by decide, by decide⟩, ⟨by decide, by decide⟩⟩ rfl rfl (Nat.le_of_ble_eq_true rfl) dX0_judgesStep_20) hW (fun x6 s7 H locs rx6 hp8 hW => ?_)
        obtain ⟨fs7, hp8⟩ := hp8
        have hF9 := hF_2.call fs7 (fun k h => by omega)
        have q10 : s7 1 1 = s0 1 1 := (congrFun (fs7 _ (by omega)) _).trans q2_1
        have q11 : s7 d 7 = s0 d 7 := (congrFun (fs7 _ (by omega)) _).trans q2_2
        have ghp8 := hp8.2
        have H20 := ghp8
        have A20 : s_2 (d + 1) i2_2 ≠ -1 := by omega
        have J20 : s7 (d + 1) = s_2 (d + 1) := fs7 (d + 1) (by omega)
        have B20 : x6 = 4 → zt (s7 (d + 1)) (s7 (d + 5)) = zjk K9 n9 w9 i2_2 (zt (s_2 (d + 1)) (s_2 (d + 5))) := fun h => by
          rcases H20 with g | g
          · exact zjk_c (by omega) (by rw [J20]; exact zxud_e (znw_no (Or.inr g.1))) (by rw [g.2.2]; exact zxud_e (znc_no (Or.inr g.1)))
          · exact zjk_c (by omega) (by rw [J20]; exact zxud_e (znw_st (Or.inl (by omega)))) (by rw [g.2.2.2, znc_s A20 g.1])
        have G20 : x6 ≠ 4 → _ := fun h => H20.resolve_left (fun q => h q.2.1)
        refine lv_istore_n (lv' := [(3, .int (xJ x6)), (0, .ref (h0 + 128)), (1, .ref (h0 + d)), (2, .int (xJ i2_2))]) hx hb dX0_judgesStep_23 rfl hl (by decide) rfl (fun ls hl => ?_)
        refine x_iload_n hx hb hl 0 rfl dX0_judgesStep_24 rfl ?_
        refine x_iconst hx hb dX0_judgesStep_25 ?_
        refine x_icmp_ne (tgt := 32) hx hb rx6 (by decide) dX0_judgesStep_26 (by decide) (fun c12 => ?_) (fun c12 => ?_)
        · skip
          refine x_aload_n hx hb hl 2 rfl dX0_judgesStep_32 rfl ?_
          refine x_getN (j := 0) (v := .ref (h0 + (d + 1))) hx hb hown hT hE hW cls_X2 (Or.inl (by omega)) (so_day0 h0 g hd _) (by decide) rfl wn384 dX0_judgesStep_33 ?_
          refine x_iload_n hx hb hl 3 rfl dX0_judgesStep_36 rfl ?_
          refine x_iald hx hb hE hW (Or.inl (by omega)) (sa_day1 h0 g hd _) (by omega) (by decide) dX0_judgesStep_37 ?_
          refine x_rd hW (fun x13 ex13 rx13 => ?_)
          have g20 := G20 (by omega)
          have V37 : x13 = s_2 (d + 1) i2_2 := by rw [ex13, J20]
          have o37 := zok_at (j := i2_2) ok2 (by omega)
          refine x_iconst hx hb dX0_judgesStep_38 ?_
          refine x_iload_n hx hb hl 0 rfl dX0_judgesStep_39 rfl ?_
          refine x_imul hx hb dX0_judgesStep_40 ?_
          refine x_goi (x_runSN (As := [.int (xJ x13), .int (xJ (2 * x6))]) hx hb hml hown hT hE hW hl.1 cf_X6_beside wq784 wn783 (c_X6_besideJ l D g T h0 s7 hW.2.1 x13 rx13 (2 * x6) (by omega)) ⟨rfl, rfl, ⟨by decide, by decide⟩, ⟨by decide, by decide⟩⟩ rfl rfl (Nat.le_of_ble_eq_true rfl) dX0_judgesStep_41) hW (fun x14 s15 H locs rx14 hp16 hW => ?_)
          obtain ⟨es15, hp16⟩ := hp16
          subst es15
          have ghp16 := hp16
          have H41 := ghp16
          obtain ⟨t9, et9⟩ : ∃ t, t = zbe (s_2 (d + 1) i2_2) (w9 i2_2 (s_2 (d + 5) i2_2)) := ⟨_, rfl⟩
          have T41 : x14 = t9 := by
            have e := (H41.resolve_right (fun q => q.1 (by omega))).2
            rw [V37, g20.2.1] at e
            rw [et9]; exact e
          have R41 := zbe_r (s_2 (d + 1) i2_2) (w9 i2_2 (s_2 (d + 5) i2_2))
          rw [← et9] at R41
          have S41 : s7 (d + 5) = xud (s_2 (d + 5)) i2_2 (znc (s_2 (d + 1) i2_2) (s_2 (d + 5) i2_2) (n9 i2_2)) := by rw [g20.2.2.2, znc_s A20 g20.1]
          have K41 : t9 = -1 ∨ s7 4 t9 = K9 t9 := R41.elim Or.inl (fun q => Or.inr (by rw [hF9 4 (by first | decide | omega)]; exact hK t9 q.1 q.2.1))
          refine lv_istore (lv' := [(4, .int (xJ x14)), (3, .int (xJ x6)), (0, .ref (h0 + 128)), (1, .ref (h0 + d)), (2, .int (xJ i2_2))]) hx hb dX0_judgesStep_44 hl (by decide) rfl (fun ls hl => ?_)
          refine x_aload_n hx hb hl 2 rfl dX0_judgesStep_46 rfl ?_
          refine x_get (j := 0) (v := .ref (h0 + 3)) hx hb hown hT hE hW cls_X0 (Or.inl (by decide)) (so_128 h0 g _) (by decide) rfl wq351 dX0_judgesStep_47 ?_
          refine x_iload hx hb hl 0 rfl dX0_judgesStep_50 ?_
          refine x_goi (x_runVN (As := [.int (xJ x14)]) hx hb hml hown hT hE hW hl.1 (Or.inl (by decide)) (so_3 h0 g _) rfl cf_X6_isOpen wq615 wq9 wn790 (c_X6_isOpenM l D g T h0 s7 hW.2.1 x14 rx14 hp8.1.1) ⟨rfl, rfl, ⟨by decide, by decide⟩, ⟨by decide, by decide⟩⟩ rfl rfl (Nat.le_of_ble_eq_true rfl) dX0_judgesStep_52) hW (fun x17 s18 H locs rx17 hp19 hW => ?_)
          obtain ⟨es18, hp19⟩ := hp19
          subst es18
          have ghp19 := hp19
          have H52 := ghp19
          rw [T41] at H52
          refine x_if_eq (tgt := 79) hx hb rx17 dX0_judgesStep_55 (by decide) (fun c20 => ?_) (fun c20 => ?_)
          · skip
            refine x_iinc (lv' := [(2, .int (xJ (i2_2 + 1))), (4, .int (xJ x14)), (3, .int (xJ x6)), (0, .ref (h0 + 128)), (1, .ref (h0 + d))]) hx hb hl 4 rfl dX0_judgesStep_79 (by decide) rfl (fun ls hl => ?_)
            refine lv_goto (tgt := 2) hx hb dX0_judgesStep_82 (by decide) ?_
            exact ih2 (i2_2 + 1) s7 H locs ls (by omega) hF9 hp8.1.1 q10 q11 (by omega) ((by
                    rw [zjp_s (by omega), ← v2_1]
                    first
                      | exact zjk_c (by omega) (zxud_e (znw_no (Or.inl A9))) (zxud_e (znc_no (Or.inl A9)))
                      | exact B20 (by omega)
                      | exact zjk_c (by omega) (by rw [J20]; exact zxud_e (znw_st (by rw [← et9]; omega))) S41
                      | exact zjk_c (by omega) (by rw [E78, xU_xud, J20, T41]; exact congrArg (xud (s_2 (d + 1)) i2_2) (((znw_go A20 g20.1 (by rw [← et9]; omega)).trans et9.symm).symm)) (by rw [E78, xU_k _ _ _ (by first | decide | omega)]; exact S41))) (by have hm := hm_2 (); omega) hW (lv_sub hl [3, 4, 0] rfl)
          refine x_aload_n hx hb hl 3 rfl dX0_judgesStep_58 rfl ?_
          refine x_getN (j := 0) (v := .ref (h0 + (d + 1))) hx hb hown hT hE hW cls_X2 (Or.inl (by omega)) (so_day0 h0 g hd _) (by decide) rfl wn384 dX0_judgesStep_59 ?_
          refine x_iconst hx hb dX0_judgesStep_62 ?_
          refine x_iload_n hx hb hl 4 rfl dX0_judgesStep_63 rfl ?_
          refine x_isub hx hb dX0_judgesStep_64 ?_
          refine x_iald hx hb hE hW (Or.inl (by omega)) (sa_day1 h0 g hd _) (by omega) (by decide) dX0_judgesStep_65 ?_
          refine x_rd hW (fun x21 ex21 rx21 => ?_)
          have V65 : x21 = s_2 (d + 1) (1 - i2_2) := by rw [ex21, J20]
          refine x_iload hx hb hl 0 rfl dX0_judgesStep_66 ?_
          refine x_icmp_eq (tgt := 79) hx hb rx21 rx14 dX0_judgesStep_68 (by decide) (fun c22 => ?_) (fun c22 => ?_)
          · skip
            refine x_iinc (lv' := [(2, .int (xJ (i2_2 + 1))), (4, .int (xJ x14)), (3, .int (xJ x6)), (0, .ref (h0 + 128)), (1, .ref (h0 + d))]) hx hb hl 4 rfl dX0_judgesStep_79 (by decide) rfl (fun ls hl => ?_)
            refine lv_goto (tgt := 2) hx hb dX0_judgesStep_82 (by decide) ?_
            exact ih2 (i2_2 + 1) s7 H locs ls (by omega) hF9 hp8.1.1 q10 q11 (by omega) ((by
                    rw [zjp_s (by omega), ← v2_1]
                    first
                      | exact zjk_c (by omega) (zxud_e (znw_no (Or.inl A9))) (zxud_e (znc_no (Or.inl A9)))
                      | exact B20 (by omega)
                      | exact zjk_c (by omega) (by rw [J20]; exact zxud_e (znw_st (by rw [← et9]; omega))) S41
                      | exact zjk_c (by omega) (by rw [E78, xU_xud, J20, T41]; exact congrArg (xud (s_2 (d + 1)) i2_2) (((znw_go A20 g20.1 (by rw [← et9]; omega)).trans et9.symm).symm)) (by rw [E78, xU_k _ _ _ (by first | decide | omega)]; exact S41))) (by have hm := hm_2 (); omega) hW (lv_sub hl [3, 4, 0] rfl)
          refine x_aload_n hx hb hl 3 rfl dX0_judgesStep_71 rfl ?_
          refine x_getN (j := 0) (v := .ref (h0 + (d + 1))) hx hb hown hT hE hW cls_X2 (Or.inl (by omega)) (so_day0 h0 g hd _) (by decide) rfl wn384 dX0_judgesStep_72 ?_
          refine x_iload_n hx hb hl 4 rfl dX0_judgesStep_75 rfl ?_
          refine x_iload hx hb hl 0 rfl dX0_judgesStep_76 ?_
          refine x_iast hx hb hE hW (by omega) (fun σ => sa_day1 h0 g hd σ) (by omega) (by decide) rx14 dX0_judgesStep_78 (fun H locs s23 es23 hW => ?_)
          have q24 : s23 1 1 = s0 1 1 := (show s23 1 1 = s7 1 1 from by rw [es23, xU_k _ _ _ (by first | decide | omega)]).trans q10
          have q25 : s23 d 7 = s0 d 7 := (show s23 d 7 = s7 d 7 from by rw [es23, xU_k _ _ _ (by first | decide | omega)]).trans q11
          have q26 : IC s23 := by rw [es23]; exact IC_o (nsC_d hd (by decide)) hp8.1.1
          have hF27 := hF9.put es23 (by omega)
          have E78 := es23
          refine x_iinc (lv' := [(2, .int (xJ (i2_2 + 1))), (4, .int (xJ x14)), (3, .int (xJ x6)), (0, .ref (h0 + 128)), (1, .ref (h0 + d))]) hx hb hl 4 rfl dX0_judgesStep_79 (by decide) rfl (fun ls hl => ?_)
          refine lv_goto (tgt := 2) hx hb dX0_judgesStep_82 (by decide) ?_
          exact ih2 (i2_2 + 1) s23 H locs ls (by omega) hF27 q26 q24 q25 (by omega) ((by
                    rw [zjp_s (by omega), ← v2_1]
                    first
                      | exact zjk_c (by omega) (zxud_e (znw_no (Or.inl A9))) (zxud_e (znc_no (Or.inl A9)))
                      | exact B20 (by omega)
                      | exact zjk_c (by omega) (by rw [J20]; exact zxud_e (znw_st (by rw [← et9]; omega))) S41
                      | exact zjk_c (by omega) (by rw [E78, xU_xud, J20, T41]; exact congrArg (xud (s_2 (d + 1)) i2_2) (((znw_go A20 g20.1 (by rw [← et9]; omega)).trans et9.symm).symm)) (by rw [E78, xU_k _ _ _ (by first | decide | omega)]; exact S41))) (by have hm := hm_2 (); omega) hW (lv_sub hl [3, 4, 0] rfl)
        refine lv_goto (tgt := 79) hx hb dX0_judgesStep_29 (by decide) ?_
        refine x_iinc (lv' := [(2, .int (xJ (i2_2 + 1))), (3, .int (xJ x6)), (0, .ref (h0 + 128)), (1, .ref (h0 + d))]) hx hb hl 3 rfl dX0_judgesStep_79 (by decide) rfl (fun ls hl => ?_)
        refine lv_goto (tgt := 2) hx hb dX0_judgesStep_82 (by decide) ?_
        exact ih2 (i2_2 + 1) s7 H locs ls (by omega) hF9 hp8.1.1 q10 q11 (by omega) ((by
                    rw [zjp_s (by omega), ← v2_1]
                    first
                      | exact zjk_c (by omega) (zxud_e (znw_no (Or.inl A9))) (zxud_e (znc_no (Or.inl A9)))
                      | exact B20 (by omega)
                      | exact zjk_c (by omega) (by rw [J20]; exact zxud_e (znw_st (by rw [← et9]; omega))) S41
                      | exact zjk_c (by omega) (by rw [E78, xU_xud, J20, T41]; exact congrArg (xud (s_2 (d + 1)) i2_2) (((znw_go A20 g20.1 (by rw [← et9]; omega)).trans et9.symm).symm)) (by rw [E78, xU_k _ _ _ (by first | decide | omega)]; exact S41))) (by have hm := hm_2 (); omega) hW (lv_sub hl [2, 3, 0] rfl)
      refine lv_goto (tgt := 79) hx hb dX0_judgesStep_15 (by decide) ?_
      have A9 := A9 (by omega)
      refine x_iinc (lv' := [(2, .int (xJ (i2_2 + 1))), (0, .ref (h0 + 128)), (1, .ref (h0 + d))]) hx hb hl 2 rfl dX0_judgesStep_79 (by decide) rfl (fun ls hl => ?_)
      refine lv_goto (tgt := 2) hx hb dX0_judgesStep_82 (by decide) ?_
      exact ih2 (i2_2 + 1) s_2 H locs ls (by omega) hF_2 q2_0 q2_1 q2_2 (by omega) ((by
                    rw [zjp_s (by omega), ← v2_1]
                    first
                      | exact zjk_c (by omega) (zxud_e (znw_no (Or.inl A9))) (zxud_e (znc_no (Or.inl A9)))
                      | exact B20 (by omega)
                      | exact zjk_c (by omega) (by rw [J20]; exact zxud_e (znw_st (by rw [← et9]; omega))) S41
                      | exact zjk_c (by omega) (by rw [E78, xU_xud, J20, T41]; exact congrArg (xud (s_2 (d + 1)) i2_2) (((znw_go A20 g20.1 (by rw [← et9]; omega)).trans et9.symm).symm)) (by rw [E78, xU_k _ _ _ (by first | decide | omega)]; exact S41))) (by have hm := hm_2 (); omega) hW (lv_sub hl [1, 2, 0] rfl)
  exact L2 ((2 - 0 : Int).toNat + 1) 0 s0 H locs ls (by decide) hF p0 k1_1 kd_7 (by omega) ((zjp_0 rfl).symm) (Nat.lt_succ_self _) hW (lv_sub hl [1, 2, 0] rfl)


set_option maxHeartbeats 4000000 in
set_option maxRecDepth 100000 in
theorem c_X2_setWalkJ (l : Launch) (D : va_G) (g : xG) (T : Nat × Nat × Nat) (h0 : Nat) (s0 : xS) (hσ : xRR s0) (d : Nat) (hd : xDay d) (j : Int) (rj : xR j) (v : Int) (rv : xR v) (hv : xAr s0 v.toNat) (hj : 0 ≤ j ∧ j < 2) (p0 : IC s0) : Met l yX2_setWalk (xws yX2_setWalk cX2_setWalk 3 none) { frames := 0, cells := 0, slots := 0, locals := 0 } (xP [.ref (h0 + d), .int (xJ j), .ref (h0 + v.toNat)] D g T h0 s0) (xQv D g h0 (fun τ => xFr (fun k => k = d + 2 ∨ k = d + 5) s0 τ ∧ (((IC τ) ∧ True) ∧ (τ (d + 2) = xud (s0 (d + 2)) j v ∧ τ (d + 5) = xud (s0 (d + 5)) j 0)))) 0 0 (xA h0) := by
  refine x_met hσ (by decide) (Nat.le_of_ble_eq_true rfl) ?_
  intro p e s m args below meth c hx hb hr hml hown hT hlk hnm hE hW ls hl
  have hl : lv_has ls 3 [(0, .ref (h0 + d)), (1, .int (xJ j)), (2, .ref (h0 + v.toNat))] := hl
  obtain ⟨Q, eQ⟩ : ∃ Q, Q = MQ below (xQv D g h0 (fun τ => xFr (fun k => k = d + 2 ∨ k = d + 5) s0 τ ∧ (((IC τ) ∧ True) ∧ (τ (d + 2) = xud (s0 (d + 2)) j v ∧ τ (d + 5) = xud (s0 (d + 5)) j 0)))) args s 0 0 (xA h0) := ⟨_, rfl⟩
  rw [← eQ]
  generalize hHe : ([] : List Loc) = locs at hW ⊢
  obtain ⟨H, eH⟩ : ∃ H, H = s.heap := ⟨_, rfl⟩
  rw [← eH] at hW ⊢
  have hF : xFr (fun k => k = d + 2 ∨ k = d + 5) s0 s0 := xFr.rf
  have hbd : (136 ≤ d ∧ d < 209) ∧ (d ≤ 146 ∨ 158 ≤ d) := by unfold xDay at hd; omega
  have k1_1 : s0 1 1 = s0 1 1 := rfl
  have kd_7 : s0 d 7 = s0 d 7 := rfl
  refine x_iload_n hx hb hl 1 rfl dX2_setWalk_0 rfl ?_
  refine x_if_lt (tgt := 27) hx hb rj dX2_setWalk_1 (by decide) (fun c1 => ?_) (fun c1 => ?_)
  · skip
    rw [eQ]
    exact x_vret hx hb hr hlk hW ⟨hF, ⟨p0, trivial⟩, by first | exact ⟨by rw [E26, xU_k _ _ _ (by first | decide | omega), E19, xU_xud], by rw [E26, xU_xud, E19, xU_k _ _ _ (by first | decide | omega)]⟩ | (exfalso; omega)⟩ dX2_setWalk_27
  refine x_iload_n hx hb hl 1 rfl dX2_setWalk_4 rfl ?_
  refine x_iconst hx hb dX2_setWalk_5 ?_
  refine x_icmp_ge (tgt := 27) hx hb rj (by decide) dX2_setWalk_6 (by decide) (fun c2 => ?_) (fun c2 => ?_)
  · skip
    rw [eQ]
    exact x_vret hx hb hr hlk hW ⟨hF, ⟨p0, trivial⟩, by first | exact ⟨by rw [E26, xU_k _ _ _ (by first | decide | omega), E19, xU_xud], by rw [E26, xU_xud, E19, xU_k _ _ _ (by first | decide | omega)]⟩ | (exfalso; omega)⟩ dX2_setWalk_27
  refine x_aload_n hx hb hl 2 rfl dX2_setWalk_9 rfl ?_
  refine lv_ifnull hx hb dX2_setWalk_10 ?_
  refine x_aload_n hx hb hl 0 rfl dX2_setWalk_13 rfl ?_
  refine x_get (j := 1) (v := .ref (h0 + (d + 2))) hx hb hown hT hE hW cls_X2 (Or.inl (by omega)) (so_day0 h0 g hd _) (by decide) rfl wq386 dX2_setWalk_14 ?_
  refine x_iload_n hx hb hl 1 rfl dX2_setWalk_17 rfl ?_
  refine x_aload_n hx hb hl 2 rfl dX2_setWalk_18 rfl ?_
  refine x_aastR (v := v) hx hb hE hW (by omega) (fun σ => sg_day2 h0 g hd σ) (xrow_day hd) (by omega) (by decide) (hv) rv dX2_setWalk_19 (fun H locs s3 es3 hW => ?_)
  have q4 : IC s3 := by rw [es3]; exact IC_w hd p0 (hv)
  have q5 : s3 1 1 = s0 1 1 := (show s3 1 1 = s0 1 1 from by rw [es3, xU_k _ _ _ (by first | decide | omega)]).trans k1_1
  have q6 : s3 d 7 = s0 d 7 := (show s3 d 7 = s0 d 7 from by rw [es3, xU_k _ _ _ (by first | decide | omega)]).trans kd_7
  have hF7 := hF.put es3 (by omega)
  have E19 := es3
  refine x_aload_n hx hb hl 0 rfl dX2_setWalk_20 rfl ?_
  refine x_get (j := 2) (v := .ref (h0 + (d + 5))) hx hb hown hT hE hW cls_X2 (Or.inl (by omega)) (so_day0 h0 g hd _) (by decide) rfl wq387 dX2_setWalk_21 ?_
  refine x_iload_n hx hb hl 1 rfl dX2_setWalk_24 rfl ?_
  refine x_iconst hx hb dX2_setWalk_25 ?_
  refine x_iast hx hb hE hW (by omega) (fun σ => sa_day5 h0 g hd σ) (by omega) (by decide) (by decide) dX2_setWalk_26 (fun H locs s8 es8 hW => ?_)
  have q9 : IC s8 := by rw [es8]; exact IC_p hd q4 (by omega)
  have q10 : s8 1 1 = s0 1 1 := (show s8 1 1 = s3 1 1 from by rw [es8, xU_k _ _ _ (by first | decide | omega)]).trans q5
  have q11 : s8 d 7 = s0 d 7 := (show s8 d 7 = s3 d 7 from by rw [es8, xU_k _ _ _ (by first | decide | omega)]).trans q6
  have hF12 := hF7.put es8 (by omega)
  have E26 := es8
  rw [eQ]
  exact x_vret hx hb hr hlk hW ⟨hF12, ⟨q9, trivial⟩, by first | exact ⟨by rw [E26, xU_k _ _ _ (by first | decide | omega), E19, xU_xud], by rw [E26, xU_xud, E19, xU_k _ _ _ (by first | decide | omega)]⟩ | (exfalso; omega)⟩ dX2_setWalk_27

set_option maxHeartbeats 4000000 in
set_option maxRecDepth 100000 in
theorem c_X9_copyOfStepsJ (l : Launch) (D : va_G) (g : xG) (T : Nat × Nat × Nat) (h0 : Nat) (s0 : xS) (hσ : xRR s0) (hz : 0 ≤ s0 999996 0 ∧ s0 999996 0 ≤ 900000) (p0 : IC s0) : Met l yX9_copyOfSteps (xws yX9_copyOfSteps cX9_copyOfSteps 3 (some (.array .int))) { frames := 1, cells := 1, slots := 60, locals := 30 } (xP [.ref (h0 + 126)] D g T h0 s0) (xQr D g h0 (fun r τ => xFr (fun k => 310 ≤ k) s0 τ ∧ (((IC τ) ∧ True) ∧ (r = 310 + (s0 999996 0).toNat ∧ xAr τ r ∧ τ 999996 0 = s0 999996 0 + 1 ∧ (xlen τ r : Int) = s0 126 2 ∧ (∀ j : Int, 0 ≤ j → j < s0 126 2 → τ r j = s0 127 j) ∧ ∀ k : Nat, k ≠ r → k < 999990 → τ k = s0 k ∧ xlen τ k = xlen s0 k)))) 1 60 (xA h0) := by
  refine x_met hσ (by decide) (Nat.le_of_ble_eq_true rfl) ?_
  intro p e s m args below meth c hx hb hr hml hown hT hlk hnm hE hW ls hl
  have hl : lv_has ls 3 [(0, .ref (h0 + 126))] := hl
  obtain ⟨Q, eQ⟩ : ∃ Q, Q = MQ below (xQr D g h0 (fun r τ => xFr (fun k => 310 ≤ k) s0 τ ∧ (((IC τ) ∧ True) ∧ (r = 310 + (s0 999996 0).toNat ∧ xAr τ r ∧ τ 999996 0 = s0 999996 0 + 1 ∧ (xlen τ r : Int) = s0 126 2 ∧ (∀ j : Int, 0 ≤ j → j < s0 126 2 → τ r j = s0 127 j) ∧ ∀ k : Nat, k ≠ r → k < 999990 → τ k = s0 k ∧ xlen τ k = xlen s0 k)))) args s 1 60 (xA h0) := ⟨_, rfl⟩
  rw [← eQ]
  generalize hHe : ([] : List Loc) = locs at hW ⊢
  obtain ⟨H, eH⟩ : ∃ H, H = s.heap := ⟨_, rfl⟩
  rw [← eH] at hW ⊢
  refine x_iconst hx hb dX9_copyOfSteps_0 ?_
  refine x_aload_n hx hb hl 0 rfl dX9_copyOfSteps_1 rfl ?_
  refine x_get (j := 2) (v := .int (xJ (s0 126 2))) hx hb hown hT hE hW cls_X9 (Or.inl (by decide)) (so_126 h0 g _) (by decide) rfl wq309 dX9_copyOfSteps_2 ?_
  refine x_rd hW (fun x1 ex1 rx1 => ?_)
  have b1 := p0.y
  rw [← ex1] at b1
  refine x_bipush hx hb dX9_copyOfSteps_5 (by decide) ?_
  refine x_mmin hx hb hml hl.1 hown hT wq741 wq569 wq180 wq570 ⟨by decide, Nat.le_of_ble_eq_true rfl, by decide, by decide⟩ rx1 (by decide) dX9_copyOfSteps_7 ?_
  refine x_nm (fun x2 ex2 => ?_)
  have f2 : x2 = x1 := by rw [ex2]; split <;> omega
  refine x_mmax hx hb hml hl.1 hown hT wq742 wq594 wq180 wq595 ⟨by decide, Nat.le_of_ble_eq_true rfl, by decide, by decide⟩ (by decide) (by omega) dX9_copyOfSteps_10 ?_
  refine x_nm (fun x3 ex3 => ?_)
  have f3 : x3 = x1 := by rw [ex3]; split <;> omega
  have f4 : x3 = s0 126 2 := by rw [f3, ex1]
  refine x_newW (a := x3) hx hb hT hE hW wq217 (by omega) hz (by decide) (by decide) dX9_copyOfSteps_13 (fun H n s1 en es1 hW => ?_)
  have hn : 310 ≤ n ∧ n < 999990 := by omega
  have hF : xFr (fun k => 310 ≤ k) s0 s1 := fun k hk => by rw [es1]; exact xN_k s0 x3 (by omega) hn.1
  have a1 : xAr s1 n := Or.inr ⟨hn.1, hn.2, by rw [es1, xN_7 s0 x3 hn.2, if_pos rfl]⟩
  have l1 : (xlen s1 n : Int) = x3 := by
    unfold xlen
    rw [if_neg (by omega), es1, xN_8 s0 x3 hn.2, if_pos rfl]
    omega
  have z1 : s1 999996 0 = s0 999996 0 + 1 := by rw [es1]; exact xN_6 s0 n x3
  have i1 : IC s1 := by
    have hk : ∀ k, k < 310 → s1 k = s0 k := fun k hk => hF k (by omega)
    refine ⟨okT_f (hk 1 (by decide)) (hk 2 (by decide)) p0.1, ?_, ?_, ?_, ?_, fun d hd => ?_⟩
    · unfold okL; rw [hk 109 (by decide)]; exact p0.l1
    · unfold okL; rw [hk 118 (by decide)]; exact p0.l2
    · rw [hk 130 (by decide)]; exact p0.z
    · rw [hk 126 (by decide)]; exact p0.y
    · have hd9 : d < 218 := by unfold xDay at hd; omega
      refine ⟨fun j h1 h2 => ?_, fun j h1 h2 => ?_, ?_, ?_, fun j h1 h2 => ?_⟩
      · rw [hk (d + 2) (by omega)]
        rcases p0.w hd j h1 h2 with h | h
        · exact Or.inl h
        · refine Or.inr ⟨h.1, h.2.1, ?_⟩
          rw [es1, xN_7 s0 x3 hn.2]
          split
          · rfl
          · exact h.2.2
      · rw [hk (d + 5) (by omega)]; exact p0.p hd j h1 h2
      · rw [hk d (by omega)]; exact p0.m hd
      · rw [hk d (by omega)]; exact p0.x hd
      · rw [hk (d + 9) (by omega)]; exact p0.b hd j h1 h2
  have o1 : ∀ k : Nat, k ≠ n → k < 999990 → s1 k = s0 k ∧ xlen s1 k = xlen s0 k := fun k h1 h2 => ⟨by rw [es1]; exact xN_o s0 x3 h1 h2, by
    unfold xlen
    split
    · rfl
    · rw [es1, xN_8 s0 x3 hn.2, if_neg (by omega)]⟩
  refine lv_astore_n (lv' := [(1, .ref (h0 + n)), (0, .ref (h0 + 126))]) hx hb dX9_copyOfSteps_15 rfl hl (by decide) rfl (fun ls hl => ?_)
  refine x_iconst hx hb dX9_copyOfSteps_16 ?_
  refine lv_istore_n (lv' := [(2, .int (xJ 0)), (1, .ref (h0 + n)), (0, .ref (h0 + 126))]) hx hb dX9_copyOfSteps_17 rfl hl (by decide) rfl (fun ls hl => ?_)
  have L18 : ∀ (fu : Nat) (i : Int) (s2 : xS) (H : Heap) (locs : List Loc) (ls : Array Slot), (0 ≤ i ∧ i ≤ 60) → (61 - i).toNat < fu → xFr (fun k => 310 ≤ k) s0 s2 → IC s2 → xAr s2 n → ((xlen s2 n : Int) = x3) → (s2 999996 0 = s0 999996 0 + 1) → (∀ j : Int, 0 ≤ j → j < i → s2 n j = s0 127 j) → (∀ k : Nat, k ≠ n → k < 999990 → s2 k = s0 k ∧ xlen s2 k = xlen s0 k) → xW D g h0 s H locs s2 → lv_has ls 3 [(2, .int (xJ i)), (1, .ref (h0 + n)), (0, .ref (h0 + 126))] → W p l e { frames := 1, cells := 1, slots := 60, locals := 30 } s m args below meth c H locs (0 + 1) (0 + 60) Q (F0 m 18 ls []) := by
    intro fu
    induction fu with
    | zero => intro i s2 H locs ls _ hm; exact absurd hm (Nat.not_lt_zero _)
    | succ fu ih =>
      intro i s2 H locs ls hi hm hF i2 a2 l2 z2 v2 o2 hW hl
      refine x_iload_n hx hb hl 0 rfl dX9_copyOfSteps_18 rfl ?_
      refine x_aload_n hx hb hl 1 rfl dX9_copyOfSteps_19 rfl ?_
      refine x_alen (k := n) (n := xlen s2 n) (t0 := 0) hx hb hE hW a2.v a2.celn rfl rfl dX9_copyOfSteps_20 ?_
      rw [l2]
      by_cases hlt : i ≤ 60
      · refine x_icmp_ge (tgt := 39) hx hb (by omega) (by omega) dX9_copyOfSteps_21 (by decide) (fun c1 => ?_) (fun c1 => ?_)
        · refine x_aload_n hx hb hl 1 rfl dX9_copyOfSteps_39 rfl ?_
          rw [eQ]
          exact x_aret hx hb hr (Or.inr ⟨_, rfl⟩) hlk hW ⟨hF, ⟨i2, trivial⟩, en, a2, z2, by rw [l2, f4], fun j h1 h2 => v2 j h1 (by omega), o2⟩ dX9_copyOfSteps_40
        · refine x_aload_n hx hb hl 1 rfl dX9_copyOfSteps_24 rfl ?_
          refine x_iload_n hx hb hl 0 rfl dX9_copyOfSteps_25 rfl ?_
          refine x_aload_n hx hb hl 2 rfl dX9_copyOfSteps_26 rfl ?_
          refine x_get (j := 1) (v := .ref (h0 + 127)) hx hb hown hT hE hW cls_X9 (Or.inl (by decide)) (so_126 h0 g _) (by decide) rfl wq308 dX9_copyOfSteps_27 ?_
          refine x_iload_n hx hb hl 0 rfl dX9_copyOfSteps_30 rfl ?_
          refine x_iald hx hb hE hW (Or.inl (by decide)) (sa_127 h0 g _) (by omega) (by decide) dX9_copyOfSteps_31 ?_
          refine x_rd hW (fun x4 ex4 rx4 => ?_)
          refine x_iastW (k := n) hx hb hE hW hn a2 (by omega) rx4 dX9_copyOfSteps_32 (fun H locs s3 es3 hW => ?_)
          refine x_iinc (lv' := [(2, .int (xJ (i + 1))), (1, .ref (h0 + n)), (0, .ref (h0 + 126))]) hx hb hl 0 rfl dX9_copyOfSteps_33 (by decide) rfl (fun ls hl => ?_)
          refine lv_goto (tgt := 18) hx hb dX9_copyOfSteps_36 (by decide) ?_
          refine ih (i + 1) s3 H locs ls (by omega) (by omega) (hF.put es3 (by omega)) (by rw [es3]; exact IC_o (by unfold nsC; omega) i2) (a2.f (by rw [es3]; exact xU_k s2 i x4 (by omega))) ?_ ?_ ?_ (fun k h1 h2 => by
            have e8 : xlen s3 k = xlen s2 k := by
              unfold xlen
              rw [es3, xU_k s2 i x4 (show 999998 ≠ n from by omega)]
            rw [e8, es3, xU_k s2 i x4 h1]
            exact o2 k h1 h2) hW hl
          · rw [← l2, es3]
            unfold xlen
            rw [xU_k s2 i x4 (by omega)]
          · rw [es3, xU_k s2 i x4 (by omega)]
            exact z2
          · intro j h1 h2
            rw [es3, xU_i]
            split
            · rename_i h
              rw [h, ex4, hF 127 (by omega)]
            · exact v2 j h1 (by omega)
      · refine x_icmp_ge (tgt := 39) hx hb (by omega) (by omega) dX9_copyOfSteps_21 (by decide) (fun c1 => ?_) (fun c1 => ?_)
        · refine x_aload_n hx hb hl 1 rfl dX9_copyOfSteps_39 rfl ?_
          rw [eQ]
          exact x_aret hx hb hr (Or.inr ⟨_, rfl⟩) hlk hW ⟨hF, ⟨i2, trivial⟩, en, a2, z2, by rw [l2, f4], fun j h1 h2 => v2 j h1 (by omega), o2⟩ dX9_copyOfSteps_40
        · omega
  exact L18 ((61 - 0 : Int).toNat + 1) 0 s1 H locs ls (by omega) (Nat.lt_succ_self _) hF i1 a1 l1 z1 (fun j h1 h2 => by omega) o1 hW hl
set_option maxHeartbeats 4000000 in
set_option maxRecDepth 100000 in
theorem c_X10_walkJ (l : Launch) (D : va_G) (g : xG) (T : Nat × Nat × Nat) (h0 : Nat) (s0 : xS) (hσ : xRR s0) (j : Int) (rj : xR j) (n : Int) (rn : xR n) (hz : 0 ≤ s0 999996 0 ∧ s0 999996 0 ≤ 900000) (p0 : IC s0) : Met l yX10_walk (xws yX10_walk cX10_walk 4 (some .int)) { frames := 8, cells := 1, slots := 60, locals := 188 } (xP [.ref (h0 + 0), .int (xJ j), .int (xJ n)] D g T h0 s0) (xQi D g h0 (fun r τ => xFr (fun k => 310 ≤ k ∨ k = 1 ∨ k = 126 ∨ k = 127 ∨ k = 138 ∨ k = 141) s0 τ ∧ (((IC τ) ∧ True) ∧ ((τ 999996 0 = s0 999996 0 ∨ τ 999996 0 = s0 999996 0 + 1) ∧ (((j < 0 ∨ 1 < j ∨ n < 1 ∨ 80 < n ∨ s0 1 1 < n) ∧ τ 1 1 = s0 1 1 ∧ r = -1 ∧ τ 999996 0 = s0 999996 0 ∧ ∀ k : Nat, k ≠ 1 → k ≠ 126 → k ≠ 127 → τ k = s0 k) ∨ (¬ (j < 0 ∨ 1 < j ∨ n < 1 ∨ 80 < n ∨ s0 1 1 < n) ∧ τ 1 1 = 0 ∧ (((zws (s0 2) n 1 (2 * n + 1).toNat true 0 0 (s0 127) []).1 ≠ 0 ∧ r = (zws (s0 2) n 1 (2 * n + 1).toNat true 0 0 (s0 127) []).1 ∧ τ 999996 0 = s0 999996 0 ∧ ∀ k : Nat, k ≠ 1 → k ≠ 126 → k ≠ 127 → τ k = s0 k) ∨ ((zws (s0 2) n 1 (2 * n + 1).toNat true 0 0 (s0 127) []).1 = 0 ∧ r = (zws (s0 2) n 1 (2 * n + 1).toNat true 0 0 (s0 127) []).2.1 ∧ τ 999996 0 = s0 999996 0 + 1 ∧ τ 138 = xud (s0 138) j (310 + s0 999996 0) ∧ τ 141 = xud (s0 141) j 0 ∧ (xlen τ (310 + (s0 999996 0).toNat) : Int) = (zws (s0 2) n 1 (2 * n + 1).toNat true 0 0 (s0 127) []).2.1 ∧ (∀ i : Int, 0 ≤ i → i < (zws (s0 2) n 1 (2 * n + 1).toNat true 0 0 (s0 127) []).2.1 → τ (310 + (s0 999996 0).toNat) i = (zws (s0 2) n 1 (2 * n + 1).toNat true 0 0 (s0 127) []).2.2 i) ∧ ∀ k : Nat, k ≠ 1 → k ≠ 126 → k ≠ 127 → k ≠ 138 → k ≠ 141 → k ≠ (310 + (s0 999996 0).toNat) → k < 999990 → τ k = s0 k ∧ xlen τ k = xlen s0 k)))))))) 1 60 (xA h0) := by
  refine x_met hσ (by decide) (Nat.le_of_ble_eq_true rfl) ?_
  intro p e s m args below meth c hx hb hr hml hown hT hlk hnm hE hW ls hl
  have hl : lv_has ls 4 [(0, .ref (h0 + 0)), (1, .int (xJ j)), (2, .int (xJ n))] := hl
  obtain ⟨Q, eQ⟩ : ∃ Q, Q = MQ below (xQi D g h0 (fun r τ => xFr (fun k => 310 ≤ k ∨ k = 1 ∨ k = 126 ∨ k = 127 ∨ k = 138 ∨ k = 141) s0 τ ∧ (((IC τ) ∧ True) ∧ ((τ 999996 0 = s0 999996 0 ∨ τ 999996 0 = s0 999996 0 + 1) ∧ (((j < 0 ∨ 1 < j ∨ n < 1 ∨ 80 < n ∨ s0 1 1 < n) ∧ τ 1 1 = s0 1 1 ∧ r = -1 ∧ τ 999996 0 = s0 999996 0 ∧ ∀ k : Nat, k ≠ 1 → k ≠ 126 → k ≠ 127 → τ k = s0 k) ∨ (¬ (j < 0 ∨ 1 < j ∨ n < 1 ∨ 80 < n ∨ s0 1 1 < n) ∧ τ 1 1 = 0 ∧ (((zws (s0 2) n 1 (2 * n + 1).toNat true 0 0 (s0 127) []).1 ≠ 0 ∧ r = (zws (s0 2) n 1 (2 * n + 1).toNat true 0 0 (s0 127) []).1 ∧ τ 999996 0 = s0 999996 0 ∧ ∀ k : Nat, k ≠ 1 → k ≠ 126 → k ≠ 127 → τ k = s0 k) ∨ ((zws (s0 2) n 1 (2 * n + 1).toNat true 0 0 (s0 127) []).1 = 0 ∧ r = (zws (s0 2) n 1 (2 * n + 1).toNat true 0 0 (s0 127) []).2.1 ∧ τ 999996 0 = s0 999996 0 + 1 ∧ τ 138 = xud (s0 138) j (310 + s0 999996 0) ∧ τ 141 = xud (s0 141) j 0 ∧ (xlen τ (310 + (s0 999996 0).toNat) : Int) = (zws (s0 2) n 1 (2 * n + 1).toNat true 0 0 (s0 127) []).2.1 ∧ (∀ i : Int, 0 ≤ i → i < (zws (s0 2) n 1 (2 * n + 1).toNat true 0 0 (s0 127) []).2.1 → τ (310 + (s0 999996 0).toNat) i = (zws (s0 2) n 1 (2 * n + 1).toNat true 0 0 (s0 127) []).2.2 i) ∧ ∀ k : Nat, k ≠ 1 → k ≠ 126 → k ≠ 127 → k ≠ 138 → k ≠ 141 → k ≠ (310 + (s0 999996 0).toNat) → k < 999990 → τ k = s0 k ∧ xlen τ k = xlen s0 k)))))))) args s 1 60 (xA h0) := ⟨_, rfl⟩
  rw [← eQ]
  generalize hHe : ([] : List Loc) = locs at hW ⊢
  obtain ⟨H, eH⟩ : ∃ H, H = s.heap := ⟨_, rfl⟩
  rw [← eH] at hW ⊢
  have hF : xFr (fun k => 310 ≤ k ∨ k = 1 ∨ k = 126 ∨ k = 127 ∨ k = 138 ∨ k = 141) s0 s0 := xFr.rf
  have k1_1 : s0 1 1 = s0 1 1 := rfl
  have k999996_0 : s0 999996 0 = s0 999996 0 := rfl
  refine x_iload_n hx hb hl 1 rfl dX10_walk_0 rfl ?_
  refine x_iconst hx hb dX10_walk_1 ?_
  refine x_iconst hx hb dX10_walk_2 ?_
  refine x_goi (x_runS (As := [.int (xJ j), .int (xJ 0), .int (xJ 1)]) hx hb hml hown hT hE hW hl.1 cf_X10_isIn wq562 wq561 (c_X10_isIn l D g T h0 s0 hW.2.1 j rj 0 (by decide) 1 (by decide)) ⟨rfl, rfl, ⟨by decide, by decide⟩, ⟨by decide, by decide⟩⟩ rfl rfl (Nat.le_of_ble_eq_true rfl) dX10_walk_3) hW (fun x1 s2 H locs rx1 hp3 hW => ?_)
  obtain ⟨es2, hp3⟩ := hp3
  subst es2
  have ghp3 := hp3
  refine x_if_eq (tgt := 30) hx hb rx1 dX10_walk_6 (by decide) (fun c4 => ?_) (fun c4 => ?_)
  · skip
    refine x_iconst hx hb dX10_walk_30 ?_
    refine W.widen (k := 1) (n := 60) (Nat.le_of_ble_eq_true rfl) (Nat.le_of_ble_eq_true rfl) ?_
    rw [eQ]
    exact x_iret hx hb hr hlk hW (by decide) ⟨hF, ⟨p0, trivial⟩, ⟨Or.inl (by omega), Or.inl ⟨by omega, by omega, by omega, rfl, fun k _ _ _ => rfl⟩⟩⟩ dX10_walk_31
  refine x_iload_n hx hb hl 2 rfl dX10_walk_9 rfl ?_
  refine x_iconst hx hb dX10_walk_10 ?_
  refine x_bipush hx hb dX10_walk_11 (by decide) ?_
  refine x_goi (x_runS (As := [.int (xJ n), .int (xJ 1), .int (xJ 80)]) hx hb hml hown hT hE hW hl.1 cf_X10_isIn wq562 wq561 (c_X10_isIn l D g T h0 s0 hW.2.1 n rn 1 (by decide) 80 (by decide)) ⟨rfl, rfl, ⟨by decide, by decide⟩, ⟨by decide, by decide⟩⟩ rfl rfl (Nat.le_of_ble_eq_true rfl) dX10_walk_13) hW (fun x5 s6 H locs rx5 hp7 hW => ?_)
  obtain ⟨es6, hp7⟩ := hp7
  subst es6
  have ghp7 := hp7
  refine x_if_eq (tgt := 30) hx hb rx5 dX10_walk_16 (by decide) (fun c8 => ?_) (fun c8 => ?_)
  · skip
    refine x_iconst hx hb dX10_walk_30 ?_
    refine W.widen (k := 1) (n := 60) (Nat.le_of_ble_eq_true rfl) (Nat.le_of_ble_eq_true rfl) ?_
    rw [eQ]
    exact x_iret hx hb hr hlk hW (by decide) ⟨hF, ⟨p0, trivial⟩, ⟨Or.inl (by omega), Or.inl ⟨by omega, by omega, by omega, rfl, fun k _ _ _ => rfl⟩⟩⟩ dX10_walk_31
  refine x_iload_n hx hb hl 2 rfl dX10_walk_19 rfl ?_
  refine x_aload_n hx hb hl 0 rfl dX10_walk_20 rfl ?_
  refine x_get (j := 0) (v := .ref (h0 + 1)) hx hb hown hT hE hW cls_X10 (Or.inl (by decide)) (so_0 h0 g _) (by decide) rfl wq512 dX10_walk_21 ?_
  refine x_getN (j := 1) (v := .int (xJ (s0 1 1))) hx hb hown hT hE hW cls_X8 (Or.inl (by decide)) (so_1 h0 g _) (by decide) rfl wn198 dX10_walk_24 ?_
  refine x_rd hW (fun x9 ex9 rx9 => ?_)
  have bx9 : 0 ≤ x9 ∧ x9 ≤ 260 := by rw [ex9]; exact IC.t p0
  have fx9 : x9 = s0 1 1 := ex9.trans k1_1
  refine x_icmp_le (tgt := 32) hx hb rn rx9 dX10_walk_27 (by decide) (fun c10 => ?_) (fun c10 => ?_)
  · skip
    refine x_aload_n hx hb hl 0 rfl dX10_walk_32 rfl ?_
    refine x_get (j := 0) (v := .ref (h0 + 1)) hx hb hown hT hE hW cls_X10 (Or.inl (by decide)) (so_0 h0 g _) (by decide) rfl wq512 dX10_walk_33 ?_
    refine x_iload_n hx hb hl 2 rfl dX10_walk_36 rfl ?_
    refine x_gov (x_runVN (As := [.int (xJ n)]) hx hb hml hown hT hE hW hl.1 (Or.inl (by decide)) (so_1 h0 g _) rfl cf_X8_open wq566 wq1 wn564 (c_X8_openM l D g T h0 s0 hW.2.1 n rn (by omega) p0) ⟨rfl, rfl, ⟨by decide, by decide⟩, ⟨by decide, by decide⟩⟩ rfl rfl (Nat.le_of_ble_eq_true rfl) dX10_walk_37) hW (fun s12 H locs hp13 hW => ?_)
    obtain ⟨fs12, hp13⟩ := hp13
    have hF14 := hF.call fs12 (fun k h => by omega)
    have q15 : s12 999996 0 = s0 999996 0 := (congrFun (fs12 _ (by omega)) _).trans k999996_0
    have ghp13 := hp13.2
    have O37 := ghp13
    have P37 : s12 2 = s0 2 ∧ s12 127 = s0 127 := ⟨fs12 2 (by first | decide | omega), fs12 127 (by first | decide | omega)⟩
    have Q37 : ∀ k : Nat, k ≠ 1 → k ≠ 126 → k ≠ 127 → s12 k = s0 k := fun k a b c => fs12 k (by omega)
    refine x_aload_n hx hb hl 0 rfl dX10_walk_40 rfl ?_
    refine x_get (j := 4) (v := .ref (h0 + 126)) hx hb hown hT hE hW cls_X10 (Or.inl (by decide)) (so_0 h0 g _) (by decide) rfl wq516 dX10_walk_41 ?_
    refine x_goi (x_runVN (As := []) hx hb hml hown hT hE hW hl.1 (Or.inl (by decide)) (so_126 h0 g _) rfl cf_X9_readWhole wq717 wq28 wn715 (c_X9_readWholeW l D g T h0 s12 hW.2.1 (by omega) hp13.1.1) ⟨rfl, rfl, ⟨by decide, by decide⟩, ⟨by decide, by decide⟩⟩ rfl rfl (Nat.le_of_ble_eq_true rfl) dX10_walk_44) hW (fun x16 s17 H locs rx16 hp18 hW => ?_)
    obtain ⟨fs17, hp18⟩ := hp18
    have hF19 := hF14.call fs17 (fun k h => by omega)
    have q20 : s17 999996 0 = s0 999996 0 := (congrFun (fs17 _ (by omega)) _).trans q15
    have ghp18 := hp18.2
    have R44 := ghp18
    rw [P37.1, O37.1, P37.2] at R44
    have Q44 : ∀ k : Nat, k ≠ 1 → k ≠ 126 → k ≠ 127 → s17 k = s0 k := fun k a b c => (fs17 k (by omega)).trans (Q37 k a b c)
    refine lv_istore_n (lv' := [(3, .int (xJ x16)), (0, .ref (h0 + 0)), (1, .int (xJ j)), (2, .int (xJ n))]) hx hb dX10_walk_47 rfl hl (by decide) rfl (fun ls hl => ?_)
    refine x_aload_n hx hb hl 1 rfl dX10_walk_48 rfl ?_
    refine x_get (j := 0) (v := .ref (h0 + 1)) hx hb hown hT hE hW cls_X10 (Or.inl (by decide)) (so_0 h0 g _) (by decide) rfl wq512 dX10_walk_49 ?_
    refine x_gov (x_runVN (As := []) hx hb hml hown hT hE hW hl.1 (Or.inl (by decide)) (so_1 h0 g _) rfl cf_X8_drop wq607 wq7 wn605 (c_X8_dropM l D g T h0 s17 hW.2.1 hp18.1.1) ⟨rfl, rfl, ⟨by decide, by decide⟩, ⟨by decide, by decide⟩⟩ rfl rfl (Nat.le_of_ble_eq_true rfl) dX10_walk_52) hW (fun s22 H locs hp23 hW => ?_)
    obtain ⟨fs22, hp23⟩ := hp23
    have hF24 := hF19.call fs22 (fun k h => by omega)
    have q25 : s22 999996 0 = s0 999996 0 := (congrFun (fs22 _ (by omega)) _).trans q20
    have ghp23 := hp23.2
    have R52 : (x16 = 1 ∧ (zws (s0 2) n 1 (2 * n + 1).toNat true 0 0 (s0 127) []).1 = 0 ∧ s22 126 2 = (zws (s0 2) n 1 (2 * n + 1).toNat true 0 0 (s0 127) []).2.1) ∨ (x16 = 0 ∧ (zws (s0 2) n 1 (2 * n + 1).toNat true 0 0 (s0 127) []).1 ≠ 0 ∧ s22 1 4 = (zws (s0 2) n 1 (2 * n + 1).toNat true 0 0 (s0 127) []).1) := by rw [fs22 126 (by first | decide | omega), hp23.1.2.2.1]; exact R44.elim (fun q => Or.inl ⟨q.1, q.2.1, q.2.2.1⟩) (fun q => Or.inr q)
    have V52 : x16 = 1 → s22 127 = (zws (s0 2) n 1 (2 * n + 1).toNat true 0 0 (s0 127) []).2.2 := fun h => (fs22 127 (by first | decide | omega)).trans (R44.resolve_right (fun q => by omega)).2.2.2
    have Q52 : ∀ k : Nat, k ≠ 1 → k ≠ 126 → k ≠ 127 → s22 k = s0 k := fun k a b c => (fs22 k (by omega)).trans (Q44 k a b c)
    obtain ⟨z52, ez52⟩ : ∃ z : Int, z = s22 126 2 := ⟨_, rfl⟩
    rw [← ez52] at R52
    refine x_iload_n hx hb hl 0 rfl dX10_walk_55 rfl ?_
    refine x_if_ne (tgt := 67) hx hb rx16 dX10_walk_56 (by decide) (fun c26 => ?_) (fun c26 => ?_)
    · skip
      refine x_aload_n hx hb hl 1 rfl dX10_walk_67 rfl ?_
      refine x_get (j := 8) (v := .ref (h0 + 136)) hx hb hown hT hE hW cls_X10 (Or.inl (by decide)) (so_0 h0 g _) (by decide) rfl wq520 dX10_walk_68 ?_
      refine x_iload_n hx hb hl 2 rfl dX10_walk_71 rfl ?_
      refine x_aload_n hx hb hl 1 rfl dX10_walk_72 rfl ?_
      refine x_get (j := 4) (v := .ref (h0 + 126)) hx hb hown hT hE hW cls_X10 (Or.inl (by decide)) (so_0 h0 g _) (by decide) rfl wq516 dX10_walk_73 ?_
      refine x_gor (x_runVN (As := []) hx hb hml hown hT hE hW hl.1 (Or.inl (by decide)) (so_126 h0 g _) rfl cf_X9_copyOfSteps wq739 wq32 wn737 (c_X9_copyOfStepsJ l D g T h0 s22 hW.2.1 (by omega) hp23.1.1) ⟨rfl, rfl, ⟨by decide, by decide⟩, ⟨by decide, by decide⟩⟩ rfl rfl (Nat.le_of_ble_eq_true rfl) dX10_walk_76) hW (fun x27 s28 H locs hp29 hW => ?_)
      obtain ⟨fs28, hp29⟩ := hp29
      have hF30 := hF24.call fs28 (fun k h => by omega)
      have q31 : s28 1 1 = 0 := (congrFun (fs28 _ (by omega)) _).trans hp23.1.2.1
      have q32 : s28 1 4 = s17 1 4 := (congrFun (fs28 _ (by omega)) _).trans hp23.1.2.2.1
      have ghp29 := hp29.2
      have E76 : s28 126 2 = z52 := (congrFun (fs28 126 (by first | decide | omega)) 2).trans ez52.symm
      obtain ⟨x76, ex76⟩ : ∃ x : Nat, x = x27 := ⟨_, rfl⟩
      have H76 := ghp29
      rw [← ex76, ← ez52, V52 (by omega)] at H76
      have n76 : x76 = (310 + (s0 999996 0).toNat) := by rw [H76.1, Q52 999996 (by decide) (by decide) (by decide)]
      have K76 : ∀ k : Nat, k ≠ 1 → k ≠ 126 → k ≠ 127 → k ≠ x76 → k < 999990 → s28 k = s0 k ∧ xlen s28 k = xlen s0 k := fun k a b c h h2 => by
        have e := H76.2.2.2.2.2 k h h2
        rw [e.1, e.2, Q52 k a b c]
        exact ⟨rfl, by unfold xlen; rw [Q52 999998 (by decide) (by decide) (by decide)]⟩
      refine x_gov (x_runVN (As := [.int (xJ j), .ref (h0 + x27)]) hx hb hml hown hT hE hW hl.1 (Or.inl (by decide)) (so_136 h0 g _) rfl cf_X2_setWalk wq745 wq33 wn743 (c_X2_setWalkJ l D g T h0 s28 hW.2.1 136 xd_136 j rj ((x27 : Nat) : Int) (by omega) (ghp29.2.1) (by omega) hp29.1.1) ⟨rfl, rfl, ⟨by decide, by decide⟩, ⟨by decide, by decide⟩⟩ rfl rfl (Nat.le_of_ble_eq_true rfl) dX10_walk_79) hW (fun s34 H locs hp35 hW => ?_)
      obtain ⟨fs34, hp35⟩ := hp35
      have hF36 := hF30.call fs34 (fun k h => by omega)
      have q37 : s34 1 1 = 0 := (congrFun (fs34 _ (by omega)) _).trans q31
      have q38 : s34 1 4 = s17 1 4 := (congrFun (fs34 _ (by omega)) _).trans q32
      have q39 : s34 999996 0 = s22 999996 0 + 1 := (congrFun (fs34 _ (by omega)) _).trans ghp29.2.2.1
      have ghp35 := hp35.2
      have E79 : s34 126 2 = z52 := (congrFun (fs34 126 (by first | decide | omega)) 2).trans E76
      have H79 := ghp35
      have N79 : s34 999996 0 = s0 999996 0 + 1 ∧ s34 138 = xud (s0 138) j (310 + s0 999996 0) ∧ s34 141 = xud (s0 141) j 0 ∧ (xlen s34 (310 + (s0 999996 0).toNat) : Int) = (zws (s0 2) n 1 (2 * n + 1).toNat true 0 0 (s0 127) []).2.1 ∧ (∀ i : Int, 0 ≤ i → i < (zws (s0 2) n 1 (2 * n + 1).toNat true 0 0 (s0 127) []).2.1 → s34 (310 + (s0 999996 0).toNat) i = (zws (s0 2) n 1 (2 * n + 1).toNat true 0 0 (s0 127) []).2.2 i) ∧ ∀ k : Nat, k ≠ 1 → k ≠ 126 → k ≠ 127 → k ≠ 138 → k ≠ 141 → k ≠ (310 + (s0 999996 0).toNat) → k < 999990 → s34 k = s0 k ∧ xlen s34 k = xlen s0 k := by
        have z9 := (R52.resolve_right (fun q => by omega)).2
        have l9 : xlen s34 = xlen s28 := funext fun r => by unfold xlen; rw [fs34 999998 (by first | decide | omega)]
        rw [l9, fs34 (310 + (s0 999996 0).toNat) (by omega), ← n76, ← z9.2]
        refine ⟨?_, ?_, ?_, H76.2.2.2.1, H76.2.2.2.2.1, fun k a b c h1 h2 h3 h4 => ?_⟩
        · rw [congrFun (fs34 999996 (by first | decide | omega)) 0, H76.2.2.1, Q52 999996 (by decide) (by decide) (by decide)]
        · refine (show s34 138 = xud (s28 138) j ((x76 : Nat) : Int) from by rw [ex76]; exact H79.1).trans ?_
          rw [(K76 138 (by decide) (by decide) (by decide) (by omega) (by decide)).1]
          congr 1
          omega
        · refine (show s34 141 = xud (s28 141) j 0 from H79.2).trans ?_
          rw [(K76 141 (by decide) (by decide) (by decide) (by omega) (by decide)).1]
        · rw [fs34 k (by omega)]
          exact K76 k a b c h3 h4
      refine x_aload_n hx hb hl 1 rfl dX10_walk_82 rfl ?_
      refine x_get (j := 4) (v := .ref (h0 + 126)) hx hb hown hT hE hW cls_X10 (Or.inl (by decide)) (so_0 h0 g _) (by decide) rfl wq516 dX10_walk_83 ?_
      refine x_getN (j := 2) (v := .int (xJ (s34 126 2))) hx hb hown hT hE hW cls_X9 (Or.inl (by decide)) (so_126 h0 g _) (by decide) rfl wn310 dX10_walk_86 ?_
      refine x_rd hW (fun x40 ex40 rx40 => ?_)
      have bx40 : 0 ≤ x40 ∧ x40 ≤ 60 := by rw [ex40]; exact IC.y hp35.1.1
      refine W.widen (k := 1) (n := 60) (Nat.le_of_ble_eq_true rfl) (Nat.le_of_ble_eq_true rfl) ?_
      rw [eQ]
      exact x_iret hx hb hr hlk hW rx40 ⟨hF36, ⟨hp35.1.1, trivial⟩, ⟨by omega, Or.inr ⟨by omega, by omega, Or.inr ⟨(R52.resolve_right (fun q => by omega)).2.1, by omega, N79⟩⟩⟩⟩ dX10_walk_89
    refine x_aload_n hx hb hl 1 rfl dX10_walk_59 rfl ?_
    refine x_get (j := 0) (v := .ref (h0 + 1)) hx hb hown hT hE hW cls_X10 (Or.inl (by decide)) (so_0 h0 g _) (by decide) rfl wq512 dX10_walk_60 ?_
    refine x_getN (j := 4) (v := .int (xJ (s22 1 4))) hx hb hown hT hE hW cls_X8 (Or.inl (by decide)) (so_1 h0 g _) (by decide) rfl wn205 dX10_walk_63 ?_
    refine x_rd hW (fun x41 ex41 rx41 => ?_)
    have fx41 : x41 = s17 1 4 := ex41.trans hp23.1.2.2.1
    refine W.widen (k := 1) (n := 60) (Nat.le_of_ble_eq_true rfl) (Nat.le_of_ble_eq_true rfl) ?_
    rw [eQ]
    exact x_iret hx hb hr hlk hW rx41 ⟨hF24, ⟨hp23.1.1, trivial⟩, ⟨by omega, Or.inr ⟨by omega, by omega, Or.inl ⟨(R52.resolve_left (fun q => by omega)).2.1, by omega, congrFun (Q52 999996 (by decide) (by decide) (by decide)) 0, Q52⟩⟩⟩⟩ dX10_walk_66
  refine x_iconst hx hb dX10_walk_30 ?_
  refine W.widen (k := 1) (n := 60) (Nat.le_of_ble_eq_true rfl) (Nat.le_of_ble_eq_true rfl) ?_
  rw [eQ]
  exact x_iret hx hb hr hlk hW (by decide) ⟨hF, ⟨p0, trivial⟩, ⟨Or.inl (by omega), Or.inl ⟨by omega, by omega, by omega, rfl, fun k _ _ _ => rfl⟩⟩⟩ dX10_walk_31

set_option maxHeartbeats 4000000 in
set_option maxRecDepth 100000 in
theorem c_X11_wayXJ (l : Launch) (D : va_G) (g : xG) (T : Nat × Nat × Nat) (h0 : Nat) (s0 : xS) (hσ : xRR s0) (w : Int) (rw : xR w) : Met l yX11_wayX (xws yX11_wayX cX11_wayX 1 (some .int)) { frames := 0, cells := 0, slots := 0, locals := 0 } (xP [.int (xJ w)] D g T h0 s0) (xQi D g h0 (fun r τ => s0 = τ ∧ (r = zwx w))) 0 0 (xA h0) := by
  refine x_met hσ (by decide) (Nat.le_of_ble_eq_true rfl) ?_
  intro p e s m args below meth c hx hb hr hml hown hT hlk hnm hE hW ls hl
  have hl : lv_has ls 1 [(0, .int (xJ w))] := hl
  obtain ⟨Q, eQ⟩ : ∃ Q, Q = MQ below (xQi D g h0 (fun r τ => s0 = τ ∧ (r = zwx w))) args s 0 0 (xA h0) := ⟨_, rfl⟩
  rw [← eQ]
  generalize hHe : ([] : List Loc) = locs at hW ⊢
  obtain ⟨H, eH⟩ : ∃ H, H = s.heap := ⟨_, rfl⟩
  rw [← eH] at hW ⊢
  refine x_iload_n hx hb hl 0 rfl dX11_wayX_0 rfl ?_
  refine x_if_eq (tgt := 9) hx hb rw dX11_wayX_1 (by decide) (fun c1 => ?_) (fun c1 => ?_)
  · skip
    refine x_iconst hx hb dX11_wayX_9 ?_
    refine lv_goto (tgt := 23) hx hb dX11_wayX_10 (by decide) ?_
    rw [eQ]
    exact x_iret hx hb hr hlk hW (by decide) ⟨rfl, by unfold zwx; (repeat' split) <;> omega⟩ dX11_wayX_23
  refine x_iload_n hx hb hl 0 rfl dX11_wayX_4 rfl ?_
  refine x_iconst hx hb dX11_wayX_5 ?_
  refine x_icmp_ne (tgt := 13) hx hb rw (by decide) dX11_wayX_6 (by decide) (fun c2 => ?_) (fun c2 => ?_)
  · skip
    refine x_iload_n hx hb hl 0 rfl dX11_wayX_13 rfl ?_
    refine x_iconst hx hb dX11_wayX_14 ?_
    refine x_icmp_ge (tgt := 22) hx hb rw (by decide) dX11_wayX_15 (by decide) (fun c3 => ?_) (fun c3 => ?_)
    · skip
      refine x_iconst hx hb dX11_wayX_22 ?_
      rw [eQ]
      exact x_iret hx hb hr hlk hW (by decide) ⟨rfl, by unfold zwx; (repeat' split) <;> omega⟩ dX11_wayX_23
    refine x_iconst hx hb dX11_wayX_18 ?_
    refine lv_goto (tgt := 23) hx hb dX11_wayX_19 (by decide) ?_
    rw [eQ]
    exact x_iret hx hb hr hlk hW (by decide) ⟨rfl, by unfold zwx; (repeat' split) <;> omega⟩ dX11_wayX_23
  refine x_iconst hx hb dX11_wayX_9 ?_
  refine lv_goto (tgt := 23) hx hb dX11_wayX_10 (by decide) ?_
  rw [eQ]
  exact x_iret hx hb hr hlk hW (by decide) ⟨rfl, by unfold zwx; (repeat' split) <;> omega⟩ dX11_wayX_23
set_option maxHeartbeats 4000000 in
set_option maxRecDepth 100000 in
theorem c_X11_wayYJ (l : Launch) (D : va_G) (g : xG) (T : Nat × Nat × Nat) (h0 : Nat) (s0 : xS) (hσ : xRR s0) (w : Int) (rw : xR w) : Met l yX11_wayY (xws yX11_wayY cX11_wayY 1 (some .int)) { frames := 1, cells := 0, slots := 0, locals := 22 } (xP [.int (xJ w)] D g T h0 s0) (xQi D g h0 (fun r τ => s0 = τ ∧ (r = zwy w))) 0 0 (xA h0) := by
  refine x_met hσ (by decide) (Nat.le_of_ble_eq_true rfl) ?_
  intro p e s m args below meth c hx hb hr hml hown hT hlk hnm hE hW ls hl
  have hl : lv_has ls 1 [(0, .int (xJ w))] := hl
  obtain ⟨Q, eQ⟩ : ∃ Q, Q = MQ below (xQi D g h0 (fun r τ => s0 = τ ∧ (r = zwy w))) args s 0 0 (xA h0) := ⟨_, rfl⟩
  rw [← eQ]
  generalize hHe : ([] : List Loc) = locs at hW ⊢
  obtain ⟨H, eH⟩ : ∃ H, H = s.heap := ⟨_, rfl⟩
  rw [← eH] at hW ⊢
  refine x_iload_n hx hb hl 0 rfl dX11_wayY_0 rfl ?_
  refine x_iconst hx hb dX11_wayY_1 ?_
  refine x_icmp_eq (tgt := 11) hx hb rw (by decide) dX11_wayY_2 (by decide) (fun c1 => ?_) (fun c1 => ?_)
  · skip
    refine x_iconst hx hb dX11_wayY_11 ?_
    refine lv_goto (tgt := 29) hx hb dX11_wayY_12 (by decide) ?_
    rw [eQ]
    exact x_iret hx hb hr hlk hW (by decide) ⟨rfl, by unfold zwy; (repeat' split) <;> omega⟩ dX11_wayY_29
  refine x_iload_n hx hb hl 0 rfl dX11_wayY_5 rfl ?_
  refine x_bipush hx hb dX11_wayY_6 (by decide) ?_
  refine x_icmp_ne (tgt := 15) hx hb rw (by decide) dX11_wayY_8 (by decide) (fun c2 => ?_) (fun c2 => ?_)
  · skip
    refine x_iload_n hx hb hl 0 rfl dX11_wayY_15 rfl ?_
    refine x_iconst hx hb dX11_wayY_16 ?_
    refine x_iconst hx hb dX11_wayY_17 ?_
    refine x_goi (x_runS (As := [.int (xJ w), .int (xJ 3), .int (xJ 5)]) hx hb hml hown hT hE hW hl.1 cf_X11_in wq1383 wq1382 (c_X11_in l D g T h0 s0 hW.2.1 w rw 3 (by decide) 5 (by decide)) ⟨rfl, rfl, ⟨by decide, by decide⟩, ⟨by decide, by decide⟩⟩ rfl rfl (Nat.le_of_ble_eq_true rfl) dX11_wayY_18) hW (fun x3 s4 H locs rx3 hp5 hW => ?_)
    obtain ⟨es4, hp5⟩ := hp5
    subst es4
    have ghp5 := hp5
    refine x_if_eq (tgt := 28) hx hb rx3 dX11_wayY_21 (by decide) (fun c6 => ?_) (fun c6 => ?_)
    · skip
      refine x_iconst hx hb dX11_wayY_28 ?_
      rw [eQ]
      exact x_iret hx hb hr hlk hW (by decide) ⟨rfl, by unfold zwy; (repeat' split) <;> omega⟩ dX11_wayY_29
    refine x_iconst hx hb dX11_wayY_24 ?_
    refine lv_goto (tgt := 29) hx hb dX11_wayY_25 (by decide) ?_
    rw [eQ]
    exact x_iret hx hb hr hlk hW (by decide) ⟨rfl, by unfold zwy; (repeat' split) <;> omega⟩ dX11_wayY_29
  refine x_iconst hx hb dX11_wayY_11 ?_
  refine lv_goto (tgt := 29) hx hb dX11_wayY_12 (by decide) ?_
  rw [eQ]
  exact x_iret hx hb hr hlk hW (by decide) ⟨rfl, by unfold zwy; (repeat' split) <;> omega⟩ dX11_wayY_29
set_option maxHeartbeats 4000000 in
set_option maxRecDepth 100000 in
theorem c_X11_besideJ (l : Launch) (D : va_G) (g : xG) (T : Nat × Nat × Nat) (h0 : Nat) (s0 : xS) (hσ : xRR s0) (x : Int) (rx : xR x) (w : Int) (rw : xR w) (hx0 : 0 ≤ x ∧ x ≤ 99) : Met l yX11_beside (xws yX11_beside cX11_beside 4 (some .int)) { frames := 2, cells := 0, slots := 0, locals := 43 } (xP [.int (xJ x), .int (xJ w)] D g T h0 s0) (xQi D g h0 (fun r τ => s0 = τ ∧ (r = zbe x w))) 0 0 (xA h0) := by
  refine x_met hσ (by decide) (Nat.le_of_ble_eq_true rfl) ?_
  intro p e s m args below meth c hx hb hr hml hown hT hlk hnm hE hW ls hl
  have hl : lv_has ls 4 [(0, .int (xJ x)), (1, .int (xJ w))] := hl
  obtain ⟨Q, eQ⟩ : ∃ Q, Q = MQ below (xQi D g h0 (fun r τ => s0 = τ ∧ (r = zbe x w))) args s 0 0 (xA h0) := ⟨_, rfl⟩
  rw [← eQ]
  generalize hHe : ([] : List Loc) = locs at hW ⊢
  obtain ⟨H, eH⟩ : ∃ H, H = s.heap := ⟨_, rfl⟩
  rw [← eH] at hW ⊢
  have hw9 := zw_r w
  refine x_iload_n hx hb hl 0 rfl dX11_beside_0 rfl ?_
  refine x_bipush hx hb dX11_beside_1 (by decide) ?_
  refine x_irem hx hb rx (by decide) (by omega) (by decide) dX11_beside_3 ?_
  refine x_iload_n hx hb hl 1 rfl dX11_beside_4 rfl ?_
  refine x_goi (x_runS (As := [.int (xJ w)]) hx hb hml hown hT hE hW hl.1 cf_X11_wayX wq1557 wq1556 (c_X11_wayXJ l D g T h0 s0 hW.2.1 w rw) ⟨rfl, rfl, ⟨by decide, by decide⟩, ⟨by decide, by decide⟩⟩ rfl rfl (Nat.le_of_ble_eq_true rfl) dX11_beside_5) hW (fun x1 s2 H locs rx1 hp3 hW => ?_)
  obtain ⟨es2, hp3⟩ := hp3
  subst es2
  have ghp3 := hp3
  refine x_iadd hx hb dX11_beside_8 ?_
  refine x_nm (fun x4 ex4 => ?_)
  refine lv_istore_n (lv' := [(2, .int (xJ x4)), (0, .int (xJ x)), (1, .int (xJ w))]) hx hb dX11_beside_9 rfl hl (by decide) rfl (fun ls hl => ?_)
  refine x_iload_n hx hb hl 1 rfl dX11_beside_10 rfl ?_
  refine x_bipush hx hb dX11_beside_11 (by decide) ?_
  refine x_idiv hx hb rx (by decide) (by omega) (by decide) dX11_beside_13 ?_
  refine x_iload_n hx hb hl 2 rfl dX11_beside_14 rfl ?_
  refine x_goi (x_runS (As := [.int (xJ w)]) hx hb hml hown hT hE hW hl.1 cf_X11_wayY wq1560 wq1559 (c_X11_wayYJ l D g T h0 s0 hW.2.1 w rw) ⟨rfl, rfl, ⟨by decide, by decide⟩, ⟨by decide, by decide⟩⟩ rfl rfl (Nat.le_of_ble_eq_true rfl) dX11_beside_15) hW (fun x5 s6 H locs rx5 hp7 hW => ?_)
  obtain ⟨es6, hp7⟩ := hp7
  subst es6
  have ghp7 := hp7
  refine x_iadd hx hb dX11_beside_18 ?_
  refine x_nm (fun x8 ex8 => ?_)
  refine lv_istore_n (lv' := [(3, .int (xJ x8)), (2, .int (xJ x4)), (0, .int (xJ x)), (1, .int (xJ w))]) hx hb dX11_beside_19 rfl hl (by decide) rfl (fun ls hl => ?_)
  refine x_iload_n hx hb hl 1 rfl dX11_beside_20 rfl ?_
  refine x_iload_n hx hb hl 0 rfl dX11_beside_21 rfl ?_
  refine x_goi (x_runS (As := [.int (xJ x4), .int (xJ x8)]) hx hb hml hown hT hE hW hl.1 cf_X11_isOn wq1430 wq1429 (c_X11_isOn l D g T h0 s0 hW.2.1 x4 (by omega) x8 (by omega)) ⟨rfl, rfl, ⟨by decide, by decide⟩, ⟨by decide, by decide⟩⟩ rfl rfl (Nat.le_of_ble_eq_true rfl) dX11_beside_22) hW (fun x9 s10 H locs rx9 hp11 hW => ?_)
  obtain ⟨es10, hp11⟩ := hp11
  subst es10
  have ghp11 := hp11
  refine x_if_eq (tgt := 37) hx hb rx9 dX11_beside_25 (by decide) (fun c12 => ?_) (fun c12 => ?_)
  · skip
    refine x_iconst hx hb dX11_beside_37 ?_
    rw [eQ]
    exact x_iret hx hb hr hlk hW (by decide) ⟨rfl, zbe_i (s := x) (w := w) (x := x4) (y := x8) (by omega) (by omega) (by first | exact Or.inl ⟨by omega, by omega, by omega, by omega, by omega⟩ | exact Or.inr ⟨by omega, by omega⟩)⟩ dX11_beside_38
  refine x_bipush hx hb dX11_beside_28 (by decide) ?_
  refine x_iload_n hx hb hl 0 rfl dX11_beside_30 rfl ?_
  refine x_imul hx hb dX11_beside_31 ?_
  refine x_iload_n hx hb hl 1 rfl dX11_beside_32 rfl ?_
  refine x_iadd hx hb dX11_beside_33 ?_
  refine lv_goto (tgt := 38) hx hb dX11_beside_34 (by decide) ?_
  rw [eQ]
  exact x_iret hx hb hr hlk hW (by omega) ⟨rfl, zbe_i (s := x) (w := w) (x := x4) (y := x8) (by omega) (by omega) (by first | exact Or.inl ⟨by omega, by omega, by omega, by omega, by omega⟩ | exact Or.inr ⟨by omega, by omega⟩)⟩ dX11_beside_38
set_option maxHeartbeats 4000000 in
set_option maxRecDepth 100000 in
theorem c_X11_isJudgeJ (l : Launch) (D : va_G) (g : xG) (T : Nat × Nat × Nat) (h0 : Nat) (s0 : xS) (hσ : xRR s0) (j : Int) (rj : xR j) (p0 : IMn s0) (p1 : IMk s0) (p2 : IMo s0) : Met l yX11_isJudge (xws yX11_isJudge cX11_isJudge 2 (some .boolean)) { frames := 1, cells := 0, slots := 0, locals := 21 } (xP [.ref (h0 + 268), .int (xJ j)] D g T h0 s0) (xQi D g h0 (fun r τ => s0 = τ ∧ ((r = 1 ∧ 0 ≤ j ∧ j < 2 ∧ xsh (s0 269 34) j % 2 = 1) ∨ (r = 0 ∧ ¬ (0 ≤ j ∧ j < 2 ∧ xsh (s0 269 34) j % 2 = 1))))) 0 0 (xA h0) := by
  refine x_met hσ (by decide) (Nat.le_of_ble_eq_true rfl) ?_
  intro p e s m args below meth c hx hb hr hml hown hT hlk hnm hE hW ls hl
  have hl : lv_has ls 2 [(0, .ref (h0 + 268)), (1, .int (xJ j))] := hl
  obtain ⟨Q, eQ⟩ : ∃ Q, Q = MQ below (xQi D g h0 (fun r τ => s0 = τ ∧ ((r = 1 ∧ 0 ≤ j ∧ j < 2 ∧ xsh (s0 269 34) j % 2 = 1) ∨ (r = 0 ∧ ¬ (0 ≤ j ∧ j < 2 ∧ xsh (s0 269 34) j % 2 = 1))))) args s 0 0 (xA h0) := ⟨_, rfl⟩
  rw [← eQ]
  generalize hHe : ([] : List Loc) = locs at hW ⊢
  obtain ⟨H, eH⟩ : ∃ H, H = s.heap := ⟨_, rfl⟩
  rw [← eH] at hW ⊢
  have k268_8 : s0 268 8 = s0 268 8 := rfl
  have k268_58 : s0 268 58 = s0 268 58 := rfl
  refine x_iload_n hx hb hl 1 rfl dX11_isJudge_0 rfl ?_
  refine x_iconst hx hb dX11_isJudge_1 ?_
  refine x_goi (x_runS (As := [.int (xJ j), .int (xJ 2)]) hx hb hml hown hT hE hW hl.1 cf_X11_isFive wq1412 wq1411 (c_X11_isFive l D g T h0 s0 hW.2.1 j rj 2 (by decide)) ⟨rfl, rfl, ⟨by decide, by decide⟩, ⟨by decide, by decide⟩⟩ rfl rfl (Nat.le_of_ble_eq_true rfl) dX11_isJudge_2) hW (fun x1 s2 H locs rx1 hp3 hW => ?_)
  obtain ⟨es2, hp3⟩ := hp3
  subst es2
  have ghp3 := hp3
  refine x_if_eq (tgt := 26) hx hb rx1 dX11_isJudge_5 (by decide) (fun c4 => ?_) (fun c4 => ?_)
  · skip
    refine x_iconst hx hb dX11_isJudge_26 ?_
    rw [eQ]
    exact x_zret hx hb hr hlk hW (by omega) ⟨rfl, by omega⟩ dX11_isJudge_27
  refine x_aload_n hx hb hl 0 rfl dX11_isJudge_8 rfl ?_
  refine x_get (j := 0) (v := .ref (h0 + 269)) hx hb hown hT hE hW cls_X11 (Or.inl (by decide)) (so_268 h0 g _) (by decide) rfl wq1185 dX11_isJudge_9 ?_
  refine x_bipush hx hb dX11_isJudge_12 (by decide) ?_
  refine x_iald hx hb hE hW (Or.inl (by decide)) (sa_269 h0 g _) ⟨by decide, by decide⟩ (by decide) dX11_isJudge_14 ?_
  refine x_rd hW (fun x5 ex5 rx5 => ?_)
  have V14 := ex5
  refine x_iload_n hx hb hl 1 rfl dX11_isJudge_15 rfl ?_
  refine x_goi (x_runS (As := [.int (xJ x5), .int (xJ j)]) hx hb hml hown hT hE hW hl.1 cf_X11_has wq1415 wq1414 (c_X11_has l D g T h0 s0 hW.2.1 x5 rx5 j rj) ⟨rfl, rfl, ⟨by decide, by decide⟩, ⟨by decide, by decide⟩⟩ rfl rfl (Nat.le_of_ble_eq_true rfl) dX11_isJudge_16) hW (fun x6 s7 H locs rx6 hp8 hW => ?_)
  obtain ⟨es7, hp8⟩ := hp8
  subst es7
  have ghp8 := hp8
  have H16 := ghp8.2 (by omega)
  rw [V14] at H16
  refine x_if_eq (tgt := 26) hx hb rx6 dX11_isJudge_19 (by decide) (fun c9 => ?_) (fun c9 => ?_)
  · skip
    refine x_iconst hx hb dX11_isJudge_26 ?_
    rw [eQ]
    exact x_zret hx hb hr hlk hW (by omega) ⟨rfl, by omega⟩ dX11_isJudge_27
  refine x_iconst hx hb dX11_isJudge_22 ?_
  refine lv_goto (tgt := 27) hx hb dX11_isJudge_23 (by decide) ?_
  rw [eQ]
  exact x_zret hx hb hr hlk hW (by omega) ⟨rfl, by omega⟩ dX11_isJudge_27
set_option maxHeartbeats 4000000 in
set_option maxRecDepth 100000 in
theorem c_X11_stepsJ (l : Launch) (D : va_G) (g : xG) (T : Nat × Nat × Nat) (h0 : Nat) (s0 : xS) (hσ : xRR s0) (j : Int) (rj : xR j) (w : Int) (rw : xR w) (K9 : Int → Int) (hj : 0 ≤ j ∧ j < 2) (hK : ∀ t : Int, 0 ≤ t → t < 100 → s0 272 t = K9 t ∧ 0 ≤ K9 t ∧ K9 t ≤ 3) (p0 : IMn s0) (p1 : IMk s0) (p2 : IMo s0) : Met l yX11_steps (xws yX11_steps cX11_steps 4 none) { frames := 3, cells := 0, slots := 0, locals := 66 } (xP [.ref (h0 + 268), .int (xJ j), .int (xJ w)] D g T h0 s0) (xQv D g h0 (fun τ => xFr (fun k => k = 269) s0 τ ∧ (((IMn τ) ∧ (IMk τ) ∧ (IMo τ) ∧ (τ 269 37 = s0 269 37) ∧ (τ 269 34 = s0 269 34) ∧ True) ∧ (τ 269 = xud (s0 269) j (znW K9 (s0 269 j) (zrj (s0 269) (1 - j)) w))))) 0 0 (xA h0) := by
  refine x_met hσ (by decide) (Nat.le_of_ble_eq_true rfl) ?_
  intro p e s m args below meth c hx hb hr hml hown hT hlk hnm hE hW ls hl
  have hl : lv_has ls 4 [(0, .ref (h0 + 268)), (1, .int (xJ j)), (2, .int (xJ w))] := hl
  obtain ⟨Q, eQ⟩ : ∃ Q, Q = MQ below (xQv D g h0 (fun τ => xFr (fun k => k = 269) s0 τ ∧ (((IMn τ) ∧ (IMk τ) ∧ (IMo τ) ∧ (τ 269 37 = s0 269 37) ∧ (τ 269 34 = s0 269 34) ∧ True) ∧ (τ 269 = xud (s0 269) j (znW K9 (s0 269 j) (zrj (s0 269) (1 - j)) w))))) args s 0 0 (xA h0) := ⟨_, rfl⟩
  rw [← eQ]
  generalize hHe : ([] : List Loc) = locs at hW ⊢
  obtain ⟨H, eH⟩ : ∃ H, H = s.heap := ⟨_, rfl⟩
  rw [← eH] at hW ⊢
  have hF : xFr (fun k => k = 269) s0 s0 := xFr.rf
  have k268_8 : s0 268 8 = s0 268 8 := rfl
  have k268_58 : s0 268 58 = s0 268 58 := rfl
  have k269_37 : s0 269 37 = s0 269 37 := rfl
  have k269_34 : s0 269 34 = s0 269 34 := rfl
  have hn1 := (IMn.n1 p0).1 j hj.1 hj.2
  refine x_iload_n hx hb hl 2 rfl dX11_steps_0 rfl ?_
  refine x_bipush hx hb dX11_steps_1 (by decide) ?_
  have J22 : ∀ (t0_22 : Int) (H : Heap) (locs : List Loc) (ls : Array Slot), (xR t0_22) → (t0_22 = -1 ∨ (0 ≤ t0_22 ∧ t0_22 ≤ 99)) → ((w = 8 ∧ t0_22 = -1) ∨ (w ≠ 8 ∧ t0_22 = zbe (s0 269 j) w)) → xW D g h0 s H locs s0 → lv_has ls 4 [(0, .ref (h0 + 268)), (1, .int (xJ j))] → W p l e { frames := 3, cells := 0, slots := 0, locals := 66 } s m args below meth c H locs 0 0 Q (F0 m 22 ls [.int (xJ t0_22)]) := by
    intro t0_22 H locs ls rt0_22 v22_0 v22_1 hW hl
    refine lv_istore_n (lv' := [(3, .int (xJ t0_22)), (0, .ref (h0 + 268)), (1, .int (xJ j))]) hx hb dX11_steps_22 rfl hl (by decide) rfl (fun ls hl => ?_)
    obtain ⟨t9, et9⟩ : ∃ t, t = zbe (s0 269 j) w := ⟨_, rfl⟩
    have T22 : (w = 8 ∧ t0_22 = -1) ∨ (w ≠ 8 ∧ t0_22 = t9) := by rw [et9]; exact v22_1
    have R22 := zbe_r (s0 269 j) w
    rw [← et9] at R22
    refine x_iload_n hx hb hl 0 rfl dX11_steps_23 rfl ?_
    refine x_iconst hx hb dX11_steps_24 ?_
    refine x_icmp_eq (tgt := 58) hx hb rt0_22 (by decide) dX11_steps_25 (by decide) (fun c1 => ?_) (fun c1 => ?_)
    · skip
      rw [eQ]
      exact x_vret hx hb hr hlk hW ⟨hF, ⟨p0, p1, p2, k269_37, k269_34, trivial⟩, (by
          first
            | exact zxud_e (znW_st (by rw [← et9]; omega))
            | exact zxud_e (znW_st (Or.inr (Or.inr (Or.inr (Or.inr (by rw [zrj_p (by omega), ← et9]; omega)))))))⟩ dX11_steps_58
    refine x_aload_n hx hb hl 1 rfl dX11_steps_28 rfl ?_
    refine x_iload_n hx hb hl 0 rfl dX11_steps_29 rfl ?_
    refine x_goi (x_runV (As := [.int (xJ t0_22)]) hx hb hml hown hT hE hW hl.1 (Or.inl (by decide)) (so_268 h0 g _) rfl cf_X11_isGround wq1419 wq110 wq1417 (c_X11_isGroundM l D g T h0 s0 hW.2.1 t0_22 rt0_22 (by omega) p0 p1 p2) ⟨rfl, rfl, ⟨by decide, by decide⟩, ⟨by decide, by decide⟩⟩ rfl rfl (Nat.le_of_ble_eq_true rfl) dX11_steps_30) hW (fun x2 s3 H locs rx2 hp4 hW => ?_)
    obtain ⟨es3, hp4⟩ := hp4
    subst es3
    have ghp4 := hp4
    have H30 := ghp4
    have T30 : t0_22 = t9 := by omega
    rw [T30] at H30
    have K30 := hK t9 (by omega) (by omega)
    refine x_if_eq (tgt := 58) hx hb rx2 dX11_steps_33 (by decide) (fun c5 => ?_) (fun c5 => ?_)
    · skip
      rw [eQ]
      exact x_vret hx hb hr hlk hW ⟨hF, ⟨p0, p1, p2, k269_37, k269_34, trivial⟩, (by
          first
            | exact zxud_e (znW_st (by rw [← et9]; omega))
            | exact zxud_e (znW_st (Or.inr (Or.inr (Or.inr (Or.inr (by rw [zrj_p (by omega), ← et9]; omega)))))))⟩ dX11_steps_58
    refine x_aload_n hx hb hl 1 rfl dX11_steps_36 rfl ?_
    refine x_iconst hx hb dX11_steps_37 ?_
    refine x_iload_n hx hb hl 2 rfl dX11_steps_38 rfl ?_
    refine x_isub hx hb dX11_steps_39 ?_
    refine x_goi (x_runV (As := [.int (xJ (1 - j))]) hx hb hml hown hT hE hW hl.1 (Or.inl (by decide)) (so_268 h0 g _) rfl cf_X11_isJudge wq1409 wq109 wq1407 (c_X11_isJudgeJ l D g T h0 s0 hW.2.1 (1 - j) (by omega) p0 p1 p2) ⟨rfl, rfl, ⟨by decide, by decide⟩, ⟨by decide, by decide⟩⟩ rfl rfl (Nat.le_of_ble_eq_true rfl) dX11_steps_40) hW (fun x6 s7 H locs rx6 hp8 hW => ?_)
    obtain ⟨es7, hp8⟩ := hp8
    subst es7
    have ghp8 := hp8
    have H40 := ghp8
    refine x_if_eq (tgt := 59) hx hb rx6 dX11_steps_43 (by decide) (fun c9 => ?_) (fun c9 => ?_)
    · skip
      refine x_aload_n hx hb hl 1 rfl dX11_steps_59 rfl ?_
      refine x_get (j := 0) (v := .ref (h0 + 269)) hx hb hown hT hE hW cls_X11 (Or.inl (by decide)) (so_268 h0 g _) (by decide) rfl wq1185 dX11_steps_60 ?_
      refine x_iconst hx hb dX11_steps_63 ?_
      refine x_iload_n hx hb hl 2 rfl dX11_steps_64 rfl ?_
      refine x_iadd hx hb dX11_steps_65 ?_
      refine x_iload_n hx hb hl 0 rfl dX11_steps_66 rfl ?_
      refine x_iast hx hb hE hW (by decide) (fun σ => sa_269 h0 g σ) (by omega) (by decide) rt0_22 dX11_steps_67 (fun H locs s10 es10 hW => ?_)
      have q11 : IMn s10 := by rw [es10]; exact IMn_N269 p0 (by omega)
      have q12 : IMk s10 := by rw [es10]; exact IMk_o (by unfold suIMk; first | decide | omega) p1
      have q13 : IMo s10 := by rw [es10]; exact IMo_o (by unfold suIMo; first | decide | omega) p2
      have q14 : s10 268 8 = s0 268 8 := (show s10 268 8 = s0 268 8 from by rw [es10, xU_k _ _ _ (by first | decide | omega)]).trans k268_8
      have q15 : s10 268 58 = s0 268 58 := (show s10 268 58 = s0 268 58 from by rw [es10, xU_k _ _ _ (by first | decide | omega)]).trans k268_58
      have q16 : s10 269 37 = s0 269 37 := (show s10 269 37 = s0 269 37 from by rw [es10, xU_j _ _ (by omega)]).trans k269_37
      have q17 : s10 269 34 = s0 269 34 := (show s10 269 34 = s0 269 34 from by rw [es10, xU_j _ _ (by omega)]).trans k269_34
      have hF18 := hF.put es10 (by omega)
      have E67 := es10
      rw [eQ]
      exact x_vret hx hb hr hlk hW ⟨hF18, ⟨q11, q12, q13, q16, q17, trivial⟩, (by
          have z : zrj (s0 269) (1 - j) ≠ t9 := by
            first
              | (rw [zrj_n (by omega)]; omega)
              | (rw [zrj_p (by omega)]; omega)
          rw [E67, xU_xud, show (0 + j : Int) = j from by omega]
          exact congrArg (xud (s0 269) j) (T30.trans (et9.trans (znW_go (by rw [← et9]; omega)).symm)))⟩ dX11_steps_68
    refine x_aload_n hx hb hl 1 rfl dX11_steps_46 rfl ?_
    refine x_get (j := 0) (v := .ref (h0 + 269)) hx hb hown hT hE hW cls_X11 (Or.inl (by decide)) (so_268 h0 g _) (by decide) rfl wq1185 dX11_steps_47 ?_
    refine x_iconst hx hb dX11_steps_50 ?_
    refine x_iload_n hx hb hl 2 rfl dX11_steps_51 rfl ?_
    refine x_isub hx hb dX11_steps_52 ?_
    refine x_iald hx hb hE hW (Or.inl (by decide)) (sa_269 h0 g _) (by omega) (by decide) dX11_steps_53 ?_
    refine x_rd hW (fun x19 ex19 rx19 => ?_)
    have bx19 : 0 ≤ x19 ∧ x19 ≤ 99 := by rw [ex19]; exact (IMn.n1 p0).1 _ (by omega) (by omega)
    have V53 : x19 = s0 269 (1 - j) := ex19
    refine x_iload_n hx hb hl 0 rfl dX11_steps_54 rfl ?_
    refine x_icmp_ne (tgt := 59) hx hb rx19 rt0_22 dX11_steps_55 (by decide) (fun c20 => ?_) (fun c20 => ?_)
    · skip
      refine x_aload_n hx hb hl 1 rfl dX11_steps_59 rfl ?_
      refine x_get (j := 0) (v := .ref (h0 + 269)) hx hb hown hT hE hW cls_X11 (Or.inl (by decide)) (so_268 h0 g _) (by decide) rfl wq1185 dX11_steps_60 ?_
      refine x_iconst hx hb dX11_steps_63 ?_
      refine x_iload_n hx hb hl 2 rfl dX11_steps_64 rfl ?_
      refine x_iadd hx hb dX11_steps_65 ?_
      refine x_iload_n hx hb hl 0 rfl dX11_steps_66 rfl ?_
      refine x_iast hx hb hE hW (by decide) (fun σ => sa_269 h0 g σ) (by omega) (by decide) rt0_22 dX11_steps_67 (fun H locs s21 es21 hW => ?_)
      have q22 : IMn s21 := by rw [es21]; exact IMn_N269 p0 (by omega)
      have q23 : IMk s21 := by rw [es21]; exact IMk_o (by unfold suIMk; first | decide | omega) p1
      have q24 : IMo s21 := by rw [es21]; exact IMo_o (by unfold suIMo; first | decide | omega) p2
      have q25 : s21 268 8 = s0 268 8 := (show s21 268 8 = s0 268 8 from by rw [es21, xU_k _ _ _ (by first | decide | omega)]).trans k268_8
      have q26 : s21 268 58 = s0 268 58 := (show s21 268 58 = s0 268 58 from by rw [es21, xU_k _ _ _ (by first | decide | omega)]).trans k268_58
      have q27 : s21 269 37 = s0 269 37 := (show s21 269 37 = s0 269 37 from by rw [es21, xU_j _ _ (by omega)]).trans k269_37
      have q28 : s21 269 34 = s0 269 34 := (show s21 269 34 = s0 269 34 from by rw [es21, xU_j _ _ (by omega)]).trans k269_34
      have hF29 := hF.put es21 (by omega)
      have E67 := es21
      rw [eQ]
      exact x_vret hx hb hr hlk hW ⟨hF29, ⟨q22, q23, q24, q27, q28, trivial⟩, (by
          have z : zrj (s0 269) (1 - j) ≠ t9 := by
            first
              | (rw [zrj_n (by omega)]; omega)
              | (rw [zrj_p (by omega)]; omega)
          rw [E67, xU_xud, show (0 + j : Int) = j from by omega]
          exact congrArg (xud (s0 269) j) (T30.trans (et9.trans (znW_go (by rw [← et9]; omega)).symm)))⟩ dX11_steps_68
    rw [eQ]
    exact x_vret hx hb hr hlk hW ⟨hF, ⟨p0, p1, p2, k269_37, k269_34, trivial⟩, (by
        first
          | exact zxud_e (znW_st (by rw [← et9]; omega))
          | exact zxud_e (znW_st (Or.inr (Or.inr (Or.inr (Or.inr (by rw [zrj_p (by omega), ← et9]; omega)))))))⟩ dX11_steps_58
  refine x_icmp_ne (tgt := 10) hx hb rw (by decide) dX11_steps_3 (by decide) (fun c30 => ?_) (fun c30 => ?_)
  · skip
    refine x_aload_n hx hb hl 0 rfl dX11_steps_10 rfl ?_
    refine x_get (j := 0) (v := .ref (h0 + 269)) hx hb hown hT hE hW cls_X11 (Or.inl (by decide)) (so_268 h0 g _) (by decide) rfl wq1185 dX11_steps_11 ?_
    refine x_iconst hx hb dX11_steps_14 ?_
    refine x_iload_n hx hb hl 1 rfl dX11_steps_15 rfl ?_
    refine x_iadd hx hb dX11_steps_16 ?_
    refine x_iald hx hb hE hW (Or.inl (by decide)) (sa_269 h0 g _) (by omega) (by decide) dX11_steps_17 ?_
    refine x_rd hW (fun x31 ex31 rx31 => ?_)
    have bx31 : 0 ≤ x31 ∧ x31 ≤ 99 := by rw [ex31]; exact (IMn.n1 p0).1 _ (by omega) (by omega)
    have V17 : x31 = s0 269 j := ex31.trans (congrArg (s0 269) (by omega))
    refine x_iload_n hx hb hl 2 rfl dX11_steps_18 rfl ?_
    refine x_goi (x_runS (As := [.int (xJ x31), .int (xJ w)]) hx hb hml hown hT hE hW hl.1 cf_X11_beside wq1554 wq1553 (c_X11_besideJ l D g T h0 s0 hW.2.1 x31 rx31 w rw (by omega)) ⟨rfl, rfl, ⟨by decide, by decide⟩, ⟨by decide, by decide⟩⟩ rfl rfl (Nat.le_of_ble_eq_true rfl) dX11_steps_19) hW (fun x32 s33 H locs rx32 hp34 hW => ?_)
    obtain ⟨es33, hp34⟩ := hp34
    subst es33
    have ghp34 := hp34
    have H19 := ghp34
    have R19 := zbe_r (s0 269 j) w
    rw [V17] at H19
    rw [← H19] at R19
    exact J22 x32 H locs ls rx32 (by omega) (by first | exact Or.inl ⟨by omega, rfl⟩ | exact Or.inr ⟨by omega, H19⟩) hW (lv_sub hl [0, 1] rfl)
  refine x_iconst hx hb dX11_steps_6 ?_
  refine lv_goto (tgt := 22) hx hb dX11_steps_7 (by decide) ?_
  exact J22 (-1) H locs ls (by decide) (by omega) (by first | exact Or.inl ⟨by omega, rfl⟩ | exact Or.inr ⟨by omega, H19⟩) hW (lv_sub hl [0, 1] rfl)
set_option maxHeartbeats 4000000 in
set_option maxRecDepth 100000 in
theorem c_X11_walksOnJ (l : Launch) (D : va_G) (g : xG) (T : Nat × Nat × Nat) (h0 : Nat) (s0 : xS) (hσ : xRR s0) (j : Int) (rj : xR j) (K9 : Int → Int) (n9 : Int → Int) (w9 : Int → Int → Int) (hj : 0 ≤ j ∧ j < 2) (hK : ∀ t : Int, 0 ≤ t → t < 100 → s0 272 t = K9 t ∧ 0 ≤ K9 t ∧ K9 t ≤ 3) (hw : ∀ j : Int, 0 ≤ j → j < 2 → s0 274 j = n9 j ∧ ∀ i : Int, 0 ≤ i → i < n9 j → s0 275 (60 * j + i) = w9 j i) (p0 : IMn s0) (p1 : IMk s0) (p2 : IMo s0) : Met l yX11_walksOn (xws yX11_walksOn cX11_walksOn 3 none) { frames := 4, cells := 0, slots := 0, locals := 89 } (xP [.ref (h0 + 268), .int (xJ j)] D g T h0 s0) (xQv D g h0 (fun τ => xFr (fun k => k = 269) s0 τ ∧ (((IMn τ) ∧ (IMk τ) ∧ (IMo τ) ∧ (τ 269 37 = s0 269 37) ∧ (τ 269 34 = s0 269 34) ∧ True) ∧ (zrt (τ 269) = zjk K9 n9 w9 j (zrt (s0 269)) ∧ ∀ i : Int, 4 ≤ i → τ 269 i = s0 269 i)))) 0 0 (xA h0) := by
  refine x_met hσ (by decide) (Nat.le_of_ble_eq_true rfl) ?_
  intro p e s m args below meth c hx hb hr hml hown hT hlk hnm hE hW ls hl
  have hl : lv_has ls 3 [(0, .ref (h0 + 268)), (1, .int (xJ j))] := hl
  obtain ⟨Q, eQ⟩ : ∃ Q, Q = MQ below (xQv D g h0 (fun τ => xFr (fun k => k = 269) s0 τ ∧ (((IMn τ) ∧ (IMk τ) ∧ (IMo τ) ∧ (τ 269 37 = s0 269 37) ∧ (τ 269 34 = s0 269 34) ∧ True) ∧ (zrt (τ 269) = zjk K9 n9 w9 j (zrt (s0 269)) ∧ ∀ i : Int, 4 ≤ i → τ 269 i = s0 269 i)))) args s 0 0 (xA h0) := ⟨_, rfl⟩
  rw [← eQ]
  generalize hHe : ([] : List Loc) = locs at hW ⊢
  obtain ⟨H, eH⟩ : ∃ H, H = s.heap := ⟨_, rfl⟩
  rw [← eH] at hW ⊢
  have hF : xFr (fun k => k = 269) s0 s0 := xFr.rf
  have k268_8 : s0 268 8 = s0 268 8 := rfl
  have k268_58 : s0 268 58 = s0 268 58 := rfl
  have k269_37 : s0 269 37 = s0 269 37 := rfl
  have k269_34 : s0 269 34 = s0 269 34 := rfl
  have hw1 := hw j hj.1 hj.2
  have hn1 := (IMn.n1 p0).1 j hj.1 hj.2
  have hn2 := (IMn.n1 p0).2.1 (2 + j) (by omega) (by omega)
  refine x_aload_n hx hb hl 0 rfl dX11_walksOn_0 rfl ?_
  refine x_iload_n hx hb hl 1 rfl dX11_walksOn_1 rfl ?_
  refine x_goi (x_runV (As := [.int (xJ j)]) hx hb hml hown hT hE hW hl.1 (Or.inl (by decide)) (so_268 h0 g _) rfl cf_X11_isJudge wq1409 wq109 wq1407 (c_X11_isJudgeJ l D g T h0 s0 hW.2.1 j rj p0 p1 p2) ⟨rfl, rfl, ⟨by decide, by decide⟩, ⟨by decide, by decide⟩⟩ rfl rfl (Nat.le_of_ble_eq_true rfl) dX11_walksOn_2) hW (fun x1 s2 H locs rx1 hp3 hW => ?_)
  obtain ⟨es2, hp3⟩ := hp3
  subst es2
  have ghp3 := hp3
  have H2 := ghp3
  refine x_if_eq (tgt := 25) hx hb rx1 dX11_walksOn_5 (by decide) (fun c4 => ?_) (fun c4 => ?_)
  · skip
    rw [eQ]
    exact x_vret hx hb hr hlk hW ⟨hF, ⟨p0, p1, p2, k269_37, k269_34, trivial⟩, ⟨zjk_no hj (by omega), fun _ _ => rfl⟩⟩ dX11_walksOn_25
  refine x_aload_n hx hb hl 0 rfl dX11_walksOn_8 rfl ?_
  refine x_get (j := 0) (v := .ref (h0 + 269)) hx hb hown hT hE hW cls_X11 (Or.inl (by decide)) (so_268 h0 g _) (by decide) rfl wq1185 dX11_walksOn_9 ?_
  refine x_iconst hx hb dX11_walksOn_12 ?_
  refine x_iload_n hx hb hl 1 rfl dX11_walksOn_13 rfl ?_
  refine x_iadd hx hb dX11_walksOn_14 ?_
  refine x_iald hx hb hE hW (Or.inl (by decide)) (sa_269 h0 g _) (by omega) (by decide) dX11_walksOn_15 ?_
  refine x_rd hW (fun x5 ex5 rx5 => ?_)
  have bx5 : 0 ≤ x5 := by rw [ex5]; exact (IMn.n1 p0).2.1 _ (by omega) (by omega)
  have V15 : x5 = s0 269 (2 + j) := ex5
  refine x_aload_n hx hb hl 0 rfl dX11_walksOn_16 rfl ?_
  refine x_get (j := 5) (v := .ref (h0 + 274)) hx hb hown hT hE hW cls_X11 (Or.inl (by decide)) (so_268 h0 g _) (by decide) rfl wq1190 dX11_walksOn_17 ?_
  refine x_iload_n hx hb hl 1 rfl dX11_walksOn_20 rfl ?_
  refine x_iald hx hb hE hW (Or.inl (by decide)) (sa_274 h0 g _) (by omega) (by decide) dX11_walksOn_21 ?_
  refine x_rd hW (fun x6 ex6 rx6 => ?_)
  have bx6 : 0 ≤ x6 ∧ x6 ≤ 60 := by rw [ex6]; exact IMn.w p0 _ (by omega) (by omega)
  have V21 : x6 = n9 j := ex6.trans hw1.1
  refine x_icmp_lt (tgt := 26) hx hb rx5 rx6 dX11_walksOn_22 (by decide) (fun c7 => ?_) (fun c7 => ?_)
  · skip
    refine x_aload_n hx hb hl 0 rfl dX11_walksOn_26 rfl ?_
    refine x_get (j := 6) (v := .ref (h0 + 275)) hx hb hown hT hE hW cls_X11 (Or.inl (by decide)) (so_268 h0 g _) (by decide) rfl wq1191 dX11_walksOn_27 ?_
    refine x_bipush hx hb dX11_walksOn_30 (by decide) ?_
    refine x_iload_n hx hb hl 1 rfl dX11_walksOn_32 rfl ?_
    refine x_imul hx hb dX11_walksOn_33 ?_
    refine x_aload_n hx hb hl 0 rfl dX11_walksOn_34 rfl ?_
    refine x_get (j := 0) (v := .ref (h0 + 269)) hx hb hown hT hE hW cls_X11 (Or.inl (by decide)) (so_268 h0 g _) (by decide) rfl wq1185 dX11_walksOn_35 ?_
    refine x_iconst hx hb dX11_walksOn_38 ?_
    refine x_iload_n hx hb hl 1 rfl dX11_walksOn_39 rfl ?_
    refine x_iadd hx hb dX11_walksOn_40 ?_
    refine x_iald hx hb hE hW (Or.inl (by decide)) (sa_269 h0 g _) (by omega) (by decide) dX11_walksOn_41 ?_
    refine x_rd hW (fun x8 ex8 rx8 => ?_)
    have bx8 : 0 ≤ x8 := by rw [ex8]; exact (IMn.n1 p0).2.1 _ (by omega) (by omega)
    have V41 : x8 = s0 269 (2 + j) := ex8
    refine x_iadd hx hb dX11_walksOn_42 ?_
    refine x_bald hx hb hE hW (Or.inl (by decide)) (sa_275 h0 g _) (by omega) (by decide) dX11_walksOn_43 ?_
    refine x_rd hW (fun x9 ex9 rx9 => ?_)
    have V43 : x9 = w9 j (s0 269 (2 + j)) := ex9.trans ((congrArg (s0 275) (show ((60 * j) + x8) = 60 * j + s0 269 (2 + j) from by omega)).trans (hw1.2 _ (by omega) (by omega)))
    refine lv_istore_n (lv' := [(2, .int (xJ x9)), (0, .ref (h0 + 268)), (1, .int (xJ j))]) hx hb dX11_walksOn_44 rfl hl (by decide) rfl (fun ls hl => ?_)
    refine x_aload_n hx hb hl 1 rfl dX11_walksOn_45 rfl ?_
    refine x_get (j := 0) (v := .ref (h0 + 269)) hx hb hown hT hE hW cls_X11 (Or.inl (by decide)) (so_268 h0 g _) (by decide) rfl wq1185 dX11_walksOn_46 ?_
    refine x_iconst hx hb dX11_walksOn_49 ?_
    refine x_iload_n hx hb hl 2 rfl dX11_walksOn_50 rfl ?_
    refine x_iadd hx hb dX11_walksOn_51 ?_
    refine x_aload_n hx hb hl 1 rfl dX11_walksOn_52 rfl ?_
    refine x_get (j := 0) (v := .ref (h0 + 269)) hx hb hown hT hE hW cls_X11 (Or.inl (by decide)) (so_268 h0 g _) (by decide) rfl wq1185 dX11_walksOn_53 ?_
    refine x_iconst hx hb dX11_walksOn_56 ?_
    refine x_iload_n hx hb hl 2 rfl dX11_walksOn_57 rfl ?_
    refine x_iadd hx hb dX11_walksOn_58 ?_
    refine x_iald hx hb hE hW (Or.inl (by decide)) (sa_269 h0 g _) (by omega) (by decide) dX11_walksOn_59 ?_
    refine x_rd hW (fun x10 ex10 rx10 => ?_)
    have bx10 : 0 ≤ x10 := by rw [ex10]; exact (IMn.n1 p0).2.1 _ (by omega) (by omega)
    have V59 : x10 = s0 269 (2 + j) := ex10
    refine x_iconst hx hb dX11_walksOn_60 ?_
    refine x_iadd hx hb dX11_walksOn_61 ?_
    refine x_iast hx hb hE hW (by decide) (fun σ => sa_269 h0 g σ) (by omega) (by decide) (by omega) dX11_walksOn_62 (fun H locs s11 es11 hW => ?_)
    have q12 : IMn s11 := by rw [es11]; exact IMn_N269 p0 (by omega)
    have q13 : IMk s11 := by rw [es11]; exact IMk_o (by unfold suIMk; first | decide | omega) p1
    have q14 : IMo s11 := by rw [es11]; exact IMo_o (by unfold suIMo; first | decide | omega) p2
    have q15 : s11 268 8 = s0 268 8 := (show s11 268 8 = s0 268 8 from by rw [es11, xU_k _ _ _ (by first | decide | omega)]).trans k268_8
    have q16 : s11 268 58 = s0 268 58 := (show s11 268 58 = s0 268 58 from by rw [es11, xU_k _ _ _ (by first | decide | omega)]).trans k268_58
    have q17 : s11 269 37 = s0 269 37 := (show s11 269 37 = s0 269 37 from by rw [es11, xU_j _ _ (by omega)]).trans k269_37
    have q18 : s11 269 34 = s0 269 34 := (show s11 269 34 = s0 269 34 from by rw [es11, xU_j _ _ (by omega)]).trans k269_34
    have hF19 := hF.put es11 (by omega)
    have E62 : s11 269 = xud (s0 269) (2 + j) (s0 269 (2 + j) + 1) := by rw [es11, xU_xud, V59]
    refine x_aload_n hx hb hl 1 rfl dX11_walksOn_63 rfl ?_
    refine x_iload_n hx hb hl 2 rfl dX11_walksOn_64 rfl ?_
    refine x_iload_n hx hb hl 0 rfl dX11_walksOn_65 rfl ?_
    refine x_gov (x_runV (As := [.int (xJ j), .int (xJ x9)]) hx hb hml hown hT hE hW hl.1 (Or.inl (by decide)) (so_268 h0 g _) rfl cf_X11_steps wq1551 wq133 wq1549 (c_X11_stepsJ l D g T h0 s11 hW.2.1 j rj x9 rx9 K9 (by omega) (by first | exact hK | exact fun t t1 t2 => by rw [hF19 272 (by first | decide | omega)]; exact hK t t1 t2) q12 q13 q14) ⟨rfl, rfl, ⟨by decide, by decide⟩, ⟨by decide, by decide⟩⟩ rfl rfl (Nat.le_of_ble_eq_true rfl) dX11_walksOn_66) hW (fun s21 H locs hp22 hW => ?_)
    obtain ⟨fs21, hp22⟩ := hp22
    have hF23 := hF19.call fs21 (fun k h => by omega)
    have q24 : s21 268 8 = s0 268 8 := (congrFun (fs21 _ (by omega)) _).trans q15
    have q25 : s21 268 58 = s0 268 58 := (congrFun (fs21 _ (by omega)) _).trans q16
    have ghp22 := hp22.2
    have X66 : s21 269 = xud (xud (s0 269) (2 + j) (s0 269 (2 + j) + 1)) j (znW K9 (s0 269 j) (zrj (s0 269) (1 - j)) (w9 j (s0 269 (2 + j)))) := by
      refine ghp22.trans ?_
      rw [E62, V43, xud_o (s0 269) _ (show j ≠ 2 + j from by omega), zrj_o (by omega) (by omega)]
    rw [eQ]
    exact x_vret hx hb hr hlk hW ⟨hF23, ⟨hp22.1.1, hp22.1.2.1, hp22.1.2.2.1, (hp22.1.2.2.2.1.trans q17), (hp22.1.2.2.2.2.1.trans q18), trivial⟩, ⟨zjk_r hj (by omega) (by omega) (by omega) X66, fun i hi => by rw [X66, xud_o _ _ (by omega), xud_o _ _ (by omega)]⟩⟩ dX11_walksOn_69
  rw [eQ]
  exact x_vret hx hb hr hlk hW ⟨hF, ⟨p0, p1, p2, k269_37, k269_34, trivial⟩, ⟨zjk_no hj (by omega), fun _ _ => rfl⟩⟩ dX11_walksOn_25

