/-! ===== the reader of a law's text ===== -/
def zhC (σ : xS) : Int := if σ 268 9 < σ 268 10 then σ 276 (σ 268 9) % 256 else -1
theorem zhC_in {σ : xS} (h : σ 268 9 < σ 268 10) : zhC σ = σ 276 (σ 268 9) % 256 := if_pos h
theorem zhC_out {σ : xS} (h : σ 268 10 ≤ σ 268 9) : zhC σ = -1 := if_neg (by omega)
theorem zhC_f {σ τ : xS} (h9 : τ 268 9 = σ 268 9) (h10 : τ 268 10 = σ 268 10) (h : τ 276 = σ 276) : zhC τ = zhC σ := by unfold zhC; rw [h9, h10, h]
def ztW (σ : xS) : Int := if σ 268 15 = 0 then -1 else σ 278 (σ 268 15 - 1) / 1048576
theorem ztW_0 {σ : xS} (h : σ 268 15 = 0) : ztW σ = -1 := if_pos h
theorem ztW_1 {σ : xS} (h : σ 268 15 ≠ 0) : ztW σ = σ 278 (σ 268 15 - 1) / 1048576 := if_neg h
def zNB (d n : Int) : Prop := (d = 0 ∧ 0 ≤ n ∧ n ≤ 0) ∨ (d = 1 ∧ 0 ≤ n ∧ n ≤ 9) ∨ (d = 2 ∧ 0 ≤ n ∧ n ≤ 99) ∨ (d = 3 ∧ 0 ≤ n ∧ n ≤ 999) ∨ (d = 4 ∧ 0 ≤ n ∧ n ≤ 9999) ∨ (d = 5 ∧ 0 ≤ n ∧ n ≤ 99999)
theorem zNB_0 {d n : Int} (h : d = 0) (h2 : n = 0) : zNB d n := Or.inl ⟨h, by omega⟩
theorem zNB_le {d n : Int} (h : zNB d n) : (0 ≤ d ∧ d ≤ 5) ∧ 0 ≤ n ∧ n ≤ 99999 := by unfold zNB at h; omega
theorem zNB_s {d n d2 n2 : Int} (h : zNB d n) (h5 : d ≠ 5) (e : d2 = d + 1) (h2 : 10 * n ≤ n2 ∧ n2 ≤ 10 * n + 9) : zNB d2 n2 := by unfold zNB at h ⊢; omega
def zcnt (lo hi : Int) (w : Int → Int) (b : Int) : Nat → Int
  | 0 => 0
  | n + 1 => zcnt lo hi w b n + (if lo ≤ w (b + n) ∧ w (b + n) < hi then 1 else 0)
theorem zcnt_s {lo hi b : Int} {w : Int → Int} (n : Nat) : zcnt lo hi w b (n + 1) = zcnt lo hi w b n + (if lo ≤ w (b + n) ∧ w (b + n) < hi then 1 else 0) := rfl
def zcI (lo hi : Int) (w : Int → Int) (b m : Int) : Int := zcnt lo hi w b (m - b).toNat
theorem zcnt_f {lo hi b : Int} {w w2 : Int → Int} : ∀ n : Nat, (∀ i, b ≤ i → i < b + n → w2 i = w i) → zcnt lo hi w2 b n = zcnt lo hi w b n
  | 0, _ => rfl
  | n + 1, h => by
    unfold zcnt
    rw [zcnt_f n (fun i h1 h2 => h i h1 (by omega)), h (b + n) (by omega) (by omega)]
theorem zcnt_n {lo hi b : Int} {w : Int → Int} : ∀ n : Nat, 0 ≤ zcnt lo hi w b n
  | 0 => Int.le_refl _
  | n + 1 => by
    have := zcnt_n (lo := lo) (hi := hi) (b := b) (w := w) n
    unfold zcnt
    split <;> omega
theorem zcI_n {lo hi b m : Int} {w : Int → Int} : 0 ≤ zcI lo hi w b m := zcnt_n _
theorem zcI_0 {lo hi b : Int} {w : Int → Int} : zcI lo hi w b b = 0 := by
  unfold zcI
  rw [show (b - b).toNat = 0 from by omega]
  rfl
theorem zcI_f {lo hi b m : Int} {w w2 : Int → Int} (h : ∀ i, b ≤ i → i < m → w2 i = w i) : zcI lo hi w2 b m = zcI lo hi w b m :=
  zcnt_f _ (fun i h1 h2 => h i h1 (by omega))
theorem zcI_s {lo hi b m : Int} {w : Int → Int} (h : b ≤ m) : zcI lo hi w b (m + 1) = zcI lo hi w b m + (if lo ≤ w m ∧ w m < hi then 1 else 0) := by
  unfold zcI
  rw [show (m + 1 - b).toNat = (m - b).toNat + 1 from by omega, zcnt_s, show b + (((m - b).toNat : Nat) : Int) = m from by omega]
theorem zcI_y {lo hi b m : Int} {w : Int → Int} (h : b ≤ m) (h1 : lo ≤ w m ∧ w m < hi) : zcI lo hi w b (m + 1) = zcI lo hi w b m + 1 := by rw [zcI_s h, if_pos h1]
theorem zcI_z {lo hi b m : Int} {w : Int → Int} (h : b ≤ m) (h1 : w m < lo ∨ hi ≤ w m) : zcI lo hi w b (m + 1) = zcI lo hi w b m := by rw [zcI_s h, if_neg (by omega)]; omega
theorem zcI_xud {lo hi b m v : Int} {w : Int → Int} : zcI lo hi (xud w m v) b m = zcI lo hi w b m := zcI_f (fun i _ h => xud_o w v (by omega))
/-- one place of the code: d the depths, w the waiting ones -/
def zokc (c w d : Int → Int) (C W k : Int) : Prop := 0 ≤ c k ∧
  ((c k < 1048576 ∧ d (k + 1) = d k + 1) ∨ ((1048576 ≤ c k ∧ c k < 1048583) ∧ d (k + 1) = d k + 1) ∨
   ((10485760 ≤ c k ∧ c k < 11534336) ∧ 1 ≤ d k ∧ d (k + 1) = d k) ∨
   ((11534336 ≤ c k ∧ c k < 13631488) ∧ d k = 1 ∧ d (k + 1) = 0 ∧ ((k < c k % 1048576 ∧ c k % 1048576 ≤ C ∧ d (c k % 1048576) = 1) ∨ ∃ i, 0 ≤ i ∧ i < W ∧ w i % 1048576 = k ∧ 11534336 ≤ w i ∧ w i < 13631488)) ∨
   ((2097152 ≤ c k ∧ c k < 10485760) ∧ 2 ≤ d k ∧ d (k + 1) = d k - 1))
def zokw (c w d : Int → Int) (a C i : Int) : Prop := a ≤ w i % 1048576 ∧ w i % 1048576 < C ∧ (11534336 ≤ c (w i % 1048576) ∧ c (w i % 1048576) < 13631488) ∧ d (w i % 1048576) = 1
def zDC (c w : Int → Int) (C W a D : Int) : Prop := ∃ d : Int → Int, d a = 0 ∧ d C = D ∧ (∀ k, a ≤ k → k < C → zokc c w d C W k) ∧ (∀ k, a ≤ k → k ≤ C → 0 ≤ d k ∧ d k ≤ k - a) ∧ ∀ i, 0 ≤ i → i < W → 11534336 ≤ w i → w i < 13631488 → zokw c w d a C i
theorem zDC_new (c w : Int → Int) (a : Int) : zDC c w a 0 a 0 := ⟨fun _ => 0, rfl, rfl, fun k h1 h2 => by omega, fun k h1 h2 => ⟨Int.le_refl _, by show (0 : Int) ≤ k - a; omega⟩, fun i h1 h2 => by omega⟩
theorem zokc_w {c w w2 d : Int → Int} {C W W2 k : Int} (h : zokc c w d C W k) (hw : ∀ i, 0 ≤ i → i < W → 11534336 ≤ w i → w i < 13631488 → i < W2 ∧ w2 i = w i) : zokc c w2 d C W2 k := by
  obtain ⟨h0, h⟩ := h
  refine ⟨h0, ?_⟩
  rcases h with h | h | h | ⟨h1, h2, h3, h4 | ⟨i, i1, i2, i3, i4, i5⟩⟩ | h
  · exact Or.inl h
  · exact Or.inr (Or.inl h)
  · exact Or.inr (Or.inr (Or.inl h))
  · exact Or.inr (Or.inr (Or.inr (Or.inl ⟨h1, h2, h3, Or.inl h4⟩)))
  · have q := hw i i1 i2 i4 i5
    exact Or.inr (Or.inr (Or.inr (Or.inl ⟨h1, h2, h3, Or.inr ⟨i, i1, q.1, by rw [q.2]; exact i3, by rw [q.2]; exact i4, by rw [q.2]; exact i5⟩⟩)))
  · exact Or.inr (Or.inr (Or.inr (Or.inr h)))
theorem zDC_pop {c w : Int → Int} {C W a D : Int} (h : zDC c w C W a D) (hv : w (W - 1) < 11534336 ∨ 13631488 ≤ w (W - 1)) : zDC c w C (W - 1) a D := by
  obtain ⟨d, h1, h2, h3, h4, h5⟩ := h
  refine ⟨d, h1, h2, fun k k1 k2 => zokc_w (h3 k k1 k2) (fun i i1 i2 i3 i4 => ⟨?_, rfl⟩), h4, fun i i1 i2 => h5 i i1 (by omega)⟩
  by_cases e : i = W - 1
  · subst e; omega
  · omega
theorem zDC_push {c w : Int → Int} {C W a D v : Int} (h : zDC c w C W a D) (hv : v < 11534336 ∨ 13631488 ≤ v) : zDC c (xud w W v) C (W + 1) a D := by
  obtain ⟨d, h1, h2, h3, h4, h5⟩ := h
  refine ⟨d, h1, h2, fun k k1 k2 => zokc_w (h3 k k1 k2) (fun i i1 i2 i3 i4 => ⟨by omega, xud_o w v (by omega)⟩), h4, fun i i1 i2 i3 i4 => ?_⟩
  by_cases e : i = W
  · subst e; rw [xud_s] at i3 i4; omega
  · have q : xud w W v i = w i := xud_o w v e
    rw [q] at i3 i4
    unfold zokw
    rw [q]
    exact h5 i i1 (by omega) i3 i4
theorem zokc_c {c c2 w d d2 : Int → Int} {C C2 W k : Int} (h : zokc c w d C W k) (hc : c2 k = c k) (hd : ∀ q, q ≤ C → d2 q = d q) (hk : k < C) (zhC : C ≤ C2) : zokc c2 w d2 C2 W k := by
  unfold zokc at h ⊢
  rw [hc, hd k (by omega), hd (k + 1) (by omega)]
  obtain ⟨h0, h⟩ := h
  refine ⟨h0, ?_⟩
  rcases h with h | h | h | ⟨h1, h2, h3, h4 | h4⟩ | h
  · exact Or.inl h
  · exact Or.inr (Or.inl h)
  · exact Or.inr (Or.inr (Or.inl h))
  · exact Or.inr (Or.inr (Or.inr (Or.inl ⟨h1, h2, h3, Or.inl ⟨h4.1, by omega, by rw [hd _ h4.2.1]; exact h4.2.2⟩⟩)))
  · exact Or.inr (Or.inr (Or.inr (Or.inl ⟨h1, h2, h3, Or.inr h4⟩)))
  · exact Or.inr (Or.inr (Or.inr (Or.inr h)))
/-- one code more, none that jumps -/
theorem zDC_note {c w : Int → Int} {C W a D D2 v : Int} (h : zDC c w C W a D) (ha : a ≤ C) (hv : 0 ≤ v) (hD : (v < 1048583 ∧ D2 = D + 1) ∨ ((10485760 ≤ v ∧ v < 11534336) ∧ 1 ≤ D ∧ D2 = D) ∨ ((2097152 ≤ v ∧ v < 10485760) ∧ 2 ≤ D ∧ D2 = D - 1)) : zDC (xud c C v) w (C + 1) W a D2 := by
  obtain ⟨d, h1, h2, h3, h4, h5⟩ := h
  have hq : ∀ q, q ≤ C → xud d (C + 1) D2 q = d q := fun q h => xud_o d D2 (by omega)
  have hb := h4 C ha (Int.le_refl _)
  refine ⟨xud d (C + 1) D2, by rw [hq _ ha]; exact h1, xud_s _ _ _, fun k k1 k2 => ?_, fun k k1 k2 => ?_, fun i i1 i2 i3 i4 => ?_⟩
  · by_cases e : k = C
    · subst e
      unfold zokc
      rw [xud_s, xud_s, hq _ (Int.le_refl _), h2]
      refine ⟨hv, ?_⟩
      rcases hD with hD | hD | hD
      · by_cases e : v < 1048576
        · exact Or.inl ⟨e, hD.2⟩
        · exact Or.inr (Or.inl ⟨⟨by omega, hD.1⟩, hD.2⟩)
      · exact Or.inr (Or.inr (Or.inl hD))
      · exact Or.inr (Or.inr (Or.inr (Or.inr hD)))
    · exact zokc_c (h3 k k1 (by omega)) (xud_o c v e) hq (by omega) (by omega)
  · by_cases e : k = C + 1
    · subst e
      rw [xud_s]
      rw [h2] at hb
      omega
    · rw [hq k (by omega)]
      exact h4 k k1 (by omega)
  · have q := h5 i i1 i2 i3 i4
    unfold zokw at q ⊢
    rw [hq _ (by omega), xud_o c v (by omega)]
    exact ⟨q.1, by omega, q.2.2⟩
/-- a jump: it waits for its landing -/
theorem zDC_jump {c w : Int → Int} {C W a o : Int} (h : zDC c w C W a 1) (ha : 0 ≤ a ∧ a ≤ C ∧ C < 1048576) (hW : 0 ≤ W) (ho : o = 11 ∨ o = 12) : zDC (xud c C (1048576 * o)) (xud w W (1048576 * o + C)) (C + 1) (W + 1) a 0 := by
  obtain ⟨d, h1, h2, h3, h4, h5⟩ := h
  have hq : ∀ q, q ≤ C → xud d (C + 1) 0 q = d q := fun q h => xud_o d 0 (by omega)
  have hm : (1048576 * o + C) % 1048576 = C := by omega
  refine ⟨xud d (C + 1) 0, by rw [hq _ ha.2.1]; exact h1, xud_s _ _ _, fun k k1 k2 => ?_, fun k k1 k2 => ?_, fun i i1 i2 i3 i4 => ?_⟩
  · by_cases e : k = C
    · subst e
      unfold zokc
      rw [xud_s, xud_s, hq _ (Int.le_refl _), h2]
      exact ⟨by omega, Or.inr (Or.inr (Or.inr (Or.inl ⟨by omega, rfl, rfl, Or.inr ⟨W, hW, by omega, by rw [xud_s]; omega, by rw [xud_s]; omega, by rw [xud_s]; omega⟩⟩)))⟩
    · exact zokc_w (zokc_c (h3 k k1 (by omega)) (xud_o c _ e) hq (by omega) (by omega)) (fun i i1 i2 _ _ => ⟨by omega, xud_o w _ (by omega)⟩)
  · by_cases e : k = C + 1
    · subst e; rw [xud_s]; omega
    · rw [hq k (by omega)]
      exact h4 k k1 (by omega)
  · by_cases e : i = W
    · subst e
      unfold zokw
      rw [xud_s, hm, xud_s, hq _ (Int.le_refl _), h2]
      omega
    · have qw : xud w W (1048576 * o + C) i = w i := xud_o w _ e
      rw [qw] at i3 i4
      have q := h5 i i1 (by omega) i3 i4
      unfold zokw at q ⊢
      rw [qw, hq _ (by omega), xud_o c _ (by omega)]
      exact ⟨q.1, by omega, q.2.2⟩
/-- the last waiting jump lands here -/
theorem zDC_land {c w : Int → Int} {C W a k0 : Int} (h : zDC c w C W a 1) (zhC : 0 ≤ a ∧ C < 1048576) (hW : 1 ≤ W) (hw : 11534336 ≤ w (W - 1) ∧ w (W - 1) < 13631488) (hk : k0 = w (W - 1) % 1048576) : zDC (xud c k0 (1048576 * (c k0 / 1048576) + C)) w C (W - 1) a 1 := by
  obtain ⟨d, h1, h2, h3, h4, h5⟩ := h
  have q0 := h5 (W - 1) (by omega) (by omega) hw.1 hw.2
  unfold zokw at q0
  rw [← hk] at q0
  obtain ⟨q1, q2, q3, q4⟩ := q0
  obtain ⟨v, ev⟩ : ∃ v, v = 1048576 * (c k0 / 1048576) + C := ⟨_, rfl⟩
  rw [← ev]
  have hv : (11534336 ≤ v ∧ v < 13631488) ∧ v % 1048576 = C := by omega
  refine ⟨d, h1, h2, fun k k1 k2 => ?_, h4, fun i i1 i2 i3 i4 => ?_⟩
  · by_cases e : k = k0
    · subst e
      have q5 := h3 k k1 k2
      unfold zokc at q5 ⊢
      rw [xud_s]
      obtain ⟨q6, q7⟩ := q5
      have hd : d (k + 1) = 0 := by
        rcases q7 with q | q | q | q | q <;> omega
      exact ⟨by omega, Or.inr (Or.inr (Or.inr (Or.inl ⟨hv.1, q4, hd, Or.inl ⟨by omega, by omega, by rw [hv.2]; exact h2⟩⟩)))⟩
    · have q5 := h3 k k1 k2
      unfold zokc at q5 ⊢
      rw [xud_o c v e]
      obtain ⟨q6, q7⟩ := q5
      refine ⟨q6, ?_⟩
      rcases q7 with q | q | q | ⟨q, r1, r2, r3 | ⟨i, i1, i2, i3, i4, i5⟩⟩ | q
      · exact Or.inl q
      · exact Or.inr (Or.inl q)
      · exact Or.inr (Or.inr (Or.inl q))
      · exact Or.inr (Or.inr (Or.inr (Or.inl ⟨q, r1, r2, Or.inl r3⟩)))
      · refine Or.inr (Or.inr (Or.inr (Or.inl ⟨q, r1, r2, Or.inr ⟨i, i1, ?_, i3, i4, i5⟩⟩)))
        by_cases e2 : i = W - 1
        · subst e2; omega
        · omega
      · exact Or.inr (Or.inr (Or.inr (Or.inr q)))
  · have q := h5 i i1 (by omega) i3 i4
    unfold zokw at q ⊢
    by_cases e : w i % 1048576 = k0
    · rw [e] at q ⊢
      rw [xud_s]
      exact ⟨q.1, q.2.1, hv.1, q.2.2.2⟩
    · rw [xud_o c v e]
      exact q
theorem zDC_at {c w : Int → Int} {C W a D : Int} (h : zDC c w C W a D) (hW : 1 ≤ W) (hw : 11534336 ≤ w (W - 1) ∧ w (W - 1) < 13631488) : a ≤ w (W - 1) % 1048576 ∧ w (W - 1) % 1048576 < C ∧ 11534336 ≤ c (w (W - 1) % 1048576) ∧ c (w (W - 1) % 1048576) < 13631488 := by
  obtain ⟨d, h1, h2, h3, h4, h5⟩ := h
  have q := h5 (W - 1) (by omega) (by omega) hw.1 hw.2
  exact ⟨q.1, q.2.1, q.2.2.1⟩
theorem zDC_c {c c2 w w2 : Int → Int} {C W a D : Int} (h : zDC c w C W a D) (hw : ∀ i, 0 ≤ i → i < W → w2 i = w i) (hc : c2 = c) : zDC c2 w2 C W a D := by
  subst hc
  obtain ⟨d, h1, h2, h3, h4, h5⟩ := h
  refine ⟨d, h1, h2, fun k k1 k2 => zokc_w (h3 k k1 k2) (fun i i1 i2 _ _ => ⟨i2, hw i i1 i2⟩), h4, fun i i1 i2 i3 i4 => ?_⟩
  rw [hw i i1 i2] at i3 i4
  unfold zokw
  rw [hw i i1 i2]
  exact h5 i i1 i2 i3 i4
/-- where none waits, the code is safe -/
theorem zgS_DC {c d : Int → Int} {w : Int → Int} {a C : Int} (ha : 0 ≤ a ∧ C ≤ 240) (h3 : ∀ k, a ≤ k → k < C → zokc c w d C 0 k) (h4 : ∀ k, a ≤ k → k ≤ C → 0 ≤ d k ∧ d k ≤ k - a) : ∀ (f k : Nat), a ≤ k → k ≤ C → C - k ≤ f → gS c C.toNat f k (d k).toNat
  | 0, k, h1, h2, h => by
    show k = C.toNat
    omega
  | f + 1, k, h1, h2, h => by
    by_cases e : (k : Int) = C
    · exact Or.inl (by omega)
    · have ih := zgS_DC ha h3 h4 f (k + 1) (by omega) (by omega) (by omega)
      have hb := h4 k h1 h2
      obtain ⟨q0, q⟩ := h3 k h1 (by omega)
      rw [show ((k + 1 : Nat) : Int) = (k : Int) + 1 from by omega] at ih
      refine Or.inr ⟨by omega, q0, ?_⟩
      unfold gO gV
      rcases q with q | q | q | ⟨q, r1, r2, r3 | ⟨i, i1, i2, -⟩⟩ | q
      · rw [q.2] at ih
        exact Or.inl ⟨by omega, by omega, (show (d k).toNat + 1 = (d k + 1).toNat from by omega) ▸ ih⟩
      · rw [q.2] at ih
        exact Or.inr (Or.inl ⟨by omega, by omega, by omega, (show (d k).toNat + 1 = (d k + 1).toNat from by omega) ▸ ih⟩)
      · rw [q.2.2] at ih
        exact Or.inr (Or.inr (Or.inl ⟨by omega, by omega, ih⟩))
      · rw [r2] at ih
        have iv := zgS_DC ha h3 h4 f (c k % 1048576).toNat (by omega) (by omega) (by omega)
        rw [show (((c k % 1048576).toNat : Nat) : Int) = c k % 1048576 from by omega, r3.2.2] at iv
        refine Or.inr (Or.inr (Or.inr (Or.inl ⟨by omega, by omega, ⟨(c k % 1048576).toNat, by omega, by omega, by omega, ?_⟩, ?_⟩)))
        · rw [r1]; exact iv
        · rw [r1]; exact ih
      · omega
      · rw [q.2.2] at ih
        exact Or.inr (Or.inr (Or.inr (Or.inr ⟨by omega, by omega, by omega, (show (d k).toNat - 1 = (d k - 1).toNat from by omega) ▸ ih⟩)))
theorem zDC_seg {c w : Int → Int} {a C D : Int} (h : zDC c w C 0 a D) (ha : 0 ≤ a ∧ a ≤ C ∧ C ≤ 240) : segOK c a C := by
  obtain ⟨d, h1, h2, h3, h4, h5⟩ := h
  refine ⟨ha.1, ha.2.1, ha.2.2, ?_⟩
  have q := zgS_DC ⟨ha.1, ha.2.2⟩ h3 h4 (C - a).toNat a.toNat (by omega) (by omega) (by omega)
  rw [show ((a.toNat : Nat) : Int) = a from by omega, h1] at q
  exact q
theorem segOK_0 (c : Int → Int) {a : Int} (h : 0 ≤ a ∧ a ≤ 240) : segOK c a a := ⟨h.1, Int.le_refl _, h.2, by
  rw [show (a - a).toNat = 0 from by omega]
  exact (rfl : a.toNat = a.toNat)⟩
theorem gS_cp {c c2 : Int → Int} {to : Nat} (h : ∀ k : Nat, k < to → c2 k = c k) : ∀ (f k n : Nat), gS c to f k n → gS c2 to f k n
  | 0, _, _, q => q
  | f + 1, k, n, q => by
    rcases q with q | ⟨hk, h0, q⟩
    · exact Or.inl q
    · refine Or.inr ⟨hk, by rw [h k hk]; exact h0, ?_⟩
      rw [h k hk]
      rcases q with ⟨a, a2, b⟩ | ⟨a, a2, a3, b⟩ | ⟨a, a2, b⟩ | ⟨a, a2, ⟨v, v1, v2, v3, v4⟩, b⟩ | ⟨a, a2, a3, b⟩
      · exact Or.inl ⟨a, a2, gS_cp h _ _ _ b⟩
      · exact Or.inr (Or.inl ⟨a, a2, a3, gS_cp h _ _ _ b⟩)
      · exact Or.inr (Or.inr (Or.inl ⟨a, a2, gS_cp h _ _ _ b⟩))
      · exact Or.inr (Or.inr (Or.inr (Or.inl ⟨a, a2, ⟨v, v1, v2, v3, gS_cp h _ _ _ v4⟩, gS_cp h _ _ _ b⟩)))
      · exact Or.inr (Or.inr (Or.inr (Or.inr ⟨a, a2, a3, gS_cp h _ _ _ b⟩)))
theorem segOK_cp {c c2 : Int → Int} {a b : Int} (hq : segOK c a b) (h : ∀ k, 0 ≤ k → k < b → c2 k = c k) : segOK c2 a b :=
  ⟨hq.1, hq.2.1, hq.2.2.1, gS_cp (fun k hk => h k (by omega) (by omega)) _ _ _ hq.2.2.2⟩
/-- within a sum: base b, c0 the code below a, w0 what waits below b, K its claims on the place, D0 the depth before, e whether a value stands -/
def zLS (c0 : Int → Int) (a M : Int) (w0 : Int → Int) (b K D0 e : Int) (σ : xS) : Prop :=
  (0 ≤ σ 268 9 ∧ σ 268 9 ≤ σ 268 10 ∧ σ 268 10 ≤ 240) ∧ σ 268 16 = M ∧ (∀ k, 0 ≤ k → k < a → σ 277 k = c0 k) ∧ (0 ≤ a ∧ a ≤ σ 268 14) ∧
  (0 ≤ b ∧ b ≤ σ 268 15 ∧ σ 268 15 ≤ σ 268 9 ∧ 0 ≤ K ∧ 0 ≤ D0) ∧
  (σ 268 14 + K + zcI 2097152 7340032 (σ 278) b (σ 268 15) ≤ σ 268 9) ∧
  (∀ i, 0 ≤ i → i < b → σ 278 i = w0 i ∧ 10485760 ≤ w0 i ∧ w0 i < 14680064) ∧
  (∀ i, b ≤ i → i < σ 268 15 → (2097152 ≤ σ 278 i ∧ σ 278 i < 7340032) ∨ (14680064 ≤ σ 278 i ∧ σ 278 i < 15728640)) ∧
  zDC (σ 277) (σ 278) (σ 268 14) (σ 268 15) a (D0 + zcI 2097152 7340032 (σ 278) b (σ 268 15) + e)
section XL
variable {c0 w0 : Int → Int} {a M b K D0 e : Int} {σ τ : xS}
theorem zLS.p (h : zLS c0 a M w0 b K D0 e σ) : 0 ≤ σ 268 9 ∧ σ 268 9 ≤ σ 268 10 ∧ σ 268 10 ≤ 240 := h.1
theorem zLS.m (h : zLS c0 a M w0 b K D0 e σ) : σ 268 16 = M := h.2.1
theorem zLS.old (h : zLS c0 a M w0 b K D0 e σ) : ∀ k, 0 ≤ k → k < a → σ 277 k = c0 k := h.2.2.1
theorem zLS.ca (h : zLS c0 a M w0 b K D0 e σ) : 0 ≤ a ∧ a ≤ σ 268 14 := h.2.2.2.1
theorem zLS.wb (h : zLS c0 a M w0 b K D0 e σ) : 0 ≤ b ∧ b ≤ σ 268 15 ∧ σ 268 15 ≤ σ 268 9 ∧ 0 ≤ K ∧ 0 ≤ D0 := h.2.2.2.2.1
theorem zLS.sz (h : zLS c0 a M w0 b K D0 e σ) : σ 268 14 + K + zcI 2097152 7340032 (σ 278) b (σ 268 15) ≤ σ 268 9 := h.2.2.2.2.2.1
theorem zLS.lo (h : zLS c0 a M w0 b K D0 e σ) : ∀ i, 0 ≤ i → i < b → σ 278 i = w0 i ∧ 10485760 ≤ w0 i ∧ w0 i < 14680064 := h.2.2.2.2.2.2.1
theorem zLS.hi (h : zLS c0 a M w0 b K D0 e σ) : ∀ i, b ≤ i → i < σ 268 15 → (2097152 ≤ σ 278 i ∧ σ 278 i < 7340032) ∨ (14680064 ≤ σ 278 i ∧ σ 278 i < 15728640) := h.2.2.2.2.2.2.2.1
theorem zLS.d (h : zLS c0 a M w0 b K D0 e σ) : zDC (σ 277) (σ 278) (σ 268 14) (σ 268 15) a (D0 + zcI 2097152 7340032 (σ 278) b (σ 268 15) + e) := h.2.2.2.2.2.2.2.2
theorem zLS.cw (h : zLS c0 a M w0 b K D0 e σ) : (0 ≤ σ 268 14 ∧ σ 268 14 ≤ 240) ∧ 0 ≤ σ 268 15 ∧ σ 268 15 ≤ 240 := by
  have h1 := h.p; have h2 := h.ca; have h3 := h.wb; have h4 := h.sz
  have h5 : 0 ≤ zcI 2097152 7340032 (σ 278) b (σ 268 15) := zcI_n
  omega
theorem zLS.wt (h : zLS c0 a M w0 b K D0 e σ) : 0 ≤ σ 268 15 ∧ σ 268 15 ≤ 260 ∧ (σ 268 15 = 0 ∨ 0 ≤ σ 278 (σ 268 15 - 1)) := by
  have h1 := h.cw; have h2 := h.wb
  refine ⟨h1.2.1, by omega, ?_⟩
  by_cases e : σ 268 15 = 0
  · exact Or.inl e
  · by_cases e2 : b ≤ σ 268 15 - 1
    · have := h.hi _ e2 (by omega)
      omega
    · have := h.lo (σ 268 15 - 1) (by omega) (by omega)
      omega
theorem zLS.place (h : zLS c0 a M w0 b K D0 e σ) (e9 : σ 268 9 ≤ τ 268 9 ∧ τ 268 9 ≤ σ 268 10) (e10 : τ 268 10 = σ 268 10) (e14 : τ 268 14 = σ 268 14) (e15 : τ 268 15 = σ 268 15) (e16 : τ 268 16 = σ 268 16) (h7 : τ 277 = σ 277) (h8 : τ 278 = σ 278) : zLS c0 a M w0 b K D0 e τ := by
  have h1 := h.p; have h2 := h.wb; have h3 := h.sz
  exact ⟨by omega, by rw [e16]; exact h.m, by rw [h7]; exact h.old, by rw [e14]; exact h.ca, by omega, by rw [e14, h8, e15]; omega, by rw [h8]; exact h.lo, by rw [h8, e15]; exact h.hi, by rw [h7, h8, e14, e15]; exact h.d⟩
theorem zLS.note {v : Int} (h : zLS c0 a M w0 b K D0 0 σ) (e9 : σ 268 9 + 1 ≤ τ 268 9 ∧ τ 268 9 ≤ σ 268 10) (e10 : τ 268 10 = σ 268 10) (e14 : τ 268 14 = σ 268 14 + 1) (e15 : τ 268 15 = σ 268 15) (e16 : τ 268 16 = σ 268 16) (h7 : τ 277 = xud (σ 277) (σ 268 14) v) (h8 : τ 278 = σ 278) (hv : 0 ≤ v ∧ v < 1048583) : zLS c0 a M w0 b K D0 1 τ := by
  have h1 := h.p; have h2 := h.wb; have h3 := h.sz; have h4 := h.ca
  refine ⟨by omega, by rw [e16]; exact h.m, fun k k1 k2 => by rw [h7, xud_o _ _ (by omega)]; exact h.old k k1 k2, by omega, by omega, by rw [e14, h8, e15]; omega, by rw [h8]; exact h.lo, by rw [h8, e15]; exact h.hi, ?_⟩
  rw [h7, h8, e14, e15]
  exact zDC_note h.d h4.2 hv.1 (Or.inl ⟨hv.2, by omega⟩)
theorem zLS.push {v e2 : Int} (h : zLS c0 a M w0 b K D0 e σ) (e9 : τ 268 9 = σ 268 9 + 1 ∧ σ 268 9 < σ 268 10) (e10 : τ 268 10 = σ 268 10) (e14 : τ 268 14 = σ 268 14) (e15 : τ 268 15 = σ 268 15 + 1) (e16 : τ 268 16 = σ 268 16) (h7 : τ 277 = σ 277) (h8 : τ 278 = xud (σ 278) (σ 268 15) v) (hv : ((2097152 ≤ v ∧ v < 7340032) ∧ e = e2 + 1) ∨ ((14680064 ≤ v ∧ v < 15728640) ∧ e = e2)) : zLS c0 a M w0 b K D0 e2 τ := by
  have h1 := h.p; have h2 := h.wb; have h3 := h.sz; have h4 := h.ca
  have hc : zcI 2097152 7340032 (τ 278) b (σ 268 15 + 1) = zcI 2097152 7340032 (σ 278) b (σ 268 15) + (e - e2) := by
    rw [h8]
    rcases hv with hv | hv
    · rw [zcI_y h2.2.1 (by rw [xud_s]; exact hv.1), zcI_xud]; omega
    · rw [zcI_z h2.2.1 (by rw [xud_s]; omega), zcI_xud]; omega
  refine ⟨by omega, by rw [e16]; exact h.m, by rw [h7]; exact h.old, by omega, by omega, by rw [e14, e15, hc]; omega, fun i i1 i2 => by rw [h8, xud_o _ _ (by omega)]; exact h.lo i i1 i2, fun i i1 i2 => ?_, ?_⟩
  · rw [h8]
    by_cases q : i = σ 268 15
    · rw [q, xud_s]; omega
    · rw [xud_o _ _ q]; exact h.hi i i1 (by omega)
  · rw [e14, e15, hc, h7, h8]
    have q := zDC_push (v := v) h.d (by omega)
    rw [show D0 + (zcI 2097152 7340032 (σ 278) b (σ 268 15) + (e - e2)) + e2 = D0 + zcI 2097152 7340032 (σ 278) b (σ 268 15) + e from by omega]
    exact q
theorem zLS.close {v : Int} (h : zLS c0 a M w0 b K D0 1 σ) (hb : b < σ 268 15) (ht : 2 ≤ ztW σ ∧ ztW σ ≤ 6) (e9 : τ 268 9 = σ 268 9) (e10 : τ 268 10 = σ 268 10) (e14 : τ 268 14 = σ 268 14 + 1) (e15 : τ 268 15 = σ 268 15 - 1) (e16 : τ 268 16 = σ 268 16) (h7 : τ 277 = xud (σ 277) (σ 268 14) v) (h8 : τ 278 = σ 278) (hv : v = 1048576 * ztW σ) : zLS c0 a M w0 b K D0 1 τ := by
  have h1 := h.p; have h2 := h.wb; have h3 := h.sz; have h4 := h.ca
  rw [ztW_1 (by omega)] at ht hv
  have hw : 2097152 ≤ σ 278 (σ 268 15 - 1) ∧ σ 278 (σ 268 15 - 1) < 7340032 := by omega
  have hc : zcI 2097152 7340032 (σ 278) b (σ 268 15) = zcI 2097152 7340032 (σ 278) b (σ 268 15 - 1) + 1 := by
    have q := zcI_y (lo := 2097152) (hi := 7340032) (b := b) (m := σ 268 15 - 1) (w := σ 278) (by omega) hw
    rw [show σ 268 15 - 1 + 1 = σ 268 15 from by omega] at q
    exact q
  have hn : 0 ≤ zcI 2097152 7340032 (σ 278) b (σ 268 15 - 1) := zcI_n
  refine ⟨by omega, by rw [e16]; exact h.m, fun k k1 k2 => by rw [h7, xud_o _ _ (by omega)]; exact h.old k k1 k2, by omega, by omega, by rw [e14, h8, e15]; omega, by rw [h8]; exact h.lo, fun i i1 i2 => by rw [h8]; exact h.hi i i1 (by omega), ?_⟩
  rw [h7, h8, e14, e15]
  have q := zDC_pop h.d (by omega)
  exact zDC_note q h4.2 (by omega) (Or.inr (Or.inr ⟨by omega, by omega, by omega⟩))
theorem zLS.shut (h : zLS c0 a M w0 b K D0 1 σ) (hb : b < σ 268 15) (ht : 14680064 ≤ σ 278 (σ 268 15 - 1)) (e9 : τ 268 9 = σ 268 9 + 1 ∧ σ 268 9 < σ 268 10) (e10 : τ 268 10 = σ 268 10) (e14 : τ 268 14 = σ 268 14) (e15 : τ 268 15 = σ 268 15 - 1) (e16 : τ 268 16 = σ 268 16) (h7 : τ 277 = σ 277) (h8 : τ 278 = σ 278) : zLS c0 a M w0 b K D0 1 τ := by
  have h1 := h.p; have h2 := h.wb; have h3 := h.sz; have h4 := h.ca
  have hc : zcI 2097152 7340032 (σ 278) b (σ 268 15) = zcI 2097152 7340032 (σ 278) b (σ 268 15 - 1) := by
    have q := zcI_z (lo := 2097152) (hi := 7340032) (b := b) (m := σ 268 15 - 1) (w := σ 278) (by omega) (by omega)
    rw [show σ 268 15 - 1 + 1 = σ 268 15 from by omega] at q
    exact q
  refine ⟨by omega, by rw [e16]; exact h.m, by rw [h7]; exact h.old, by omega, by omega, by rw [e14, h8, e15]; omega, by rw [h8]; exact h.lo, fun i i1 i2 => by rw [h8]; exact h.hi i i1 (by omega), ?_⟩
  rw [h7, h8, e14, e15, ← hc]
  exact zDC_pop h.d (by omega)
/-- a bracket of this sum waits -/
def zhO (b : Int) (σ : xS) : Prop := ∃ i, b ≤ i ∧ i < σ 268 15 ∧ 14680064 ≤ σ 278 i
theorem zhO_pop (h : b < σ 268 15) (ht : σ 278 (σ 268 15 - 1) < 14680064) (e15 : τ 268 15 = σ 268 15 - 1) (h8 : τ 278 = σ 278) : zhO b τ ↔ zhO b σ := by
  unfold zhO
  rw [e15, h8]
  constructor
  · rintro ⟨i, i1, i2, i3⟩; exact ⟨i, i1, by omega, i3⟩
  · rintro ⟨i, i1, i2, i3⟩
    refine ⟨i, i1, ?_, i3⟩
    by_cases e : i = σ 268 15 - 1
    · subst e; omega
    · omega
theorem zLS.tb (h : zLS c0 a M w0 b K D0 e σ) (ht : 2 ≤ ztW σ ∧ ztW σ ≤ 6) : b < σ 268 15 ∧ σ 278 (σ 268 15 - 1) < 14680064 := by
  have h2 := h.wb
  by_cases e : σ 268 15 = 0
  · rw [ztW_0 e] at ht; omega
  · rw [ztW_1 e] at ht
    refine ⟨?_, by omega⟩
    by_cases e2 : b < σ 268 15
    · exact e2
    · have := h.lo (σ 268 15 - 1) (by omega) (by omega)
      omega
/-- closed wholly: down to a bracket, or to the base -/
theorem zLS.top (h : zLS c0 a M w0 b K D0 e σ) (ht : ztW σ < 2 ∨ 6 < ztW σ) (ho : zhO b σ) : b < σ 268 15 ∧ 14680064 ≤ σ 278 (σ 268 15 - 1) := by
  obtain ⟨i, i1, i2, i3⟩ := ho
  have h2 := h.wb
  refine ⟨by omega, ?_⟩
  rw [ztW_1 (by omega)] at ht
  have := h.hi (σ 268 15 - 1) (by omega) (by omega)
  omega
theorem zLS.bot (h : zLS c0 a M w0 b K D0 e σ) (ht : ztW σ < 2 ∨ 6 < ztW σ) (ho : ¬ zhO b σ) : σ 268 15 = b := by
  have h2 := h.wb
  by_cases q : σ 268 15 = b
  · exact q
  · exfalso
    rw [ztW_1 (by omega)] at ht
    have := h.hi (σ 268 15 - 1) (by omega) (by omega)
    exact ho ⟨σ 268 15 - 1, by omega, by omega, by omega⟩
/-- between sums: q the claims on the place beside those that wait -/
def zLC (c0 : Int → Int) (a M q D : Int) (σ : xS) : Prop := 0 ≤ q ∧ zLS c0 a M (σ 278) (σ 268 15) (zcI 10485760 11534336 (σ 278) 0 (σ 268 15) + q) D 0 σ
theorem zLS.toC {q : Int} (h : zLS c0 a M w0 b K D0 1 σ) (hb : σ 268 15 = b) (hK : K = zcI 10485760 11534336 w0 0 b + q) (hq : 0 ≤ q) : zLC c0 a M q (D0 + 1) σ := by
  have h2 := h.wb; have h3 := h.sz
  have e0 : zcI 10485760 11534336 (σ 278) 0 b = zcI 10485760 11534336 w0 0 b := zcI_f (fun i i1 i2 => (h.lo i i1 i2).1)
  refine ⟨hq, ⟨h.p, h.m, h.old, h.ca, ?_, ?_, fun i i1 i2 => ?_, fun i i1 i2 => by omega, ?_⟩⟩
  · rw [hb, e0, ← hK]; omega
  · rw [hb, e0, ← hK]; rw [hb] at h3; omega
  · have := h.lo i i1 (by omega)
    exact ⟨rfl, by omega, by omega⟩
  · have q := h.d
    rw [hb, zcI_0] at q ⊢
    rw [show D0 + 1 + 0 + 0 = D0 + 0 + 1 from by omega]
    exact q
theorem zLC.d {q D : Int} (h : zLC c0 a M q D σ) : zDC (σ 277) (σ 278) (σ 268 14) (σ 268 15) a D := by
  have q := h.2.d
  rw [zcI_0] at q
  rw [show D = D + 0 + 0 from by omega]
  exact q
theorem zLC.mk2 {q D : Int} (h0 : 0 ≤ q) (hp : 0 ≤ σ 268 9 ∧ σ 268 9 ≤ σ 268 10 ∧ σ 268 10 ≤ 240) (hm : σ 268 16 = M) (ho : ∀ k, 0 ≤ k → k < a → σ 277 k = c0 k) (ha : 0 ≤ a ∧ a ≤ σ 268 14) (hw : 0 ≤ σ 268 15 ∧ σ 268 15 ≤ σ 268 9) (hD : 0 ≤ D) (hs : σ 268 14 + (zcI 10485760 11534336 (σ 278) 0 (σ 268 15) + q) ≤ σ 268 9) (hl : ∀ i, 0 ≤ i → i < σ 268 15 → 10485760 ≤ σ 278 i ∧ σ 278 i < 14680064) (hd : zDC (σ 277) (σ 278) (σ 268 14) (σ 268 15) a D) : zLC c0 a M q D σ := by
  have h9 : 0 ≤ zcI 10485760 11534336 (σ 278) 0 (σ 268 15) := zcI_n
  refine ⟨h0, ⟨hp, hm, ho, ha, by omega, by rw [zcI_0]; omega, fun i i1 i2 => ⟨rfl, hl i i1 i2⟩, fun i i1 i2 => by omega, ?_⟩⟩
  rw [zcI_0, show D + 0 + 0 = D from by omega]
  exact hd
theorem zLC.f {q D : Int} (h : zLC c0 a M q D σ) : (0 ≤ σ 268 9 ∧ σ 268 9 ≤ σ 268 10 ∧ σ 268 10 ≤ 240) ∧ (0 ≤ a ∧ a ≤ σ 268 14) ∧ (0 ≤ σ 268 15 ∧ σ 268 15 ≤ σ 268 9) ∧ 0 ≤ D ∧ σ 268 14 + (zcI 10485760 11534336 (σ 278) 0 (σ 268 15) + q) ≤ σ 268 9 ∧ 0 ≤ zcI 10485760 11534336 (σ 278) 0 (σ 268 15) ∧ 0 ≤ q := by
  have h1 := h.2.wb; have h2 := h.2.sz
  rw [zcI_0] at h2
  exact ⟨h.2.p, h.2.ca, by omega, by omega, by omega, zcI_n, h.1⟩
theorem zLC.l {q D : Int} (h : zLC c0 a M q D σ) : ∀ i, 0 ≤ i → i < σ 268 15 → 10485760 ≤ σ 278 i ∧ σ 278 i < 14680064 := fun i i1 i2 => (h.2.lo i i1 i2).2
theorem zLC.place {q q2 D : Int} (h : zLC c0 a M q D σ) (e9 : σ 268 9 + (q2 - q) ≤ τ 268 9 ∧ σ 268 9 ≤ τ 268 9 ∧ τ 268 9 ≤ σ 268 10) (hq : 0 ≤ q2) (e10 : τ 268 10 = σ 268 10) (e14 : τ 268 14 = σ 268 14) (e15 : τ 268 15 = σ 268 15) (e16 : τ 268 16 = σ 268 16) (h7 : τ 277 = σ 277) (h8 : τ 278 = σ 278) : zLC c0 a M q2 D τ := by
  obtain ⟨f1, f2, f3, f4, f5, f6, f7⟩ := h.f
  exact zLC.mk2 hq (by omega) (by rw [e16]; exact h.2.m) (by rw [h7]; exact h.2.old) (by omega) (by omega) f4 (by rw [h8, e15, e14]; omega) (by rw [h8, e15]; exact h.l) (by rw [h7, h8, e14, e15]; exact h.d)
theorem zLC.push {q D v : Int} (h : zLC c0 a M q D σ) (e9 : τ 268 9 = σ 268 9 + 1 ∧ σ 268 9 < σ 268 10) (e10 : τ 268 10 = σ 268 10) (e14 : τ 268 14 = σ 268 14) (e15 : τ 268 15 = σ 268 15 + 1) (e16 : τ 268 16 = σ 268 16) (h7 : τ 277 = σ 277) (h8 : τ 278 = xud (σ 278) (σ 268 15) v) (hv : (10485760 ≤ v ∧ v < 11534336) ∨ (13631488 ≤ v ∧ v < 14680064)) : zLC c0 a M q D τ := by
  obtain ⟨f1, f2, f3, f4, f5, f6, f7⟩ := h.f
  have hc : zcI 10485760 11534336 (τ 278) 0 (σ 268 15 + 1) ≤ zcI 10485760 11534336 (σ 278) 0 (σ 268 15) + 1 := by
    rw [h8]
    rcases hv with hv | hv
    · rw [zcI_y f3.1 (by rw [xud_s]; exact hv), zcI_xud]; omega
    · rw [zcI_z f3.1 (by rw [xud_s]; omega), zcI_xud]; omega
  refine zLC.mk2 f7 (by omega) (by rw [e16]; exact h.2.m) (by rw [h7]; exact h.2.old) (by omega) (by omega) f4 (by rw [e14, e15]; omega) (fun i i1 i2 => ?_) (by rw [h7, h8, e14, e15]; exact zDC_push h.d (by omega))
  rw [h8]
  by_cases e : i = σ 268 15
  · rw [e, xud_s]; omega
  · rw [xud_o _ _ e]; exact h.l i i1 (by omega)
theorem zLC.not {q D : Int} (h : zLC c0 a M q D σ) (hD : 1 ≤ D) (ht : ztW σ = 10) (e9 : τ 268 9 = σ 268 9) (e10 : τ 268 10 = σ 268 10) (e14 : τ 268 14 = σ 268 14 + 1) (e15 : τ 268 15 = σ 268 15 - 1) (e16 : τ 268 16 = σ 268 16) (h7 : τ 277 = xud (σ 277) (σ 268 14) 10485760) (h8 : τ 278 = σ 278) : zLC c0 a M q D τ := by
  obtain ⟨f1, f2, f3, f4, f5, f6, f7⟩ := h.f
  have hW : σ 268 15 ≠ 0 := fun e => by rw [ztW_0 e] at ht; omega
  rw [ztW_1 hW] at ht
  have hc : zcI 10485760 11534336 (σ 278) 0 (σ 268 15) = zcI 10485760 11534336 (σ 278) 0 (σ 268 15 - 1) + 1 := by
    have q := zcI_y (lo := 10485760) (hi := 11534336) (b := 0) (m := σ 268 15 - 1) (w := σ 278) (by omega) (by omega)
    rw [show σ 268 15 - 1 + 1 = σ 268 15 from by omega] at q
    exact q
  refine zLC.mk2 f7 (by omega) (by rw [e16]; exact h.2.m) (fun k k1 k2 => by rw [h7, xud_o _ _ (by omega)]; exact h.2.old k k1 k2) (by omega) (by omega) f4 (by rw [e14, e15, h8]; omega) (fun i i1 i2 => by rw [h8]; exact h.l i i1 (by omega)) ?_
  rw [h7, h8, e14, e15]
  exact zDC_note (zDC_pop h.d (by omega)) f2.2 (by omega) (Or.inr (Or.inl ⟨by omega, hD, rfl⟩))
theorem zLC.jt {q D : Int} (h : zLC c0 a M q D σ) (ht : ztW σ = 11 ∨ ztW σ = 12) : 1 ≤ σ 268 15 ∧ (11534336 ≤ σ 278 (σ 268 15 - 1) ∧ σ 278 (σ 268 15 - 1) < 13631488) ∧ a ≤ σ 278 (σ 268 15 - 1) % 1048576 ∧ σ 278 (σ 268 15 - 1) % 1048576 < σ 268 14 ∧ 11534336 ≤ σ 277 (σ 278 (σ 268 15 - 1) % 1048576) ∧ σ 277 (σ 278 (σ 268 15 - 1) % 1048576) < 13631488 := by
  obtain ⟨f1, f2, f3, f4, f5, f6, f7⟩ := h.f
  have hW : σ 268 15 ≠ 0 := fun e => by rw [ztW_0 e] at ht; omega
  rw [ztW_1 hW] at ht
  have := zDC_at h.d (by omega) (by omega)
  exact ⟨by omega, by omega, this⟩
theorem zLC.land {q k v : Int} (h : zLC c0 a M q 1 σ) (ht : ztW σ = 11 ∨ ztW σ = 12) (e9 : τ 268 9 = σ 268 9) (e10 : τ 268 10 = σ 268 10) (e14 : τ 268 14 = σ 268 14) (e15 : τ 268 15 = σ 268 15 - 1) (e16 : τ 268 16 = σ 268 16) (hk : k = σ 278 (σ 268 15 - 1) % 1048576) (h7 : τ 277 = xud (σ 277) k v) (hv : v = 1048576 * (σ 277 k / 1048576) + σ 268 14) (h8 : τ 278 = σ 278) : zLC c0 a M q 1 τ := by
  obtain ⟨f1, f2, f3, f4, f5, f6, f7⟩ := h.f
  obtain ⟨g1, g2, g3, g4, -⟩ := h.jt ht
  have hc : zcI 10485760 11534336 (σ 278) 0 (σ 268 15) = zcI 10485760 11534336 (σ 278) 0 (σ 268 15 - 1) := by
    have q := zcI_z (lo := 10485760) (hi := 11534336) (b := 0) (m := σ 268 15 - 1) (w := σ 278) (by omega) (by omega)
    rw [show σ 268 15 - 1 + 1 = σ 268 15 from by omega] at q
    exact q
  refine zLC.mk2 f7 (by omega) (by rw [e16]; exact h.2.m) (fun i k1 k2 => by rw [h7, xud_o _ _ (by omega)]; exact h.2.old i k1 k2) (by omega) (by omega) f4 (by rw [e14, e15, h8]; omega) (fun i i1 i2 => by rw [h8]; exact h.l i i1 (by omega)) ?_
  rw [h7, h8, e14, e15, hv]
  exact zDC_land h.d (by omega) g1 g2 hk
theorem zLC.pop {q D : Int} (h : zLC c0 a M q D σ) (hW : 1 ≤ σ 268 15) (ht : ztW σ ≠ 11 ∧ ztW σ ≠ 12) (e9 : σ 268 9 ≤ τ 268 9 ∧ τ 268 9 ≤ σ 268 10 ∧ σ 268 15 ≤ τ 268 9 + 1) (e10 : τ 268 10 = σ 268 10) (e14 : τ 268 14 = σ 268 14) (e15 : τ 268 15 = σ 268 15 - 1) (e16 : τ 268 16 = σ 268 16) (h7 : τ 277 = σ 277) (h8 : τ 278 = σ 278) : zLC c0 a M q D τ := by
  obtain ⟨f1, f2, f3, f4, f5, f6, f7⟩ := h.f
  rw [ztW_1 (by omega)] at ht
  have hl := h.l (σ 268 15 - 1) (by omega) (by omega)
  have hc : zcI 10485760 11534336 (σ 278) 0 (σ 268 15 - 1) ≤ zcI 10485760 11534336 (σ 278) 0 (σ 268 15) := by
    have q := zcI_s (lo := 10485760) (hi := 11534336) (b := 0) (m := σ 268 15 - 1) (w := σ 278) (by omega)
    rw [show σ 268 15 - 1 + 1 = σ 268 15 from by omega] at q
    rw [q]
    split <;> omega
  refine zLC.mk2 f7 (by omega) (by rw [e16]; exact h.2.m) (by rw [h7]; exact h.2.old) (by omega) (by omega) f4 (by rw [e14, e15, h8]; omega) (fun i i1 i2 => by rw [h8]; exact h.l i i1 (by omega)) ?_
  rw [h7, h8, e14, e15]
  exact zDC_pop h.d (by omega)
theorem zLC.jump {q o : Int} (h : zLC c0 a M q 1 σ) (ho : o = 11 ∨ o = 12) (e9 : τ 268 9 = σ 268 9 + 1 ∧ σ 268 9 < σ 268 10) (e10 : τ 268 10 = σ 268 10) (e14 : τ 268 14 = σ 268 14 + 1) (e15 : τ 268 15 = σ 268 15 + 1) (e16 : τ 268 16 = σ 268 16) (h7 : τ 277 = xud (σ 277) (σ 268 14) (1048576 * o)) (h8 : τ 278 = xud (σ 278) (σ 268 15) (1048576 * o + σ 268 14)) : zLC c0 a M q 0 τ := by
  obtain ⟨f1, f2, f3, f4, f5, f6, f7⟩ := h.f
  have hc : zcI 10485760 11534336 (τ 278) 0 (σ 268 15 + 1) = zcI 10485760 11534336 (σ 278) 0 (σ 268 15) := by
    rw [h8, zcI_z f3.1 (by rw [xud_s]; omega), zcI_xud]
  refine zLC.mk2 f7 (by omega) (by rw [e16]; exact h.2.m) (fun k k1 k2 => by rw [h7, xud_o _ _ (by omega)]; exact h.2.old k k1 k2) (by omega) (by omega) (by omega) (by rw [e14, e15]; omega) (fun i i1 i2 => ?_) ?_
  · rw [h8]
    by_cases e : i = σ 268 15
    · rw [e, xud_s]; omega
    · rw [xud_o _ _ e]; exact h.l i i1 (by omega)
  · rw [h7, h8, e14, e15]
    exact zDC_jump h.d (by omega) f3.1 ho
theorem zLC.cmp {q D v : Int} (h : zLC c0 a M 1 D σ) (hD : 2 ≤ D) (hv : 7340032 ≤ v ∧ v < 10485760) (e9 : τ 268 9 = σ 268 9) (e10 : τ 268 10 = σ 268 10) (e14 : τ 268 14 = σ 268 14 + 1) (e15 : τ 268 15 = σ 268 15) (e16 : τ 268 16 = σ 268 16) (h7 : τ 277 = xud (σ 277) (σ 268 14) v) (h8 : τ 278 = σ 278) (hq : q = 0) : zLC c0 a M q (D - 1) τ := by
  obtain ⟨f1, f2, f3, f4, f5, f6, f7⟩ := h.f
  refine zLC.mk2 (by omega) (by omega) (by rw [e16]; exact h.2.m) (fun k k1 k2 => by rw [h7, xud_o _ _ (by omega)]; exact h.2.old k k1 k2) (by omega) (by omega) (by omega) (by rw [e14, e15, h8]; omega) (by rw [h8, e15]; exact h.l) ?_
  rw [h7, h8, e14, e15]
  exact zDC_note h.d f2.2 (by omega) (Or.inr (Or.inr ⟨by omega, hD, rfl⟩))
theorem zLC.new (hp : 0 ≤ σ 268 9 ∧ σ 268 9 ≤ σ 268 10 ∧ σ 268 10 ≤ 240) (hc : 0 ≤ σ 268 14 ∧ σ 268 14 ≤ σ 268 9) (hw : σ 268 15 = 0) (ha : a = σ 268 14) (hm : M = σ 268 16) (h7 : ∀ k, 0 ≤ k → k < a → σ 277 k = c0 k) : zLC c0 a M 0 0 σ := by
  subst ha
  refine zLC.mk2 (by omega) hp hm.symm h7 (by omega) (by omega) (by omega) ?_ (fun i i1 i2 => by omega) ?_
  · rw [hw, zcI_0]; omega
  · rw [hw]; exact zDC_new _ _ _
theorem zLC.seg {q D : Int} (h : zLC c0 a M q D σ) (hw : σ 268 15 = 0) : segOK (σ 277) a (σ 268 14) ∧ σ 268 14 ≤ σ 268 9 := by
  obtain ⟨f1, f2, f3, f4, f5, f6, f7⟩ := h.f
  have q := h.d
  rw [hw] at q
  exact ⟨zDC_seg q (by omega), by omega⟩
def zWO (σ : xS) : Prop := 1 ≤ σ 268 15 ∧ 13631488 ≤ σ 278 0 ∧ σ 278 0 < 14680064
end XL
theorem zWO_pop {σ τ : xS} (h : zWO σ) (ht : ztW σ ≠ 13 ∨ σ 268 15 ≠ 1) (e15 : τ 268 15 = σ 268 15 - 1) (h8 : τ 278 = σ 278) : zWO τ := by
  unfold zWO at h ⊢
  rw [e15, h8]
  refine ⟨?_, h.2⟩
  by_cases e : σ 268 15 = 1
  · rw [ztW_1 (by omega), e] at ht
    have : σ 278 (1 - 1) = σ 278 0 := rfl
    omega
  · omega
theorem zWO_f {σ τ : xS} (h : zWO σ) (e15 : τ 268 15 = σ 268 15) (h8 : ∀ i, 0 ≤ i → i < σ 268 15 → τ 278 i = σ 278 i) : zWO τ := by
  unfold zWO at h ⊢
  rw [e15, h8 0 (by omega) (by omega)]
  exact h
theorem zWO_push {σ τ : xS} {v : Int} (h : zWO σ) (e15 : τ 268 15 = σ 268 15 + 1) (h8 : τ 278 = xud (σ 278) (σ 268 15) v) : zWO τ := by
  unfold zWO at h ⊢
  rw [e15, h8, xud_o _ _ (by omega)]
  omega
theorem zWO_new {σ τ : xS} (h : σ 268 15 = 0) (e15 : τ 268 15 = σ 268 15 + 1) (h8 : τ 278 = xud (σ 278) (σ 268 15) 13631488) : zWO τ := by
  unfold zWO
  rw [e15, h8, h, xud_s]
  omega
/-- the clauses that are read -/
def zLW (σ : xS) : Prop := (0 ≤ σ 268 14 ∧ σ 268 14 ≤ σ 268 9) ∧ (0 ≤ σ 268 16 ∧ σ 268 16 ≤ 16) ∧ ∀ j, 0 ≤ j → j < σ 268 16 → segOK (σ 277) (σ 280 j) (σ 281 j) ∧ segOK (σ 277) (σ 281 j) (σ 282 j) ∧ σ 282 j ≤ σ 268 14
theorem zLW.place {σ τ : xS} (h : zLW σ) (e9 : σ 268 9 ≤ τ 268 9) (e14 : τ 268 14 = σ 268 14) (e16 : τ 268 16 = σ 268 16) (h7 : τ 277 = σ 277) (h0 : τ 280 = σ 280) (h1 : τ 281 = σ 281) (h2 : τ 282 = σ 282) : zLW τ := by
  unfold zLW at h ⊢
  rw [e14, e16, h7, h0, h1, h2]
  exact ⟨by omega, h.2⟩
theorem zLW.new {σ : xS} (h9 : 0 ≤ σ 268 9) (e14 : σ 268 14 = 0) (e16 : σ 268 16 = 0) : zLW σ := ⟨by omega, by omega, fun j j1 j2 => by omega⟩
theorem zLW.add {σ τ : xS} {a C1 C2 M : Int} (h : zLW σ) (ha : a = σ 268 14) (hM : M = σ 268 16 ∧ M < 16) (e16 : τ 268 16 = M + 1) (e14 : τ 268 14 = C2) (h9 : C2 ≤ τ 268 9) (hc : a ≤ C1 ∧ C1 ≤ C2) (s1 : segOK (τ 277) a C1) (s2 : segOK (τ 277) C1 C2) (h7 : ∀ k, 0 ≤ k → k < a → τ 277 k = σ 277 k) (h0 : τ 280 = xud (σ 280) M a) (h1 : τ 281 = xud (σ 281) M C1) (h2 : τ 282 = xud (σ 282) M C2) : zLW τ := by
  obtain ⟨q1, q2, q3⟩ := h
  refine ⟨by omega, by omega, fun j j1 j2 => ?_⟩
  rw [h0, h1, h2, e14]
  by_cases e : j = M
  · subst e
    rw [xud_s, xud_s, xud_s]
    exact ⟨s1, s2, Int.le_refl _⟩
  · rw [xud_o _ _ e, xud_o _ _ e, xud_o _ _ e]
    obtain ⟨r1, r2, r3⟩ := q3 j j1 (by omega)
    exact ⟨segOK_cp r1 (fun k k1 k2 => h7 k k1 (by have := r2.2.1; omega)), segOK_cp r2 (fun k k1 k2 => h7 k k1 (by omega)), by omega⟩
theorem zLW.code {σ τ : xS} (h : zLW σ) (e17 : τ 268 17 = σ 268 16) (h3 : ∀ k, 0 ≤ k → k < σ 268 14 → τ 283 k = σ 277 k) (h5 : ∀ j, 0 ≤ j → j < σ 268 16 → τ 285 j = σ 280 j ∧ τ 286 j = σ 281 j ∧ τ 287 j = σ 282 j) : IMk τ := by
  obtain ⟨q1, q2, q3⟩ := h
  unfold IMk
  rw [e17]
  refine ⟨q2, fun j j1 j2 => ?_⟩
  obtain ⟨r1, r2, r3⟩ := q3 j j1 j2
  obtain ⟨g1, g2, g3⟩ := h5 j j1 j2
  rw [g1, g2, g3]
  exact ⟨segOK_cp r1 (fun k k1 k2 => h3 k k1 (by have := r2.2.1; omega)), segOK_cp r2 (fun k k1 k2 => h3 k k1 (by omega))⟩
set_option maxHeartbeats 4000000 in
set_option maxRecDepth 100000 in
theorem c_X11_here (l : Launch) (D : va_G) (g : xG) (T : Nat × Nat × Nat) (h0 : Nat) (s0 : xS) (hσ : xRR s0) (p0 : IMn s0) (p1 : IMk s0) (p2 : IMo s0) (p3 : IR s0) : Met l yX11_here (xws yX11_here cX11_here 1 (some .int)) { frames := 0, cells := 0, slots := 0, locals := 0 } (xP [.ref (h0 + 268)] D g T h0 s0) (xQi D g h0 (fun r τ => s0 = τ ∧ (r = zhC s0 ∧ -1 ≤ zhC s0 ∧ zhC s0 ≤ 255 ∧ zhC s0 < 256 * (s0 268 10 - s0 268 9)))) 0 0 (xA h0) := by
  refine x_met hσ (by decide) (Nat.le_of_ble_eq_true rfl) ?_
  intro p e s m args below meth c hx hb hr hml hown hT hlk hnm hE hW ls hl
  have hl : lv_has ls 1 [(0, .ref (h0 + 268))] := hl
  obtain ⟨Q, eQ⟩ : ∃ Q, Q = MQ below (xQi D g h0 (fun r τ => s0 = τ ∧ (r = zhC s0 ∧ -1 ≤ zhC s0 ∧ zhC s0 ≤ 255 ∧ zhC s0 < 256 * (s0 268 10 - s0 268 9)))) args s 0 0 (xA h0) := ⟨_, rfl⟩
  rw [← eQ]
  generalize hHe : ([] : List Loc) = locs at hW ⊢
  obtain ⟨H, eH⟩ : ∃ H, H = s.heap := ⟨_, rfl⟩
  rw [← eH] at hW ⊢
  have k268_8 : s0 268 8 = s0 268 8 := rfl
  have k268_58 : s0 268 58 = s0 268 58 := rfl
  refine x_aload_n hx hb hl 0 rfl dX11_here_0 rfl ?_
  refine x_get (j := 9) (v := .int (xJ (s0 268 9))) hx hb hown hT hE hW cls_X11 (Or.inl (by decide)) (so_268 h0 g _) (by decide) rfl wq1194 dX11_here_1 ?_
  refine x_rd hW (fun x1 ex1 rx1 => ?_)
  have bx1 : 0 ≤ x1 ∧ x1 ≤ s0 268 10 ∧ s0 268 10 ≤ 240 := by rw [ex1]; exact p3
  refine x_aload_n hx hb hl 0 rfl dX11_here_4 rfl ?_
  refine x_get (j := 10) (v := .int (xJ (s0 268 10))) hx hb hown hT hE hW cls_X11 (Or.inl (by decide)) (so_268 h0 g _) (by decide) rfl wq1195 dX11_here_5 ?_
  refine x_rd hW (fun x2 ex2 rx2 => ?_)
  refine x_icmp_ge (tgt := 27) hx hb rx1 rx2 dX11_here_8 (by decide) (fun c3 => ?_) (fun c3 => ?_)
  · skip
    refine x_iconst hx hb dX11_here_27 ?_
    rw [eQ]
    exact x_iret hx hb hr hlk hW (by decide) ⟨rfl, by first | (have := zhC_in (σ := s0) (by omega); omega) | (have := zhC_out (σ := s0) (by omega); omega)⟩ dX11_here_28
  refine x_aload_n hx hb hl 0 rfl dX11_here_11 rfl ?_
  refine x_get (j := 7) (v := .ref (h0 + 276)) hx hb hown hT hE hW cls_X11 (Or.inl (by decide)) (so_268 h0 g _) (by decide) rfl wq1192 dX11_here_12 ?_
  refine x_aload_n hx hb hl 0 rfl dX11_here_15 rfl ?_
  refine x_get (j := 9) (v := .int (xJ (s0 268 9))) hx hb hown hT hE hW cls_X11 (Or.inl (by decide)) (so_268 h0 g _) (by decide) rfl wq1194 dX11_here_16 ?_
  refine x_rd hW (fun x4 ex4 rx4 => ?_)
  have bx4 : 0 ≤ x4 ∧ x4 ≤ s0 268 10 ∧ s0 268 10 ≤ 240 := by rw [ex4]; exact p3
  refine x_bald hx hb hE hW (Or.inl (by decide)) (sa_276 h0 g _) (by omega) (by decide) dX11_here_19 ?_
  refine x_rd hW (fun x5 ex5 rx5 => ?_)
  have zx5 : x5 = s0 276 (s0 268 9) := by rw [ex5, show x4 = s0 268 9 from by omega]
  refine x_sipush hx hb dX11_here_20 (by decide) ?_
  refine x_and255 hx hb rx5 dX11_here_23 ?_
  refine x_nm (fun x6 ex6 => ?_)
  refine lv_goto (tgt := 28) hx hb dX11_here_24 (by decide) ?_
  rw [eQ]
  exact x_iret hx hb hr hlk hW (by omega) ⟨rfl, by first | (have := zhC_in (σ := s0) (by omega); omega) | (have := zhC_out (σ := s0) (by omega); omega)⟩ dX11_here_28
set_option maxHeartbeats 4000000 in
set_option maxRecDepth 100000 in
theorem c_X11_isDigit (l : Launch) (D : va_G) (g : xG) (T : Nat × Nat × Nat) (h0 : Nat) (s0 : xS) (hσ : xRR s0) (p0 : IMn s0) (p1 : IMk s0) (p2 : IMo s0) (p3 : IR s0) : Met l yX11_isDigit (xws yX11_isDigit cX11_isDigit 1 (some .boolean)) { frames := 1, cells := 0, slots := 0, locals := 20 } (xP [.ref (h0 + 268)] D g T h0 s0) (xQi D g h0 (fun r τ => s0 = τ ∧ ((r = 1 ∧ 48 ≤ zhC s0 ∧ zhC s0 ≤ 57 ∧ s0 268 9 < s0 268 10) ∨ (r = 0 ∧ (zhC s0 < 48 ∨ 57 < zhC s0))))) 0 0 (xA h0) := by
  refine x_met hσ (by decide) (Nat.le_of_ble_eq_true rfl) ?_
  intro p e s m args below meth c hx hb hr hml hown hT hlk hnm hE hW ls hl
  have hl : lv_has ls 1 [(0, .ref (h0 + 268))] := hl
  obtain ⟨Q, eQ⟩ : ∃ Q, Q = MQ below (xQi D g h0 (fun r τ => s0 = τ ∧ ((r = 1 ∧ 48 ≤ zhC s0 ∧ zhC s0 ≤ 57 ∧ s0 268 9 < s0 268 10) ∨ (r = 0 ∧ (zhC s0 < 48 ∨ 57 < zhC s0))))) args s 0 0 (xA h0) := ⟨_, rfl⟩
  rw [← eQ]
  generalize hHe : ([] : List Loc) = locs at hW ⊢
  obtain ⟨H, eH⟩ : ∃ H, H = s.heap := ⟨_, rfl⟩
  rw [← eH] at hW ⊢
  have k268_8 : s0 268 8 = s0 268 8 := rfl
  have k268_58 : s0 268 58 = s0 268 58 := rfl
  refine x_aload_n hx hb hl 0 rfl dX11_isDigit_0 rfl ?_
  refine x_goi (x_runV (As := []) hx hb hml hown hT hE hW hl.1 (Or.inl (by decide)) (so_268 h0 g _) rfl cf_X11_here wq1391 wq106 wq1389 (c_X11_here l D g T h0 s0 hW.2.1 p0 p1 p2 p3) ⟨rfl, rfl, ⟨by decide, by decide⟩, ⟨by decide, by decide⟩⟩ rfl rfl (Nat.le_of_ble_eq_true rfl) dX11_isDigit_1) hW (fun x1 s2 H locs rx1 hp3 hW => ?_)
  obtain ⟨es2, hp3⟩ := hp3
  subst es2
  have ghp3 := hp3
  refine x_bipush hx hb dX11_isDigit_4 (by decide) ?_
  refine x_icmp_lt (tgt := 22) hx hb rx1 (by decide) dX11_isDigit_6 (by decide) (fun c4 => ?_) (fun c4 => ?_)
  · skip
    refine x_iconst hx hb dX11_isDigit_22 ?_
    rw [eQ]
    exact x_zret hx hb hr hlk hW (by omega) ⟨rfl, by omega⟩ dX11_isDigit_23
  refine x_aload_n hx hb hl 0 rfl dX11_isDigit_9 rfl ?_
  refine x_goi (x_runV (As := []) hx hb hml hown hT hE hW hl.1 (Or.inl (by decide)) (so_268 h0 g _) rfl cf_X11_here wq1391 wq106 wq1389 (c_X11_here l D g T h0 s0 hW.2.1 p0 p1 p2 p3) ⟨rfl, rfl, ⟨by decide, by decide⟩, ⟨by decide, by decide⟩⟩ rfl rfl (Nat.le_of_ble_eq_true rfl) dX11_isDigit_10) hW (fun x5 s6 H locs rx5 hp7 hW => ?_)
  obtain ⟨es6, hp7⟩ := hp7
  subst es6
  have ghp7 := hp7
  refine x_bipush hx hb dX11_isDigit_13 (by decide) ?_
  refine x_icmp_gt (tgt := 22) hx hb rx5 (by decide) dX11_isDigit_15 (by decide) (fun c8 => ?_) (fun c8 => ?_)
  · skip
    refine x_iconst hx hb dX11_isDigit_22 ?_
    rw [eQ]
    exact x_zret hx hb hr hlk hW (by omega) ⟨rfl, by omega⟩ dX11_isDigit_23
  refine x_iconst hx hb dX11_isDigit_18 ?_
  refine lv_goto (tgt := 23) hx hb dX11_isDigit_19 (by decide) ?_
  rw [eQ]
  exact x_zret hx hb hr hlk hW (by omega) ⟨rfl, by omega⟩ dX11_isDigit_23
set_option maxHeartbeats 4000000 in
set_option maxRecDepth 100000 in
theorem c_X11_wrongAt (l : Launch) (D : va_G) (g : xG) (T : Nat × Nat × Nat) (h0 : Nat) (s0 : xS) (hσ : xRR s0) (a : Int) (ra : xR a) (b : Int) (rb : xR b) (p0 : IMn s0) (p1 : IMk s0) (p2 : IMo s0) (p3 : IR s0) : Met l yX11_wrongAt (xws yX11_wrongAt cX11_wrongAt 3 (some .boolean)) { frames := 0, cells := 0, slots := 0, locals := 0 } (xP [.ref (h0 + 268), .int (xJ a), .int (xJ b)] D g T h0 s0) (xQi D g h0 (fun r τ => xFr (fun k => k = 268) s0 τ ∧ (((IMn τ) ∧ (IMk τ) ∧ (IMo τ) ∧ (IR τ) ∧ (τ 268 8 = s0 268 8) ∧ (τ 268 58 = s0 268 58) ∧ (τ 268 9 = s0 268 9) ∧ (τ 268 10 = s0 268 10) ∧ (τ 268 14 = s0 268 14) ∧ (τ 268 15 = s0 268 15) ∧ (τ 268 16 = s0 268 16) ∧ (τ 268 34 = s0 268 34) ∧ (τ 268 35 = s0 268 35) ∧ (τ 268 36 = s0 268 36) ∧ (τ 268 37 = s0 268 37) ∧ True) ∧ (r = 0)))) 0 0 (xA h0) := by
  refine x_met hσ (by decide) (Nat.le_of_ble_eq_true rfl) ?_
  intro p e s m args below meth c hx hb hr hml hown hT hlk hnm hE hW ls hl
  have hl : lv_has ls 3 [(0, .ref (h0 + 268)), (1, .int (xJ a)), (2, .int (xJ b))] := hl
  obtain ⟨Q, eQ⟩ : ∃ Q, Q = MQ below (xQi D g h0 (fun r τ => xFr (fun k => k = 268) s0 τ ∧ (((IMn τ) ∧ (IMk τ) ∧ (IMo τ) ∧ (IR τ) ∧ (τ 268 8 = s0 268 8) ∧ (τ 268 58 = s0 268 58) ∧ (τ 268 9 = s0 268 9) ∧ (τ 268 10 = s0 268 10) ∧ (τ 268 14 = s0 268 14) ∧ (τ 268 15 = s0 268 15) ∧ (τ 268 16 = s0 268 16) ∧ (τ 268 34 = s0 268 34) ∧ (τ 268 35 = s0 268 35) ∧ (τ 268 36 = s0 268 36) ∧ (τ 268 37 = s0 268 37) ∧ True) ∧ (r = 0)))) args s 0 0 (xA h0) := ⟨_, rfl⟩
  rw [← eQ]
  generalize hHe : ([] : List Loc) = locs at hW ⊢
  obtain ⟨H, eH⟩ : ∃ H, H = s.heap := ⟨_, rfl⟩
  rw [← eH] at hW ⊢
  have hF : xFr (fun k => k = 268) s0 s0 := xFr.rf
  have k268_8 : s0 268 8 = s0 268 8 := rfl
  have k268_58 : s0 268 58 = s0 268 58 := rfl
  have k268_9 : s0 268 9 = s0 268 9 := rfl
  have k268_10 : s0 268 10 = s0 268 10 := rfl
  have k268_14 : s0 268 14 = s0 268 14 := rfl
  have k268_15 : s0 268 15 = s0 268 15 := rfl
  have k268_16 : s0 268 16 = s0 268 16 := rfl
  have k268_34 : s0 268 34 = s0 268 34 := rfl
  have k268_35 : s0 268 35 = s0 268 35 := rfl
  have k268_36 : s0 268 36 = s0 268 36 := rfl
  have k268_37 : s0 268 37 = s0 268 37 := rfl
  refine x_aload_n hx hb hl 0 rfl dX11_wrongAt_0 rfl ?_
  refine x_sipush hx hb dX11_wrongAt_1 (by decide) ?_
  refine x_iload_n hx hb hl 1 rfl dX11_wrongAt_4 rfl ?_
  refine x_imul hx hb dX11_wrongAt_5 ?_
  refine x_any (fun x1 rx1 => ?_)
  refine x_iload_n hx hb hl 2 rfl dX11_wrongAt_6 rfl ?_
  refine x_isub hx hb dX11_wrongAt_7 ?_
  refine x_any (fun x2 rx2 => ?_)
  refine x_put (j := 11) hx hb hown hT hE hW cls_X11 (by decide) (fun σ => so_268 h0 g σ) (by decide) (st_X11_11 h0 s0 268 x2) (ln_X11_11 h0 _ _) wq1196 rfl rfl rfl rx2 dX11_wrongAt_8 (fun H locs s3 es3 hW => ?_)
  have q4 : IMn s3 := by rw [es3]; exact IMn_268 p0 (by omega)
  have q5 : IMk s3 := by rw [es3]; exact IMk_268 p1 (by omega)
  have q6 : IMo s3 := by rw [es3]; exact IMo_o (by unfold suIMo; omega) p2
  have q7 : IR s3 := by rw [es3]; exact IR_268 p3 (by omega)
  have q8 : s3 268 8 = s0 268 8 := (show s3 268 8 = s0 268 8 from by rw [es3, xU_j _ _ (by decide)]).trans k268_8
  have q9 : s3 268 58 = s0 268 58 := (show s3 268 58 = s0 268 58 from by rw [es3, xU_j _ _ (by decide)]).trans k268_58
  have q10 : s3 268 9 = s0 268 9 := (show s3 268 9 = s0 268 9 from by rw [es3, xU_j _ _ (by decide)]).trans k268_9
  have q11 : s3 268 10 = s0 268 10 := (show s3 268 10 = s0 268 10 from by rw [es3, xU_j _ _ (by decide)]).trans k268_10
  have q12 : s3 268 14 = s0 268 14 := (show s3 268 14 = s0 268 14 from by rw [es3, xU_j _ _ (by decide)]).trans k268_14
  have q13 : s3 268 15 = s0 268 15 := (show s3 268 15 = s0 268 15 from by rw [es3, xU_j _ _ (by decide)]).trans k268_15
  have q14 : s3 268 16 = s0 268 16 := (show s3 268 16 = s0 268 16 from by rw [es3, xU_j _ _ (by decide)]).trans k268_16
  have q15 : s3 268 34 = s0 268 34 := (show s3 268 34 = s0 268 34 from by rw [es3, xU_j _ _ (by decide)]).trans k268_34
  have q16 : s3 268 35 = s0 268 35 := (show s3 268 35 = s0 268 35 from by rw [es3, xU_j _ _ (by decide)]).trans k268_35
  have q17 : s3 268 36 = s0 268 36 := (show s3 268 36 = s0 268 36 from by rw [es3, xU_j _ _ (by decide)]).trans k268_36
  have q18 : s3 268 37 = s0 268 37 := (show s3 268 37 = s0 268 37 from by rw [es3, xU_j _ _ (by decide)]).trans k268_37
  have hF19 := hF.put es3 (by omega)
  refine x_iconst hx hb dX11_wrongAt_11 ?_
  rw [eQ]
  exact x_zret hx hb hr hlk hW (by omega) ⟨hF19, ⟨q4, q5, q6, q7, q8, q9, q10, q11, q12, q13, q14, q15, q16, q17, q18, trivial⟩, by omega⟩ dX11_wrongAt_12
set_option maxHeartbeats 4000000 in
set_option maxRecDepth 100000 in
theorem c_X11_takes (l : Launch) (D : va_G) (g : xG) (T : Nat × Nat × Nat) (h0 : Nat) (s0 : xS) (hσ : xRR s0) (v : Int) (rv : xR v) (hc : 0 ≤ v) (p0 : IMn s0) (p1 : IMk s0) (p2 : IMo s0) (p3 : IR s0) : Met l yX11_takes (xws yX11_takes cX11_takes 2 (some .boolean)) { frames := 1, cells := 0, slots := 0, locals := 22 } (xP [.ref (h0 + 268), .int (xJ v)] D g T h0 s0) (xQi D g h0 (fun r τ => xFr (fun k => k = 268) s0 τ ∧ (((IMn τ) ∧ (IMk τ) ∧ (IMo τ) ∧ (IR τ) ∧ (τ 268 8 = s0 268 8) ∧ (τ 268 58 = s0 268 58) ∧ (τ 268 10 = s0 268 10) ∧ (τ 268 14 = s0 268 14) ∧ (τ 268 15 = s0 268 15) ∧ (τ 268 16 = s0 268 16) ∧ (τ 268 34 = s0 268 34) ∧ (τ 268 35 = s0 268 35) ∧ (τ 268 36 = s0 268 36) ∧ (τ 268 37 = s0 268 37) ∧ True) ∧ (0 ≤ r ∧ r ≤ 1 ∧ τ 268 9 = s0 268 9 + r)))) 0 0 (xA h0) := by
  refine x_met hσ (by decide) (Nat.le_of_ble_eq_true rfl) ?_
  intro p e s m args below meth c hx hb hr hml hown hT hlk hnm hE hW ls hl
  have hl : lv_has ls 2 [(0, .ref (h0 + 268)), (1, .int (xJ v))] := hl
  obtain ⟨Q, eQ⟩ : ∃ Q, Q = MQ below (xQi D g h0 (fun r τ => xFr (fun k => k = 268) s0 τ ∧ (((IMn τ) ∧ (IMk τ) ∧ (IMo τ) ∧ (IR τ) ∧ (τ 268 8 = s0 268 8) ∧ (τ 268 58 = s0 268 58) ∧ (τ 268 10 = s0 268 10) ∧ (τ 268 14 = s0 268 14) ∧ (τ 268 15 = s0 268 15) ∧ (τ 268 16 = s0 268 16) ∧ (τ 268 34 = s0 268 34) ∧ (τ 268 35 = s0 268 35) ∧ (τ 268 36 = s0 268 36) ∧ (τ 268 37 = s0 268 37) ∧ True) ∧ (0 ≤ r ∧ r ≤ 1 ∧ τ 268 9 = s0 268 9 + r)))) args s 0 0 (xA h0) := ⟨_, rfl⟩
  rw [← eQ]
  generalize hHe : ([] : List Loc) = locs at hW ⊢
  obtain ⟨H, eH⟩ : ∃ H, H = s.heap := ⟨_, rfl⟩
  rw [← eH] at hW ⊢
  have hF : xFr (fun k => k = 268) s0 s0 := xFr.rf
  have k268_8 : s0 268 8 = s0 268 8 := rfl
  have k268_58 : s0 268 58 = s0 268 58 := rfl
  have k268_10 : s0 268 10 = s0 268 10 := rfl
  have k268_14 : s0 268 14 = s0 268 14 := rfl
  have k268_15 : s0 268 15 = s0 268 15 := rfl
  have k268_16 : s0 268 16 = s0 268 16 := rfl
  have k268_34 : s0 268 34 = s0 268 34 := rfl
  have k268_35 : s0 268 35 = s0 268 35 := rfl
  have k268_36 : s0 268 36 = s0 268 36 := rfl
  have k268_37 : s0 268 37 = s0 268 37 := rfl
  have k268_9 : s0 268 9 = s0 268 9 := rfl
  refine x_aload_n hx hb hl 0 rfl dX11_takes_0 rfl ?_
  refine x_goi (x_runV (As := []) hx hb hml hown hT hE hW hl.1 (Or.inl (by decide)) (so_268 h0 g _) rfl cf_X11_here wq1391 wq106 wq1389 (c_X11_here l D g T h0 s0 hW.2.1 p0 p1 p2 p3) ⟨rfl, rfl, ⟨by decide, by decide⟩, ⟨by decide, by decide⟩⟩ rfl rfl (Nat.le_of_ble_eq_true rfl) dX11_takes_1) hW (fun x1 s2 H locs rx1 hp3 hW => ?_)
  obtain ⟨es2, hp3⟩ := hp3
  subst es2
  have ghp3 := hp3
  refine x_iload_n hx hb hl 1 rfl dX11_takes_4 rfl ?_
  refine x_icmp_eq (tgt := 18) hx hb rx1 rv dX11_takes_5 (by decide) (fun c4 => ?_) (fun c4 => ?_)
  · skip
    refine x_aload_n hx hb hl 0 rfl dX11_takes_18 rfl ?_
    refine x_aload_n hx hb hl 0 rfl dX11_takes_19 rfl ?_
    refine x_get (j := 9) (v := .int (xJ (s0 268 9))) hx hb hown hT hE hW cls_X11 (Or.inl (by decide)) (so_268 h0 g _) (by decide) rfl wq1194 dX11_takes_20 ?_
    refine x_rd hW (fun x5 ex5 rx5 => ?_)
    have bx5 : 0 ≤ x5 ∧ x5 ≤ s0 268 10 ∧ s0 268 10 ≤ 240 := by rw [ex5]; exact p3
    have fx5 : x5 = s0 268 9 := ex5.trans k268_9
    refine x_iconst hx hb dX11_takes_23 ?_
    refine x_iadd hx hb dX11_takes_24 ?_
    refine x_put (j := 9) hx hb hown hT hE hW cls_X11 (by decide) (fun σ => so_268 h0 g σ) (by decide) (st_X11_9 h0 s0 268 (x5 + 1)) (ln_X11_9 h0 _ _) wq1194 rfl rfl rfl (by omega) dX11_takes_25 (fun H locs s6 es6 hW => ?_)
    have q7 : IMn s6 := by rw [es6]; exact IMn_268 p0 (by omega)
    have q8 : IMk s6 := by rw [es6]; exact IMk_268 p1 (by omega)
    have q9 : IMo s6 := by rw [es6]; exact IMo_o (by unfold suIMo; omega) p2
    have q10 : IR s6 := by rw [es6]; exact IR_268 p3 (by omega)
    have q11 : s6 268 8 = s0 268 8 := (show s6 268 8 = s0 268 8 from by rw [es6, xU_j _ _ (by decide)]).trans k268_8
    have q12 : s6 268 58 = s0 268 58 := (show s6 268 58 = s0 268 58 from by rw [es6, xU_j _ _ (by decide)]).trans k268_58
    have q13 : s6 268 10 = s0 268 10 := (show s6 268 10 = s0 268 10 from by rw [es6, xU_j _ _ (by decide)]).trans k268_10
    have q14 : s6 268 14 = s0 268 14 := (show s6 268 14 = s0 268 14 from by rw [es6, xU_j _ _ (by decide)]).trans k268_14
    have q15 : s6 268 15 = s0 268 15 := (show s6 268 15 = s0 268 15 from by rw [es6, xU_j _ _ (by decide)]).trans k268_15
    have q16 : s6 268 16 = s0 268 16 := (show s6 268 16 = s0 268 16 from by rw [es6, xU_j _ _ (by decide)]).trans k268_16
    have q17 : s6 268 34 = s0 268 34 := (show s6 268 34 = s0 268 34 from by rw [es6, xU_j _ _ (by decide)]).trans k268_34
    have q18 : s6 268 35 = s0 268 35 := (show s6 268 35 = s0 268 35 from by rw [es6, xU_j _ _ (by decide)]).trans k268_35
    have q19 : s6 268 36 = s0 268 36 := (show s6 268 36 = s0 268 36 from by rw [es6, xU_j _ _ (by decide)]).trans k268_36
    have q20 : s6 268 37 = s0 268 37 := (show s6 268 37 = s0 268 37 from by rw [es6, xU_j _ _ (by decide)]).trans k268_37
    have q21 : s6 268 9 = (x5 + 1) := by rw [es6, xU_s]
    have hF22 := hF.put es6 (by omega)
    refine x_iconst hx hb dX11_takes_28 ?_
    rw [eQ]
    exact x_zret hx hb hr hlk hW (by omega) ⟨hF22, ⟨q7, q8, q9, q10, q11, q12, q13, q14, q15, q16, q17, q18, q19, q20, trivial⟩, by omega⟩ dX11_takes_29
  refine x_aload_n hx hb hl 0 rfl dX11_takes_8 rfl ?_
  refine x_iconst hx hb dX11_takes_9 ?_
  refine x_aload_n hx hb hl 0 rfl dX11_takes_10 rfl ?_
  refine x_get (j := 9) (v := .int (xJ (s0 268 9))) hx hb hown hT hE hW cls_X11 (Or.inl (by decide)) (so_268 h0 g _) (by decide) rfl wq1194 dX11_takes_11 ?_
  refine x_rd hW (fun x23 ex23 rx23 => ?_)
  have bx23 : 0 ≤ x23 ∧ x23 ≤ s0 268 10 ∧ s0 268 10 ≤ 240 := by rw [ex23]; exact p3
  have fx23 : x23 = s0 268 9 := ex23.trans k268_9
  refine x_goi (x_runV (As := [.int (xJ 1), .int (xJ x23)]) hx hb hml hown hT hE hW hl.1 (Or.inl (by decide)) (so_268 h0 g _) rfl cf_X11_wrongAt wq1401 wq107 wq1399 (c_X11_wrongAt l D g T h0 s0 hW.2.1 1 (by decide) x23 rx23 p0 p1 p2 p3) ⟨rfl, rfl, ⟨by decide, by decide⟩, ⟨by decide, by decide⟩⟩ rfl rfl (Nat.le_of_ble_eq_true rfl) dX11_takes_14) hW (fun x24 s25 H locs rx24 hp26 hW => ?_)
  obtain ⟨fs25, hp26⟩ := hp26
  have hF27 := hF.call fs25 (fun k h => by omega)
  have ghp26 := hp26.2
  rw [eQ]
  exact x_zret hx hb hr hlk hW (by omega) ⟨hF27, ⟨hp26.1.1, hp26.1.2.1, hp26.1.2.2.1, hp26.1.2.2.2.1, (hp26.1.2.2.2.2.1.trans k268_8), (hp26.1.2.2.2.2.2.1.trans k268_58), (hp26.1.2.2.2.2.2.2.2.1.trans k268_10), (hp26.1.2.2.2.2.2.2.2.2.1.trans k268_14), (hp26.1.2.2.2.2.2.2.2.2.2.1.trans k268_15), (hp26.1.2.2.2.2.2.2.2.2.2.2.1.trans k268_16), (hp26.1.2.2.2.2.2.2.2.2.2.2.2.1.trans k268_34), (hp26.1.2.2.2.2.2.2.2.2.2.2.2.2.1.trans k268_35), (hp26.1.2.2.2.2.2.2.2.2.2.2.2.2.2.1.trans k268_36), (hp26.1.2.2.2.2.2.2.2.2.2.2.2.2.2.2.1.trans k268_37), trivial⟩, by omega⟩ dX11_takes_17
set_option maxHeartbeats 4000000 in
set_option maxRecDepth 100000 in
theorem c_X11_readsNumber (l : Launch) (D : va_G) (g : xG) (T : Nat × Nat × Nat) (h0 : Nat) (s0 : xS) (hσ : xRR s0) (hd : 48 ≤ zhC s0 ∧ zhC s0 ≤ 57) (p0 : IMn s0) (p1 : IMk s0) (p2 : IMo s0) (p3 : IR s0) : Met l yX11_readsNumber (xws yX11_readsNumber cX11_readsNumber 2 (some .boolean)) { frames := 2, cells := 0, slots := 0, locals := 40 } (xP [.ref (h0 + 268)] D g T h0 s0) (xQi D g h0 (fun r τ => xFr (fun k => k = 268) s0 τ ∧ (((IMn τ) ∧ (IMk τ) ∧ (IMo τ) ∧ (IR τ) ∧ (τ 268 8 = s0 268 8) ∧ (τ 268 58 = s0 268 58) ∧ (τ 268 10 = s0 268 10) ∧ (τ 268 14 = s0 268 14) ∧ (τ 268 15 = s0 268 15) ∧ (τ 268 16 = s0 268 16) ∧ (τ 268 34 = s0 268 34) ∧ (τ 268 35 = s0 268 35) ∧ (τ 268 36 = s0 268 36) ∧ (τ 268 37 = s0 268 37) ∧ True) ∧ ((r = 0 ∧ s0 268 9 ≤ τ 268 9) ∨ (r = 1 ∧ s0 268 9 + 1 ≤ τ 268 9 ∧ τ 268 9 ≤ s0 268 10 ∧ 0 ≤ τ 268 12 ∧ τ 268 12 ≤ 99999))))) 0 0 (xA h0) := by
  refine x_met hσ (by decide) (Nat.le_of_ble_eq_true rfl) ?_
  intro p e s m args below meth c hx hb hr hml hown hT hlk hnm hE hW ls hl
  have hl : lv_has ls 2 [(0, .ref (h0 + 268))] := hl
  obtain ⟨Q, eQ⟩ : ∃ Q, Q = MQ below (xQi D g h0 (fun r τ => xFr (fun k => k = 268) s0 τ ∧ (((IMn τ) ∧ (IMk τ) ∧ (IMo τ) ∧ (IR τ) ∧ (τ 268 8 = s0 268 8) ∧ (τ 268 58 = s0 268 58) ∧ (τ 268 10 = s0 268 10) ∧ (τ 268 14 = s0 268 14) ∧ (τ 268 15 = s0 268 15) ∧ (τ 268 16 = s0 268 16) ∧ (τ 268 34 = s0 268 34) ∧ (τ 268 35 = s0 268 35) ∧ (τ 268 36 = s0 268 36) ∧ (τ 268 37 = s0 268 37) ∧ True) ∧ ((r = 0 ∧ s0 268 9 ≤ τ 268 9) ∨ (r = 1 ∧ s0 268 9 + 1 ≤ τ 268 9 ∧ τ 268 9 ≤ s0 268 10 ∧ 0 ≤ τ 268 12 ∧ τ 268 12 ≤ 99999))))) args s 0 0 (xA h0) := ⟨_, rfl⟩
  rw [← eQ]
  generalize hHe : ([] : List Loc) = locs at hW ⊢
  obtain ⟨H, eH⟩ : ∃ H, H = s.heap := ⟨_, rfl⟩
  rw [← eH] at hW ⊢
  have hF : xFr (fun k => k = 268) s0 s0 := xFr.rf
  have k268_8 : s0 268 8 = s0 268 8 := rfl
  have k268_58 : s0 268 58 = s0 268 58 := rfl
  have k268_10 : s0 268 10 = s0 268 10 := rfl
  have k268_14 : s0 268 14 = s0 268 14 := rfl
  have k268_15 : s0 268 15 = s0 268 15 := rfl
  have k268_16 : s0 268 16 = s0 268 16 := rfl
  have k268_34 : s0 268 34 = s0 268 34 := rfl
  have k268_35 : s0 268 35 = s0 268 35 := rfl
  have k268_36 : s0 268 36 = s0 268 36 := rfl
  have k268_37 : s0 268 37 = s0 268 37 := rfl
  have k268_9 : s0 268 9 = s0 268 9 := rfl
  refine x_aload_n hx hb hl 0 rfl dX11_readsNumber_0 rfl ?_
  refine x_get (j := 9) (v := .int (xJ (s0 268 9))) hx hb hown hT hE hW cls_X11 (Or.inl (by decide)) (so_268 h0 g _) (by decide) rfl wq1194 dX11_readsNumber_1 ?_
  refine x_rd hW (fun x1 ex1 rx1 => ?_)
  have bx1 : 0 ≤ x1 ∧ x1 ≤ s0 268 10 ∧ s0 268 10 ≤ 240 := by rw [ex1]; exact p3
  have fx1 : x1 = s0 268 9 := ex1.trans k268_9
  refine lv_istore_n (lv' := [(1, .int (xJ x1)), (0, .ref (h0 + 268))]) hx hb dX11_readsNumber_4 rfl hl (by decide) rfl (fun ls hl => ?_)
  refine x_aload_n hx hb hl 1 rfl dX11_readsNumber_5 rfl ?_
  refine x_iconst hx hb dX11_readsNumber_6 ?_
  refine x_put (j := 12) hx hb hown hT hE hW cls_X11 (by decide) (fun σ => so_268 h0 g σ) (by decide) (st_X11_12 h0 s0 268 0) (ln_X11_12 h0 _ _) wq1197 rfl rfl rfl (by decide) dX11_readsNumber_7 (fun H locs s2 es2 hW => ?_)
  have q3 : IMn s2 := by rw [es2]; exact IMn_268 p0 (by omega)
  have q4 : IMk s2 := by rw [es2]; exact IMk_268 p1 (by omega)
  have q5 : IMo s2 := by rw [es2]; exact IMo_o (by unfold suIMo; omega) p2
  have q6 : IR s2 := by rw [es2]; exact IR_268 p3 (by omega)
  have q7 : s2 268 8 = s0 268 8 := (show s2 268 8 = s0 268 8 from by rw [es2, xU_j _ _ (by decide)]).trans k268_8
  have q8 : s2 268 58 = s0 268 58 := (show s2 268 58 = s0 268 58 from by rw [es2, xU_j _ _ (by decide)]).trans k268_58
  have q9 : s2 268 10 = s0 268 10 := (show s2 268 10 = s0 268 10 from by rw [es2, xU_j _ _ (by decide)]).trans k268_10
  have q10 : s2 268 14 = s0 268 14 := (show s2 268 14 = s0 268 14 from by rw [es2, xU_j _ _ (by decide)]).trans k268_14
  have q11 : s2 268 15 = s0 268 15 := (show s2 268 15 = s0 268 15 from by rw [es2, xU_j _ _ (by decide)]).trans k268_15
  have q12 : s2 268 16 = s0 268 16 := (show s2 268 16 = s0 268 16 from by rw [es2, xU_j _ _ (by decide)]).trans k268_16
  have q13 : s2 268 34 = s0 268 34 := (show s2 268 34 = s0 268 34 from by rw [es2, xU_j _ _ (by decide)]).trans k268_34
  have q14 : s2 268 35 = s0 268 35 := (show s2 268 35 = s0 268 35 from by rw [es2, xU_j _ _ (by decide)]).trans k268_35
  have q15 : s2 268 36 = s0 268 36 := (show s2 268 36 = s0 268 36 from by rw [es2, xU_j _ _ (by decide)]).trans k268_36
  have q16 : s2 268 37 = s0 268 37 := (show s2 268 37 = s0 268 37 from by rw [es2, xU_j _ _ (by decide)]).trans k268_37
  have q17 : s2 268 9 = s0 268 9 := (show s2 268 9 = s0 268 9 from by rw [es2, xU_j _ _ (by decide)]).trans k268_9
  have q18 : s2 268 12 = 0 := by rw [es2, xU_s]
  have hF19 := hF.put es2 (by omega)
  have L10 : ∀ (fu : Nat) (s_10 : xS) (H : Heap) (locs : List Loc) (ls : Array Slot), (xFr (fun k => k = 268) s0 s_10) → (IMn s_10) → (IMk s_10) → (IMo s_10) → (IR s_10) → (s_10 268 8 = s0 268 8) → (s_10 268 58 = s0 268 58) → (s_10 268 10 = s0 268 10) → (s_10 268 14 = s0 268 14) → (s_10 268 15 = s0 268 15) → (s_10 268 16 = s0 268 16) → (s_10 268 34 = s0 268 34) → (s_10 268 35 = s0 268 35) → (s_10 268 36 = s0 268 36) → (s_10 268 37 = s0 268 37) → (zNB (s_10 268 9 - x1) (s_10 268 12)) → (x1 + 6 - s_10 268 9).toNat < fu → xW D g h0 s H locs s_10 → lv_has ls 2 [(0, .ref (h0 + 268)), (1, .int (xJ x1))] → W p l e { frames := 2, cells := 0, slots := 0, locals := 40 } s m args below meth c H locs 0 0 Q (F0 m 10 ls []) := by
    intro fu
    induction fu with
    | zero => intro s_10 H locs ls hF_10 q10_0 q10_1 q10_2 q10_3 q10_4 q10_5 q10_6 q10_7 q10_8 q10_9 q10_10 q10_11 q10_12 q10_13 v10_0 hm; exact absurd hm (Nat.not_lt_zero _)
    | succ fu ih10 =>
      intro s_10 H locs ls hF_10 q10_0 q10_1 q10_2 q10_3 q10_4 q10_5 q10_6 q10_7 q10_8 q10_9 q10_10 q10_11 q10_12 q10_13 v10_0 hm hW hl
      have nb := zNB_le v10_0
      refine x_aload_n hx hb hl 0 rfl dX11_readsNumber_10 rfl ?_
      refine x_goi (x_runV (As := []) hx hb hml hown hT hE hW hl.1 (Or.inl (by decide)) (so_268 h0 g _) rfl cf_X11_isDigit wq1485 wq119 wq1483 (c_X11_isDigit l D g T h0 s_10 hW.2.1 q10_0 q10_1 q10_2 q10_3) ⟨rfl, rfl, ⟨by decide, by decide⟩, ⟨by decide, by decide⟩⟩ rfl rfl (Nat.le_of_ble_eq_true rfl) dX11_readsNumber_11) hW (fun x20 s21 H locs rx20 hp22 hW => ?_)
      obtain ⟨es21, hp22⟩ := hp22
      subst es21
      have ghp22 := hp22
      refine x_if_eq (tgt := 69) hx hb rx20 dX11_readsNumber_14 (by decide) (fun c23 => ?_) (fun c23 => ?_)
      · skip
        refine x_iconst hx hb dX11_readsNumber_69 ?_
        have Z69 := fun (h : s_10 268 9 = s0 268 9) => zhC_f h (by omega : s_10 268 10 = s0 268 10) (hF_10 276 (by omega))
        have Y69 := q10_3
        unfold IR at Y69
        rw [eQ]
        exact x_zret hx hb hr hlk hW (by omega) ⟨hF_10, ⟨q10_0, q10_1, q10_2, q10_3, q10_4, q10_5, q10_6, q10_7, q10_8, q10_9, q10_10, q10_11, q10_12, q10_13, trivial⟩, by omega⟩ dX11_readsNumber_70
      refine x_aload_n hx hb hl 0 rfl dX11_readsNumber_17 rfl ?_
      refine x_get (j := 9) (v := .int (xJ (s_10 268 9))) hx hb hown hT hE hW cls_X11 (Or.inl (by decide)) (so_268 h0 g _) (by decide) rfl wq1194 dX11_readsNumber_18 ?_
      refine x_rd hW (fun x24 ex24 rx24 => ?_)
      have bx24 : 0 ≤ x24 ∧ x24 ≤ s_10 268 10 ∧ s_10 268 10 ≤ 240 := by rw [ex24]; exact q10_3
      have q25 : s_10 268 9 = x24 := ex24.symm
      refine x_iload_n hx hb hl 1 rfl dX11_readsNumber_21 rfl ?_
      refine x_iconst hx hb dX11_readsNumber_22 ?_
      refine x_iadd hx hb dX11_readsNumber_23 ?_
      refine x_icmp_ne (tgt := 37) hx hb rx24 (by omega) dX11_readsNumber_24 (by decide) (fun c26 => ?_) (fun c26 => ?_)
      · skip
        refine x_aload_n hx hb hl 0 rfl dX11_readsNumber_37 rfl ?_
        refine x_bipush hx hb dX11_readsNumber_38 (by decide) ?_
        refine x_aload_n hx hb hl 0 rfl dX11_readsNumber_40 rfl ?_
        refine x_get (j := 12) (v := .int (xJ (s_10 268 12))) hx hb hown hT hE hW cls_X11 (Or.inl (by decide)) (so_268 h0 g _) (by decide) rfl wq1197 dX11_readsNumber_41 ?_
        refine x_rd hW (fun x27 ex27 rx27 => ?_)
        have q28 : s_10 268 12 = x27 := ex27.symm
        refine x_imul hx hb dX11_readsNumber_44 ?_
        refine x_aload_n hx hb hl 0 rfl dX11_readsNumber_45 rfl ?_
        refine x_goi (x_runV (As := []) hx hb hml hown hT hE hW hl.1 (Or.inl (by decide)) (so_268 h0 g _) rfl cf_X11_here wq1391 wq106 wq1389 (c_X11_here l D g T h0 s_10 hW.2.1 q10_0 q10_1 q10_2 q10_3) ⟨rfl, rfl, ⟨by decide, by decide⟩, ⟨by decide, by decide⟩⟩ rfl rfl (Nat.le_of_ble_eq_true rfl) dX11_readsNumber_46) hW (fun x29 s30 H locs rx29 hp31 hW => ?_)
        obtain ⟨es30, hp31⟩ := hp31
        subst es30
        have ghp31 := hp31
        refine x_iadd hx hb dX11_readsNumber_49 ?_
        refine x_bipush hx hb dX11_readsNumber_50 (by decide) ?_
        refine x_isub hx hb dX11_readsNumber_52 ?_
        refine x_put (j := 12) hx hb hown hT hE hW cls_X11 (by decide) (fun σ => so_268 h0 g σ) (by decide) (st_X11_12 h0 s_10 268 (((10 * x27) + x29) - 48)) (ln_X11_12 h0 _ _) wq1197 rfl rfl rfl (by omega) dX11_readsNumber_53 (fun H locs s32 es32 hW => ?_)
        have q33 : IMn s32 := by rw [es32]; exact IMn_268 q10_0 (by omega)
        have q34 : IMk s32 := by rw [es32]; exact IMk_268 q10_1 (by omega)
        have q35 : IMo s32 := by rw [es32]; exact IMo_o (by unfold suIMo; omega) q10_2
        have q36 : IR s32 := by rw [es32]; exact IR_268 q10_3 (by omega)
        have q37 : s32 268 8 = s0 268 8 := (show s32 268 8 = s_10 268 8 from by rw [es32, xU_j _ _ (by decide)]).trans q10_4
        have q38 : s32 268 58 = s0 268 58 := (show s32 268 58 = s_10 268 58 from by rw [es32, xU_j _ _ (by decide)]).trans q10_5
        have q39 : s32 268 10 = s0 268 10 := (show s32 268 10 = s_10 268 10 from by rw [es32, xU_j _ _ (by decide)]).trans q10_6
        have q40 : s32 268 14 = s0 268 14 := (show s32 268 14 = s_10 268 14 from by rw [es32, xU_j _ _ (by decide)]).trans q10_7
        have q41 : s32 268 15 = s0 268 15 := (show s32 268 15 = s_10 268 15 from by rw [es32, xU_j _ _ (by decide)]).trans q10_8
        have q42 : s32 268 16 = s0 268 16 := (show s32 268 16 = s_10 268 16 from by rw [es32, xU_j _ _ (by decide)]).trans q10_9
        have q43 : s32 268 34 = s0 268 34 := (show s32 268 34 = s_10 268 34 from by rw [es32, xU_j _ _ (by decide)]).trans q10_10
        have q44 : s32 268 35 = s0 268 35 := (show s32 268 35 = s_10 268 35 from by rw [es32, xU_j _ _ (by decide)]).trans q10_11
        have q45 : s32 268 36 = s0 268 36 := (show s32 268 36 = s_10 268 36 from by rw [es32, xU_j _ _ (by decide)]).trans q10_12
        have q46 : s32 268 37 = s0 268 37 := (show s32 268 37 = s_10 268 37 from by rw [es32, xU_j _ _ (by decide)]).trans q10_13
        have q47 : s32 268 9 = x24 := (show s32 268 9 = s_10 268 9 from by rw [es32, xU_j _ _ (by decide)]).trans q25
        have q48 : s32 268 12 = (((10 * x27) + x29) - 48) := by rw [es32, xU_s]
        have hF49 := hF_10.put es32 (by omega)
        refine x_aload_n hx hb hl 0 rfl dX11_readsNumber_56 rfl ?_
        refine x_aload_n hx hb hl 0 rfl dX11_readsNumber_57 rfl ?_
        refine x_get (j := 9) (v := .int (xJ (s32 268 9))) hx hb hown hT hE hW cls_X11 (Or.inl (by decide)) (so_268 h0 g _) (by decide) rfl wq1194 dX11_readsNumber_58 ?_
        refine x_rd hW (fun x50 ex50 rx50 => ?_)
        have bx50 : 0 ≤ x50 ∧ x50 ≤ s32 268 10 ∧ s32 268 10 ≤ 240 := by rw [ex50]; exact q36
        have fx50 : x50 = x24 := ex50.trans q47
        refine x_iconst hx hb dX11_readsNumber_61 ?_
        refine x_iadd hx hb dX11_readsNumber_62 ?_
        refine x_put (j := 9) hx hb hown hT hE hW cls_X11 (by decide) (fun σ => so_268 h0 g σ) (by decide) (st_X11_9 h0 s32 268 (x50 + 1)) (ln_X11_9 h0 _ _) wq1194 rfl rfl rfl (by omega) dX11_readsNumber_63 (fun H locs s51 es51 hW => ?_)
        have q52 : IMn s51 := by rw [es51]; exact IMn_268 q33 (by omega)
        have q53 : IMk s51 := by rw [es51]; exact IMk_268 q34 (by omega)
        have q54 : IMo s51 := by rw [es51]; exact IMo_o (by unfold suIMo; omega) q35
        have q55 : IR s51 := by rw [es51]; exact IR_268 q36 (by omega)
        have q56 : s51 268 8 = s0 268 8 := (show s51 268 8 = s32 268 8 from by rw [es51, xU_j _ _ (by decide)]).trans q37
        have q57 : s51 268 58 = s0 268 58 := (show s51 268 58 = s32 268 58 from by rw [es51, xU_j _ _ (by decide)]).trans q38
        have q58 : s51 268 10 = s0 268 10 := (show s51 268 10 = s32 268 10 from by rw [es51, xU_j _ _ (by decide)]).trans q39
        have q59 : s51 268 14 = s0 268 14 := (show s51 268 14 = s32 268 14 from by rw [es51, xU_j _ _ (by decide)]).trans q40
        have q60 : s51 268 15 = s0 268 15 := (show s51 268 15 = s32 268 15 from by rw [es51, xU_j _ _ (by decide)]).trans q41
        have q61 : s51 268 16 = s0 268 16 := (show s51 268 16 = s32 268 16 from by rw [es51, xU_j _ _ (by decide)]).trans q42
        have q62 : s51 268 34 = s0 268 34 := (show s51 268 34 = s32 268 34 from by rw [es51, xU_j _ _ (by decide)]).trans q43
        have q63 : s51 268 35 = s0 268 35 := (show s51 268 35 = s32 268 35 from by rw [es51, xU_j _ _ (by decide)]).trans q44
        have q64 : s51 268 36 = s0 268 36 := (show s51 268 36 = s32 268 36 from by rw [es51, xU_j _ _ (by decide)]).trans q45
        have q65 : s51 268 37 = s0 268 37 := (show s51 268 37 = s32 268 37 from by rw [es51, xU_j _ _ (by decide)]).trans q46
        have q66 : s51 268 9 = (x50 + 1) := by rw [es51, xU_s]
        have q67 : s51 268 12 = (((10 * x27) + x29) - 48) := (show s51 268 12 = s32 268 12 from by rw [es51, xU_j _ _ (by decide)]).trans q48
        have hF68 := hF49.put es51 (by omega)
        refine lv_goto (tgt := 10) hx hb dX11_readsNumber_66 (by decide) ?_
        exact ih10 s51 H locs ls hF68 q52 q53 q54 q55 q56 q57 q58 q59 q60 q61 q62 q63 q64 q65 (zNB_s v10_0 (by omega) (by omega) (by omega)) (by omega) hW (lv_sub hl [0, 1] rfl)
      refine x_aload_n hx hb hl 0 rfl dX11_readsNumber_27 rfl ?_
      refine x_iconst hx hb dX11_readsNumber_28 ?_
      refine x_aload_n hx hb hl 0 rfl dX11_readsNumber_29 rfl ?_
      refine x_get (j := 9) (v := .int (xJ (s_10 268 9))) hx hb hown hT hE hW cls_X11 (Or.inl (by decide)) (so_268 h0 g _) (by decide) rfl wq1194 dX11_readsNumber_30 ?_
      refine x_rd hW (fun x69 ex69 rx69 => ?_)
      have bx69 : 0 ≤ x69 ∧ x69 ≤ s_10 268 10 ∧ s_10 268 10 ≤ 240 := by rw [ex69]; exact q10_3
      have fx69 : x69 = x24 := ex69.trans q25
      refine x_goi (x_runV (As := [.int (xJ 2), .int (xJ x69)]) hx hb hml hown hT hE hW hl.1 (Or.inl (by decide)) (so_268 h0 g _) rfl cf_X11_wrongAt wq1401 wq107 wq1399 (c_X11_wrongAt l D g T h0 s_10 hW.2.1 2 (by decide) x69 rx69 q10_0 q10_1 q10_2 q10_3) ⟨rfl, rfl, ⟨by decide, by decide⟩, ⟨by decide, by decide⟩⟩ rfl rfl (Nat.le_of_ble_eq_true rfl) dX11_readsNumber_33) hW (fun x70 s71 H locs rx70 hp72 hW => ?_)
      obtain ⟨fs71, hp72⟩ := hp72
      have hF73 := hF_10.call fs71 (fun k h => by omega)
      have ghp72 := hp72.2
      rw [eQ]
      exact x_zret hx hb hr hlk hW (by omega) ⟨hF73, ⟨hp72.1.1, hp72.1.2.1, hp72.1.2.2.1, hp72.1.2.2.2.1, (hp72.1.2.2.2.2.1.trans q10_4), (hp72.1.2.2.2.2.2.1.trans q10_5), (hp72.1.2.2.2.2.2.2.2.1.trans q10_6), (hp72.1.2.2.2.2.2.2.2.2.1.trans q10_7), (hp72.1.2.2.2.2.2.2.2.2.2.1.trans q10_8), (hp72.1.2.2.2.2.2.2.2.2.2.2.1.trans q10_9), (hp72.1.2.2.2.2.2.2.2.2.2.2.2.1.trans q10_10), (hp72.1.2.2.2.2.2.2.2.2.2.2.2.2.1.trans q10_11), (hp72.1.2.2.2.2.2.2.2.2.2.2.2.2.2.1.trans q10_12), (hp72.1.2.2.2.2.2.2.2.2.2.2.2.2.2.2.1.trans q10_13), trivial⟩, by omega⟩ dX11_readsNumber_36
  exact L10 ((x1 + 6 - s2 268 9 : Int).toNat + 1) s2 H locs ls hF19 q3 q4 q5 q6 q7 q8 q9 q10 q11 q12 q13 q14 q15 q16 (zNB_0 (by omega) (by omega)) (Nat.lt_succ_self _) hW (lv_sub hl [1, 0] rfl)
set_option maxHeartbeats 4000000 in
set_option maxRecDepth 100000 in
theorem c_X11_notes (l : Launch) (D : va_G) (g : xG) (T : Nat × Nat × Nat) (h0 : Nat) (s0 : xS) (hσ : xRR s0) (o : Int) (ro : xR o) (v : Int) (rv : xR v) (hn : 0 ≤ s0 268 14 ∧ s0 268 14 ≤ 259) (ho : 0 ≤ o ∧ o ≤ 14) (hv : 0 ≤ v ∧ v < 1048576) (p0 : IMn s0) (p1 : IMk s0) (p2 : IMo s0) (p3 : IR s0) : Met l yX11_notes (xws yX11_notes cX11_notes 3 none) { frames := 0, cells := 0, slots := 0, locals := 0 } (xP [.ref (h0 + 268), .int (xJ o), .int (xJ v)] D g T h0 s0) (xQv D g h0 (fun τ => xFr (fun k => k = 268 ∨ k = 277) s0 τ ∧ (((IMn τ) ∧ (IMk τ) ∧ (IMo τ) ∧ (IR τ) ∧ (τ 277 = xud (s0 277) (s0 268 14) (1048576 * o + v)) ∧ (τ 268 8 = s0 268 8) ∧ (τ 268 58 = s0 268 58) ∧ (τ 268 9 = s0 268 9) ∧ (τ 268 10 = s0 268 10) ∧ (τ 268 15 = s0 268 15) ∧ (τ 268 16 = s0 268 16) ∧ (τ 268 34 = s0 268 34) ∧ (τ 268 35 = s0 268 35) ∧ (τ 268 36 = s0 268 36) ∧ (τ 268 37 = s0 268 37) ∧ True) ∧ (τ 268 14 = s0 268 14 + 1)))) 0 0 (xA h0) := by
  refine x_met hσ (by decide) (Nat.le_of_ble_eq_true rfl) ?_
  intro p e s m args below meth c hx hb hr hml hown hT hlk hnm hE hW ls hl
  have hl : lv_has ls 3 [(0, .ref (h0 + 268)), (1, .int (xJ o)), (2, .int (xJ v))] := hl
  obtain ⟨Q, eQ⟩ : ∃ Q, Q = MQ below (xQv D g h0 (fun τ => xFr (fun k => k = 268 ∨ k = 277) s0 τ ∧ (((IMn τ) ∧ (IMk τ) ∧ (IMo τ) ∧ (IR τ) ∧ (τ 277 = xud (s0 277) (s0 268 14) (1048576 * o + v)) ∧ (τ 268 8 = s0 268 8) ∧ (τ 268 58 = s0 268 58) ∧ (τ 268 9 = s0 268 9) ∧ (τ 268 10 = s0 268 10) ∧ (τ 268 15 = s0 268 15) ∧ (τ 268 16 = s0 268 16) ∧ (τ 268 34 = s0 268 34) ∧ (τ 268 35 = s0 268 35) ∧ (τ 268 36 = s0 268 36) ∧ (τ 268 37 = s0 268 37) ∧ True) ∧ (τ 268 14 = s0 268 14 + 1)))) args s 0 0 (xA h0) := ⟨_, rfl⟩
  rw [← eQ]
  generalize hHe : ([] : List Loc) = locs at hW ⊢
  obtain ⟨H, eH⟩ : ∃ H, H = s.heap := ⟨_, rfl⟩
  rw [← eH] at hW ⊢
  have hF : xFr (fun k => k = 268 ∨ k = 277) s0 s0 := xFr.rf
  have k268_8 : s0 268 8 = s0 268 8 := rfl
  have k268_58 : s0 268 58 = s0 268 58 := rfl
  have k268_9 : s0 268 9 = s0 268 9 := rfl
  have k268_10 : s0 268 10 = s0 268 10 := rfl
  have k268_15 : s0 268 15 = s0 268 15 := rfl
  have k268_16 : s0 268 16 = s0 268 16 := rfl
  have k268_34 : s0 268 34 = s0 268 34 := rfl
  have k268_35 : s0 268 35 = s0 268 35 := rfl
  have k268_36 : s0 268 36 = s0 268 36 := rfl
  have k268_37 : s0 268 37 = s0 268 37 := rfl
  have k268_14 : s0 268 14 = s0 268 14 := rfl
  have ku_277 : s0 277 = s0 277 := rfl
  refine x_aload_n hx hb hl 0 rfl dX11_notes_0 rfl ?_
  refine x_get (j := 18) (v := .ref (h0 + 277)) hx hb hown hT hE hW cls_X11 (Or.inl (by decide)) (so_268 h0 g _) (by decide) rfl wq1203 dX11_notes_1 ?_
  refine x_aload_n hx hb hl 0 rfl dX11_notes_4 rfl ?_
  refine x_get (j := 14) (v := .int (xJ (s0 268 14))) hx hb hown hT hE hW cls_X11 (Or.inl (by decide)) (so_268 h0 g _) (by decide) rfl wq1199 dX11_notes_5 ?_
  refine x_rd hW (fun x1 ex1 rx1 => ?_)
  have fx1 : x1 = s0 268 14 := ex1.trans k268_14
  refine lv_ldc (v := xJ 1048576) hx hb hown (hT _ wq1482) dX11_notes_8 ?_
  refine x_iload_n hx hb hl 1 rfl dX11_notes_10 rfl ?_
  refine x_imul hx hb dX11_notes_11 ?_
  refine x_iload_n hx hb hl 2 rfl dX11_notes_12 rfl ?_
  refine x_iadd hx hb dX11_notes_13 ?_
  refine x_iast hx hb hE hW (by decide) (fun σ => sa_277 h0 g σ) (by omega) (by decide) (by omega) dX11_notes_14 (fun H locs s2 es2 hW => ?_)
  have q3 : IMn s2 := by rw [es2]; exact IMn_o (by unfold suIMn; omega) p0
  have q4 : IMk s2 := by rw [es2]; exact IMk_o (by unfold suIMk; omega) p1
  have q5 : IMo s2 := by rw [es2]; exact IMo_o (by unfold suIMo; omega) p2
  have q6 : IR s2 := by rw [es2]; exact IR_o (by unfold suIR; omega) p3
  have q7 : s2 268 8 = s0 268 8 := (show s2 268 8 = s0 268 8 from by rw [es2, xU_k _ _ _ (by omega)]).trans k268_8
  have q8 : s2 268 58 = s0 268 58 := (show s2 268 58 = s0 268 58 from by rw [es2, xU_k _ _ _ (by omega)]).trans k268_58
  have q9 : s2 268 9 = s0 268 9 := (show s2 268 9 = s0 268 9 from by rw [es2, xU_k _ _ _ (by omega)]).trans k268_9
  have q10 : s2 268 10 = s0 268 10 := (show s2 268 10 = s0 268 10 from by rw [es2, xU_k _ _ _ (by omega)]).trans k268_10
  have q11 : s2 268 15 = s0 268 15 := (show s2 268 15 = s0 268 15 from by rw [es2, xU_k _ _ _ (by omega)]).trans k268_15
  have q12 : s2 268 16 = s0 268 16 := (show s2 268 16 = s0 268 16 from by rw [es2, xU_k _ _ _ (by omega)]).trans k268_16
  have q13 : s2 268 34 = s0 268 34 := (show s2 268 34 = s0 268 34 from by rw [es2, xU_k _ _ _ (by omega)]).trans k268_34
  have q14 : s2 268 35 = s0 268 35 := (show s2 268 35 = s0 268 35 from by rw [es2, xU_k _ _ _ (by omega)]).trans k268_35
  have q15 : s2 268 36 = s0 268 36 := (show s2 268 36 = s0 268 36 from by rw [es2, xU_k _ _ _ (by omega)]).trans k268_36
  have q16 : s2 268 37 = s0 268 37 := (show s2 268 37 = s0 268 37 from by rw [es2, xU_k _ _ _ (by omega)]).trans k268_37
  have q17 : s2 268 14 = s0 268 14 := (show s2 268 14 = s0 268 14 from by rw [es2, xU_k _ _ _ (by omega)]).trans k268_14
  have hF18 := hF.put es2 (by omega)
  have q19 : s2 277 = xud (s0 277) (s0 268 14) (1048576 * o + v) := by rw [es2, xU_xud, show x1 = s0 268 14 from by omega]
  refine x_aload_n hx hb hl 0 rfl dX11_notes_15 rfl ?_
  refine x_aload_n hx hb hl 0 rfl dX11_notes_16 rfl ?_
  refine x_get (j := 14) (v := .int (xJ (s2 268 14))) hx hb hown hT hE hW cls_X11 (Or.inl (by decide)) (so_268 h0 g _) (by decide) rfl wq1199 dX11_notes_17 ?_
  refine x_rd hW (fun x20 ex20 rx20 => ?_)
  have fx20 : x20 = s0 268 14 := ex20.trans q17
  refine x_iconst hx hb dX11_notes_20 ?_
  refine x_iadd hx hb dX11_notes_21 ?_
  refine x_put (j := 14) hx hb hown hT hE hW cls_X11 (by decide) (fun σ => so_268 h0 g σ) (by decide) (st_X11_14 h0 s2 268 (x20 + 1)) (ln_X11_14 h0 _ _) wq1199 rfl rfl rfl (by omega) dX11_notes_22 (fun H locs s21 es21 hW => ?_)
  have q22 : IMn s21 := by rw [es21]; exact IMn_268 q3 (by omega)
  have q23 : IMk s21 := by rw [es21]; exact IMk_268 q4 (by omega)
  have q24 : IMo s21 := by rw [es21]; exact IMo_o (by unfold suIMo; omega) q5
  have q25 : IR s21 := by rw [es21]; exact IR_268 q6 (by omega)
  have q26 : s21 268 8 = s0 268 8 := (show s21 268 8 = s2 268 8 from by rw [es21, xU_j _ _ (by decide)]).trans q7
  have q27 : s21 268 58 = s0 268 58 := (show s21 268 58 = s2 268 58 from by rw [es21, xU_j _ _ (by decide)]).trans q8
  have q28 : s21 268 9 = s0 268 9 := (show s21 268 9 = s2 268 9 from by rw [es21, xU_j _ _ (by decide)]).trans q9
  have q29 : s21 268 10 = s0 268 10 := (show s21 268 10 = s2 268 10 from by rw [es21, xU_j _ _ (by decide)]).trans q10
  have q30 : s21 268 15 = s0 268 15 := (show s21 268 15 = s2 268 15 from by rw [es21, xU_j _ _ (by decide)]).trans q11
  have q31 : s21 268 16 = s0 268 16 := (show s21 268 16 = s2 268 16 from by rw [es21, xU_j _ _ (by decide)]).trans q12
  have q32 : s21 268 34 = s0 268 34 := (show s21 268 34 = s2 268 34 from by rw [es21, xU_j _ _ (by decide)]).trans q13
  have q33 : s21 268 35 = s0 268 35 := (show s21 268 35 = s2 268 35 from by rw [es21, xU_j _ _ (by decide)]).trans q14
  have q34 : s21 268 36 = s0 268 36 := (show s21 268 36 = s2 268 36 from by rw [es21, xU_j _ _ (by decide)]).trans q15
  have q35 : s21 268 37 = s0 268 37 := (show s21 268 37 = s2 268 37 from by rw [es21, xU_j _ _ (by decide)]).trans q16
  have q36 : s21 268 14 = (x20 + 1) := by rw [es21, xU_s]
  have q37 : s21 277 = xud (s0 277) (s0 268 14) (1048576 * o + v) := (show s21 277 = s2 277 from by rw [es21, xU_k _ _ _ (by omega)]).trans q19
  have hF38 := hF18.put es21 (by omega)
  rw [eQ]
  exact x_vret hx hb hr hlk hW ⟨hF38, ⟨q22, q23, q24, q25, q37, q26, q27, q28, q29, q30, q31, q32, q33, q34, q35, trivial⟩, by omega⟩ dX11_notes_25
set_option maxHeartbeats 4000000 in
set_option maxRecDepth 100000 in
theorem c_X11_opens (l : Launch) (D : va_G) (g : xG) (T : Nat × Nat × Nat) (h0 : Nat) (s0 : xS) (hσ : xRR s0) (o : Int) (ro : xR o) (hp : s0 268 9 < s0 268 10) (hw : 0 ≤ s0 268 15 ∧ s0 268 15 ≤ 259) (ho : 0 ≤ o ∧ o ≤ 14) (p0 : IMn s0) (p1 : IMk s0) (p2 : IMo s0) (p3 : IR s0) : Met l yX11_opens (xws yX11_opens cX11_opens 2 (some .boolean)) { frames := 1, cells := 0, slots := 0, locals := 22 } (xP [.ref (h0 + 268), .int (xJ o)] D g T h0 s0) (xQi D g h0 (fun r τ => xFr (fun k => k = 268 ∨ k = 278) s0 τ ∧ (((IMn τ) ∧ (IMk τ) ∧ (IMo τ) ∧ (IR τ) ∧ (τ 268 8 = s0 268 8) ∧ (τ 268 58 = s0 268 58) ∧ (τ 268 10 = s0 268 10) ∧ (τ 268 14 = s0 268 14) ∧ (τ 268 16 = s0 268 16) ∧ (τ 268 34 = s0 268 34) ∧ (τ 268 35 = s0 268 35) ∧ (τ 268 36 = s0 268 36) ∧ (τ 268 37 = s0 268 37) ∧ True) ∧ ((r = 0 ∧ τ 268 9 = s0 268 9) ∨ (r = 1 ∧ τ 268 9 = s0 268 9 + 1 ∧ τ 268 15 = s0 268 15 + 1 ∧ τ 278 = xud (s0 278) (s0 268 15) (1048576 * o)))))) 0 0 (xA h0) := by
  refine x_met hσ (by decide) (Nat.le_of_ble_eq_true rfl) ?_
  intro p e s m args below meth c hx hb hr hml hown hT hlk hnm hE hW ls hl
  have hl : lv_has ls 2 [(0, .ref (h0 + 268)), (1, .int (xJ o))] := hl
  obtain ⟨Q, eQ⟩ : ∃ Q, Q = MQ below (xQi D g h0 (fun r τ => xFr (fun k => k = 268 ∨ k = 278) s0 τ ∧ (((IMn τ) ∧ (IMk τ) ∧ (IMo τ) ∧ (IR τ) ∧ (τ 268 8 = s0 268 8) ∧ (τ 268 58 = s0 268 58) ∧ (τ 268 10 = s0 268 10) ∧ (τ 268 14 = s0 268 14) ∧ (τ 268 16 = s0 268 16) ∧ (τ 268 34 = s0 268 34) ∧ (τ 268 35 = s0 268 35) ∧ (τ 268 36 = s0 268 36) ∧ (τ 268 37 = s0 268 37) ∧ True) ∧ ((r = 0 ∧ τ 268 9 = s0 268 9) ∨ (r = 1 ∧ τ 268 9 = s0 268 9 + 1 ∧ τ 268 15 = s0 268 15 + 1 ∧ τ 278 = xud (s0 278) (s0 268 15) (1048576 * o)))))) args s 0 0 (xA h0) := ⟨_, rfl⟩
  rw [← eQ]
  generalize hHe : ([] : List Loc) = locs at hW ⊢
  obtain ⟨H, eH⟩ : ∃ H, H = s.heap := ⟨_, rfl⟩
  rw [← eH] at hW ⊢
  have hF : xFr (fun k => k = 268 ∨ k = 278) s0 s0 := xFr.rf
  have k268_8 : s0 268 8 = s0 268 8 := rfl
  have k268_58 : s0 268 58 = s0 268 58 := rfl
  have k268_10 : s0 268 10 = s0 268 10 := rfl
  have k268_14 : s0 268 14 = s0 268 14 := rfl
  have k268_16 : s0 268 16 = s0 268 16 := rfl
  have k268_34 : s0 268 34 = s0 268 34 := rfl
  have k268_35 : s0 268 35 = s0 268 35 := rfl
  have k268_36 : s0 268 36 = s0 268 36 := rfl
  have k268_37 : s0 268 37 = s0 268 37 := rfl
  have k268_9 : s0 268 9 = s0 268 9 := rfl
  have k268_15 : s0 268 15 = s0 268 15 := rfl
  refine x_aload_n hx hb hl 0 rfl dX11_opens_0 rfl ?_
  refine x_get (j := 13) (v := .int (xJ (s0 268 13))) hx hb hown hT hE hW cls_X11 (Or.inl (by decide)) (so_268 h0 g _) (by decide) rfl wq1198 dX11_opens_1 ?_
  refine x_rd hW (fun x1 ex1 rx1 => ?_)
  refine x_bipush hx hb dX11_opens_4 (by decide) ?_
  refine x_icmp_ne (tgt := 19) hx hb rx1 (by decide) dX11_opens_6 (by decide) (fun c2 => ?_) (fun c2 => ?_)
  · skip
    refine x_aload_n hx hb hl 0 rfl dX11_opens_19 rfl ?_
    refine x_aload_n hx hb hl 0 rfl dX11_opens_20 rfl ?_
    refine x_get (j := 13) (v := .int (xJ (s0 268 13))) hx hb hown hT hE hW cls_X11 (Or.inl (by decide)) (so_268 h0 g _) (by decide) rfl wq1198 dX11_opens_21 ?_
    refine x_rd hW (fun x3 ex3 rx3 => ?_)
    refine x_iconst hx hb dX11_opens_24 ?_
    refine x_iadd hx hb dX11_opens_25 ?_
    refine x_any (fun x4 rx4 => ?_)
    refine x_put (j := 13) hx hb hown hT hE hW cls_X11 (by decide) (fun σ => so_268 h0 g σ) (by decide) (st_X11_13 h0 s0 268 x4) (ln_X11_13 h0 _ _) wq1198 rfl rfl rfl rx4 dX11_opens_26 (fun H locs s5 es5 hW => ?_)
    have q6 : IMn s5 := by rw [es5]; exact IMn_268 p0 (by omega)
    have q7 : IMk s5 := by rw [es5]; exact IMk_268 p1 (by omega)
    have q8 : IMo s5 := by rw [es5]; exact IMo_o (by unfold suIMo; omega) p2
    have q9 : IR s5 := by rw [es5]; exact IR_268 p3 (by omega)
    have q10 : s5 268 8 = s0 268 8 := (show s5 268 8 = s0 268 8 from by rw [es5, xU_j _ _ (by decide)]).trans k268_8
    have q11 : s5 268 58 = s0 268 58 := (show s5 268 58 = s0 268 58 from by rw [es5, xU_j _ _ (by decide)]).trans k268_58
    have q12 : s5 268 10 = s0 268 10 := (show s5 268 10 = s0 268 10 from by rw [es5, xU_j _ _ (by decide)]).trans k268_10
    have q13 : s5 268 14 = s0 268 14 := (show s5 268 14 = s0 268 14 from by rw [es5, xU_j _ _ (by decide)]).trans k268_14
    have q14 : s5 268 16 = s0 268 16 := (show s5 268 16 = s0 268 16 from by rw [es5, xU_j _ _ (by decide)]).trans k268_16
    have q15 : s5 268 34 = s0 268 34 := (show s5 268 34 = s0 268 34 from by rw [es5, xU_j _ _ (by decide)]).trans k268_34
    have q16 : s5 268 35 = s0 268 35 := (show s5 268 35 = s0 268 35 from by rw [es5, xU_j _ _ (by decide)]).trans k268_35
    have q17 : s5 268 36 = s0 268 36 := (show s5 268 36 = s0 268 36 from by rw [es5, xU_j _ _ (by decide)]).trans k268_36
    have q18 : s5 268 37 = s0 268 37 := (show s5 268 37 = s0 268 37 from by rw [es5, xU_j _ _ (by decide)]).trans k268_37
    have q19 : s5 268 9 = s0 268 9 := (show s5 268 9 = s0 268 9 from by rw [es5, xU_j _ _ (by decide)]).trans k268_9
    have q20 : s5 268 15 = s0 268 15 := (show s5 268 15 = s0 268 15 from by rw [es5, xU_j _ _ (by decide)]).trans k268_15
    have hF21 := hF.put es5 (by omega)
    have E26 := es5
    refine x_aload_n hx hb hl 0 rfl dX11_opens_29 rfl ?_
    refine x_get (j := 19) (v := .ref (h0 + 278)) hx hb hown hT hE hW cls_X11 (Or.inl (by decide)) (so_268 h0 g _) (by decide) rfl wq1204 dX11_opens_30 ?_
    refine x_aload_n hx hb hl 0 rfl dX11_opens_33 rfl ?_
    refine x_get (j := 15) (v := .int (xJ (s5 268 15))) hx hb hown hT hE hW cls_X11 (Or.inl (by decide)) (so_268 h0 g _) (by decide) rfl wq1200 dX11_opens_34 ?_
    refine x_rd hW (fun x22 ex22 rx22 => ?_)
    have fx22 : x22 = s0 268 15 := ex22.trans q20
    refine lv_ldc (v := xJ 1048576) hx hb hown (hT _ wq1482) dX11_opens_37 ?_
    refine x_iload_n hx hb hl 1 rfl dX11_opens_39 rfl ?_
    refine x_imul hx hb dX11_opens_40 ?_
    refine x_iast hx hb hE hW (by decide) (fun σ => sa_278 h0 g σ) (by omega) (by decide) (by omega) dX11_opens_41 (fun H locs s23 es23 hW => ?_)
    have q24 : IMn s23 := by rw [es23]; exact IMn_o (by unfold suIMn; omega) q6
    have q25 : IMk s23 := by rw [es23]; exact IMk_o (by unfold suIMk; omega) q7
    have q26 : IMo s23 := by rw [es23]; exact IMo_o (by unfold suIMo; omega) q8
    have q27 : IR s23 := by rw [es23]; exact IR_o (by unfold suIR; omega) q9
    have q28 : s23 268 8 = s0 268 8 := (show s23 268 8 = s5 268 8 from by rw [es23, xU_k _ _ _ (by omega)]).trans q10
    have q29 : s23 268 58 = s0 268 58 := (show s23 268 58 = s5 268 58 from by rw [es23, xU_k _ _ _ (by omega)]).trans q11
    have q30 : s23 268 10 = s0 268 10 := (show s23 268 10 = s5 268 10 from by rw [es23, xU_k _ _ _ (by omega)]).trans q12
    have q31 : s23 268 14 = s0 268 14 := (show s23 268 14 = s5 268 14 from by rw [es23, xU_k _ _ _ (by omega)]).trans q13
    have q32 : s23 268 16 = s0 268 16 := (show s23 268 16 = s5 268 16 from by rw [es23, xU_k _ _ _ (by omega)]).trans q14
    have q33 : s23 268 34 = s0 268 34 := (show s23 268 34 = s5 268 34 from by rw [es23, xU_k _ _ _ (by omega)]).trans q15
    have q34 : s23 268 35 = s0 268 35 := (show s23 268 35 = s5 268 35 from by rw [es23, xU_k _ _ _ (by omega)]).trans q16
    have q35 : s23 268 36 = s0 268 36 := (show s23 268 36 = s5 268 36 from by rw [es23, xU_k _ _ _ (by omega)]).trans q17
    have q36 : s23 268 37 = s0 268 37 := (show s23 268 37 = s5 268 37 from by rw [es23, xU_k _ _ _ (by omega)]).trans q18
    have q37 : s23 268 9 = s0 268 9 := (show s23 268 9 = s5 268 9 from by rw [es23, xU_k _ _ _ (by omega)]).trans q19
    have q38 : s23 268 15 = s0 268 15 := (show s23 268 15 = s5 268 15 from by rw [es23, xU_k _ _ _ (by omega)]).trans q20
    have hF39 := hF21.put es23 (by omega)
    have q40 : s23 278 = xud (s0 278) (s0 268 15) (1048576 * o) := by rw [es23, xU_xud, show x22 = s0 268 15 from by omega, E26, xU_k _ _ _ (by omega)]
    refine x_aload_n hx hb hl 0 rfl dX11_opens_42 rfl ?_
    refine x_aload_n hx hb hl 0 rfl dX11_opens_43 rfl ?_
    refine x_get (j := 15) (v := .int (xJ (s23 268 15))) hx hb hown hT hE hW cls_X11 (Or.inl (by decide)) (so_268 h0 g _) (by decide) rfl wq1200 dX11_opens_44 ?_
    refine x_rd hW (fun x41 ex41 rx41 => ?_)
    have fx41 : x41 = s0 268 15 := ex41.trans q38
    refine x_iconst hx hb dX11_opens_47 ?_
    refine x_iadd hx hb dX11_opens_48 ?_
    refine x_put (j := 15) hx hb hown hT hE hW cls_X11 (by decide) (fun σ => so_268 h0 g σ) (by decide) (st_X11_15 h0 s23 268 (x41 + 1)) (ln_X11_15 h0 _ _) wq1200 rfl rfl rfl (by omega) dX11_opens_49 (fun H locs s42 es42 hW => ?_)
    have q43 : IMn s42 := by rw [es42]; exact IMn_268 q24 (by omega)
    have q44 : IMk s42 := by rw [es42]; exact IMk_268 q25 (by omega)
    have q45 : IMo s42 := by rw [es42]; exact IMo_o (by unfold suIMo; omega) q26
    have q46 : IR s42 := by rw [es42]; exact IR_268 q27 (by omega)
    have q47 : s42 268 8 = s0 268 8 := (show s42 268 8 = s23 268 8 from by rw [es42, xU_j _ _ (by decide)]).trans q28
    have q48 : s42 268 58 = s0 268 58 := (show s42 268 58 = s23 268 58 from by rw [es42, xU_j _ _ (by decide)]).trans q29
    have q49 : s42 268 10 = s0 268 10 := (show s42 268 10 = s23 268 10 from by rw [es42, xU_j _ _ (by decide)]).trans q30
    have q50 : s42 268 14 = s0 268 14 := (show s42 268 14 = s23 268 14 from by rw [es42, xU_j _ _ (by decide)]).trans q31
    have q51 : s42 268 16 = s0 268 16 := (show s42 268 16 = s23 268 16 from by rw [es42, xU_j _ _ (by decide)]).trans q32
    have q52 : s42 268 34 = s0 268 34 := (show s42 268 34 = s23 268 34 from by rw [es42, xU_j _ _ (by decide)]).trans q33
    have q53 : s42 268 35 = s0 268 35 := (show s42 268 35 = s23 268 35 from by rw [es42, xU_j _ _ (by decide)]).trans q34
    have q54 : s42 268 36 = s0 268 36 := (show s42 268 36 = s23 268 36 from by rw [es42, xU_j _ _ (by decide)]).trans q35
    have q55 : s42 268 37 = s0 268 37 := (show s42 268 37 = s23 268 37 from by rw [es42, xU_j _ _ (by decide)]).trans q36
    have q56 : s42 268 9 = s0 268 9 := (show s42 268 9 = s23 268 9 from by rw [es42, xU_j _ _ (by decide)]).trans q37
    have q57 : s42 268 15 = (x41 + 1) := by rw [es42, xU_s]
    have q58 : s42 278 = xud (s0 278) (s0 268 15) (1048576 * o) := (show s42 278 = s23 278 from by rw [es42, xU_k _ _ _ (by omega)]).trans q40
    have hF59 := hF39.put es42 (by omega)
    refine x_aload_n hx hb hl 0 rfl dX11_opens_52 rfl ?_
    refine x_aload_n hx hb hl 0 rfl dX11_opens_53 rfl ?_
    refine x_get (j := 9) (v := .int (xJ (s42 268 9))) hx hb hown hT hE hW cls_X11 (Or.inl (by decide)) (so_268 h0 g _) (by decide) rfl wq1194 dX11_opens_54 ?_
    refine x_rd hW (fun x60 ex60 rx60 => ?_)
    have bx60 : 0 ≤ x60 ∧ x60 ≤ s42 268 10 ∧ s42 268 10 ≤ 240 := by rw [ex60]; exact q46
    have fx60 : x60 = s0 268 9 := ex60.trans q56
    refine x_iconst hx hb dX11_opens_57 ?_
    refine x_iadd hx hb dX11_opens_58 ?_
    refine x_put (j := 9) hx hb hown hT hE hW cls_X11 (by decide) (fun σ => so_268 h0 g σ) (by decide) (st_X11_9 h0 s42 268 (x60 + 1)) (ln_X11_9 h0 _ _) wq1194 rfl rfl rfl (by omega) dX11_opens_59 (fun H locs s61 es61 hW => ?_)
    have q62 : IMn s61 := by rw [es61]; exact IMn_268 q43 (by omega)
    have q63 : IMk s61 := by rw [es61]; exact IMk_268 q44 (by omega)
    have q64 : IMo s61 := by rw [es61]; exact IMo_o (by unfold suIMo; omega) q45
    have q65 : IR s61 := by rw [es61]; exact IR_268 q46 (by omega)
    have q66 : s61 268 8 = s0 268 8 := (show s61 268 8 = s42 268 8 from by rw [es61, xU_j _ _ (by decide)]).trans q47
    have q67 : s61 268 58 = s0 268 58 := (show s61 268 58 = s42 268 58 from by rw [es61, xU_j _ _ (by decide)]).trans q48
    have q68 : s61 268 10 = s0 268 10 := (show s61 268 10 = s42 268 10 from by rw [es61, xU_j _ _ (by decide)]).trans q49
    have q69 : s61 268 14 = s0 268 14 := (show s61 268 14 = s42 268 14 from by rw [es61, xU_j _ _ (by decide)]).trans q50
    have q70 : s61 268 16 = s0 268 16 := (show s61 268 16 = s42 268 16 from by rw [es61, xU_j _ _ (by decide)]).trans q51
    have q71 : s61 268 34 = s0 268 34 := (show s61 268 34 = s42 268 34 from by rw [es61, xU_j _ _ (by decide)]).trans q52
    have q72 : s61 268 35 = s0 268 35 := (show s61 268 35 = s42 268 35 from by rw [es61, xU_j _ _ (by decide)]).trans q53
    have q73 : s61 268 36 = s0 268 36 := (show s61 268 36 = s42 268 36 from by rw [es61, xU_j _ _ (by decide)]).trans q54
    have q74 : s61 268 37 = s0 268 37 := (show s61 268 37 = s42 268 37 from by rw [es61, xU_j _ _ (by decide)]).trans q55
    have q75 : s61 268 9 = (x60 + 1) := by rw [es61, xU_s]
    have q76 : s61 268 15 = (x41 + 1) := (show s61 268 15 = s42 268 15 from by rw [es61, xU_j _ _ (by decide)]).trans q57
    have q77 : s61 278 = xud (s0 278) (s0 268 15) (1048576 * o) := (show s61 278 = s42 278 from by rw [es61, xU_k _ _ _ (by omega)]).trans q58
    have hF78 := hF59.put es61 (by omega)
    refine x_iconst hx hb dX11_opens_62 ?_
    have U62 := q77
    rw [eQ]
    exact x_zret hx hb hr hlk hW (by omega) ⟨hF78, ⟨q62, q63, q64, q65, q66, q67, q68, q69, q70, q71, q72, q73, q74, trivial⟩, by first | exact Or.inl ⟨by omega, by omega⟩ | exact Or.inr ⟨rfl, by omega, by omega, U62⟩⟩ dX11_opens_63
  refine x_aload_n hx hb hl 0 rfl dX11_opens_9 rfl ?_
  refine x_iconst hx hb dX11_opens_10 ?_
  refine x_aload_n hx hb hl 0 rfl dX11_opens_11 rfl ?_
  refine x_get (j := 9) (v := .int (xJ (s0 268 9))) hx hb hown hT hE hW cls_X11 (Or.inl (by decide)) (so_268 h0 g _) (by decide) rfl wq1194 dX11_opens_12 ?_
  refine x_rd hW (fun x79 ex79 rx79 => ?_)
  have bx79 : 0 ≤ x79 ∧ x79 ≤ s0 268 10 ∧ s0 268 10 ≤ 240 := by rw [ex79]; exact p3
  have fx79 : x79 = s0 268 9 := ex79.trans k268_9
  refine x_goi (x_runV (As := [.int (xJ 5), .int (xJ x79)]) hx hb hml hown hT hE hW hl.1 (Or.inl (by decide)) (so_268 h0 g _) rfl cf_X11_wrongAt wq1401 wq107 wq1399 (c_X11_wrongAt l D g T h0 s0 hW.2.1 5 (by decide) x79 rx79 p0 p1 p2 p3) ⟨rfl, rfl, ⟨by decide, by decide⟩, ⟨by decide, by decide⟩⟩ rfl rfl (Nat.le_of_ble_eq_true rfl) dX11_opens_15) hW (fun x80 s81 H locs rx80 hp82 hW => ?_)
  obtain ⟨fs81, hp82⟩ := hp82
  have hF83 := hF.call fs81 (fun k h => by omega)
  have ghp82 := hp82.2
  rw [eQ]
  exact x_zret hx hb hr hlk hW (by omega) ⟨hF83, ⟨hp82.1.1, hp82.1.2.1, hp82.1.2.2.1, hp82.1.2.2.2.1, (hp82.1.2.2.2.2.1.trans k268_8), (hp82.1.2.2.2.2.2.1.trans k268_58), (hp82.1.2.2.2.2.2.2.2.1.trans k268_10), (hp82.1.2.2.2.2.2.2.2.2.1.trans k268_14), (hp82.1.2.2.2.2.2.2.2.2.2.2.1.trans k268_16), (hp82.1.2.2.2.2.2.2.2.2.2.2.2.1.trans k268_34), (hp82.1.2.2.2.2.2.2.2.2.2.2.2.2.1.trans k268_35), (hp82.1.2.2.2.2.2.2.2.2.2.2.2.2.2.1.trans k268_36), (hp82.1.2.2.2.2.2.2.2.2.2.2.2.2.2.2.1.trans k268_37), trivial⟩, by first | exact Or.inl ⟨by omega, by omega⟩ | exact Or.inr ⟨rfl, by omega, by omega, U62⟩⟩ dX11_opens_18
set_option maxHeartbeats 4000000 in
set_option maxRecDepth 100000 in
theorem c_X11_waitTop (l : Launch) (D : va_G) (g : xG) (T : Nat × Nat × Nat) (h0 : Nat) (s0 : xS) (hσ : xRR s0) (hw : 0 ≤ s0 268 15 ∧ s0 268 15 ≤ 260 ∧ (s0 268 15 = 0 ∨ 0 ≤ s0 278 (s0 268 15 - 1))) (p0 : IMn s0) (p1 : IMk s0) (p2 : IMo s0) (p3 : IR s0) : Met l yX11_waitTop (xws yX11_waitTop cX11_waitTop 1 (some .int)) { frames := 0, cells := 0, slots := 0, locals := 0 } (xP [.ref (h0 + 268)] D g T h0 s0) (xQi D g h0 (fun r τ => s0 = τ ∧ (r = ztW s0))) 0 0 (xA h0) := by
  refine x_met hσ (by decide) (Nat.le_of_ble_eq_true rfl) ?_
  intro p e s m args below meth c hx hb hr hml hown hT hlk hnm hE hW ls hl
  have hl : lv_has ls 1 [(0, .ref (h0 + 268))] := hl
  obtain ⟨Q, eQ⟩ : ∃ Q, Q = MQ below (xQi D g h0 (fun r τ => s0 = τ ∧ (r = ztW s0))) args s 0 0 (xA h0) := ⟨_, rfl⟩
  rw [← eQ]
  generalize hHe : ([] : List Loc) = locs at hW ⊢
  obtain ⟨H, eH⟩ : ∃ H, H = s.heap := ⟨_, rfl⟩
  rw [← eH] at hW ⊢
  have k268_8 : s0 268 8 = s0 268 8 := rfl
  have k268_58 : s0 268 58 = s0 268 58 := rfl
  have k268_15 : s0 268 15 = s0 268 15 := rfl
  refine x_aload_n hx hb hl 0 rfl dX11_waitTop_0 rfl ?_
  refine x_get (j := 15) (v := .int (xJ (s0 268 15))) hx hb hown hT hE hW cls_X11 (Or.inl (by decide)) (so_268 h0 g _) (by decide) rfl wq1200 dX11_waitTop_1 ?_
  refine x_rd hW (fun x1 ex1 rx1 => ?_)
  have fx1 : x1 = s0 268 15 := ex1.trans k268_15
  refine x_if_ne (tgt := 11) hx hb rx1 dX11_waitTop_4 (by decide) (fun c2 => ?_) (fun c2 => ?_)
  · skip
    refine x_aload_n hx hb hl 0 rfl dX11_waitTop_11 rfl ?_
    refine x_get (j := 19) (v := .ref (h0 + 278)) hx hb hown hT hE hW cls_X11 (Or.inl (by decide)) (so_268 h0 g _) (by decide) rfl wq1204 dX11_waitTop_12 ?_
    refine x_aload_n hx hb hl 0 rfl dX11_waitTop_15 rfl ?_
    refine x_get (j := 15) (v := .int (xJ (s0 268 15))) hx hb hown hT hE hW cls_X11 (Or.inl (by decide)) (so_268 h0 g _) (by decide) rfl wq1200 dX11_waitTop_16 ?_
    refine x_rd hW (fun x3 ex3 rx3 => ?_)
    have fx3 : x3 = s0 268 15 := ex3.trans k268_15
    refine x_iconst hx hb dX11_waitTop_19 ?_
    refine x_isub hx hb dX11_waitTop_20 ?_
    refine x_iald hx hb hE hW (Or.inl (by decide)) (sa_278 h0 g _) (by omega) (by decide) dX11_waitTop_21 ?_
    refine x_rd hW (fun x4 ex4 rx4 => ?_)
    have zx4 : x4 = s0 278 (s0 268 15 - 1) := by rw [ex4, show (x3 - 1) = s0 268 15 - 1 from by omega]
    refine lv_ldc (v := xJ 1048576) hx hb hown (hT _ wq1482) dX11_waitTop_22 ?_
    refine x_idiv hx hb rx4 (by decide) (by omega) (by decide) dX11_waitTop_24 ?_
    rw [eQ]
    exact x_iret hx hb hr hlk hW (by omega) ⟨rfl, by first | (have := ztW_0 (σ := s0) (by omega); omega) | (have := ztW_1 (σ := s0) (by omega); omega)⟩ dX11_waitTop_25
  refine x_iconst hx hb dX11_waitTop_7 ?_
  refine lv_goto (tgt := 25) hx hb dX11_waitTop_8 (by decide) ?_
  rw [eQ]
  exact x_iret hx hb hr hlk hW (by decide) ⟨rfl, by first | (have := ztW_0 (σ := s0) (by omega); omega) | (have := ztW_1 (σ := s0) (by omega); omega)⟩ dX11_waitTop_25
set_option maxHeartbeats 4000000 in
set_option maxRecDepth 100000 in
theorem c_X11_factOf (l : Launch) (D : va_G) (g : xG) (T : Nat × Nat × Nat) (h0 : Nat) (s0 : xS) (hσ : xRR s0) (x : Int) (rx : xR x) : Met l yX11_factOf (xws yX11_factOf cX11_factOf 1 (some .int)) { frames := 0, cells := 0, slots := 0, locals := 0 } (xP [.int (xJ x)] D g T h0 s0) (xQi D g h0 (fun r τ => s0 = τ ∧ (r = -1 ∨ (0 ≤ r ∧ r ≤ 6 ∧ 98 ≤ x)))) 0 0 (xA h0) := by
  refine x_met hσ (by decide) (Nat.le_of_ble_eq_true rfl) ?_
  intro p e s m args below meth c hx hb hr hml hown hT hlk hnm hE hW ls hl
  have hl : lv_has ls 1 [(0, .int (xJ x))] := hl
  obtain ⟨Q, eQ⟩ : ∃ Q, Q = MQ below (xQi D g h0 (fun r τ => s0 = τ ∧ (r = -1 ∨ (0 ≤ r ∧ r ≤ 6 ∧ 98 ≤ x)))) args s 0 0 (xA h0) := ⟨_, rfl⟩
  rw [← eQ]
  generalize hHe : ([] : List Loc) = locs at hW ⊢
  obtain ⟨H, eH⟩ : ∃ H, H = s.heap := ⟨_, rfl⟩
  rw [← eH] at hW ⊢
  refine x_iload_n hx hb hl 0 rfl dX11_factOf_0 rfl ?_
  rcases (show (x < 98 ∨ 119 < x) ∨ x = 98 ∨ x = 99 ∨ x = 100 ∨ x = 101 ∨ x = 102 ∨ x = 103 ∨ x = 104 ∨ x = 105 ∨ x = 106 ∨ x = 107 ∨ x = 108 ∨ x = 109 ∨ x = 110 ∨ x = 111 ∨ x = 112 ∨ x = 113 ∨ x = 114 ∨ x = 115 ∨ x = 116 ∨ x = 117 ∨ x = 118 ∨ x = 119 from by omega) with c1 | c1 | c1 | c1 | c1 | c1 | c1 | c1 | c1 | c1 | c1 | c1 | c1 | c1 | c1 | c1 | c1 | c1 | c1 | c1 | c1 | c1 | c1
  · refine x_tabOut (tgt := 119) hx hb rx dX11_factOf_1 c1 (by decide) ?_
    refine x_iconst hx hb dX11_factOf_119 ?_
    rw [eQ]
    exact x_iret hx hb hr hlk hW (by decide) ⟨rfl, by omega⟩ dX11_factOf_120
  · refine x_tabIn (v := 98) (tgt := 114) hx hb rx c1 dX11_factOf_1 (by decide) rfl (by decide) ?_
    refine x_iconst hx hb dX11_factOf_114 ?_
    rw [eQ]
    exact x_iret hx hb hr hlk hW (by decide) ⟨rfl, by omega⟩ dX11_factOf_115
  · refine x_tabIn (v := 99) (tgt := 119) hx hb rx c1 dX11_factOf_1 (by decide) rfl (by decide) ?_
    refine x_iconst hx hb dX11_factOf_119 ?_
    rw [eQ]
    exact x_iret hx hb hr hlk hW (by decide) ⟨rfl, by omega⟩ dX11_factOf_120
  · refine x_tabIn (v := 100) (tgt := 119) hx hb rx c1 dX11_factOf_1 (by decide) rfl (by decide) ?_
    refine x_iconst hx hb dX11_factOf_119 ?_
    rw [eQ]
    exact x_iret hx hb hr hlk hW (by decide) ⟨rfl, by omega⟩ dX11_factOf_120
  · refine x_tabIn (v := 101) (tgt := 119) hx hb rx c1 dX11_factOf_1 (by decide) rfl (by decide) ?_
    refine x_iconst hx hb dX11_factOf_119 ?_
    rw [eQ]
    exact x_iret hx hb hr hlk hW (by decide) ⟨rfl, by omega⟩ dX11_factOf_120
  · refine x_tabIn (v := 102) (tgt := 110) hx hb rx c1 dX11_factOf_1 (by decide) rfl (by decide) ?_
    refine x_iconst hx hb dX11_factOf_110 ?_
    rw [eQ]
    exact x_iret hx hb hr hlk hW (by decide) ⟨rfl, by omega⟩ dX11_factOf_111
  · refine x_tabIn (v := 103) (tgt := 119) hx hb rx c1 dX11_factOf_1 (by decide) rfl (by decide) ?_
    refine x_iconst hx hb dX11_factOf_119 ?_
    rw [eQ]
    exact x_iret hx hb hr hlk hW (by decide) ⟨rfl, by omega⟩ dX11_factOf_120
  · refine x_tabIn (v := 104) (tgt := 106) hx hb rx c1 dX11_factOf_1 (by decide) rfl (by decide) ?_
    refine x_iconst hx hb dX11_factOf_106 ?_
    rw [eQ]
    exact x_iret hx hb hr hlk hW (by decide) ⟨rfl, by omega⟩ dX11_factOf_107
  · refine x_tabIn (v := 105) (tgt := 119) hx hb rx c1 dX11_factOf_1 (by decide) rfl (by decide) ?_
    refine x_iconst hx hb dX11_factOf_119 ?_
    rw [eQ]
    exact x_iret hx hb hr hlk hW (by decide) ⟨rfl, by omega⟩ dX11_factOf_120
  · refine x_tabIn (v := 106) (tgt := 108) hx hb rx c1 dX11_factOf_1 (by decide) rfl (by decide) ?_
    refine x_iconst hx hb dX11_factOf_108 ?_
    rw [eQ]
    exact x_iret hx hb hr hlk hW (by decide) ⟨rfl, by omega⟩ dX11_factOf_109
  · refine x_tabIn (v := 107) (tgt := 119) hx hb rx c1 dX11_factOf_1 (by decide) rfl (by decide) ?_
    refine x_iconst hx hb dX11_factOf_119 ?_
    rw [eQ]
    exact x_iret hx hb hr hlk hW (by decide) ⟨rfl, by omega⟩ dX11_factOf_120
  · refine x_tabIn (v := 108) (tgt := 119) hx hb rx c1 dX11_factOf_1 (by decide) rfl (by decide) ?_
    refine x_iconst hx hb dX11_factOf_119 ?_
    rw [eQ]
    exact x_iret hx hb hr hlk hW (by decide) ⟨rfl, by omega⟩ dX11_factOf_120
  · refine x_tabIn (v := 109) (tgt := 119) hx hb rx c1 dX11_factOf_1 (by decide) rfl (by decide) ?_
    refine x_iconst hx hb dX11_factOf_119 ?_
    rw [eQ]
    exact x_iret hx hb hr hlk hW (by decide) ⟨rfl, by omega⟩ dX11_factOf_120
  · refine x_tabIn (v := 110) (tgt := 119) hx hb rx c1 dX11_factOf_1 (by decide) rfl (by decide) ?_
    refine x_iconst hx hb dX11_factOf_119 ?_
    rw [eQ]
    exact x_iret hx hb hr hlk hW (by decide) ⟨rfl, by omega⟩ dX11_factOf_120
  · refine x_tabIn (v := 111) (tgt := 119) hx hb rx c1 dX11_factOf_1 (by decide) rfl (by decide) ?_
    refine x_iconst hx hb dX11_factOf_119 ?_
    rw [eQ]
    exact x_iret hx hb hr hlk hW (by decide) ⟨rfl, by omega⟩ dX11_factOf_120
  · refine x_tabIn (v := 112) (tgt := 119) hx hb rx c1 dX11_factOf_1 (by decide) rfl (by decide) ?_
    refine x_iconst hx hb dX11_factOf_119 ?_
    rw [eQ]
    exact x_iret hx hb hr hlk hW (by decide) ⟨rfl, by omega⟩ dX11_factOf_120
  · refine x_tabIn (v := 113) (tgt := 119) hx hb rx c1 dX11_factOf_1 (by decide) rfl (by decide) ?_
    refine x_iconst hx hb dX11_factOf_119 ?_
    rw [eQ]
    exact x_iret hx hb hr hlk hW (by decide) ⟨rfl, by omega⟩ dX11_factOf_120
  · refine x_tabIn (v := 114) (tgt := 119) hx hb rx c1 dX11_factOf_1 (by decide) rfl (by decide) ?_
    refine x_iconst hx hb dX11_factOf_119 ?_
    rw [eQ]
    exact x_iret hx hb hr hlk hW (by decide) ⟨rfl, by omega⟩ dX11_factOf_120
  · refine x_tabIn (v := 115) (tgt := 116) hx hb rx c1 dX11_factOf_1 (by decide) rfl (by decide) ?_
    refine x_bipush hx hb dX11_factOf_116 (by decide) ?_
    rw [eQ]
    exact x_iret hx hb hr hlk hW (by decide) ⟨rfl, by omega⟩ dX11_factOf_118
  · refine x_tabIn (v := 116) (tgt := 104) hx hb rx c1 dX11_factOf_1 (by decide) rfl (by decide) ?_
    refine x_iconst hx hb dX11_factOf_104 ?_
    rw [eQ]
    exact x_iret hx hb hr hlk hW (by decide) ⟨rfl, by omega⟩ dX11_factOf_105
  · refine x_tabIn (v := 117) (tgt := 119) hx hb rx c1 dX11_factOf_1 (by decide) rfl (by decide) ?_
    refine x_iconst hx hb dX11_factOf_119 ?_
    rw [eQ]
    exact x_iret hx hb hr hlk hW (by decide) ⟨rfl, by omega⟩ dX11_factOf_120
  · refine x_tabIn (v := 118) (tgt := 119) hx hb rx c1 dX11_factOf_1 (by decide) rfl (by decide) ?_
    refine x_iconst hx hb dX11_factOf_119 ?_
    rw [eQ]
    exact x_iret hx hb hr hlk hW (by decide) ⟨rfl, by omega⟩ dX11_factOf_120
  · refine x_tabIn (v := 119) (tgt := 112) hx hb rx c1 dX11_factOf_1 (by decide) rfl (by decide) ?_
    refine x_iconst hx hb dX11_factOf_112 ?_
    rw [eQ]
    exact x_iret hx hb hr hlk hW (by decide) ⟨rfl, by omega⟩ dX11_factOf_113
set_option maxHeartbeats 4000000 in
set_option maxRecDepth 100000 in
theorem c_X11_sumSign (l : Launch) (D : va_G) (g : xG) (T : Nat × Nat × Nat) (h0 : Nat) (s0 : xS) (hσ : xRR s0) (x : Int) (rx : xR x) : Met l yX11_sumSign (xws yX11_sumSign cX11_sumSign 1 (some .int)) { frames := 0, cells := 0, slots := 0, locals := 0 } (xP [.int (xJ x)] D g T h0 s0) (xQi D g h0 (fun r τ => s0 = τ ∧ (r = -1 ∨ (2 ≤ r ∧ r ≤ 6 ∧ 37 ≤ x)))) 0 0 (xA h0) := by
  refine x_met hσ (by decide) (Nat.le_of_ble_eq_true rfl) ?_
  intro p e s m args below meth c hx hb hr hml hown hT hlk hnm hE hW ls hl
  have hl : lv_has ls 1 [(0, .int (xJ x))] := hl
  obtain ⟨Q, eQ⟩ : ∃ Q, Q = MQ below (xQi D g h0 (fun r τ => s0 = τ ∧ (r = -1 ∨ (2 ≤ r ∧ r ≤ 6 ∧ 37 ≤ x)))) args s 0 0 (xA h0) := ⟨_, rfl⟩
  rw [← eQ]
  generalize hHe : ([] : List Loc) = locs at hW ⊢
  obtain ⟨H, eH⟩ : ∃ H, H = s.heap := ⟨_, rfl⟩
  rw [← eH] at hW ⊢
  refine x_iload_n hx hb hl 0 rfl dX11_sumSign_0 rfl ?_
  refine x_bipush hx hb dX11_sumSign_1 (by decide) ?_
  refine x_icmp_ne (tgt := 10) hx hb rx (by decide) dX11_sumSign_3 (by decide) (fun c1 => ?_) (fun c1 => ?_)
  · skip
    refine x_iload_n hx hb hl 0 rfl dX11_sumSign_10 rfl ?_
    refine x_bipush hx hb dX11_sumSign_11 (by decide) ?_
    refine x_icmp_ne (tgt := 20) hx hb rx (by decide) dX11_sumSign_13 (by decide) (fun c2 => ?_) (fun c2 => ?_)
    · skip
      refine x_iload_n hx hb hl 0 rfl dX11_sumSign_20 rfl ?_
      refine x_bipush hx hb dX11_sumSign_21 (by decide) ?_
      refine x_icmp_ne (tgt := 30) hx hb rx (by decide) dX11_sumSign_23 (by decide) (fun c3 => ?_) (fun c3 => ?_)
      · skip
        refine x_iload_n hx hb hl 0 rfl dX11_sumSign_30 rfl ?_
        refine x_bipush hx hb dX11_sumSign_31 (by decide) ?_
        refine x_icmp_ne (tgt := 40) hx hb rx (by decide) dX11_sumSign_33 (by decide) (fun c4 => ?_) (fun c4 => ?_)
        · skip
          refine x_iload_n hx hb hl 0 rfl dX11_sumSign_40 rfl ?_
          refine x_bipush hx hb dX11_sumSign_41 (by decide) ?_
          refine x_icmp_ne (tgt := 51) hx hb rx (by decide) dX11_sumSign_43 (by decide) (fun c5 => ?_) (fun c5 => ?_)
          · skip
            refine x_iconst hx hb dX11_sumSign_51 ?_
            rw [eQ]
            exact x_iret hx hb hr hlk hW (by decide) ⟨rfl, by omega⟩ dX11_sumSign_52
          refine x_bipush hx hb dX11_sumSign_46 (by decide) ?_
          refine lv_goto (tgt := 52) hx hb dX11_sumSign_48 (by decide) ?_
          rw [eQ]
          exact x_iret hx hb hr hlk hW (by decide) ⟨rfl, by omega⟩ dX11_sumSign_52
        refine x_iconst hx hb dX11_sumSign_36 ?_
        refine lv_goto (tgt := 52) hx hb dX11_sumSign_37 (by decide) ?_
        rw [eQ]
        exact x_iret hx hb hr hlk hW (by decide) ⟨rfl, by omega⟩ dX11_sumSign_52
      refine x_iconst hx hb dX11_sumSign_26 ?_
      refine lv_goto (tgt := 52) hx hb dX11_sumSign_27 (by decide) ?_
      rw [eQ]
      exact x_iret hx hb hr hlk hW (by decide) ⟨rfl, by omega⟩ dX11_sumSign_52
    refine x_iconst hx hb dX11_sumSign_16 ?_
    refine lv_goto (tgt := 52) hx hb dX11_sumSign_17 (by decide) ?_
    rw [eQ]
    exact x_iret hx hb hr hlk hW (by decide) ⟨rfl, by omega⟩ dX11_sumSign_52
  refine x_iconst hx hb dX11_sumSign_6 ?_
  refine lv_goto (tgt := 52) hx hb dX11_sumSign_7 (by decide) ?_
  rw [eQ]
  exact x_iret hx hb hr hlk hW (by decide) ⟨rfl, by omega⟩ dX11_sumSign_52
set_option maxHeartbeats 4000000 in
set_option maxRecDepth 100000 in
theorem c_X11_isClause (l : Launch) (D : va_G) (g : xG) (T : Nat × Nat × Nat) (h0 : Nat) (s0 : xS) (hσ : xRR s0) (x : Int) (rx : xR x) : Met l yX11_isClause (xws yX11_isClause cX11_isClause 1 (some .boolean)) { frames := 0, cells := 0, slots := 0, locals := 0 } (xP [.int (xJ x)] D g T h0 s0) (xQi D g h0 (fun r τ => s0 = τ ∧ (r = 0 ∨ (r = 1 ∧ 97 ≤ x)))) 0 0 (xA h0) := by
  refine x_met hσ (by decide) (Nat.le_of_ble_eq_true rfl) ?_
  intro p e s m args below meth c hx hb hr hml hown hT hlk hnm hE hW ls hl
  have hl : lv_has ls 1 [(0, .int (xJ x))] := hl
  obtain ⟨Q, eQ⟩ : ∃ Q, Q = MQ below (xQi D g h0 (fun r τ => s0 = τ ∧ (r = 0 ∨ (r = 1 ∧ 97 ≤ x)))) args s 0 0 (xA h0) := ⟨_, rfl⟩
  rw [← eQ]
  generalize hHe : ([] : List Loc) = locs at hW ⊢
  obtain ⟨H, eH⟩ : ∃ H, H = s.heap := ⟨_, rfl⟩
  rw [← eH] at hW ⊢
  refine x_iload_n hx hb hl 0 rfl dX11_isClause_0 rfl ?_
  refine x_bipush hx hb dX11_isClause_1 (by decide) ?_
  refine x_icmp_eq (tgt := 36) hx hb rx (by decide) dX11_isClause_3 (by decide) (fun c1 => ?_) (fun c1 => ?_)
  · skip
    refine x_iconst hx hb dX11_isClause_36 ?_
    refine lv_goto (tgt := 41) hx hb dX11_isClause_37 (by decide) ?_
    rw [eQ]
    exact x_zret hx hb hr hlk hW (by omega) ⟨rfl, by omega⟩ dX11_isClause_41
  refine x_iload_n hx hb hl 0 rfl dX11_isClause_6 rfl ?_
  refine x_bipush hx hb dX11_isClause_7 (by decide) ?_
  refine x_icmp_eq (tgt := 36) hx hb rx (by decide) dX11_isClause_9 (by decide) (fun c2 => ?_) (fun c2 => ?_)
  · skip
    refine x_iconst hx hb dX11_isClause_36 ?_
    refine lv_goto (tgt := 41) hx hb dX11_isClause_37 (by decide) ?_
    rw [eQ]
    exact x_zret hx hb hr hlk hW (by omega) ⟨rfl, by omega⟩ dX11_isClause_41
  refine x_iload_n hx hb hl 0 rfl dX11_isClause_12 rfl ?_
  refine x_bipush hx hb dX11_isClause_13 (by decide) ?_
  refine x_icmp_eq (tgt := 36) hx hb rx (by decide) dX11_isClause_15 (by decide) (fun c3 => ?_) (fun c3 => ?_)
  · skip
    refine x_iconst hx hb dX11_isClause_36 ?_
    refine lv_goto (tgt := 41) hx hb dX11_isClause_37 (by decide) ?_
    rw [eQ]
    exact x_zret hx hb hr hlk hW (by omega) ⟨rfl, by omega⟩ dX11_isClause_41
  refine x_iload_n hx hb hl 0 rfl dX11_isClause_18 rfl ?_
  refine x_bipush hx hb dX11_isClause_19 (by decide) ?_
  refine x_icmp_eq (tgt := 36) hx hb rx (by decide) dX11_isClause_21 (by decide) (fun c4 => ?_) (fun c4 => ?_)
  · skip
    refine x_iconst hx hb dX11_isClause_36 ?_
    refine lv_goto (tgt := 41) hx hb dX11_isClause_37 (by decide) ?_
    rw [eQ]
    exact x_zret hx hb hr hlk hW (by omega) ⟨rfl, by omega⟩ dX11_isClause_41
  refine x_iload_n hx hb hl 0 rfl dX11_isClause_24 rfl ?_
  refine x_bipush hx hb dX11_isClause_25 (by decide) ?_
  refine x_icmp_eq (tgt := 36) hx hb rx (by decide) dX11_isClause_27 (by decide) (fun c5 => ?_) (fun c5 => ?_)
  · skip
    refine x_iconst hx hb dX11_isClause_36 ?_
    refine lv_goto (tgt := 41) hx hb dX11_isClause_37 (by decide) ?_
    rw [eQ]
    exact x_zret hx hb hr hlk hW (by omega) ⟨rfl, by omega⟩ dX11_isClause_41
  refine x_iload_n hx hb hl 0 rfl dX11_isClause_30 rfl ?_
  refine x_bipush hx hb dX11_isClause_31 (by decide) ?_
  refine x_icmp_ne (tgt := 40) hx hb rx (by decide) dX11_isClause_33 (by decide) (fun c6 => ?_) (fun c6 => ?_)
  · skip
    refine x_iconst hx hb dX11_isClause_40 ?_
    rw [eQ]
    exact x_zret hx hb hr hlk hW (by omega) ⟨rfl, by omega⟩ dX11_isClause_41
  refine x_iconst hx hb dX11_isClause_36 ?_
  refine lv_goto (tgt := 41) hx hb dX11_isClause_37 (by decide) ?_
  rw [eQ]
  exact x_zret hx hb hr hlk hW (by omega) ⟨rfl, by omega⟩ dX11_isClause_41
set_option maxHeartbeats 4000000 in
set_option maxRecDepth 100000 in
theorem c_X11_isSpotSign (l : Launch) (D : va_G) (g : xG) (T : Nat × Nat × Nat) (h0 : Nat) (s0 : xS) (hσ : xRR s0) (x : Int) (rx : xR x) (hx0 : -1 ≤ x) : Met l yX11_isSpotSign (xws yX11_isSpotSign cX11_isSpotSign 1 (some .boolean)) { frames := 0, cells := 0, slots := 0, locals := 0 } (xP [.int (xJ x)] D g T h0 s0) (xQi D g h0 (fun r τ => s0 = τ ∧ (0 ≤ r ∧ r ≤ 1 ∧ 36 * r ≤ x + 1))) 0 0 (xA h0) := by
  refine x_met hσ (by decide) (Nat.le_of_ble_eq_true rfl) ?_
  intro p e s m args below meth c hx hb hr hml hown hT hlk hnm hE hW ls hl
  have hl : lv_has ls 1 [(0, .int (xJ x))] := hl
  obtain ⟨Q, eQ⟩ : ∃ Q, Q = MQ below (xQi D g h0 (fun r τ => s0 = τ ∧ (0 ≤ r ∧ r ≤ 1 ∧ 36 * r ≤ x + 1))) args s 0 0 (xA h0) := ⟨_, rfl⟩
  rw [← eQ]
  generalize hHe : ([] : List Loc) = locs at hW ⊢
  obtain ⟨H, eH⟩ : ∃ H, H = s.heap := ⟨_, rfl⟩
  rw [← eH] at hW ⊢
  refine x_iload_n hx hb hl 0 rfl dX11_isSpotSign_0 rfl ?_
  refine x_bipush hx hb dX11_isSpotSign_1 (by decide) ?_
  refine x_icmp_eq (tgt := 24) hx hb rx (by decide) dX11_isSpotSign_3 (by decide) (fun c1 => ?_) (fun c1 => ?_)
  · skip
    refine x_iconst hx hb dX11_isSpotSign_24 ?_
    refine lv_goto (tgt := 29) hx hb dX11_isSpotSign_25 (by decide) ?_
    rw [eQ]
    exact x_zret hx hb hr hlk hW (by omega) ⟨rfl, by omega⟩ dX11_isSpotSign_29
  refine x_iload_n hx hb hl 0 rfl dX11_isSpotSign_6 rfl ?_
  refine x_bipush hx hb dX11_isSpotSign_7 (by decide) ?_
  refine x_icmp_eq (tgt := 24) hx hb rx (by decide) dX11_isSpotSign_9 (by decide) (fun c2 => ?_) (fun c2 => ?_)
  · skip
    refine x_iconst hx hb dX11_isSpotSign_24 ?_
    refine lv_goto (tgt := 29) hx hb dX11_isSpotSign_25 (by decide) ?_
    rw [eQ]
    exact x_zret hx hb hr hlk hW (by omega) ⟨rfl, by omega⟩ dX11_isSpotSign_29
  refine x_iload_n hx hb hl 0 rfl dX11_isSpotSign_12 rfl ?_
  refine x_bipush hx hb dX11_isSpotSign_13 (by decide) ?_
  refine x_icmp_eq (tgt := 24) hx hb rx (by decide) dX11_isSpotSign_15 (by decide) (fun c3 => ?_) (fun c3 => ?_)
  · skip
    refine x_iconst hx hb dX11_isSpotSign_24 ?_
    refine lv_goto (tgt := 29) hx hb dX11_isSpotSign_25 (by decide) ?_
    rw [eQ]
    exact x_zret hx hb hr hlk hW (by omega) ⟨rfl, by omega⟩ dX11_isSpotSign_29
  refine x_iload_n hx hb hl 0 rfl dX11_isSpotSign_18 rfl ?_
  refine x_bipush hx hb dX11_isSpotSign_19 (by decide) ?_
  refine x_icmp_ne (tgt := 28) hx hb rx (by decide) dX11_isSpotSign_21 (by decide) (fun c4 => ?_) (fun c4 => ?_)
  · skip
    refine x_iconst hx hb dX11_isSpotSign_28 ?_
    rw [eQ]
    exact x_zret hx hb hr hlk hW (by omega) ⟨rfl, by omega⟩ dX11_isSpotSign_29
  refine x_iconst hx hb dX11_isSpotSign_24 ?_
  refine lv_goto (tgt := 29) hx hb dX11_isSpotSign_25 (by decide) ?_
  rw [eQ]
  exact x_zret hx hb hr hlk hW (by omega) ⟨rfl, by omega⟩ dX11_isSpotSign_29
set_option maxHeartbeats 4000000 in
set_option maxRecDepth 100000 in
theorem c_X11_isTimes (l : Launch) (D : va_G) (g : xG) (T : Nat × Nat × Nat) (h0 : Nat) (s0 : xS) (hσ : xRR s0) (x : Int) (rx : xR x) (hx0 : -1 ≤ x ∧ x ≤ 255) : Met l yX11_isTimes (xws yX11_isTimes cX11_isTimes 1 (some .boolean)) { frames := 1, cells := 0, slots := 0, locals := 22 } (xP [.int (xJ x)] D g T h0 s0) (xQi D g h0 (fun r τ => s0 = τ ∧ (0 ≤ r ∧ r ≤ 1 ∧ 49 * r ≤ x + 1 ∧ x ≤ 57 + 198 * (1 - r)))) 0 0 (xA h0) := by
  refine x_met hσ (by decide) (Nat.le_of_ble_eq_true rfl) ?_
  intro p e s m args below meth c hx hb hr hml hown hT hlk hnm hE hW ls hl
  have hl : lv_has ls 1 [(0, .int (xJ x))] := hl
  obtain ⟨Q, eQ⟩ : ∃ Q, Q = MQ below (xQi D g h0 (fun r τ => s0 = τ ∧ (0 ≤ r ∧ r ≤ 1 ∧ 49 * r ≤ x + 1 ∧ x ≤ 57 + 198 * (1 - r)))) args s 0 0 (xA h0) := ⟨_, rfl⟩
  rw [← eQ]
  generalize hHe : ([] : List Loc) = locs at hW ⊢
  obtain ⟨H, eH⟩ : ∃ H, H = s.heap := ⟨_, rfl⟩
  rw [← eH] at hW ⊢
  refine x_iload_n hx hb hl 0 rfl dX11_isTimes_0 rfl ?_
  refine x_bipush hx hb dX11_isTimes_1 (by decide) ?_
  refine x_icmp_eq (tgt := 17) hx hb rx (by decide) dX11_isTimes_3 (by decide) (fun c1 => ?_) (fun c1 => ?_)
  · skip
    refine x_iconst hx hb dX11_isTimes_17 ?_
    refine lv_goto (tgt := 22) hx hb dX11_isTimes_18 (by decide) ?_
    rw [eQ]
    exact x_zret hx hb hr hlk hW (by omega) ⟨rfl, by omega⟩ dX11_isTimes_22
  refine x_iload_n hx hb hl 0 rfl dX11_isTimes_6 rfl ?_
  refine x_bipush hx hb dX11_isTimes_7 (by decide) ?_
  refine x_bipush hx hb dX11_isTimes_9 (by decide) ?_
  refine x_goi (x_runS (As := [.int (xJ x), .int (xJ 50), .int (xJ 57)]) hx hb hml hown hT hE hW hl.1 cf_X11_in wq1383 wq1382 (c_X11_in l D g T h0 s0 hW.2.1 x rx 50 (by decide) 57 (by decide)) ⟨rfl, rfl, ⟨by decide, by decide⟩, ⟨by decide, by decide⟩⟩ rfl rfl (Nat.le_of_ble_eq_true rfl) dX11_isTimes_11) hW (fun x2 s3 H locs rx2 hp4 hW => ?_)
  obtain ⟨es3, hp4⟩ := hp4
  subst es3
  have ghp4 := hp4
  refine x_if_eq (tgt := 21) hx hb rx2 dX11_isTimes_14 (by decide) (fun c5 => ?_) (fun c5 => ?_)
  · skip
    refine x_iconst hx hb dX11_isTimes_21 ?_
    rw [eQ]
    exact x_zret hx hb hr hlk hW (by omega) ⟨rfl, by omega⟩ dX11_isTimes_22
  refine x_iconst hx hb dX11_isTimes_17 ?_
  refine lv_goto (tgt := 22) hx hb dX11_isTimes_18 (by decide) ?_
  rw [eQ]
  exact x_zret hx hb hr hlk hW (by omega) ⟨rfl, by omega⟩ dX11_isTimes_22
set_option maxHeartbeats 4000000 in
set_option maxRecDepth 100000 in
theorem c_X11_wayOf (l : Launch) (D : va_G) (g : xG) (T : Nat × Nat × Nat) (h0 : Nat) (s0 : xS) (hσ : xRR s0) (x : Int) (rx : xR x) : Met l yX11_wayOf (xws yX11_wayOf cX11_wayOf 1 (some .int)) { frames := 0, cells := 0, slots := 0, locals := 0 } (xP [.int (xJ x)] D g T h0 s0) (xQi D g h0 (fun r τ => s0 = τ ∧ (r = -1 ∨ (0 ≤ r ∧ r ≤ 8 ∧ 46 ≤ x)))) 0 0 (xA h0) := by
  refine x_met hσ (by decide) (Nat.le_of_ble_eq_true rfl) ?_
  intro p e s m args below meth c hx hb hr hml hown hT hlk hnm hE hW ls hl
  have hl : lv_has ls 1 [(0, .int (xJ x))] := hl
  obtain ⟨Q, eQ⟩ : ∃ Q, Q = MQ below (xQi D g h0 (fun r τ => s0 = τ ∧ (r = -1 ∨ (0 ≤ r ∧ r ≤ 8 ∧ 46 ≤ x)))) args s 0 0 (xA h0) := ⟨_, rfl⟩
  rw [← eQ]
  generalize hHe : ([] : List Loc) = locs at hW ⊢
  obtain ⟨H, eH⟩ : ∃ H, H = s.heap := ⟨_, rfl⟩
  rw [← eH] at hW ⊢
  refine x_iload_n hx hb hl 0 rfl dX11_wayOf_0 rfl ?_
  rcases (show (x ≠ 46 ∧ x ≠ 101 ∧ x ≠ 110 ∧ x ≠ 115 ∧ x ≠ 119) ∨ x = 46 ∨ x = 101 ∨ x = 110 ∨ x = 115 ∨ x = 119 from by omega) with c1 | c1 | c1 | c1 | c1 | c1
  · refine x_look (tgt := 64) (off := 63) hx hb rx dX11_wayOf_1 rfl (xlk_n (by simp; omega)) (by decide) ?_
    refine x_iconst hx hb dX11_wayOf_64 ?_
    rw [eQ]
    exact x_iret hx hb hr hlk hW (by decide) ⟨rfl, by omega⟩ dX11_wayOf_65
  · refine x_look (tgt := 61) (off := 60) hx hb rx dX11_wayOf_1 rfl (by rw [c1]; rfl) (by decide) ?_
    refine x_bipush hx hb dX11_wayOf_61 (by decide) ?_
    rw [eQ]
    exact x_iret hx hb hr hlk hW (by decide) ⟨rfl, by omega⟩ dX11_wayOf_63
  · refine x_look (tgt := 54) (off := 53) hx hb rx dX11_wayOf_1 rfl (by rw [c1]; rfl) (by decide) ?_
    refine x_iconst hx hb dX11_wayOf_54 ?_
    rw [eQ]
    exact x_iret hx hb hr hlk hW (by decide) ⟨rfl, by omega⟩ dX11_wayOf_55
  · refine x_look (tgt := 52) (off := 51) hx hb rx dX11_wayOf_1 rfl (by rw [c1]; rfl) (by decide) ?_
    refine x_iconst hx hb dX11_wayOf_52 ?_
    rw [eQ]
    exact x_iret hx hb hr hlk hW (by decide) ⟨rfl, by omega⟩ dX11_wayOf_53
  · refine x_look (tgt := 56) (off := 55) hx hb rx dX11_wayOf_1 rfl (by rw [c1]; rfl) (by decide) ?_
    refine x_iconst hx hb dX11_wayOf_56 ?_
    rw [eQ]
    exact x_iret hx hb hr hlk hW (by decide) ⟨rfl, by omega⟩ dX11_wayOf_57
  · refine x_look (tgt := 58) (off := 57) hx hb rx dX11_wayOf_1 rfl (by rw [c1]; rfl) (by decide) ?_
    refine x_bipush hx hb dX11_wayOf_58 (by decide) ?_
    rw [eQ]
    exact x_iret hx hb hr hlk hW (by decide) ⟨rfl, by omega⟩ dX11_wayOf_60
