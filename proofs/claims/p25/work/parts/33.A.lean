/-! ===== the market's text ===== -/
def zch (f : Int → Int) (n p : Int) : Int := if p < n then f p else -1
theorem zch_i {f : Int → Int} {n p c : Int} (h : (p < n ∧ c = f p) ∨ (n ≤ p ∧ c = -1)) : c = zch f n p := by
  unfold zch
  rcases h with ⟨a, b⟩ | ⟨a, b⟩
  · rw [if_pos a, b]
  · rw [if_neg (by omega), b]
def zkd (c : Int) : Int := if c = 46 then 0 else if c = 35 then 1 else if c = 115 then 2 else if c = 114 then 3 else -1
theorem zkd_i {c r : Int} (h : (c = 46 ∧ r = 0) ∨ (c = 35 ∧ r = 1) ∨ (c = 115 ∧ r = 2) ∨ (c = 114 ∧ r = 3) ∨ (c ≠ 46 ∧ c ≠ 35 ∧ c ≠ 115 ∧ c ≠ 114 ∧ r = -1)) : r = zkd c := by
  unfold zkd
  (repeat' split) <;> omega
theorem zkd_r (c : Int) : -1 ≤ zkd c ∧ zkd c ≤ 3 := by
  unfold zkd
  (repeat' split) <;> omega
def ztm (c : Int) : Int := if c = 48 then 10 else if 50 ≤ c ∧ c ≤ 57 then c - 48 else 0
theorem ztm_i {c r : Int} (h : (c = 48 ∧ r = 10) ∨ (50 ≤ c ∧ c ≤ 57 ∧ r = c - 48) ∨ (c ≠ 48 ∧ (c < 50 ∨ 57 < c) ∧ r = 0)) : r = ztm c := by
  unfold ztm
  (repeat' split) <;> omega
theorem ztm_r (c : Int) : ztm c = 0 ∨ (2 ≤ ztm c ∧ ztm c ≤ 10) := by
  unfold ztm
  (repeat' split) <;> omega
def zfill (K : Int → Int) (a t v : Int) : Int → Int := fun j => if a ≤ j ∧ j < a + t then v else K j
theorem zfill_0 (K : Int → Int) (a v : Int) {t : Int} (h : t = 0) : K = zfill K a t v := funext fun j => (if_neg (by omega)).symm
theorem zfill_c {K : Int → Int} {a a2 t t2 v v2 : Int} (h1 : a = a2) (h2 : t = t2) (h3 : v = v2) : zfill K a t v = zfill K a2 t2 v2 := by rw [h1, h2, h3]
theorem zfill_s {K K1 : Int → Int} {a t v i t2 w : Int} (h : K1 = zfill K a t v) (hi : i = a + t) (ht : 0 ≤ t) (h2 : t2 = t + 1) (hw : w = v) : xud K1 i w = zfill K a t2 v := by
  subst h2; subst hi; subst hw
  funext j
  unfold xud
  rw [h]
  unfold zfill
  by_cases e : j = a + t
  · rw [if_pos e, if_pos (by omega)]
  · rw [if_neg e]
    by_cases q : a ≤ j ∧ j < a + t
    · rw [if_pos q, if_pos (by omega)]
    · rw [if_neg q, if_neg (by omega)]
def zp1 (f : Int → Int) (n p : Int) : Int := if 0 < ztm (zch f n p) then p + 1 else p
def ztx (f : Int → Int) (n p : Int) : Int := if 0 < ztm (zch f n p) then ztm (zch f n p) else 1
def zrow (f : Int → Int) (n y : Int) : Nat → Int → Int → (Int → Int) → Int × Int × (Int → Int)
  | 0, p, _, K => (0, p, K)
  | k + 1, p, x, K => if 10 ≤ x then (0, p, K) else if 10 < x + ztm (zch f n p) then (-6000 - p, p, K) else
    if zkd (zch f n (zp1 f n p)) = -1 then (-1000 - zp1 f n p, p, K) else
    zrow f n y k (zp1 f n p + 1) (x + ztx f n p) (zfill K (10 * y + x) (ztx f n p) (zkd (zch f n (zp1 f n p))))
/-- a row's reading, from where it stands -/
def zRS (f : Int → Int) (n y : Int) (Z : Int × Int × (Int → Int)) (p x : Int) (K : Int → Int) : Prop := ∃ k : Nat, 10 - x ≤ (k : Int) ∧ Z = zrow f n y k p x K
section ZR
variable {f : Int → Int} {n y p x : Int} {K : Int → Int} {Z : Int × Int × (Int → Int)}
theorem zRS.new : zRS f n y (zrow f n y 10 p 0 K) p 0 K := ⟨10, by omega, rfl⟩
theorem zRS.fin (h : zRS f n y Z p x K) (hx : 10 ≤ x) : Z = (0, p, K) := by
  obtain ⟨k, hk, e⟩ := h
  cases k with
  | zero => exact e
  | succ k => exact e.trans (if_pos hx)
theorem zRS.six (h : zRS f n y Z p x K) (hx : x < 10) (ht : 10 < x + ztm (zch f n p)) : Z = (-6000 - p, p, K) := by
  obtain ⟨k, hk, e⟩ := h
  cases k with
  | zero => omega
  | succ k => exact e.trans ((if_neg (by omega)).trans (if_pos ht))
theorem zp1_i {t p1 : Int} (ht : t = ztm (zch f n p)) (h : (0 < t ∧ p1 = p + 1) ∨ (t ≤ 0 ∧ p1 = p)) : p1 = zp1 f n p := by
  unfold zp1
  rw [← ht]
  split <;> omega
theorem ztx_i {t w : Int} (ht : t = ztm (zch f n p)) (h : (0 < t ∧ w = t) ∨ (t ≤ 0 ∧ w = 1)) : w = ztx f n p := by
  unfold ztx
  rw [← ht]
  split <;> omega
theorem zRS.one {t p1 : Int} (h : zRS f n y Z p x K) (hx : x < 10) (ht : t = ztm (zch f n p)) (h6 : x + t ≤ 10) (hp : (0 < t ∧ p1 = p + 1) ∨ (t ≤ 0 ∧ p1 = p)) (hv : zkd (zch f n p1) = -1) : Z = (-1000 - p1, p, K) := by
  have e1 := zp1_i ht hp
  obtain ⟨k, hk, e⟩ := h
  rw [e1] at hv ⊢
  cases k with
  | zero => omega
  | succ k => exact e.trans ((if_neg (by omega)).trans ((if_neg (by omega)).trans (if_pos hv)))
theorem zRS.step {t p1 v x2 p2 : Int} {K2 : Int → Int} (h : zRS f n y Z p x K) (hx : x < 10) (ht : t = ztm (zch f n p)) (h6 : x + t ≤ 10) (hp : (0 < t ∧ p1 = p + 1) ∨ (t ≤ 0 ∧ p1 = p)) (hv : v = zkd (zch f n p1)) (hv1 : v ≠ -1) (hx2 : (0 < t ∧ x2 = x + t) ∨ (t ≤ 0 ∧ x2 = x + 1)) (hp2 : p2 = p1 + 1) (hK : K2 = zfill K (10 * y + x) (x2 - x) v) : zRS f n y Z p2 x2 K2 := by
  have e1 := zp1_i ht hp
  have e2 : x2 - x = ztx f n p := ztx_i ht (by omega)
  have e3 := ztm_r (zch f n p)
  obtain ⟨k, hk, e⟩ := h
  cases k with
  | zero => omega
  | succ k =>
    refine ⟨k, by omega, e.trans ((if_neg (by omega)).trans ((if_neg (by omega)).trans ((if_neg (by rw [← e1, ← hv]; exact hv1)).trans ?_)))⟩
    rw [← e1, ← e2, ← hv, hp2, hK, show x + (x2 - x) = x2 from by omega]
end ZR
/-- a row and what must stand behind it -/
def zR (f : Int → Int) (n y p : Int) (K : Int → Int) : Int × Int × (Int → Int) :=
  if (zrow f n y 10 p 0 K).1 ≠ 0 then zrow f n y 10 p 0 K else
  if zkd (zch f n (zrow f n y 10 p 0 K).2.1) ≠ -1 ∨ 0 < ztm (zch f n (zrow f n y 10 p 0 K).2.1) then (-6000 - (zrow f n y 10 p 0 K).2.1, (zrow f n y 10 p 0 K).2.1, (zrow f n y 10 p 0 K).2.2) else zrow f n y 10 p 0 K
theorem zR_bad {f : Int → Int} {n y p : Int} {K : Int → Int} (h : (zrow f n y 10 p 0 K).1 ≠ 0) : zR f n y p K = zrow f n y 10 p 0 K := if_pos h
theorem zR_six {f : Int → Int} {n y p : Int} {K : Int → Int} {q : Int} {K2 : Int → Int} (h : zrow f n y 10 p 0 K = (0, q, K2)) (hc : zkd (zch f n q) ≠ -1 ∨ 0 < ztm (zch f n q)) : zR f n y p K = (-6000 - q, q, K2) := by
  unfold zR
  rw [h]
  exact (if_neg (fun z => z rfl)).trans (if_pos hc)
theorem zR_ok {f : Int → Int} {n y p : Int} {K : Int → Int} {q : Int} {K2 : Int → Int} (h : zrow f n y 10 p 0 K = (0, q, K2)) (hc : zkd (zch f n q) = -1 ∧ ztm (zch f n q) ≤ 0) : zR f n y p K = (0, q, K2) := by
  unfold zR
  rw [h]
  exact (if_neg (fun z => z rfl)).trans (if_neg (fun z => z.elim (fun w => w hc.1) (fun w => absurd w (Int.not_lt.mpr hc.2))))
def zM (f : Int → Int) (n : Int) : Nat → Int → Int → (Int → Int) → Int × Int × (Int → Int)
  | 0, _, p, K => (if p < n then -1000 - p else 0, p, K)
  | k + 1, y, p, K => if zch f n p ≠ 47 then (-1000 - p, p, K) else if (zR f n y (p + 1) K).1 ≠ 0 then zR f n y (p + 1) K else zM f n k (y + 1) (zR f n y (p + 1) K).2.1 (zR f n y (p + 1) K).2.2
def zN (f : Int → Int) (n : Int) (k : Nat) (y p : Int) (K : Int → Int) : Int × Int × (Int → Int) := if (zR f n y p K).1 ≠ 0 then zR f n y p K else zM f n k (y + 1) (zR f n y p K).2.1 (zR f n y p K).2.2
def zMk (f : Int → Int) (n : Int) (K : Int → Int) : Int × Int × (Int → Int) := zN f n 9 0 0 K
section ZM
variable {f : Int → Int} {n y p q : Int} {K K2 : Int → Int} {k : Nat}
theorem zN_bad (h : (zR f n y p K).1 ≠ 0) : zN f n k y p K = zR f n y p K := if_pos h
theorem zN_ok (h : zR f n y p K = (0, q, K2)) : zN f n k y p K = zM f n k (y + 1) q K2 := by
  unfold zN
  rw [h]
  exact if_neg (fun z => z rfl)
theorem zM_end (h : k = 0) : zM f n k y p K = (if p < n then -1000 - p else 0, p, K) := by subst h; rfl
theorem zM_no (h : 0 < k) (hc : zch f n p ≠ 47) : zM f n k y p K = (-1000 - p, p, K) := by
  cases k with
  | zero => omega
  | succ k => exact if_pos hc
theorem zM_go (h : 0 < k) (hc : zch f n p = 47) : zM f n k y p K = zN f n (k - 1) y (p + 1) K := by
  cases k with
  | zero => omega
  | succ k => exact if_neg (fun z => z hc)
end ZM
def zct (K : Int → Int) (v : Int) : Nat → Int
  | 0 => 0
  | k + 1 => zct K v k + (if K k = v then 1 else 0)
theorem zct_y {K : Int → Int} {v i : Int} (hi : 0 ≤ i) (h : K i = v) : zct K v (i + 1).toNat = zct K v i.toNat + 1 := by
  rw [show (i + 1).toNat = i.toNat + 1 from by omega]
  show zct K v i.toNat + (if K (i.toNat : Int) = v then 1 else 0) = _
  rw [Int.toNat_of_nonneg hi, if_pos h]
theorem zct_n {K : Int → Int} {v i : Int} (hi : 0 ≤ i) (h : K i ≠ v) : zct K v (i + 1).toNat = zct K v i.toNat := by
  rw [show (i + 1).toNat = i.toNat + 1 from by omega]
  show zct K v i.toNat + (if K (i.toNat : Int) = v then 1 else 0) = _
  rw [Int.toNat_of_nonneg hi, if_neg h, Int.add_zero]
theorem zct_g {K L : Int → Int} {v : Int} : ∀ k : Nat, (∀ i : Int, 0 ≤ i → i < k → K i = L i) → zct K v k = zct L v k
  | 0, _ => rfl
  | k + 1, h => by
    show zct K v k + _ = zct L v k + _
    rw [zct_g k (fun i a b => h i a (by omega)), h k (by omega) (by omega)]
/-- kinds are kinds -/
def zk3 (K : Int → Int) : Prop := ∀ j, 0 ≤ K j ∧ K j ≤ 3
theorem zk3_fill {K : Int → Int} {a t v : Int} (h : zk3 K) (hv : 0 ≤ v ∧ v ≤ 3) : zk3 (zfill K a t v) := fun j => by
  unfold zfill
  split
  · exact hv
  · exact h j
theorem zk3_row {f : Int → Int} {n y : Int} : ∀ (k : Nat) (p x : Int) (K : Int → Int), zk3 K → zk3 (zrow f n y k p x K).2.2
  | 0, _, _, _, h => h
  | k + 1, p, x, K, h => by
    unfold zrow
    split
    · exact h
    split
    · exact h
    split
    · exact h
    · rename_i h9
      have := zkd_r (zch f n (zp1 f n p))
      exact zk3_row k _ _ _ (zk3_fill h (by omega))
theorem zk3_R {f : Int → Int} {n y p : Int} {K : Int → Int} (h : zk3 K) : zk3 (zR f n y p K).2.2 := by
  unfold zR
  split
  · exact zk3_row _ _ _ _ h
  split
  · exact zk3_row _ _ _ _ h
  · exact zk3_row _ _ _ _ h
theorem zk3_M {f : Int → Int} {n : Int} : ∀ (k : Nat) (y p : Int) (K : Int → Int), zk3 K → zk3 (zM f n k y p K).2.2
  | 0, _, _, _, h => h
  | k + 1, y, p, K, h => by
    unfold zM
    split
    · exact h
    split
    · exact zk3_R h
    · exact zk3_M k _ _ _ (zk3_R h)
theorem zk3_Mk {f : Int → Int} {n : Int} {K : Int → Int} (h : zk3 K) : zk3 (zMk f n K).2.2 := by
  unfold zMk zN
  split
  · exact zk3_R h
  · exact zk3_M _ _ _ _ (zk3_R h)

theorem zch_lt {f : Int → Int} {n p : Int} (h : zch f n p ≠ -1) : p < n := by
  unfold zch at h
  by_cases q : p < n
  · exact q
  · exact absurd (if_neg q) h
def Zpost (Z : Int × Int × (Int → Int)) (r : Int) (T5 : Int → Int) (t3 t4 : Int) : Prop := T5 = Z.2.2 ∧ ((r = 1 ∧ Z.1 = 0 ∧ t3 = Z.2.1) ∨ (r = 0 ∧ Z.1 ≠ 0 ∧ t4 = Z.1))
section ZP
variable {Z : Int × Int × (Int → Int)} {e p r t3 t4 : Int} {K T5 : Int → Int}
theorem Zpost.bad (z : Z = (e, p, K)) (h5 : T5 = K) (hr : r = 0) (he : e ≠ 0) (h4 : t4 = e) : Zpost Z r T5 t3 t4 := by
  subst z; exact ⟨h5, Or.inr ⟨hr, he, h4⟩⟩
theorem Zpost.good (z : Z = (0, p, K)) (h5 : T5 = K) (hr : r = 1) (h3 : t3 = p) : Zpost Z r T5 t3 t4 := by
  subst z; exact ⟨h5, Or.inl ⟨hr, rfl, h3⟩⟩
theorem Zpost.cs (h : Zpost Z r T5 t3 t4) : (r = 1 ∧ Z = (0, t3, T5)) ∨ (r = 0 ∧ Z.1 ≠ 0 ∧ t4 = Z.1 ∧ Z.2.2 = T5) := by
  obtain ⟨h5, ⟨a, b, d⟩ | ⟨a, b, d⟩⟩ := h
  · refine Or.inl ⟨a, ?_⟩
    obtain ⟨z1, z2, z3⟩ := Z
    have b : z1 = 0 := b
    have d : t3 = z2 := d
    have h5 : T5 = z3 := h5
    rw [b, d, h5]
  · exact Or.inr ⟨a, b, d, h5.symm⟩
end ZP
section ZN
variable {f : Int → Int} {n y p q : Int} {K K2 : Int → Int} {k : Nat}
theorem zN_row_bad (h : (zrow f n y 10 p 0 K).1 ≠ 0) : zN f n k y p K = zrow f n y 10 p 0 K := by
  have e := zR_bad h
  exact (zN_bad (by rw [e]; exact h)).trans e
theorem zN_row_six (h : zrow f n y 10 p 0 K = (0, q, K2)) (hc : zkd (zch f n q) ≠ -1 ∨ 0 < ztm (zch f n q)) (hq : 0 ≤ q) : zN f n k y p K = (-6000 - q, q, K2) := by
  have e := zR_six h hc
  exact (zN_bad (by rw [e]; show -6000 - q ≠ 0; omega)).trans e
theorem zN_row_no (h : zrow f n y 10 p 0 K = (0, q, K2)) (hc : zkd (zch f n q) = -1 ∧ ztm (zch f n q) ≤ 0) (h47 : (0 < k ∧ zch f n q ≠ 47) ∨ (k = 0 ∧ zch f n q ≠ -1)) : zN f n k y p K = (-1000 - q, q, K2) := by
  rw [zN_ok (zR_ok h hc)]
  rcases h47 with ⟨a, b⟩ | ⟨a, b⟩
  · exact zM_no a b
  · rw [zM_end a, if_pos (zch_lt b)]
theorem zN_row_go {k2 : Nat} {y2 p2 : Int} {K3 : Int → Int} (h : zrow f n y 10 p 0 K = (0, q, K2)) (hc : zkd (zch f n q) = -1 ∧ ztm (zch f n q) ≤ 0) (hk : 0 < k) (h47 : zch f n q = 47) (e1 : k2 = k - 1) (e2 : y2 = y + 1) (e3 : p2 = q + 1) (e4 : K3 = K2) : zN f n k y p K = zN f n k2 y2 p2 K3 := by
  rw [zN_ok (zR_ok h hc), zM_go hk h47, e1, e2, e3, e4]
theorem zN_row_end (h : zrow f n y 10 p 0 K = (0, q, K2)) (hc : zkd (zch f n q) = -1 ∧ ztm (zch f n q) ≤ 0) (hk : k = 0) (hq : n ≤ q) : zN f n k y p K = (0, q, K2) := by
  rw [zN_ok (zR_ok h hc), zM_end hk, if_neg (by omega)]
end ZN
theorem ztm_cs (c : Int) : (c = 48 ∧ ztm c = 10) ∨ (50 ≤ c ∧ c ≤ 57 ∧ ztm c = c - 48) ∨ (c ≠ 48 ∧ (c < 50 ∨ 57 < c) ∧ ztm c = 0) := by
  unfold ztm
  (repeat' split) <;> omega
theorem zkd_cs (c : Int) : (c = 46 ∧ zkd c = 0) ∨ (c = 35 ∧ zkd c = 1) ∨ (c = 115 ∧ zkd c = 2) ∨ (c = 114 ∧ zkd c = 3) ∨ (c ≠ 46 ∧ c ≠ 35 ∧ c ≠ 115 ∧ c ≠ 114 ∧ zkd c = -1) := by
  unfold zkd
  (repeat' split) <;> omega
section ZQ
variable {f : Int → Int} {n y p q e r t3 t4 : Int} {K K2 T5 : Int → Int} {k : Nat}
theorem Zpost.rbad (z : zrow f n y 10 p 0 K = (e, q, K2)) (h5 : T5 = K2) (hr : r = 0) (he : e ≠ 0) (h4 : t4 = e) : Zpost (zR f n y p K) r T5 t3 t4 :=
  Zpost.bad ((zR_bad (by rw [z]; exact he)).trans z) h5 hr he h4
theorem zM_row_ok {k2 : Nat} {y2 p2 : Int} {K3 : Int → Int} (hk : 0 < k) (h47 : zch f n p = 47) (h : zR f n y (p + 1) K = (0, q, K2)) (e1 : k2 = k - 1) (e2 : y2 = y + 1) (e3 : p2 = q) (e4 : K3 = K2) : zM f n k y p K = zM f n k2 y2 p2 K3 := by
  rw [zM_go hk h47, zN_ok h, e1, e2, e3, e4]
theorem zM_row_bad (hk : 0 < k) (h47 : zch f n p = 47) (h : (zR f n y (p + 1) K).1 ≠ 0) : zM f n k y p K = zR f n y (p + 1) K := by
  rw [zM_go hk h47, zN_bad h]
end ZQ
/-! ===== sentences that run together ===== -/
/-- who has label b gets label a -/
def jn (a b : Int) (G : Int → Int) : Int → Int := fun i => if G i = b then a else G i
theorem jn_eq {a b : Int} {G : Int → Int} {i j : Int} : (jn a b G i = jn a b G j) ↔ (G i = G j ∨ ((G i = a ∨ G i = b) ∧ (G j = a ∨ G j = b))) := by
  unfold jn
  split <;> split <;> omega
/-- the labels behind k twos; sw tells whether the lower label stays -/
def zgr (f : Int → Int) (n : Int) (sw : Bool) : Nat → Int → Int
  | 0 => fun i => i
  | k + 1 => 
    let G := zgr f n sw k
    let a := G (f (2 * n + 1 + 2 * k))
    let b := G (f (2 * n + 2 + 2 * k))
    bif sw then jn (if a < b then a else b) (if a < b then b else a) G else jn a b G
theorem zgr_c (f : Int → Int) (n : Int) {k : Int} (hk : 0 ≤ k) : zgr f n false (k + 1).toNat = jn (zgr f n false k.toNat (f (2 * n + 1 + 2 * k))) (zgr f n false k.toNat (f (2 * n + 2 + 2 * k))) (zgr f n false k.toNat) := by
  rw [show (k + 1).toNat = k.toNat + 1 from by omega]
  show jn (zgr f n false k.toNat (f (2 * n + 1 + 2 * (k.toNat : Int)))) (zgr f n false k.toNat (f (2 * n + 2 + 2 * (k.toNat : Int)))) (zgr f n false k.toNat) = _
  rw [Int.toNat_of_nonneg hk]
theorem zgr_m (f : Int → Int) (n : Int) {k a b lo hi : Int} (hk : 0 ≤ k) (ha : a = zgr f n true k.toNat (f (2 * n + 1 + 2 * k))) (hb : b = zgr f n true k.toNat (f (2 * n + 2 + 2 * k))) (hl : (lo = a ∧ a < b) ∨ (lo = b ∧ b ≤ a)) (hh : (hi = a ∧ b < a) ∨ (hi = b ∧ a ≤ b)) : zgr f n true (k + 1).toNat = jn lo hi (zgr f n true k.toNat) := by
  rw [show (k + 1).toNat = k.toNat + 1 from by omega]
  show jn (if zgr f n true k.toNat (f (2 * n + 1 + 2 * (k.toNat : Int))) < zgr f n true k.toNat (f (2 * n + 2 + 2 * (k.toNat : Int))) then zgr f n true k.toNat (f (2 * n + 1 + 2 * (k.toNat : Int))) else zgr f n true k.toNat (f (2 * n + 2 + 2 * (k.toNat : Int)))) (if zgr f n true k.toNat (f (2 * n + 1 + 2 * (k.toNat : Int))) < zgr f n true k.toNat (f (2 * n + 2 + 2 * (k.toNat : Int))) then zgr f n true k.toNat (f (2 * n + 2 + 2 * (k.toNat : Int))) else zgr f n true k.toNat (f (2 * n + 1 + 2 * (k.toNat : Int)))) (zgr f n true k.toNat) = _
  rw [Int.toNat_of_nonneg hk, ← ha, ← hb]
  by_cases h : a < b
  · rw [if_pos h, if_pos h, show lo = a from by omega, show hi = b from by omega]
  · rw [if_neg h, if_neg h, show lo = b from by omega]
    by_cases e : a = b
    · rw [e, show hi = b from by omega]
    · rw [show hi = a from by omega]
/-- both ways of labelling tell the same apart -/
theorem zgr_same (f : Int → Int) (n : Int) : ∀ (k : Nat) (i j : Int), (zgr f n false k i = zgr f n false k j) ↔ (zgr f n true k i = zgr f n true k j)
  | 0, _, _ => Iff.rfl
  | k + 1, i, j => by
    have h := zgr_same f n k
    obtain ⟨A, eA⟩ : ∃ A, A = f (2 * n + 1 + 2 * (k : Int)) := ⟨_, rfl⟩
    obtain ⟨B, eB⟩ : ∃ B, B = f (2 * n + 2 + 2 * (k : Int)) := ⟨_, rfl⟩
    have e1 : zgr f n false (k + 1) = jn (zgr f n false k A) (zgr f n false k B) (zgr f n false k) := by rw [eA, eB]; rfl
    have e2 : zgr f n true (k + 1) = jn (if zgr f n true k A < zgr f n true k B then zgr f n true k A else zgr f n true k B) (if zgr f n true k A < zgr f n true k B then zgr f n true k B else zgr f n true k A) (zgr f n true k) := by rw [eA, eB]; rfl
    rw [e1, e2, jn_eq, jn_eq]
    have h1 := h i j; have h2 := h i A; have h3 := h i B; have h4 := h j A; have h5 := h j B
    by_cases q : zgr f n true k A < zgr f n true k B
    · rw [if_pos q, if_pos q, h1, h2, h3, h4, h5]
    · rw [if_neg q, if_neg q, h1, h2, h3, h4, h5]
      constructor
      · rintro (a | ⟨a, b⟩)
        · exact Or.inl a
        · exact Or.inr ⟨a.symm, b.symm⟩
      · rintro (a | ⟨a, b⟩)
        · exact Or.inl a
        · exact Or.inr ⟨a.symm, b.symm⟩
theorem zgr_in (f : Int → Int) {n : Int} (sw : Bool) : ∀ (k : Nat), (∀ q : Int, 0 ≤ q → q < 2 * k → 0 ≤ f (2 * n + 1 + q) ∧ f (2 * n + 1 + q) < n) → ∀ i, 0 ≤ i → i < n → 0 ≤ zgr f n sw k i ∧ zgr f n sw k i < n
  | 0, _, i, h1, h2 => ⟨h1, h2⟩
  | k + 1, hf, i, h1, h2 => by
    have h := zgr_in f (n := n) sw k (fun q a b => hf q a (by omega))
    have ha := h _ (hf (2 * k) (by omega) (by omega)).1 (hf (2 * k) (by omega) (by omega)).2
    have hb' := hf (2 * k + 1) (by omega) (by omega)
    rw [show 2 * n + 1 + (2 * (k : Int) + 1) = 2 * n + 2 + 2 * k from by omega] at hb'
    have hb := h _ hb'.1 hb'.2
    have hi := h i h1 h2
    obtain ⟨G, eG⟩ : ∃ G, G = zgr f n sw k := ⟨_, rfl⟩
    rw [← eG] at ha hb hi
    show 0 ≤ (bif sw then jn (if zgr f n sw k (f (2 * n + 1 + 2 * k)) < zgr f n sw k (f (2 * n + 2 + 2 * k)) then zgr f n sw k (f (2 * n + 1 + 2 * k)) else zgr f n sw k (f (2 * n + 2 + 2 * k))) (if zgr f n sw k (f (2 * n + 1 + 2 * k)) < zgr f n sw k (f (2 * n + 2 + 2 * k)) then zgr f n sw k (f (2 * n + 2 + 2 * k)) else zgr f n sw k (f (2 * n + 1 + 2 * k))) (zgr f n sw k) else jn (zgr f n sw k (f (2 * n + 1 + 2 * k))) (zgr f n sw k (f (2 * n + 2 + 2 * k))) (zgr f n sw k)) i ∧ (bif sw then jn (if zgr f n sw k (f (2 * n + 1 + 2 * k)) < zgr f n sw k (f (2 * n + 2 + 2 * k)) then zgr f n sw k (f (2 * n + 1 + 2 * k)) else zgr f n sw k (f (2 * n + 2 + 2 * k))) (if zgr f n sw k (f (2 * n + 1 + 2 * k)) < zgr f n sw k (f (2 * n + 2 + 2 * k)) then zgr f n sw k (f (2 * n + 2 + 2 * k)) else zgr f n sw k (f (2 * n + 1 + 2 * k))) (zgr f n sw k) else jn (zgr f n sw k (f (2 * n + 1 + 2 * k))) (zgr f n sw k (f (2 * n + 2 + 2 * k))) (zgr f n sw k)) i < n
    rw [← eG]
    cases sw <;> (simp only [cond_true, cond_false]; unfold jn; (repeat' split) <;> omega)
/-- with the lower label staying, a label is its own -/
theorem zgr_idem (f : Int → Int) {n : Int} : ∀ (k : Nat), (∀ q : Int, 0 ≤ q → q < 2 * k → 0 ≤ f (2 * n + 1 + q) ∧ f (2 * n + 1 + q) < n) → ∀ i, 0 ≤ i → i < n → zgr f n true k (zgr f n true k i) = zgr f n true k i
  | 0, _, _, _, _ => rfl
  | k + 1, hf, i, h1, h2 => by
    have h := zgr_idem f (n := n) k (fun q a b => hf q a (by omega))
    have hb' := hf (2 * k + 1) (by omega) (by omega)
    rw [show 2 * n + 1 + (2 * (k : Int) + 1) = 2 * n + 2 + 2 * k from by omega] at hb'
    have ha := h _ (hf (2 * k) (by omega) (by omega)).1 (hf (2 * k) (by omega) (by omega)).2
    have hb := h _ hb'.1 hb'.2
    have hi := h i h1 h2
    obtain ⟨A, eA⟩ : ∃ A, A = zgr f n true k (f (2 * n + 1 + 2 * (k : Int))) := ⟨_, rfl⟩
    obtain ⟨B, eB⟩ : ∃ B, B = zgr f n true k (f (2 * n + 2 + 2 * (k : Int))) := ⟨_, rfl⟩
    have e2 : zgr f n true (k + 1) = jn (if A < B then A else B) (if A < B then B else A) (zgr f n true k) := by rw [eA, eB]; rfl
    rw [← eA] at ha
    rw [← eB] at hb
    rw [e2]
    obtain ⟨lo, elo⟩ : ∃ lo, lo = if A < B then A else B := ⟨_, rfl⟩
    obtain ⟨hh, ehh⟩ : ∃ hh, hh = if A < B then B else A := ⟨_, rfl⟩
    rw [← elo, ← ehh]
    have hlo : zgr f n true k lo = lo := by rw [elo]; split; exact ha; exact hb
    by_cases q : zgr f n true k i = hh
    · show (if zgr f n true k (if zgr f n true k i = hh then lo else zgr f n true k i) = hh then lo else zgr f n true k (if zgr f n true k i = hh then lo else zgr f n true k i)) = (if zgr f n true k i = hh then lo else zgr f n true k i)
      rw [if_pos q, hlo]
      split <;> rfl
    · show (if zgr f n true k (if zgr f n true k i = hh then lo else zgr f n true k i) = hh then lo else zgr f n true k (if zgr f n true k i = hh then lo else zgr f n true k i)) = (if zgr f n true k i = hh then lo else zgr f n true k i)
      rw [if_neg q, hi, if_neg q]
def zln (f : Int → Int) (i : Int) : Int := 256 * f (2 * i) + f (2 * i + 1)
/-- the longest of a group among the first k; -1 where there is none -/
def zlg (f G : Int → Int) (g : Int) : Nat → Int
  | 0 => -1
  | k + 1 => if G k = g then (if zlg f G g k ≤ zln f k then zln f k else zlg f G g k) else zlg f G g k
def zlm (f G : Int → Int) (g : Int) : Nat → Int
  | 0 => 0
  | k + 1 => if G k = g then (if zlm f G g k ≤ zln f k then zln f k else zlm f G g k) else zlm f G g k
def zold (G : Int → Int) (g : Int) : Nat → Bool
  | 0 => false
  | k + 1 => zold G g k || decide (G k = g)
section ZT
variable {f G G2 : Int → Int} {g n : Int}
theorem zold_s (k : Nat) : (zold G g (k + 1) = true) ↔ (zold G g k = true ∨ G k = g) := by
  show (zold G g k || decide (G k = g)) = true ↔ _
  rw [Bool.or_eq_true, decide_eq_true_iff]
theorem zlg_m : ∀ k : Nat, (∀ i : Int, 0 ≤ i → i < k → 0 ≤ zln f i) → (zold G g k = true → 0 ≤ zlg f G g k ∧ zlm f G g k = zlg f G g k) ∧ (¬ zold G g k = true → zlg f G g k = -1 ∧ zlm f G g k = 0)
  | 0, _ => ⟨(fun h => by cases h), fun _ => ⟨rfl, rfl⟩⟩
  | k + 1, hf => by
    obtain ⟨h1, h2⟩ := zlg_m k (fun i a b => hf i a (by omega))
    have h0 := hf k (by omega) (by omega)
    rw [zold_s]
    show (_ → 0 ≤ (if G k = g then (if zlg f G g k ≤ zln f k then zln f k else zlg f G g k) else zlg f G g k) ∧ (if G k = g then (if zlm f G g k ≤ zln f k then zln f k else zlm f G g k) else zlm f G g k) = (if G k = g then (if zlg f G g k ≤ zln f k then zln f k else zlg f G g k) else zlg f G g k)) ∧ (_ → (if G k = g then (if zlg f G g k ≤ zln f k then zln f k else zlg f G g k) else zlg f G g k) = -1 ∧ (if G k = g then (if zlm f G g k ≤ zln f k then zln f k else zlm f G g k) else zlm f G g k) = 0)
    by_cases e : G k = g
    · rw [if_pos e, if_pos e]
      refine ⟨fun _ => ?_, fun q => absurd (Or.inr e) q⟩
      by_cases o : zold G g k = true
      · obtain ⟨a, b⟩ := h1 o
        rw [b]
        split <;> omega
      · obtain ⟨a, b⟩ := h2 o
        rw [a, b, if_pos (by omega), if_pos (by omega)]
        omega
    · rw [if_neg e, if_neg e]
      exact ⟨fun q => h1 (q.resolve_right e), fun q => h2 (fun z => q (Or.inl z))⟩
theorem zlg_g : ∀ k : Nat, (∀ i : Int, 0 ≤ i → i < k → G i = G2 i) → zlg f G g k = zlg f G2 g k ∧ zlm f G g k = zlm f G2 g k ∧ zold G g k = zold G2 g k
  | 0, _ => ⟨rfl, rfl, rfl⟩
  | k + 1, h => by
    obtain ⟨h1, h2, h3⟩ := zlg_g k (fun i a b => h i a (by omega))
    have h0 := h k (by omega) (by omega)
    show (if G k = g then (if zlg f G g k ≤ zln f k then zln f k else zlg f G g k) else zlg f G g k) = (if G2 k = g then (if zlg f G2 g k ≤ zln f k then zln f k else zlg f G2 g k) else zlg f G2 g k) ∧ (if G k = g then (if zlm f G g k ≤ zln f k then zln f k else zlm f G g k) else zlm f G g k) = (if G2 k = g then (if zlm f G2 g k ≤ zln f k then zln f k else zlm f G2 g k) else zlm f G2 g k) ∧ (zold G g k || decide (G k = g)) = (zold G2 g k || decide (G2 k = g))
    rw [h0, h1, h2, h3]
    exact ⟨rfl, rfl, rfl⟩
end ZT
def zsm (h : Int → Int) : Nat → Int
  | 0 => 0
  | k + 1 => zsm h k + h k
def zmx (h : Int → Int) : Nat → Int
  | 0 => 0
  | k + 1 => if zmx h k ≤ h k then h k else zmx h k
theorem zsm_g {h u : Int → Int} : ∀ k : Nat, (∀ i : Int, 0 ≤ i → i < k → h i = u i) → zsm h k = zsm u k
  | 0, _ => rfl
  | k + 1, e => by
    show zsm h k + h k = zsm u k + u k
    rw [zsm_g k (fun i a b => e i a (by omega)), e k (by omega) (by omega)]
theorem zsm_pt {u : Int → Int} {g0 c : Int} : ∀ k : Nat, zsm (fun g => u g + if g = g0 then c else 0) k = zsm u k + if 0 ≤ g0 ∧ g0 < k then c else 0
  | 0 => by
    show (0 : Int) = 0 + _
    rw [if_neg (by omega)]
    rfl
  | k + 1 => by
    show zsm (fun g => u g + if g = g0 then c else 0) k + (u k + if (k : Int) = g0 then c else 0) = (zsm u k + u k) + _
    rw [zsm_pt k]
    by_cases e : (k : Int) = g0
    · rw [if_pos e, if_neg (by omega), if_pos (by omega)]; omega
    · rw [if_neg e]
      by_cases q : 0 ≤ g0 ∧ g0 < (k : Int)
      · rw [if_pos q, if_pos (by omega)]; omega
      · rw [if_neg q, if_neg (by omega)]; omega
/-- a sum over labels, by the first that bears each -/
def zT (G h : Int → Int) : Nat → Int
  | 0 => 0
  | k + 1 => zT G h k + (if zold G (G k) k = true then 0 else h (G k))
theorem zT_s {G h : Int → Int} {n : Nat} (hG : ∀ i : Int, 0 ≤ i → i < n → 0 ≤ G i ∧ G i < n) : ∀ k : Nat, k ≤ n → zsm (fun g => if zold G g k = true then h g else 0) n = zT G h k
  | 0, _ => by
    have : ∀ m : Nat, zsm (fun g => if zold G g 0 = true then h g else 0) m = 0 := fun m => by
      induction m with
      | zero => rfl
      | succ m ih => show zsm (fun g => if zold G g 0 = true then h g else 0) m + 0 = 0; rw [ih]; rfl
    exact this n
  | k + 1, hk => by
    have ih := zT_s (h := h) hG k (by omega)
    have hr := hG k (by omega) (by omega)
    have e : zsm (fun g => if zold G g (k + 1) = true then h g else 0) n = zsm (fun g => (if zold G g k = true then h g else 0) + if g = G k then (if zold G (G k) k = true then 0 else h (G k)) else 0) n := zsm_g n (fun g _ _ => by
      by_cases q : g = G k
      · subst q
        rw [if_pos ((zold_s k).mpr (Or.inr rfl)), if_pos rfl]
        split <;> omega
      · rw [if_neg q, Int.add_zero]
        by_cases o : zold G g k = true
        · rw [if_pos o, if_pos ((zold_s k).mpr (Or.inl o))]
        · rw [if_neg o, if_neg (fun z => ((zold_s k).mp z).elim o (fun z => q z.symm))])
    rw [e, zsm_pt, ih, if_pos hr]
    rfl
theorem zold_e {G G2 : Int → Int} {n : Nat} (h : ∀ i j : Int, 0 ≤ i → i < n → 0 ≤ j → j < n → (G i = G j ↔ G2 i = G2 j)) {j : Int} (j1 : 0 ≤ j) (j2 : j < n) : ∀ k : Nat, k ≤ n → zold G (G j) k = zold G2 (G2 j) k
  | 0, _ => rfl
  | k + 1, hk => by
    show (zold G (G j) k || decide (G k = G j)) = (zold G2 (G2 j) k || decide (G2 k = G2 j))
    rw [zold_e h j1 j2 k (by omega)]
    congr 1
    exact decide_eq_decide.mpr (h k j (by omega) (by omega) j1 j2)
theorem zlm_e {f G G2 : Int → Int} {n : Nat} (h : ∀ i j : Int, 0 ≤ i → i < n → 0 ≤ j → j < n → (G i = G j ↔ G2 i = G2 j)) {j : Int} (j1 : 0 ≤ j) (j2 : j < n) : ∀ k : Nat, k ≤ n → zlm f G (G j) k = zlm f G2 (G2 j) k
  | 0, _ => rfl
  | k + 1, hk => by
    show (if G k = G j then (if zlm f G (G j) k ≤ zln f k then zln f k else zlm f G (G j) k) else zlm f G (G j) k) = (if G2 k = G2 j then (if zlm f G2 (G2 j) k ≤ zln f k then zln f k else zlm f G2 (G2 j) k) else zlm f G2 (G2 j) k)
    rw [zlm_e h j1 j2 k (by omega)]
    have hh := h k j (by omega) (by omega) j1 j2
    by_cases e : G k = G j
    · rw [if_pos e, if_pos (hh.mp e)]
    · rw [if_neg e, if_neg (fun z => e (hh.mpr z))]
theorem zT_e {G G2 h h2 : Int → Int} {n : Nat} (hp : ∀ i j : Int, 0 ≤ i → i < n → 0 ≤ j → j < n → (G i = G j ↔ G2 i = G2 j)) (hh : ∀ i : Int, 0 ≤ i → i < n → h (G i) = h2 (G2 i)) : ∀ k : Nat, k ≤ n → zT G h k = zT G2 h2 k
  | 0, _ => rfl
  | k + 1, hk => by
    show zT G h k + (if zold G (G k) k = true then 0 else h (G k)) = zT G2 h2 k + (if zold G2 (G2 k) k = true then 0 else h2 (G2 k))
    rw [zT_e hp hh k (by omega), zold_e hp (by omega) (by omega) k (by omega), hh k (by omega) (by omega)]
theorem zmx_le {h : Int → Int} {B : Int} (hB : 0 ≤ B) : ∀ k : Nat, (∀ g : Int, 0 ≤ g → g < k → h g ≤ B) → zmx h k ≤ B
  | 0, _ => hB
  | k + 1, e => by
    have h1 := zmx_le hB k (fun g a b => e g a (by omega))
    have h2 := e k (by omega) (by omega)
    show (if zmx h k ≤ h k then h k else zmx h k) ≤ B
    split <;> omega
theorem zmx_ge {h : Int → Int} : ∀ k : Nat, 0 ≤ zmx h k ∧ ∀ g : Int, 0 ≤ g → g < k → h g ≤ zmx h k
  | 0 => ⟨Int.le_refl _, fun g a b => by omega⟩
  | k + 1 => by
    obtain ⟨h1, h2⟩ := zmx_ge (h := h) k
    have e : zmx h (k + 1) = if zmx h k ≤ h k then h k else zmx h k := rfl
    rw [e]
    refine ⟨by split <;> omega, fun g a b => ?_⟩
    by_cases q : g = k
    · subst q; split <;> omega
    · have := h2 g a (by omega)
      split <;> omega
theorem zold_x {G : Int → Int} {g : Int} : ∀ k : Nat, zold G g k = true → ∃ i : Int, 0 ≤ i ∧ i < k ∧ G i = g
  | 0, h => by cases h
  | k + 1, h => by
    rcases (zold_s k).mp h with q | q
    · obtain ⟨i, a, b, c⟩ := zold_x k q
      exact ⟨i, a, by omega, c⟩
    · exact ⟨k, by omega, by omega, q⟩
theorem zold_y {G : Int → Int} {g i : Int} (i1 : 0 ≤ i) (e : G i = g) : ∀ k : Nat, i < k → zold G g k = true
  | 0, h => by omega
  | k + 1, h => by
    refine (zold_s k).mpr ?_
    by_cases q : i = k
    · exact Or.inr (by rw [← q]; exact e)
    · exact Or.inl (zold_y i1 e k (by omega))
def zLM (f G : Int → Int) (n : Int) : Int → Int := fun g => zlm f G g n.toNat
def zON (G : Int → Int) (n : Int) : Int → Int := fun g => if zold G g n.toNat = true then 1 else 0
theorem zsm_s {h : Int → Int} {i : Int} (hi : 0 ≤ i) : zsm h (i + 1).toNat = zsm h i.toNat + h i := by
  rw [show (i + 1).toNat = i.toNat + 1 from by omega]
  show zsm h i.toNat + h (i.toNat : Int) = _
  rw [Int.toNat_of_nonneg hi]
theorem zmx_s {h : Int → Int} {i : Int} (hi : 0 ≤ i) : zmx h (i + 1).toNat = if zmx h i.toNat ≤ h i then h i else zmx h i.toNat := by
  rw [show (i + 1).toNat = i.toNat + 1 from by omega]
  show (if zmx h i.toNat ≤ h (i.toNat : Int) then h (i.toNat : Int) else zmx h i.toNat) = _
  rw [Int.toNat_of_nonneg hi]
theorem zlg_y {f G : Int → Int} {g i : Int} (hi : 0 ≤ i) (h : G i = g) : zlg f G g (i + 1).toNat = if zlg f G g i.toNat ≤ zln f i then zln f i else zlg f G g i.toNat := by
  rw [show (i + 1).toNat = i.toNat + 1 from by omega]
  show (if G (i.toNat : Int) = g then (if zlg f G g i.toNat ≤ zln f (i.toNat : Int) then zln f (i.toNat : Int) else zlg f G g i.toNat) else zlg f G g i.toNat) = _
  rw [Int.toNat_of_nonneg hi, if_pos h]
theorem zlg_n {f G : Int → Int} {g i : Int} (hi : 0 ≤ i) (h : G i ≠ g) : zlg f G g (i + 1).toNat = zlg f G g i.toNat := by
  rw [show (i + 1).toNat = i.toNat + 1 from by omega]
  show (if G (i.toNat : Int) = g then (if zlg f G g i.toNat ≤ zln f (i.toNat : Int) then zln f (i.toNat : Int) else zlg f G g i.toNat) else zlg f G g i.toNat) = _
  rw [Int.toNat_of_nonneg hi, if_neg h]
theorem zlm_y {f G : Int → Int} {g i : Int} (hi : 0 ≤ i) (h : G i = g) : zlm f G g (i + 1).toNat = if zlm f G g i.toNat ≤ zln f i then zln f i else zlm f G g i.toNat := by
  rw [show (i + 1).toNat = i.toNat + 1 from by omega]
  show (if G (i.toNat : Int) = g then (if zlm f G g i.toNat ≤ zln f (i.toNat : Int) then zln f (i.toNat : Int) else zlm f G g i.toNat) else zlm f G g i.toNat) = _
  rw [Int.toNat_of_nonneg hi, if_pos h]
theorem zlm_n {f G : Int → Int} {g i : Int} (hi : 0 ≤ i) (h : G i ≠ g) : zlm f G g (i + 1).toNat = zlm f G g i.toNat := by
  rw [show (i + 1).toNat = i.toNat + 1 from by omega]
  show (if G (i.toNat : Int) = g then (if zlm f G g i.toNat ≤ zln f (i.toNat : Int) then zln f (i.toNat : Int) else zlm f G g i.toNat) else zlm f G g i.toNat) = _
  rw [Int.toNat_of_nonneg hi, if_neg h]
def zpl (f : Int → Int) (n m : Int) : Prop := ∀ i, 0 ≤ i → i < 2 * m → f (2 * n + 1 + i) < n
/-- the answer by labels -/
def zta (f G : Int → Int) (n x : Int) : Int := if x = 0 then zsm (zLM f G n) n.toNat else if x = 1 then zsm (zON G n) n.toNat else zmx (zLM f G n) n.toNat
theorem zta_e {f G G2 : Int → Int} {n x : Int} (hn : 0 ≤ n) (hf : ∀ i : Int, 0 ≤ i → i < n → 0 ≤ zln f i) (h1 : ∀ i : Int, 0 ≤ i → i < n → 0 ≤ G i ∧ G i < n) (h2 : ∀ i : Int, 0 ≤ i → i < n → 0 ≤ G2 i ∧ G2 i < n) (hp : ∀ i j : Int, G i = G j ↔ G2 i = G2 j) : zta f G n x = zta f G2 n x := by
  obtain ⟨m, rfl⟩ : ∃ m : Nat, n = m := ⟨n.toNat, by omega⟩
  unfold zta zLM zON
  rw [show ((m : Int)).toNat = m from by omega]
  have hp' : ∀ i j : Int, 0 ≤ i → i < m → 0 ≤ j → j < m → (G i = G j ↔ G2 i = G2 j) := fun i j _ _ _ _ => hp i j
  have hl : ∀ i : Int, 0 ≤ i → i < m → zlm f G (G i) m = zlm f G2 (G2 i) m := fun i a b => zlm_e hp' a b m (Nat.le_refl _)
  have u : ∀ (K : Int → Int), zsm (fun g => zlm f K g m) m = zsm (fun g => if zold K g m = true then zlm f K g m else 0) m := fun K => zsm_g m (fun g _ _ => by
    by_cases o : zold K g m = true
    · rw [if_pos o]
    · rw [if_neg o]; exact ((zlg_m (f := f) m hf).2 o).2)
  have e0 : zsm (fun g => zlm f G g m) m = zsm (fun g => zlm f G2 g m) m := by
    rw [u G, u G2, zT_s h1 m (Nat.le_refl _), zT_s h2 m (Nat.le_refl _)]
    exact zT_e hp' hl m (Nat.le_refl _)
  have e1 : zsm (fun g => if zold G g m = true then (1 : Int) else 0) m = zsm (fun g => if zold G2 g m = true then (1 : Int) else 0) m := by
    rw [zT_s (h := fun _ => 1) h1 m (Nat.le_refl _), zT_s (h := fun _ => 1) h2 m (Nat.le_refl _)]
    exact zT_e hp' (fun _ _ _ => rfl) m (Nat.le_refl _)
  have mx : ∀ (K K2 : Int → Int), (∀ i j : Int, K i = K j ↔ K2 i = K2 j) → (∀ i : Int, 0 ≤ i → i < m → 0 ≤ K2 i ∧ K2 i < m) → zmx (fun g => zlm f K g m) m ≤ zmx (fun g => zlm f K2 g m) m := fun K K2 hk hr => by
    have q := zmx_ge (h := fun g => zlm f K2 g m) m
    refine zmx_le q.1 m (fun g a b => ?_)
    show zlm f K g m ≤ _
    by_cases o : zold K g m = true
    · obtain ⟨i, i1, i2, e⟩ := zold_x m o
      subst e
      rw [zlm_e (G2 := K2) (fun i j _ _ _ _ => hk i j) i1 i2 m (Nat.le_refl _)]
      exact q.2 _ (hr i i1 i2).1 (hr i i1 i2).2
    · rw [((zlg_m (f := f) m hf).2 o).2]
      exact q.1
  rw [e0, e1, Int.le_antisymm (mx G G2 hp h2) (mx G2 G (fun i j => (hp i j).symm) h1)]
theorem zta_g {f G G2 : Int → Int} {n x : Int} (h : ∀ i : Int, 0 ≤ i → i < n → G i = G2 i) : zta f G n x = zta f G2 n x := by
  have e1 : zLM f G n = zLM f G2 n := funext fun g => (zlg_g (f := f) (g := g) n.toNat (fun i a b => h i a (by omega))).2.1
  have e2 : zON G n = zON G2 n := funext fun g => by
    unfold zON
    rw [(zlg_g (f := f) (g := g) n.toNat (fun i a b => h i a (by omega))).2.2]
  unfold zta
  rw [e1, e2]
theorem zta_i {f G : Int → Int} {n x i c d e r : Int} (hi : i = n) (hc : c = zsm (zLM f G n) i.toNat) (hd : d = zsm (zON G n) i.toNat) (he : e = zmx (zLM f G n) i.toNat) (hr : (x = 0 ∧ r = c) ∨ (x ≠ 0 ∧ x = 1 ∧ r = d) ∨ (x ≠ 0 ∧ x ≠ 1 ∧ r = e)) : r = zta f G n x := by
  unfold zta
  subst hi
  rw [← hc, ← hd, ← he]
  rcases hr with ⟨h1, h2⟩ | ⟨h1, h2, h3⟩ | ⟨h1, h2, h3⟩
  · rw [if_pos h1, h2]
  · rw [if_neg h1, if_pos h2, h3]
  · rw [if_neg h1, if_neg h2, h3]
/-- with labels that are their own, who bears its own number is who is borne -/
theorem zON_own {G : Int → Int} {n k : Int} (hk : 0 ≤ k ∧ k < n) (hi : ∀ i : Int, 0 ≤ i → i < n → G (G i) = G i) : zON G n k = if G k = k then 1 else 0 := by
  unfold zON
  by_cases e : G k = k
  · rw [if_pos e, if_pos (zold_y hk.1 e n.toNat (by omega))]
  · rw [if_neg e, if_neg (fun o => by
      obtain ⟨i, a, b, c⟩ := zold_x n.toNat o
      exact e (by rw [← c]; exact hi i a (by omega)))]

