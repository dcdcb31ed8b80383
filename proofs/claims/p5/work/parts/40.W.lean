/-! ===== a walk's text ===== -/
def wst (c : Int) : Int := if c = 110 then 0 else if c = 101 then 1 else if c = 115 then 2 else if c = 119 then 3 else if c = 46 then 4 else -1
theorem wst_i {c r : Int} (h : (c = 110 ∧ r = 0) ∨ (c = 101 ∧ r = 1) ∨ (c = 115 ∧ r = 2) ∨ (c = 119 ∧ r = 3) ∨ (c = 46 ∧ r = 4) ∨ (c ≠ 110 ∧ c ≠ 101 ∧ c ≠ 115 ∧ c ≠ 119 ∧ c ≠ 46 ∧ r = -1)) : r = wst c := by
  unfold wst
  (repeat' split) <;> omega
theorem wst_cs (c : Int) : (c = 110 ∧ wst c = 0) ∨ (c = 101 ∧ wst c = 1) ∨ (c = 115 ∧ wst c = 2) ∨ (c = 119 ∧ wst c = 3) ∨ (c = 46 ∧ wst c = 4) ∨ (c ≠ 110 ∧ c ≠ 101 ∧ c ≠ 115 ∧ c ≠ 119 ∧ c ≠ 46 ∧ wst c = -1) := by
  unfold wst
  (repeat' split) <;> omega
def wtm (c : Int) : Int := if 50 ≤ c ∧ c ≤ 57 then c - 48 else 1
theorem wtm_cs (c : Int) : (50 ≤ c ∧ c ≤ 57 ∧ wtm c = c - 48) ∨ ((c < 50 ∨ 57 < c) ∧ wtm c = 1) := by
  unfold wtm
  (repeat' split) <;> omega
def wp1 (f : Int → Int) (n p : Int) : Int := if 1 < wtm (zch f n p) then p + 1 else p
theorem wp1_cs (f : Int → Int) (n p : Int) : (1 < wtm (zch f n p) ∧ wp1 f n p = p + 1) ∨ (wtm (zch f n p) = 1 ∧ wp1 f n p = p) := by
  have h := wtm_cs (zch f n p)
  unfold wp1
  split <;> omega
/-- what stands from a on, m more of it behind z -/
def wrep (K : Int → Int) (a z m : Int) : Int → Int := fun j => if z ≤ j ∧ j < z + m then K (a + (j - a) % (z - a)) else K j
theorem wrep_0 (K : Int → Int) (a z : Int) {m : Int} (h : m = 0) : wrep K a z m = K := funext fun j => if_neg (by omega)
theorem wrep_c {K : Int → Int} {a z m m2 : Int} (h : m = m2) : wrep K a z m = wrep K a z m2 := by rw [h]
theorem wrep_at {K : Int → Int} {a z i : Int} (ha : a < z) (hi : 0 ≤ i) : wrep K a z i (a + i) = K (a + i % (z - a)) := by
  unfold wrep
  by_cases h : a + i < z
  · rw [if_neg (by omega), Int.emod_eq_of_lt hi (by omega)]
  · rw [if_pos (by omega), show a + i - a = i from by omega]
theorem wrep_s {K K1 : Int → Int} {a z i p v i2 : Int} (h : K1 = wrep K a z i) (ha : a < z) (hi : 0 ≤ i) (hp : p = z + i) (hv : v = K1 (a + i)) (h2 : i2 = i + 1) : xud K1 p v = wrep K a z i2 := by
  subst hp; subst h2; subst hv; subst h
  funext j
  rw [wrep_at ha hi]
  unfold xud
  by_cases e : j = z + i
  · rw [if_pos e]
    unfold wrep
    rw [if_pos (by omega), e, show z + i - a = i + (z - a) from by omega, Int.add_emod_right]
  · rw [if_neg e]
    unfold wrep
    by_cases q : z ≤ j ∧ j < z + i
    · rw [if_pos q, if_pos (by omega)]
    · rw [if_neg q, if_neg (by omega)]
theorem wmul1 (t z b : Int) : (t - 1) * (z - b) = t * (z - b) - (z - b) := by rw [Int.sub_mul, Int.one_mul]
/-- the reading of a walk's text: m tells whether a step comes next; z steps stand in K, u times their number; st: open rounds (start, first step, times) -/
def zws (f : Int → Int) (n u : Int) : Nat → Bool → Int → Int → (Int → Int) → List (Int × Int × Int) → Int × Int × (Int → Int)
  | 0, _, _, z, K, _ => (0, z, K)
  | k + 1, true, p, z, K, st =>
    if zch f n (wp1 f n p) = 40 then (if 2 ≤ st.length then (-5000 - wp1 f n p, z, K) else zws f n u k true (wp1 f n p + 1) z K ((p, z, wtm (zch f n p)) :: st)) else
    if wst (zch f n (wp1 f n p)) = -1 then (-1000 - wp1 f n p, z, K) else
    if 60 < z + wtm (zch f n p) then (-6000 - p, z, K) else
    zws f n u k false (wp1 f n p + 1) (z + wtm (zch f n p)) (wrep (xud K z (u * wst (zch f n (wp1 f n p)))) z (z + 1) (wtm (zch f n p) - 1)) st
  | k + 1, false, p, z, K, [] => if p < n then zws f n u k true p z K [] else (0, z, K)
  | k + 1, false, p, z, K, (s, b, t) :: r =>
    if zch f n p = 41 then (if 60 < z + (t - 1) * (z - b) then (-6000 - s, z, K) else zws f n u k false (p + 1) (z + (t - 1) * (z - b)) (wrep K b z ((t - 1) * (z - b))) r) else zws f n u k true p z K ((s, b, t) :: r)
def zWS (f : Int → Int) (n u : Int) (Z : Int × Int × (Int → Int)) (m : Bool) (p z : Int) (K : Int → Int) (st : List (Int × Int × Int)) : Prop := ∃ k : Nat, 2 * (n - p) + (bif m then 1 else 2) ≤ (k : Int) ∧ Z = zws f n u k m p z K st
section WS
variable {f : Int → Int} {n u p z : Int} {K : Int → Int} {Z : Int × Int × (Int → Int)} {st r : List (Int × Int × Int)} {p1 p2 z2 t c s b : Int} {K2 : Int → Int}
theorem zWS.new (f : Int → Int) (n u z : Int) (K : Int → Int) : zWS f n u (zws f n u (2 * n + 1).toNat true 0 z K []) true 0 z K [] := ⟨(2 * n + 1).toNat, by show 2 * (n - 0) + 1 ≤ _; omega, rfl⟩
theorem zWS.pos (h : zWS f n u Z true p z K st) (hp : p ≤ n) : ∃ k : Nat, 2 * (n - p) ≤ (k : Int) ∧ Z = zws f n u (k + 1) true p z K st := by
  obtain ⟨k, hk, e⟩ := h
  have hk : 2 * (n - p) + 1 ≤ (k : Int) := hk
  cases k with
  | zero => omega
  | succ k => exact ⟨k, by omega, e⟩
theorem zWS.posA (h : zWS f n u Z false p z K st) (hp : p ≤ n) : ∃ k : Nat, 2 * (n - p) + 1 ≤ (k : Int) ∧ Z = zws f n u (k + 1) false p z K st := by
  obtain ⟨k, hk, e⟩ := h
  have hk : 2 * (n - p) + 2 ≤ (k : Int) := hk
  cases k with
  | zero => omega
  | succ k => exact ⟨k, by omega, e⟩
theorem zWS.five (h : zWS f n u Z true p z K st) (hp : p ≤ n) (h1 : p1 = wp1 f n p) (hc : zch f n p1 = 40) (hl : 2 ≤ st.length) : Z = (-5000 - p1, z, K) := by
  obtain ⟨k, hk, e⟩ := h.pos hp
  subst h1
  exact e.trans ((if_pos hc).trans (if_pos hl))
theorem zWS.open_ (h : zWS f n u Z true p z K st) (hp : p ≤ n) (h1 : p1 = wp1 f n p) (ht : t = wtm (zch f n p)) (hc : zch f n p1 = 40) (hl : st.length < 2) (h2 : p2 = p1 + 1) : zWS f n u Z true p2 z K ((p, z, t) :: st) := by
  obtain ⟨k, hk, e⟩ := h.pos hp
  have hw := wp1_cs f n p
  subst h1; subst ht; subst h2
  exact ⟨k, by show 2 * (n - (wp1 f n p + 1)) + 1 ≤ _; omega, e.trans ((if_pos hc).trans (if_neg (by omega)))⟩
theorem zWS.one (h : zWS f n u Z true p z K st) (hp : p ≤ n) (h1 : p1 = wp1 f n p) (hc : zch f n p1 ≠ 40) (hs : wst (zch f n p1) = -1) : Z = (-1000 - p1, z, K) := by
  obtain ⟨k, hk, e⟩ := h.pos hp
  subst h1
  exact e.trans ((if_neg hc).trans (if_pos hs))
theorem zWS.six (h : zWS f n u Z true p z K st) (hp : p ≤ n) (h1 : p1 = wp1 f n p) (ht : t = wtm (zch f n p)) (hc : zch f n p1 ≠ 40) (hs : wst (zch f n p1) ≠ -1) (h6 : 60 < z + t) : Z = (-6000 - p, z, K) := by
  obtain ⟨k, hk, e⟩ := h.pos hp
  subst h1; subst ht
  exact e.trans ((if_neg hc).trans ((if_neg hs).trans (if_pos h6)))
theorem zWS.step (h : zWS f n u Z true p z K st) (hp : p ≤ n) (h1 : p1 = wp1 f n p) (ht : t = wtm (zch f n p)) (hc : zch f n p1 ≠ 40) (hs : wst (zch f n p1) ≠ -1) (h6 : z + t ≤ 60) (h2 : p2 = p1 + 1) (hz : z2 = z + t) (hK : K2 = wrep (xud K z (u * wst (zch f n p1))) z (z + 1) (t - 1)) : zWS f n u Z false p2 z2 K2 st := by
  obtain ⟨k, hk, e⟩ := h.pos hp
  have hw := wp1_cs f n p
  subst h1; subst ht; subst h2; subst hz; subst hK
  exact ⟨k, by show 2 * (n - (wp1 f n p + 1)) + 2 ≤ _; omega, e.trans ((if_neg hc).trans ((if_neg hs).trans (if_neg (by omega))))⟩
theorem zWS.fin (h : zWS f n u Z false p z K []) (hp : p = n) : Z = (0, z, K) := by
  obtain ⟨k, hk, e⟩ := h.posA (by omega)
  exact e.trans (if_neg (by omega))
theorem zWS.more (h : zWS f n u Z false p z K []) (hp : p < n) : zWS f n u Z true p z K [] := by
  obtain ⟨k, hk, e⟩ := h.posA (by omega)
  exact ⟨k, by show 2 * (n - p) + 1 ≤ _; omega, e.trans (if_pos hp)⟩
theorem zWS.more1 (h : zWS f n u Z false p z K ((s, b, t) :: r)) (hp : p ≤ n) (hc : zch f n p ≠ 41) : zWS f n u Z true p z K ((s, b, t) :: r) := by
  obtain ⟨k, hk, e⟩ := h.posA hp
  exact ⟨k, by show 2 * (n - p) + 1 ≤ _; omega, e.trans (if_neg hc)⟩
theorem zWS.pop6 (h : zWS f n u Z false p z K ((s, b, t) :: r)) (hp : p ≤ n) (hc : zch f n p = 41) (h6 : 60 < z + (t - 1) * (z - b)) : Z = (-6000 - s, z, K) := by
  obtain ⟨k, hk, e⟩ := h.posA hp
  exact e.trans ((if_pos hc).trans (if_pos h6))
theorem zWS.pop (h : zWS f n u Z false p z K ((s, b, t) :: r)) (hp : p ≤ n) (hc : zch f n p = 41) (h6 : z + (t - 1) * (z - b) ≤ 60) (h2 : p2 = p + 1) (hz : z2 = z + (t - 1) * (z - b)) (hK : K2 = wrep K b z ((t - 1) * (z - b))) : zWS f n u Z false p2 z2 K2 r := by
  obtain ⟨k, hk, e⟩ := h.posA hp
  subst h2; subst hz; subst hK
  exact ⟨k, by show 2 * (n - (p + 1)) + 2 ≤ _; omega, e.trans ((if_pos hc).trans (if_neg (by omega)))⟩
end WS
/-- the reference writes each step's number twice as large -/
theorem wrep_2 {K K2 : Int → Int} (h : ∀ j, K2 j = 2 * K j) (a z m : Int) : ∀ j, wrep K2 a z m j = 2 * wrep K a z m j := fun j => by
  unfold wrep
  split <;> exact h _
theorem zws_2 {f : Int → Int} {n : Int} : ∀ (k : Nat) (m : Bool) (p z : Int) (K K2 : Int → Int) (st : List (Int × Int × Int)), (∀ j, K2 j = 2 * K j) → (zws f n 2 k m p z K2 st).1 = (zws f n 1 k m p z K st).1 ∧ (zws f n 2 k m p z K2 st).2.1 = (zws f n 1 k m p z K st).2.1 ∧ ∀ j, (zws f n 2 k m p z K2 st).2.2 j = 2 * (zws f n 1 k m p z K st).2.2 j
  | 0, _, _, _, _, _, _, h => ⟨rfl, rfl, h⟩
  | k + 1, true, p, z, K, K2, st, h => by
    unfold zws
    split
    · split
      · exact ⟨rfl, rfl, h⟩
      · exact zws_2 k _ _ _ _ _ _ h
    split
    · exact ⟨rfl, rfl, h⟩
    split
    · exact ⟨rfl, rfl, h⟩
    · refine zws_2 k _ _ _ _ _ _ (wrep_2 (fun j => ?_) _ _ _)
      unfold xud
      split
      · omega
      · exact h j
  | k + 1, false, p, z, K, K2, [], h => by
    unfold zws
    split
    · exact zws_2 k _ _ _ _ _ _ h
    · exact ⟨rfl, rfl, h⟩
  | k + 1, false, p, z, K, K2, (s, b, t) :: r, h => by
    unfold zws
    split
    · split
      · exact ⟨rfl, rfl, h⟩
      · exact zws_2 k _ _ _ _ _ _ (wrep_2 h _ _ _)
    · exact zws_2 k _ _ _ _ _ _ h

section WS2
variable {f : Int → Int} {n u p z : Int} {K : Int → Int} {Z : Int × Int × (Int → Int)} {st : List (Int × Int × Int)}
theorem zWS.fin0 (h : zWS f n u Z false p z K st) (hl : st.length = 0) (hp : p = n) : Z = (0, z, K) := by
  have e := List.eq_nil_of_length_eq_zero hl
  subst e
  exact h.fin hp
theorem zWS.more0 (h : zWS f n u Z false p z K st) (hl : st.length = 0) (hp : p < n) : zWS f n u Z true p z K st := by
  have e := List.eq_nil_of_length_eq_zero hl
  subst e
  exact h.more hp
theorem zWS.moreN (h : zWS f n u Z false p z K st) (hl : 0 < st.length) (hp : p ≤ n) (hc : zch f n p ≠ 41) : zWS f n u Z true p z K st := by
  cases st with
  | nil => exact absurd hl (Nat.lt_irrefl 0)
  | cons q r => obtain ⟨s, b, t⟩ := q; exact h.more1 hp hc
end WS2
/-- faults and sizes hang on the text alone -/
theorem zws_e {f : Int → Int} {n u u2 : Int} : ∀ (k : Nat) (m : Bool) (p z : Int) (K K2 : Int → Int) (st : List (Int × Int × Int)), (zws f n u2 k m p z K2 st).1 = (zws f n u k m p z K st).1 ∧ (zws f n u2 k m p z K2 st).2.1 = (zws f n u k m p z K st).2.1
  | 0, _, _, _, _, _, _ => ⟨rfl, rfl⟩
  | k + 1, true, p, z, K, K2, st => by
    unfold zws
    split
    · split
      · exact ⟨rfl, rfl⟩
      · exact zws_e k _ _ _ _ _ _
    split
    · exact ⟨rfl, rfl⟩
    split
    · exact ⟨rfl, rfl⟩
    · exact zws_e k _ _ _ _ _ _
  | k + 1, false, p, z, K, K2, [] => by
    unfold zws
    split
    · exact zws_e k _ _ _ _ _ _
    · exact ⟨rfl, rfl⟩
  | k + 1, false, p, z, K, K2, (s, b, t) :: r => by
    unfold zws
    split
    · split
      · exact ⟨rfl, rfl⟩
      · exact zws_e k _ _ _ _ _ _
    · exact zws_e k _ _ _ _ _ _
/-- the reference's open rounds -/
def zst (σ : xS) : List (Int × Int × Int) := if σ 268 35 = 0 then [] else if σ 268 35 = 1 then [(σ 290 0, σ 291 0, σ 292 0)] else [(σ 290 1, σ 291 1, σ 292 1), (σ 290 0, σ 291 0, σ 292 0)]
theorem zst_l {σ : xS} (h : 0 ≤ σ 268 35 ∧ σ 268 35 ≤ 2) : ((zst σ).length : Int) = σ 268 35 := by
  unfold zst
  split
  · rename_i e; rw [e]; rfl
  split
  · rename_i e; rw [e]; rfl
  · show (2 : Int) = _; omega
theorem zst_f {σ τ : xS} (e5 : τ 268 35 = σ 268 35) (e0 : τ 290 = σ 290) (e1 : τ 291 = σ 291) (e2 : τ 292 = σ 292) : zst τ = zst σ := by
  unfold zst
  rw [e5, e0, e1, e2]
theorem zst_push {σ τ : xS} {a b t : Int} (h : σ 268 35 = 0 ∨ σ 268 35 = 1) (e5 : τ 268 35 = σ 268 35 + 1) (e0 : τ 290 = xud (σ 290) (σ 268 35) a) (e1 : τ 291 = xud (σ 291) (σ 268 35) b) (e2 : τ 292 = xud (σ 292) (σ 268 35) t) : zst τ = (a, b, t) :: zst σ := by
  unfold zst
  rw [e5, e0, e1, e2]
  rcases h with q | q
  · rw [q]
    rfl
  · rw [q]
    rfl
theorem zst_pop {σ τ : xS} (h : σ 268 35 = 1 ∨ σ 268 35 = 2) (e5 : τ 268 35 = σ 268 35 - 1) (e0 : τ 290 = σ 290) (e1 : τ 291 = σ 291) (e2 : τ 292 = σ 292) : zst σ = (σ 290 (τ 268 35), σ 291 (τ 268 35), σ 292 (τ 268 35)) :: zst τ := by
  unfold zst
  rw [e5, e0, e1, e2]
  rcases h with q | q
  · rw [q]
    rfl
  · rw [q]
    rfl

/-- the reading, whatever the steps are -/
def zWX (f : Int → Int) (n : Int) (Z : Int × Int × (Int → Int)) (m : Bool) (p z : Int) (st : List (Int × Int × Int)) : Prop := ∃ K, zWS f n 1 Z m p z K st
theorem wmul2 (z a b : Int) : (z - a) * b = (b - 1) * (z - a) + (z - a) := by
  rw [wmul1, Int.mul_comm]
  omega
section WX
variable {f : Int → Int} {n p z : Int} {Z : Int × Int × (Int → Int)} {st r : List (Int × Int × Int)} {p1 p2 z2 t s b : Int}
theorem zWX.five (h : zWX f n Z true p z st) (hp : p ≤ n) (h1 : p1 = wp1 f n p) (hc : zch f n p1 = 40) (hl : 2 ≤ st.length) : Z.1 = -5000 - p1 := by
  obtain ⟨K, h⟩ := h; rw [h.five hp h1 hc hl]
theorem zWX.open_ (h : zWX f n Z true p z st) (hp : p ≤ n) (h1 : p1 = wp1 f n p) (ht : t = wtm (zch f n p)) (hc : zch f n p1 = 40) (hl : st.length < 2) (h2 : p2 = p1 + 1) : zWX f n Z true p2 z ((p, z, t) :: st) := by
  obtain ⟨K, h⟩ := h; exact ⟨K, h.open_ hp h1 ht hc hl h2⟩
theorem zWX.one (h : zWX f n Z true p z st) (hp : p ≤ n) (h1 : p1 = wp1 f n p) (hc : zch f n p1 ≠ 40) (hs : wst (zch f n p1) = -1) : Z.1 = -1000 - p1 := by
  obtain ⟨K, h⟩ := h; rw [h.one hp h1 hc hs]
theorem zWX.six (h : zWX f n Z true p z st) (hp : p ≤ n) (h1 : p1 = wp1 f n p) (ht : t = wtm (zch f n p)) (hc : zch f n p1 ≠ 40) (hs : wst (zch f n p1) ≠ -1) (h6 : 60 < z + t) : Z.1 = -6000 - p := by
  obtain ⟨K, h⟩ := h; rw [h.six hp h1 ht hc hs h6]
theorem zWX.step (h : zWX f n Z true p z st) (hp : p ≤ n) (h1 : p1 = wp1 f n p) (ht : t = wtm (zch f n p)) (hc : zch f n p1 ≠ 40) (hs : wst (zch f n p1) ≠ -1) (h6 : z + t ≤ 60) (h2 : p2 = p1 + 1) (hz : z2 = z + t) : zWX f n Z false p2 z2 st := by
  obtain ⟨K, h⟩ := h; exact ⟨_, h.step hp h1 ht hc hs h6 h2 hz rfl⟩
theorem zWX.pop6 (h : zWX f n Z false p z ((s, b, t) :: r)) (hp : p ≤ n) (hc : zch f n p = 41) (h6 : 60 < z + (t - 1) * (z - b)) : Z.1 = -6000 - s := by
  obtain ⟨K, h⟩ := h; rw [h.pop6 hp hc h6]
theorem zWX.pop (h : zWX f n Z false p z ((s, b, t) :: r)) (hp : p ≤ n) (hc : zch f n p = 41) (h6 : z + (t - 1) * (z - b) ≤ 60) (h2 : p2 = p + 1) (hz : z2 = z + (t - 1) * (z - b)) : zWX f n Z false p2 z2 r := by
  obtain ⟨K, h⟩ := h; exact ⟨_, h.pop hp hc h6 h2 hz rfl⟩
theorem zWX.fin0 (h : zWX f n Z false p z st) (hl : st.length = 0) (hp : p = n) : Z.1 = 0 ∧ Z.2.1 = z := by
  obtain ⟨K, h⟩ := h; rw [h.fin0 hl hp]; exact ⟨rfl, rfl⟩
theorem zWX.more0 (h : zWX f n Z false p z st) (hl : st.length = 0) (hp : p < n) : zWX f n Z true p z st := by
  obtain ⟨K, h⟩ := h; exact ⟨K, h.more0 hl hp⟩
theorem zWX.moreN (h : zWX f n Z false p z st) (hl : 0 < st.length) (hp : p ≤ n) (hc : zch f n p ≠ 41) : zWX f n Z true p z st := by
  obtain ⟨K, h⟩ := h; exact ⟨K, h.moreN hl hp hc⟩
theorem zWX.new (f : Int → Int) (n : Int) (K : Int → Int) : zWX f n (zws f n 1 (2 * n + 1).toNat true 0 0 K []) true 0 0 [] := ⟨K, zWS.new f n 1 0 K⟩
end WX

/-- where the open rounds begin -/
def zR0 (σ : xS) : Prop := ∀ j, 0 ≤ j → j < σ 268 35 → 0 ≤ σ 290 j ∧ σ 290 j ≤ 240
theorem zR0.new {σ : xS} (h5 : σ 268 35 = 0) : zR0 σ := fun j j1 j2 => by omega
theorem zR0.f {σ τ : xS} (h : zR0 σ) (h5 : τ 268 35 ≤ σ 268 35) (h0 : τ 290 = σ 290) : zR0 τ := fun j j1 j2 => by
  rw [h0]
  exact h j j1 (by omega)
theorem zR0.push {σ τ : xS} {v : Int} (h : zR0 σ) (h5 : τ 268 35 = σ 268 35 + 1) (h0 : τ 290 = xud (σ 290) (σ 268 35) v) (hv : 0 ≤ v ∧ v ≤ 240) : zR0 τ := fun j j1 j2 => by
  rw [h0]
  by_cases e : j = σ 268 35
  · rw [e, xud_s]; exact hv
  · rw [xud_o _ _ e]; exact h j j1 (by omega)
