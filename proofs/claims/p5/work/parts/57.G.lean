/-! ===== going through a law's code ===== -/
def zGD (C : Int → Int) (a t : Int) (m : Bool) (d : Int → Int) : Prop := (0 ≤ a ∧ a ≤ t ∧ t ≤ 240) ∧ (d a = 0 ∧ d t = 1) ∧ (∀ k, a ≤ k → k < t → zokc C (fun _ => 0) d t 0 k) ∧ (∀ k, a ≤ k → k ≤ t → 0 ≤ d k ∧ d k ≤ 40) ∧ zBL C a t m ∧ (∀ k, a ≤ k → k < t → 11534336 ≤ C k → C k < 13631488 ∧ C k % 1048576 ≤ t)
theorem zSG.gd {C : Int → Int} {a t : Int} {m : Bool} (h : zSG C a t) (hb : zBL C a t m) (hj : ∀ k, a ≤ k → k < t → 11534336 ≤ C k → C k < 13631488 ∧ C k % 1048576 ≤ t) : ∃ d, zGD C a t m d := by
  obtain ⟨h0, hw, hB⟩ := h
  obtain ⟨d, h1, h2, h3, h4, h5⟩ := hw
  refine ⟨d, h0, ⟨h1, h2⟩, fun k k1 k2 => ?_, fun k k1 k2 => ⟨(h4 k k1 k2).1, ?_⟩, hb, hj⟩
  · have z := h3 k k1 k2
    exact zokc_w z (fun i i1 i2 => by
      have i2 : i < 0 := i2
      omega)
  · have z := zdp_d h1 h3 (k - a).toNat (by omega)
    rw [show a + (((k - a).toNat : Nat) : Int) = k from by omega] at z
    rw [z]
    exact hB _ (by omega)
/-- the kinds of numbers at p -/
theorem zGD.at_ {C d : Int → Int} {a t p : Int} {m : Bool} (h : zGD C a t m d) (h1 : a ≤ p) (h2 : p < t) : (0 ≤ C p ∧ 0 ≤ d p ∧ d p ≤ 40 ∧ 0 ≤ d (p + 1) ∧ d (p + 1) ≤ 40) ∧
    ((C p < 1048576 ∧ d (p + 1) = d p + 1) ∨ ((1048576 ≤ C p ∧ C p < 1048583) ∧ d (p + 1) = d p + 1) ∨
     ((10485760 ≤ C p ∧ C p < 11534336) ∧ (a < p ∧ zbc (C (p - 1))) ∧ 1 ≤ d p ∧ d (p + 1) = d p) ∨
     ((11534336 ≤ C p ∧ C p < 13631488) ∧ (a < p ∧ zbc (C (p - 1))) ∧ d p = 1 ∧ d (p + 1) = 0 ∧ p < C p % 1048576 ∧ C p % 1048576 ≤ t ∧ d (C p % 1048576) = 1) ∨
     ((2097152 ≤ C p ∧ C p < 10485760) ∧ 2 ≤ d p ∧ d (p + 1) = d p - 1)) := by
  have z := h.2.2.1 p h1 h2
  have b0 := h.2.2.2.1 p h1 (by omega)
  have b1 := h.2.2.2.1 (p + 1) (by omega) (by omega)
  have bl := h.2.2.2.2.1.1 p h1 h2
  refine ⟨⟨z.1, b0.1, b0.2, b1.1, b1.2⟩, ?_⟩
  rcases z.2 with e | e | e | ⟨e1, e2, e3, e4 | ⟨i, i1, i2, -⟩⟩ | e
  · exact Or.inl e
  · exact Or.inr (Or.inl e)
  · exact Or.inr (Or.inr (Or.inl ⟨e.1, bl (by omega), e.2⟩))
  · exact Or.inr (Or.inr (Or.inr (Or.inl ⟨e1, bl (by omega), e2, e3, e4⟩)))
  · exact absurd i2 (by omega)
  · exact Or.inr (Or.inr (Or.inr (Or.inr e)))
def zVS (C F d : Int → Int) (a t V p : Int) (st : List Int) : Prop := (∃ k : Nat, t - p ≤ (k : Int) ∧ V = zev C F t k p st) ∧ (a ≤ p ∧ p ≤ t) ∧ (st.length : Int) = d p ∧ (a < p → zbc (C (p - 1)) → (zhd st = 0 ∨ zhd st = 1))
theorem zls_put (w : Int → Int) {b W v : Int} (h : b < W) : zls (xud w (W - 1) v) b (W - b).toNat = v :: zls w b (W - 1 - b).toNat := by
  rw [zls_pop _ h, xud_s, zls_f _ (fun i h1 h2 => xud_o w v (by omega))]
theorem zls_len (w : Int → Int) {b W : Int} (h : b ≤ W) : ((zls w b (W - b).toNat).length : Int) = W - b := by
  rw [zls_l]; omega
section VS
variable {C F d : Int → Int} {a t V p p2 v : Int} {m : Bool} {st r : List Int}
theorem zVS.new (hg : zGD C a t m d) : zVS C F d a t (zEV C F a t) a [] := ⟨⟨(t - a).toNat, by omega, rfl⟩, ⟨Int.le_refl _, hg.1.2.1⟩, hg.2.1.1.symm, fun h => absurd h (by omega)⟩
theorem zVS.pos (h : zVS C F d a t V p st) (hp : p < t) : ∃ k : Nat, t - p - 1 ≤ (k : Int) ∧ V = zev C F t (k + 1) p st := by
  obtain ⟨⟨k, hk, e⟩, hi⟩ := h
  cases k with
  | zero => omega
  | succ k => exact ⟨k, by omega, e⟩
theorem zVS.fin (h : zVS C F d a t V p st) (hp : p = t) : V = zhd st := by
  obtain ⟨⟨k, hk, e⟩, hi⟩ := h
  cases k with
  | zero => exact e
  | succ k => exact e.trans (if_pos (by omega))
theorem zVS.num (h : zVS C F d a t V p st) (hg : zGD C a t m d) (hp : p < t) (hc : C p < 1048576) (hv : v = C p) (h2 : p2 = p + 1) : zVS C F d a t V p2 (v :: st) := by
  obtain ⟨k, hk, e⟩ := h.pos hp
  have z := hg.at_ h.2.1.1 hp
  subst hv; subst h2
  exact ⟨⟨k, by omega, e.trans ((if_neg (by omega)).trans (if_pos hc))⟩, ⟨by have := h.2.1; omega, by omega⟩, by rw [zlenc, h.2.2.1]; omega, fun _ q => by
    rw [show p + 1 - 1 = p from by omega] at q
    unfold zbc at q
    omega⟩
theorem zVS.let_ (h : zVS C F d a t V p st) (hg : zGD C a t m d) (hp : p < t) (hc : 1048576 ≤ C p ∧ C p < 2097152) (hv : v = F (C p - 1048576)) (h2 : p2 = p + 1) : zVS C F d a t V p2 (v :: st) := by
  obtain ⟨k, hk, e⟩ := h.pos hp
  have z := hg.at_ h.2.1.1 hp
  subst hv; subst h2
  exact ⟨⟨k, by omega, e.trans ((if_neg (by omega)).trans ((if_neg (by omega)).trans (if_pos hc.2)))⟩, ⟨by have := h.2.1; omega, by omega⟩, by rw [zlenc, h.2.2.1]; omega, fun _ q => by
    rw [show p + 1 - 1 = p from by omega] at q
    unfold zbc at q
    omega⟩
/-- what is known of the top where it is asked -/
theorem zVS.top (h : zVS C F d a t V p st) (hg : zGD C a t m d) (hp : p < t) (hc : 10485760 ≤ C p) : 1 ≤ (st.length : Int) ∧ (zhd st = 0 ∨ zhd st = 1) := by
  have z := hg.at_ h.2.1.1 hp
  have l := h.2.2.1
  have q : a < p ∧ zbc (C (p - 1)) := by
    rcases z.2 with e | e | e | e | e
    · omega
    · omega
    · exact e.2.1
    · exact e.2.1
    · omega
  refine ⟨?_, h.2.2.2 q.1 q.2⟩
  have zz := z.2
  clear q
  rcases zz with e | e | e | e | e
  · omega
  · omega
  · have := e.2.2.1; omega
  · have := e.2.2.1; omega
  · omega
theorem zVS.not (h : zVS C F d a t V p st) (hg : zGD C a t m d) (hp : p < t) (hc : 10485760 ≤ C p ∧ C p < 11534336) (hv : v = 1 - zhd st) (hr : st = zhd st :: r) (h2 : p2 = p + 1) : zVS C F d a t V p2 (v :: r) := by
  obtain ⟨k, hk, e⟩ := h.pos hp
  have z := hg.at_ h.2.1.1 hp
  have tp := h.top hg hp hc.1
  have l := h.2.2.1
  subst hv; subst h2
  have er : ztl st = r := by rw [hr]; rfl
  have zz : d (p + 1) = d p := by
    rcases z.2 with e | e | e | e | e
    · omega
    · omega
    · exact e.2.2.2
    · omega
    · omega
  refine ⟨⟨k, by omega, e.trans ((if_neg (by omega)).trans ((if_neg (by omega)).trans ((if_neg (by omega)).trans ((if_pos (by omega)).trans (by rw [er])))))⟩, ⟨by have := h.2.1; omega, by omega⟩, ?_, fun _ _ => by show 1 - zhd st = 0 ∨ 1 - zhd st = 1; omega⟩
  rw [hr, zlenc] at l
  rw [zlenc]; omega
theorem zVS.jmp (h : zVS C F d a t V p st) (hg : zGD C a t m d) (hp : p < t) (hc : (11534336 ≤ C p ∧ C p < 12582912 ∧ zhd st = 0) ∨ (12582912 ≤ C p ∧ C p < 13631488 ∧ zhd st = 1)) (h2 : p2 = C p % 1048576) : zVS C F d a t V p2 st ∧ p < p2 := by
  obtain ⟨k, hk, e⟩ := h.pos hp
  have z := hg.at_ h.2.1.1 hp
  have tp := h.top hg hp (by omega)
  have l := h.2.2.1
  have zz : d p = 1 ∧ p < C p % 1048576 ∧ C p % 1048576 ≤ t ∧ d (C p % 1048576) = 1 := by
    rcases z.2 with e | e | e | e | e
    · omega
    · omega
    · omega
    · exact ⟨e.2.2.1, e.2.2.2.2.1, e.2.2.2.2.2.1, e.2.2.2.2.2.2⟩
    · omega
  subst h2
  refine ⟨⟨⟨k, by omega, e.trans ((if_neg (by omega)).trans ((if_neg (by omega)).trans ((if_neg (by omega)).trans ((if_neg (by omega)).trans ?_))))⟩, ⟨by have := h.2.1; omega, zz.2.2.1⟩, by omega, fun _ _ => tp.2⟩, zz.2.1⟩
  rcases hc with c | c
  · exact (if_pos (by omega)).trans (if_pos c.2.2)
  · exact (if_neg (by omega)).trans ((if_pos (by omega)).trans (if_pos c.2.2))
theorem zVS.stay (h : zVS C F d a t V p st) (hg : zGD C a t m d) (hp : p < t) (hc : (11534336 ≤ C p ∧ C p < 12582912 ∧ zhd st ≠ 0) ∨ (12582912 ≤ C p ∧ C p < 13631488 ∧ zhd st ≠ 1)) (hr : st = zhd st :: r) (h2 : p2 = p + 1) : zVS C F d a t V p2 r := by
  obtain ⟨k, hk, e⟩ := h.pos hp
  have z := hg.at_ h.2.1.1 hp
  have l := h.2.2.1
  have er : ztl st = r := by rw [hr]; rfl
  have zz : d p = 1 ∧ d (p + 1) = 0 := by
    rcases z.2 with e | e | e | e | e
    · omega
    · omega
    · omega
    · exact ⟨e.2.2.1, e.2.2.2.1⟩
    · omega
  subst h2
  refine ⟨⟨k, by omega, e.trans ((if_neg (by omega)).trans ((if_neg (by omega)).trans ((if_neg (by omega)).trans ((if_neg (by omega)).trans ?_))))⟩, ⟨by have := h.2.1; omega, by omega⟩, ?_, fun _ q => ?_⟩
  · rcases hc with c | c
    · exact (if_pos (by omega)).trans ((if_neg c.2.2).trans (by rw [er]))
    · exact (if_neg (by omega)).trans ((if_pos (by omega)).trans ((if_neg c.2.2).trans (by rw [er])))
  · rw [hr, zlenc] at l
    omega
  · rw [show p + 1 - 1 = p from by omega] at q
    unfold zbc at q
    omega
theorem zVS.zero (h : zVS C F d a t V p st) (hp : p < t) (hc : 5242880 ≤ C p ∧ C p < 7340032) (hz : zhd st = 0) : V = 0 := by
  obtain ⟨k, hk, e⟩ := h.pos hp
  exact e.trans ((if_neg (by omega)).trans ((if_neg (by omega)).trans ((if_neg (by omega)).trans ((if_neg (by omega)).trans ((if_neg (by omega)).trans ((if_neg (by omega)).trans (if_pos ⟨by omega, hz⟩)))))))
theorem zVS.op (h : zVS C F d a t V p st) (hg : zGD C a t m d) (hp : p < t) (hc : 2097152 ≤ C p ∧ C p < 10485760) (hz : ¬ ((5242880 ≤ C p ∧ C p < 7340032) ∧ zhd st = 0)) {x y : Int} (hr : st = y :: x :: r) (hv : v = zrk (C p / 1048576) x y) (h2 : p2 = p + 1) : zVS C F d a t V p2 (v :: r) := by
  obtain ⟨k, hk, e⟩ := h.pos hp
  have z := hg.at_ h.2.1.1 hp
  have l := h.2.2.1
  have zz : d (p + 1) = d p - 1 := by
    rcases z.2 with e | e | e | e | e
    · omega
    · omega
    · omega
    · omega
    · exact e.2.2
  subst h2; subst hr; subst hv
  refine ⟨⟨k, by omega, e.trans ((if_neg (by omega)).trans ((if_neg (by omega)).trans ((if_neg (by omega)).trans ((if_neg (by omega)).trans ((if_neg (by omega)).trans ((if_neg (by omega)).trans (if_neg ?_)))))))⟩, ⟨by have := h.2.1; omega, by omega⟩, ?_, fun _ q => ?_⟩
  · intro q
    exact hz ⟨by omega, q.2⟩
  · rw [zlenc, zlenc] at l
    rw [zlenc]; omega
  · rw [show p + 1 - 1 = p from by omega] at q
    unfold zbc at q
    exact zrk_b _ _ _ (by omega)
end VS
/-- the class's orders, by the numbers -/
theorem zom_k {v : Int} (h : 0 ≤ v ∧ v < 13631488) : (v < 1048576 ∧ zom v = 1) ∨ ((1048576 ≤ v ∧ v < 2097152) ∧ zom v = 2) ∨ ((2097152 ≤ v ∧ v < 10485760) ∧ (zom v = 43 ∨ zom v = 45 ∨ zom v = 42 ∨ zom v = 47 ∨ zom v = 37 ∨ zom v = 60 ∨ zom v = 62 ∨ zom v = 61)) ∨ ((10485760 ≤ v ∧ v < 11534336) ∧ zom v = 3) ∨ ((11534336 ≤ v ∧ v < 12582912) ∧ zom v = 4) ∨ (12582912 ≤ v ∧ zom v = 5) := by
  unfold zom
  (repeat' split) <;> omega
theorem zom_r {v x y r : Int} (h : 2097152 ≤ v ∧ v < 10485760) (hz : ¬ ((5242880 ≤ v ∧ v < 7340032) ∧ y = 0)) (hr : (zom v = 43 ∧ r = zwp (x + y)) ∨ (zom v = 45 ∧ r = zwp (x - y)) ∨ (zom v = 42 ∧ r = zwp (x * y)) ∨ (zom v = 47 ∧ y ≠ 0 ∧ r = zdv x y) ∨ (zom v = 37 ∧ y ≠ 0 ∧ r = zrm x y) ∨ (zom v = 60 ∧ ((x < y ∧ r = 1) ∨ (y ≤ x ∧ r = 0))) ∨ (zom v = 62 ∧ ((y < x ∧ r = 1) ∨ (x ≤ y ∧ r = 0))) ∨ (zom v = 61 ∧ ((x = y ∧ r = 1) ∨ (x ≠ y ∧ r = 0)))) : r = zrk (v / 1048576) x y := by
  have q : (zom v = 43 ∧ v / 1048576 = 2) ∨ (zom v = 45 ∧ v / 1048576 = 3) ∨ (zom v = 42 ∧ v / 1048576 = 4) ∨ (zom v = 47 ∧ v / 1048576 = 5) ∨ (zom v = 37 ∧ v / 1048576 = 6) ∨ (zom v = 60 ∧ v / 1048576 = 7) ∨ (zom v = 62 ∧ v / 1048576 = 8) ∨ (zom v = 61 ∧ v / 1048576 = 9) := by
    unfold zom
    (repeat' split) <;> omega
  rcases q with ⟨q, e⟩ | ⟨q, e⟩ | ⟨q, e⟩ | ⟨q, e⟩ | ⟨q, e⟩ | ⟨q, e⟩ | ⟨q, e⟩ | ⟨q, e⟩ <;> rw [q] at hr <;> rw [e]
  · have : r = zwp (x + y) := by omega
    exact this
  · have : r = zwp (x - y) := by omega
    exact this
  · have : r = zwp (x * y) := by omega
    exact this
  · have : r = zdv x y := by omega
    exact this
  · have : r = zrm x y := by omega
    exact this
  · show r = if x < y then 1 else 0
    split <;> omega
  · show r = if y < x then 1 else 0
    split <;> omega
  · show r = if x = y then 1 else 0
    split <;> omega
theorem zwm_k {s v : Int} (h : 0 ≤ v ∧ v < 13631488) : (v < 1048576 → zwm s v = v) ∧ (1048576 ≤ v → v < 2097152 → zwm s v = v - 1048576) ∧ (11534336 ≤ v → v % 1048576 ≠ 0 → zwm s v = v % 1048576 + s) := by
  unfold zwm
  refine ⟨fun q => if_pos q, fun q1 q2 => ?_, fun q1 q2 => ?_⟩
  · rw [if_neg (by omega), if_pos q2]
  · rw [if_neg (by omega), if_neg (by omega), if_neg (by omega), if_neg q2]
theorem zom_z {v : Int} (h : 0 ≤ v ∧ v < 13631488) : (zom v = 47 → 5242880 ≤ v ∧ v < 6291456) ∧ (zom v = 37 → 6291456 ≤ v ∧ v < 7340032) ∧ (5242880 ≤ v → v < 7340032 → zom v = 47 ∨ zom v = 37) := by
  unfold zom
  (repeat' split) <;> omega
/-! ===== stacks ===== -/
def zl1 (w : Int → Int) (n : Int) : List Int := zls w 1 n.toNat
def zl0 (w : Int → Int) (n : Int) : List Int := zls w 0 n.toNat
theorem zl1_0 (w : Int → Int) {n : Int} (h : n = 0) : zl1 w n = [] := by subst h; rfl
theorem zl0_0 (w : Int → Int) {n : Int} (h : n = 0) : zl0 w n = [] := by subst h; rfl
theorem zl1_l (w : Int → Int) {n : Int} (h : 0 ≤ n) : ((zl1 w n).length : Int) = n := by
  unfold zl1
  rw [zls_l]; omega
theorem zl0_l (w : Int → Int) {n : Int} (h : 0 ≤ n) : ((zl0 w n).length : Int) = n := by
  unfold zl0
  rw [zls_l]; omega
theorem zl1_pop (w : Int → Int) {n : Int} (h : 1 ≤ n) : zl1 w n = w n :: zl1 w (n - 1) := by
  unfold zl1
  rw [show n.toNat = (n - 1).toNat + 1 from by omega]
  show w (1 + ((n - 1).toNat : Nat)) :: zls w 1 (n - 1).toNat = _
  rw [show 1 + (((n - 1).toNat : Nat) : Int) = n from by omega]
theorem zl0_pop (w : Int → Int) {n : Int} (h : 1 ≤ n) : zl0 w n = w (n - 1) :: zl0 w (n - 1) := by
  unfold zl0
  rw [show n.toNat = (n - 1).toNat + 1 from by omega]
  show w (0 + ((n - 1).toNat : Nat)) :: zls w 0 (n - 1).toNat = _
  rw [show 0 + (((n - 1).toNat : Nat) : Int) = n - 1 from by omega]
theorem zl1_put (w : Int → Int) {n k v : Int} (hk : k = n) (h : 1 ≤ n) : zl1 (xud w k v) n = v :: zl1 w (n - 1) := by
  subst hk
  rw [zl1_pop _ h, xud_s]
  unfold zl1
  rw [zls_f _ (fun i h1 h2 => xud_o w v (by omega))]
theorem zl0_put (w : Int → Int) {n k v : Int} (hk : k = n - 1) (h : 1 ≤ n) : zl0 (xud w k v) n = v :: zl0 w (n - 1) := by
  subst hk
  rw [zl0_pop _ h, xud_s]
  unfold zl0
  rw [zls_f _ (fun i h1 h2 => xud_o w v (by omega))]
theorem zl1_push (w : Int → Int) {n k v : Int} (hk : k = n + 1) (h : 0 ≤ n) : zl1 (xud w k v) k = v :: zl1 w n := by
  have e := zl1_put w (n := k) (k := k) (v := v) rfl (by omega)
  rw [e, show k - 1 = n from by omega]
theorem zl0_push (w : Int → Int) {n k v : Int} (hk : k = n) {n2 : Int} (h2 : n2 = n + 1) (h : 0 ≤ n) : zl0 (xud w k v) n2 = v :: zl0 w n := by
  have e := zl0_put w (n := n2) (k := k) (v := v) (by omega) (by omega)
  rw [e, show n2 - 1 = n from by omega]
