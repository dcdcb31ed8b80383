def zbt : List Int → Prop
  | [] => True
  | v :: r => (r = [] → v = 13631488) ∧ zbt r
theorem znN_n : ∀ s : List Int, 0 ≤ znN s
  | [] => Int.le_refl _
  | v :: r => by
    have := znN_n r
    unfold znN
    split <;> omega
theorem zqn_n : ∀ s : List Int, 0 ≤ zqn s
  | [] => Int.le_refl _
  | v :: r => by
    have := zqn_n r
    unfold zqn
    split <;> omega
theorem znN_y {v : Int} {r : List Int} (h : v < 11534336) : znN (v :: r) = znN r + 1 := by
  show znN r + (if v < 11534336 then 1 else 0) = znN r + 1
  rw [if_pos h]
theorem znN_z {v : Int} {r : List Int} (h : 11534336 ≤ v) : znN (v :: r) = znN r := by
  show znN r + (if v < 11534336 then 1 else 0) = znN r
  rw [if_neg (by omega)]; omega
theorem zqn_y {v : Int} {r : List Int} (h : v < 11534336 ∨ 13631488 ≤ v) : zqn (v :: r) = zqn r + 1 := by
  show zqn r + (if v < 11534336 ∨ 13631488 ≤ v then 1 else 0) = zqn r + 1
  rw [if_pos h]
theorem zqn_z {v : Int} {r : List Int} (h : 11534336 ≤ v ∧ v < 13631488) : zqn (v :: r) = zqn r := by
  show zqn r + (if v < 11534336 ∨ 13631488 ≤ v then 1 else 0) = zqn r
  rw [if_neg (by omega)]; omega
theorem zsc_m {a c c2 : Int} {C C2 : Int → Int} (h : c ≤ c2) (hC : ∀ k, k < c → C2 k / 1048576 = C k / 1048576) : ∀ {s : List Int}, zsc a c C s → zsc a c2 C2 s
  | [], _ => trivial
  | v :: r, q => ⟨by
      rcases q.1 with e | e | e
      · exact Or.inl e
      · exact Or.inr (Or.inl e)
      · exact Or.inr (Or.inr ⟨e.1, e.2.1, e.2.2.1, by omega, by rw [hC _ e.2.2.2.1]; exact e.2.2.2.2.1, e.2.2.2.2.2⟩), zsc_m h hC q.2⟩
def zland (C : Int → Int) (v c : Int) : Int → Int := xud C (v % 1048576) (1048576 * (C (v % 1048576) / 1048576) + c)
theorem zland_op (C : Int → Int) (v : Int) {c : Int} (h : 0 ≤ c ∧ c < 1048576) (k : Int) : zland C v c k / 1048576 = C k / 1048576 := by
  unfold zland
  by_cases e : k = v % 1048576
  · rw [e, xud_s]; omega
  · rw [xud_o C _ e]
/-- the reading of a condition behind its first ( : m tells whether a piece comes next -/
def zcg (f : Int → Int) (n : Int) : Nat → Bool → Int → Int → (Int → Int) → List Int → Int × Int × Int × (Int → Int)
  | 0, _, p, c, C, _ => (0, p, c, C)
  | k + 1, true, p, c, C, st =>
    if zch f n p = 33 ∨ zch f n p = 40 then (if 6 ≤ zqn st then (-5000 - p, p, c, C) else zcg f n k true (p + 1) c C ((if zch f n p = 33 then 10485760 else 13631488) :: st)) else
    if (zE0 f n (zqn st) p c C).1 ≠ 0 then zE0 f n (zqn st) p c C else
    if zcp (zch f n (zE0 f n (zqn st) p c C).2.1) = -1 then (-1000 - (zE0 f n (zqn st) p c C).2.1, p, c, C) else
    if (zE0 f n (zqn st) ((zE0 f n (zqn st) p c C).2.1 + 1) (zE0 f n (zqn st) p c C).2.2.1 (zE0 f n (zqn st) p c C).2.2.2).1 ≠ 0 then zE0 f n (zqn st) ((zE0 f n (zqn st) p c C).2.1 + 1) (zE0 f n (zqn st) p c C).2.2.1 (zE0 f n (zqn st) p c C).2.2.2 else
    zcg f n k false (zE0 f n (zqn st) ((zE0 f n (zqn st) p c C).2.1 + 1) (zE0 f n (zqn st) p c C).2.2.1 (zE0 f n (zqn st) p c C).2.2.2).2.1
      ((zE0 f n (zqn st) ((zE0 f n (zqn st) p c C).2.1 + 1) (zE0 f n (zqn st) p c C).2.2.1 (zE0 f n (zqn st) p c C).2.2.2).2.2.1 + 1)
      (xud (zE0 f n (zqn st) ((zE0 f n (zqn st) p c C).2.1 + 1) (zE0 f n (zqn st) p c C).2.2.1 (zE0 f n (zqn st) p c C).2.2.2).2.2.2 (zE0 f n (zqn st) ((zE0 f n (zqn st) p c C).2.1 + 1) (zE0 f n (zqn st) p c C).2.2.1 (zE0 f n (zqn st) p c C).2.2.2).2.2.1 (1048576 * zcp (zch f n (zE0 f n (zqn st) p c C).2.1))) st
  | _ + 1, false, p, c, C, [] => (0, p, c, C)
  | k + 1, false, p, c, C, v :: r =>
    if v < 11534336 then zcg f n k false p (c + 1) (xud C c 10485760) r else
    if v < 12582912 then zcg f n k false p c (zland C v c) r else
    if zch f n p = 38 then zcg f n k true (p + 1) (c + 1) (xud C c 11534336) ((11534336 + c) :: v :: r) else
    if v < 13631488 then zcg f n k false p c (zland C v c) r else
    if zch f n p = 124 then zcg f n k true (p + 1) (c + 1) (xud C c 12582912) ((12582912 + c) :: v :: r) else
    if zch f n p = 41 then zcg f n k false (p + 1) c C r else (-1000 - p, p, c, C)
def zC0 (f : Int → Int) (n p c : Int) (C : Int → Int) : Int × Int × Int × (Int → Int) := zcg f n (2 * n + 2).toNat true p c C [13631488]
def zCI (n a p c : Int) (C : Int → Int) (m : Bool) (st : List Int) : Prop := (0 ≤ a ∧ a ≤ c) ∧ c + znN st ≤ p ∧ (st.length : Int) ≤ p ∧ p ≤ n ∧ n ≤ 240 ∧ zsc a c C st ∧ zbt st ∧ (m = true → st ≠ [])
def zCX (f : Int → Int) (n a : Int) (Z : Int × Int × Int × (Int → Int)) (m : Bool) (p c : Int) (C : Int → Int) (st : List Int) : Prop := (∃ k : Nat, 2 * (n - p) + (st.length : Int) + 1 ≤ (k : Int) ∧ Z = zcg f n k m p c C st) ∧ zCI n a p c C m st
section CX
variable {f : Int → Int} {n a p c p1 p2 c1 c2 c3 v : Int} {C C1 C2 C3 : Int → Int} {Z : Int × Int × Int × (Int → Int)} {m : Bool} {st r : List Int}
theorem zCX.new (h : 0 ≤ c ∧ c + 1 ≤ p ∧ p ≤ n ∧ n ≤ 240) : zCX f n c (zC0 f n p c C) true p c C [13631488] :=
  ⟨⟨(2 * n + 2).toNat, by show 2 * (n - p) + 1 + 1 ≤ _; omega, rfl⟩, ⟨h.1, Int.le_refl _⟩, by show c + 0 ≤ p; omega, by show (1 : Int) ≤ p; omega, h.2.2.1, h.2.2.2, ⟨Or.inr (Or.inl rfl), trivial⟩, ⟨fun _ => rfl, trivial⟩, fun _ => List.cons_ne_nil _ _⟩
theorem zCX.pos (h : zCX f n a Z m p c C st) : ∃ k : Nat, 2 * (n - p) + (st.length : Int) ≤ (k : Int) ∧ Z = zcg f n (k + 1) m p c C st := by
  obtain ⟨⟨k, hk, e⟩, hi⟩ := h
  have hp := hi.2.2.2.1
  cases k with
  | zero => omega
  | succ k => exact ⟨k, by omega, e⟩
theorem zCX.b (h : zCX f n a Z m p c C st) : 0 ≤ a ∧ a ≤ c ∧ c + znN st ≤ p ∧ 0 ≤ znN st ∧ (st.length : Int) ≤ p ∧ p ≤ n ∧ n ≤ 240 :=
  ⟨h.2.1.1, h.2.1.2, h.2.2.1, znN_n st, h.2.2.2.1, h.2.2.2.2.1, h.2.2.2.2.2.1⟩
theorem zCX.sh (h : zCX f n a Z m p c C st) : zsc a c C st := h.2.2.2.2.2.2.1
theorem zCX.bt (h : zCX f n a Z m p c C st) : zbt st := h.2.2.2.2.2.2.2.1
theorem zCX.ne (h : zCX f n a Z true p c C st) : st ≠ [] := h.2.2.2.2.2.2.2.2 rfl
theorem zCX.five (h : zCX f n a Z true p c C st) (hc : zch f n p = 33 ∨ zch f n p = 40) (hq : 6 ≤ zqn st) : Z = (-5000 - p, p, c, C) := by
  obtain ⟨k, hk, e⟩ := h.pos
  exact e.trans ((if_pos hc).trans (if_pos hq))
theorem zCX.open_ (h : zCX f n a Z true p c C st) (hc : (zch f n p = 33 ∧ v = 10485760) ∨ (zch f n p = 40 ∧ v = 13631488)) (hq : zqn st < 6) (h2 : p2 = p + 1) : zCX f n a Z true p2 c C (v :: st) := by
  obtain ⟨k, hk, e⟩ := h.pos
  have b := h.b
  have hl := zch_lt (f := f) (n := n) (p := p) (by omega)
  subst h2
  have hv : (if zch f n p = 33 then (10485760 : Int) else 13631488) = v := by split <;> omega
  refine ⟨⟨k, ?_, e.trans ((if_pos (by omega)).trans ((if_neg (by omega)).trans (by rw [hv])))⟩, ⟨b.1, b.2.1⟩, ?_, ?_, by omega, b.2.2.2.2.2.2, ⟨by omega, h.sh⟩, ⟨fun q => absurd q h.ne, h.bt⟩, fun _ => List.cons_ne_nil _ _⟩
  · rw [List.length_cons]; omega
  · by_cases e : v < 11534336
    · rw [znN_y e]; omega
    · rw [znN_z (by omega)]; omega
  · rw [List.length_cons]; omega
theorem zCX.e1 (h : zCX f n a Z true p c C st) (hc : zch f n p ≠ 33 ∧ zch f n p ≠ 40) (h1 : (zE0 f n (zqn st) p c C).1 ≠ 0) : Z = zE0 f n (zqn st) p c C := by
  obtain ⟨k, hk, e⟩ := h.pos
  exact e.trans ((if_neg (by omega)).trans (if_pos h1))
theorem zCX.one (h : zCX f n a Z true p c C st) (hc : zch f n p ≠ 33 ∧ zch f n p ≠ 40) (h1 : zE0 f n (zqn st) p c C = (0, p1, c1, C1)) (h2 : zcp (zch f n p1) = -1) : Z = (-1000 - p1, p, c, C) := by
  obtain ⟨k, hk, e⟩ := h.pos
  unfold zcg at e
  rw [h1] at e
  exact e.trans ((if_neg (by omega)).trans ((if_neg (fun z => z rfl)).trans (if_pos h2)))
theorem zCX.e2 (h : zCX f n a Z true p c C st) (hc : zch f n p ≠ 33 ∧ zch f n p ≠ 40) (h1 : zE0 f n (zqn st) p c C = (0, p1, c1, C1)) (h2 : zcp (zch f n p1) ≠ -1) (h3 : (zE0 f n (zqn st) (p1 + 1) c1 C1).1 ≠ 0) : Z = zE0 f n (zqn st) (p1 + 1) c1 C1 := by
  obtain ⟨k, hk, e⟩ := h.pos
  unfold zcg at e
  rw [h1] at e
  exact e.trans ((if_neg (by omega)).trans ((if_neg (fun z => z rfl)).trans ((if_neg h2).trans (if_pos h3))))
theorem zCX.cmp (h : zCX f n a Z true p c C st) (hc : zch f n p ≠ 33 ∧ zch f n p ≠ 40) (h1 : zE0 f n (zqn st) p c C = (0, p1, c1, C1)) (h2 : zcp (zch f n p1) ≠ -1) (h3 : zE0 f n (zqn st) (p1 + 1) c1 C1 = (0, p2, c2, C2)) (hb : p + 1 ≤ p2 ∧ p2 ≤ n ∧ c ≤ c2 ∧ c2 + 1 + znN st ≤ p2) (ho : ∀ k, k < c → C2 k = C k) (h4 : c3 = c2 + 1) (hC : C3 = xud C2 c2 (1048576 * zcp (zch f n p1))) : zCX f n a Z false p2 c3 C3 st := by
  obtain ⟨k, hk, e⟩ := h.pos
  have b := h.b
  unfold zcg at e
  rw [h1] at e
  subst h4; subst hC
  refine ⟨⟨k, by omega, e.trans ((if_neg (by omega)).trans ((if_neg (fun z => z rfl)).trans ((if_neg h2).trans ?_)))⟩, ⟨b.1, by omega⟩, by omega, by omega, by omega, b.2.2.2.2.2.2, zsc_m (by omega) (fun k hk => by rw [xud_o C2 _ (by omega), ho k hk]) h.sh, h.bt, fun q => by cases q⟩
  show (if (zE0 f n (zqn st) (p1 + 1) c1 C1).1 ≠ 0 then _ else _) = _
  rw [h3]
  exact if_neg (fun z => z rfl)
theorem zCX.not (h : zCX f n a Z false p c C (v :: r)) (hv : v < 11534336) (hc : c2 = c + 1) (hC : C2 = xud C c 10485760) : zCX f n a Z false p c2 C2 r := by
  obtain ⟨k, hk, e⟩ := h.pos
  have b := h.b
  subst hc; subst hC
  have hn : znN (v :: r) = znN r + 1 := znN_y hv
  rw [List.length_cons] at hk b
  exact ⟨⟨k, by omega, e.trans (if_pos hv)⟩, ⟨b.1, by omega⟩, by omega, by omega, by omega, b.2.2.2.2.2.2, zsc_m (by omega) (fun k hk => by rw [xud_o C _ (by omega)]) h.sh.2, h.bt.2, fun q => by cases q⟩
theorem zCX.landA (h : zCX f n a Z false p c C (v :: r)) (hv : 11534336 ≤ v ∧ v < 12582912) (hC : C2 = zland C v c) : zCX f n a Z false p c C2 r := by
  obtain ⟨k, hk, e⟩ := h.pos
  have b := h.b
  subst hC
  have hn : znN (v :: r) = znN r := znN_z (by omega)
  rw [List.length_cons] at hk b
  exact ⟨⟨k, by omega, e.trans ((if_neg (by omega)).trans (if_pos hv.2))⟩, ⟨b.1, by omega⟩, by omega, by omega, by omega, b.2.2.2.2.2.2, zsc_m (Int.le_refl _) (fun k _ => zland_op C v (by omega) k) h.sh.2, h.bt.2, fun q => by cases q⟩
theorem zCX.landP (h : zCX f n a Z false p c C (v :: r)) (hv : 12582912 ≤ v ∧ v < 13631488) (hn : zch f n p ≠ 38) (hC : C2 = zland C v c) : zCX f n a Z false p c C2 r := by
  obtain ⟨k, hk, e⟩ := h.pos
  have b := h.b
  subst hC
  have hm : znN (v :: r) = znN r := znN_z (by omega)
  rw [List.length_cons] at hk b
  exact ⟨⟨k, by omega, e.trans ((if_neg (by omega)).trans ((if_neg (by omega)).trans ((if_neg hn).trans (if_pos hv.2))))⟩, ⟨b.1, by omega⟩, by omega, by omega, by omega, b.2.2.2.2.2.2, zsc_m (Int.le_refl _) (fun k _ => zland_op C v (by omega) k) h.sh.2, h.bt.2, fun q => by cases q⟩
theorem zCX.and_ (h : zCX f n a Z false p c C st) (ht : 12582912 ≤ ztp st) (hc : zch f n p = 38) (h2 : p2 = p + 1) (h3 : c2 = c + 1) (hv : v = 11534336 + c) (hC : C2 = xud C c 11534336) : zCX f n a Z true p2 c2 C2 (v :: st) := by
  obtain ⟨k, hk, e⟩ := h.pos
  have b := h.b
  have hl := zch_lt (f := f) (n := n) (p := p) (by omega)
  have hx := h.bt
  have hy := h.sh
  cases st with
  | nil => exact absurd ht (by decide)
  | cons v9 r9 =>
    have ht : 12582912 ≤ v9 := ht
    subst h2; subst h3; subst hC
    have hn : znN (v :: v9 :: r9) = znN (v9 :: r9) := znN_z (by omega)
    refine ⟨⟨k, ?_, ?_⟩, ⟨b.1, by omega⟩, by omega, ?_, by omega, b.2.2.2.2.2.2, ⟨Or.inr (Or.inr ⟨by omega, by omega, by omega, by omega, by rw [show v % 1048576 = c from by omega, xud_s]; omega, fun _ => by show 12582912 ≤ v9; omega, fun _ => by show 13631488 ≤ v9; omega⟩), zsc_m (by omega) (fun k hk => by rw [xud_o C _ (by omega)]) hy⟩, ⟨fun q => absurd q (List.cons_ne_nil _ _), hx⟩, fun _ => List.cons_ne_nil _ _⟩
    · rw [List.length_cons]; omega
    · subst hv
      exact e.trans ((if_neg (by omega)).trans ((if_neg (by omega)).trans (if_pos hc)))
    · rw [List.length_cons]; omega
theorem zCX.or_ (h : zCX f n a Z false p c C st) (ht : 13631488 ≤ ztp st) (hc : zch f n p = 124) (h2 : p2 = p + 1) (h3 : c2 = c + 1) (hv : v = 12582912 + c) (hC : C2 = xud C c 12582912) : zCX f n a Z true p2 c2 C2 (v :: st) := by
  obtain ⟨k, hk, e⟩ := h.pos
  have b := h.b
  have hl := zch_lt (f := f) (n := n) (p := p) (by omega)
  have hx := h.bt
  have hy := h.sh
  cases st with
  | nil => exact absurd ht (by decide)
  | cons v9 r9 =>
    have ht : 13631488 ≤ v9 := ht
    subst h2; subst h3; subst hC
    have hn : znN (v :: v9 :: r9) = znN (v9 :: r9) := znN_z (by omega)
    refine ⟨⟨k, ?_, ?_⟩, ⟨b.1, by omega⟩, by omega, ?_, by omega, b.2.2.2.2.2.2, ⟨Or.inr (Or.inr ⟨by omega, by omega, by omega, by omega, by rw [show v % 1048576 = c from by omega, xud_s]; omega, fun _ => by show 12582912 ≤ v9; omega, fun _ => by show 13631488 ≤ v9; omega⟩), zsc_m (by omega) (fun k hk => by rw [xud_o C _ (by omega)]) hy⟩, ⟨fun q => absurd q (List.cons_ne_nil _ _), hx⟩, fun _ => List.cons_ne_nil _ _⟩
    · rw [List.length_cons]; omega
    · subst hv
      exact e.trans ((if_neg (by omega)).trans ((if_neg (by omega)).trans ((if_neg (by omega)).trans ((if_neg (by omega)).trans (if_pos hc)))))
    · rw [List.length_cons]; omega
theorem zCX.shut (h : zCX f n a Z false p c C (v :: r)) (hv : 13631488 ≤ v) (hc : zch f n p = 41) (h2 : p2 = p + 1) : zCX f n a Z false p2 c C r := by
  obtain ⟨k, hk, e⟩ := h.pos
  have b := h.b
  have hl := zch_lt (f := f) (n := n) (p := p) (by omega)
  subst h2
  have hn : znN (v :: r) = znN r := znN_z (by omega)
  rw [List.length_cons] at hk b
  exact ⟨⟨k, by omega, e.trans ((if_neg (by omega)).trans ((if_neg (by omega)).trans ((if_neg (by omega)).trans ((if_neg (by omega)).trans ((if_neg (by omega)).trans (if_pos hc))))))⟩, ⟨b.1, b.2.1⟩, by omega, by omega, by omega, b.2.2.2.2.2.2, h.sh.2, h.bt.2, fun q => by cases q⟩
theorem zCX.fin (h : zCX f n a Z false p c C []) : Z = (0, p, c, C) := by
  obtain ⟨k, hk, e⟩ := h.pos
  exact e
end CX
theorem zCX.bad {f : Int → Int} {n a p : Int} {Z : Int × Int × Int × (Int → Int)} : ∀ (st : List Int) (c : Int) (C : Int → Int), zCX f n a Z false p c C st → st ≠ [] → zch f n p ≠ 38 → zch f n p ≠ 124 → zch f n p ≠ 41 → Z.1 = -1000 - p
  | [], _, _, _, h, _, _, _ => absurd rfl h
  | v :: r, c, C, h, ho, h1, h2, h3 => by
    have hb := h.bt.1
    by_cases a1 : v < 11534336
    · exact zCX.bad r _ _ (h.not a1 rfl rfl) (fun q => by have := hb q; omega) h1 h2 h3
    by_cases a2 : v < 12582912
    · exact zCX.bad r _ _ (h.landA ⟨by omega, a2⟩ rfl) (fun q => by have := hb q; omega) h1 h2 h3
    by_cases a3 : v < 13631488
    · exact zCX.bad r _ _ (h.landP ⟨by omega, a3⟩ h1 rfl) (fun q => by have := hb q; omega) h1 h2 h3
    obtain ⟨k, hk, e⟩ := h.pos
    have e2 : zcg f n (k + 1) false p c C (v :: r) = (-1000 - p, p, c, C) := (if_neg a1).trans ((if_neg a2).trans ((if_neg h1).trans ((if_neg a3).trans ((if_neg h2).trans (if_neg h3)))))
    rw [e, e2]
/-! ===== clauses ===== -/
def zkl (c : Int) : Int := if c = 97 ∨ c = 108 ∨ c = 99 ∨ c = 110 ∨ c = 118 ∨ c = 111 then 1 else 0
theorem zkl_cs (c : Int) : ((c = 97 ∨ c = 108 ∨ c = 99 ∨ c = 110 ∨ c = 118 ∨ c = 111) ∧ zkl c = 1) ∨ (¬ (c = 97 ∨ c = 108 ∨ c = 99 ∨ c = 110 ∨ c = 118 ∨ c = 111) ∧ zkl c = 0) := by
  unfold zkl
  split
  · rename_i h; exact Or.inl ⟨h, rfl⟩
  · rename_i h; exact Or.inr ⟨h, rfl⟩
def zc1 (f : Int → Int) (n p c : Int) (C : Int → Int) : Int × Int × Int × (Int → Int) := if zch f n p = 110 then (0, p + 1, c, C) else zE0 f n 0 (p + 1) c C
def zc2 (f : Int → Int) (n p c : Int) (C : Int → Int) : Int × Int × Int × (Int → Int) := if zch f n p ≠ 40 then (-1000 - p, p, c, C) else zC0 f n (p + 1) c C
abbrev zLT : Type := Int × Int × Int × (Int → Int) × (Int → Int) × (Int → Int) × (Int → Int) × (Int → Int)
def zLw (f : Int → Int) (n : Int) : Nat → Bool → Int → Int → Int → (Int → Int) → (Int → Int) → (Int → Int) → (Int → Int) → (Int → Int) → zLT
  | 0, _, M, _, c, C, L, A, B, T => (0, M, c, C, L, A, B, T)
  | k + 1, true, M, p, c, C, L, A, B, T =>
    if zkl (zch f n p) = 0 then (-1000 - p, M, c, C, L, A, B, T) else
    if 16 ≤ M then (-4000 - p, M, c, C, L, A, B, T) else
    if (zc1 f n p c C).1 ≠ 0 then ((zc1 f n p c C).1, M, c, C, L, A, B, T) else
    if (zc2 f n (zc1 f n p c C).2.1 (zc1 f n p c C).2.2.1 (zc1 f n p c C).2.2.2).1 ≠ 0 then ((zc2 f n (zc1 f n p c C).2.1 (zc1 f n p c C).2.2.1 (zc1 f n p c C).2.2.2).1, M, c, C, L, A, B, T) else
    zLw f n k false (M + 1) (zc2 f n (zc1 f n p c C).2.1 (zc1 f n p c C).2.2.1 (zc1 f n p c C).2.2.2).2.1 (zc2 f n (zc1 f n p c C).2.1 (zc1 f n p c C).2.2.1 (zc1 f n p c C).2.2.2).2.2.1 (zc2 f n (zc1 f n p c C).2.1 (zc1 f n p c C).2.2.1 (zc1 f n p c C).2.2.2).2.2.2
      (xud L M (zch f n p)) (xud A M c) (xud B M (zc1 f n p c C).2.2.1) (xud T M (zc2 f n (zc1 f n p c C).2.1 (zc1 f n p c C).2.2.1 (zc1 f n p c C).2.2.2).2.2.1)
  | k + 1, false, M, p, c, C, L, A, B, T => if p < n then (if zch f n p = 59 then zLw f n k true M (p + 1) c C L A B T else (-1000 - p, M, c, C, L, A, B, T)) else (0, M, c, C, L, A, B, T)
def zL0 (f : Int → Int) (n : Int) (C L A B T : Int → Int) : zLT := zLw f n (2 * n + 2).toNat true 0 0 0 C L A B T
def zLX (f : Int → Int) (n : Int) (Z : zLT) (m : Bool) (M p c : Int) (C L A B T : Int → Int) : Prop := (∃ k : Nat, 2 * (n - p) + (bif m then 1 else 2) ≤ (k : Int) ∧ Z = zLw f n k m M p c C L A B T) ∧ 0 ≤ c ∧ c ≤ p ∧ p ≤ n ∧ n ≤ 240 ∧ 0 ≤ M ∧ M ≤ 16
section LX
variable {f : Int → Int} {n M p c p1 p2 c1 c2 h1 M2 : Int} {C L A B T C1 C2 L2 A2 B2 T2 : Int → Int} {Z : zLT} {m : Bool}
theorem zLX.new (h : 0 ≤ n ∧ n ≤ 240) : zLX f n (zL0 f n C L A B T) true 0 0 0 C L A B T := ⟨⟨(2 * n + 2).toNat, by show 2 * (n - 0) + 1 ≤ _; omega, rfl⟩, by omega⟩
theorem zLX.b (h : zLX f n Z m M p c C L A B T) : 0 ≤ c ∧ c ≤ p ∧ p ≤ n ∧ n ≤ 240 ∧ 0 ≤ M ∧ M ≤ 16 := h.2
theorem zLX.pos (h : zLX f n Z true M p c C L A B T) : ∃ k : Nat, 2 * (n - p) ≤ (k : Int) ∧ Z = zLw f n (k + 1) true M p c C L A B T := by
  obtain ⟨⟨k, hk, e⟩, hi⟩ := h
  have hk : 2 * (n - p) + 1 ≤ (k : Int) := hk
  cases k with
  | zero => omega
  | succ k => exact ⟨k, by omega, e⟩
theorem zLX.posA (h : zLX f n Z false M p c C L A B T) : ∃ k : Nat, 2 * (n - p) + 1 ≤ (k : Int) ∧ Z = zLw f n (k + 1) false M p c C L A B T := by
  obtain ⟨⟨k, hk, e⟩, hi⟩ := h
  have hk : 2 * (n - p) + 2 ≤ (k : Int) := hk
  cases k with
  | zero => omega
  | succ k => exact ⟨k, by omega, e⟩
theorem zLX.one (h : zLX f n Z true M p c C L A B T) (hc : zkl (zch f n p) = 0) : Z.1 = -1000 - p := by
  obtain ⟨k, hk, e⟩ := h.pos
  rw [e]
  have e2 : zLw f n (k + 1) true M p c C L A B T = (-1000 - p, M, c, C, L, A, B, T) := if_pos hc
  rw [e2]
theorem zLX.four (h : zLX f n Z true M p c C L A B T) (hc : zkl (zch f n p) ≠ 0) (hM : 16 ≤ M) : Z.1 = -4000 - p := by
  obtain ⟨k, hk, e⟩ := h.pos
  rw [e]
  have e2 : zLw f n (k + 1) true M p c C L A B T = (-4000 - p, M, c, C, L, A, B, T) := (if_neg hc).trans (if_pos hM)
  rw [e2]
theorem zLX.e1 (h : zLX f n Z true M p c C L A B T) (hc : zkl (zch f n p) ≠ 0) (hM : M < 16) (h1 : (zc1 f n p c C).1 ≠ 0) : Z.1 = (zc1 f n p c C).1 := by
  obtain ⟨k, hk, e⟩ := h.pos
  rw [e]
  have e2 : zLw f n (k + 1) true M p c C L A B T = ((zc1 f n p c C).1, M, c, C, L, A, B, T) := (if_neg hc).trans ((if_neg (by omega)).trans (if_pos h1))
  rw [e2]
theorem zLX.e2 (h : zLX f n Z true M p c C L A B T) (hc : zkl (zch f n p) ≠ 0) (hM : M < 16) (e1 : zc1 f n p c C = (0, p1, c1, C1)) (h2 : (zc2 f n p1 c1 C1).1 ≠ 0) : Z.1 = (zc2 f n p1 c1 C1).1 := by
  obtain ⟨k, hk, e⟩ := h.pos
  unfold zLw at e
  rw [e1] at e
  have e2 := e.trans ((if_neg hc).trans ((if_neg (by omega)).trans ((if_neg (fun z => z rfl)).trans (if_pos h2))))
  rw [e2]
theorem zLX.clause (h : zLX f n Z true M p c C L A B T) (hc : zkl (zch f n p) ≠ 0) (hM : M < 16) (e1 : zc1 f n p c C = (0, p1, c1, C1)) (e2 : zc2 f n p1 c1 C1 = (0, p2, c2, C2)) (hb : p + 1 ≤ p2 ∧ p2 ≤ n ∧ 0 ≤ c2 ∧ c2 ≤ p2) (hM2 : M2 = M + 1)
    (hL : L2 = xud L M (zch f n p)) (hA : A2 = xud A M c) (hB : B2 = xud B M c1) (hT : T2 = xud T M c2) : zLX f n Z false M2 p2 c2 C2 L2 A2 B2 T2 := by
  obtain ⟨k, hk, e⟩ := h.pos
  have b := h.b
  subst hM2; subst hL; subst hA; subst hB; subst hT
  unfold zLw at e
  rw [e1] at e
  refine ⟨⟨k, by show 2 * (n - p2) + 2 ≤ _; omega, e.trans ((if_neg hc).trans ((if_neg (by omega)).trans ((if_neg (fun z => z rfl)).trans ?_)))⟩, by omega⟩
  show (if (zc2 f n p1 c1 C1).1 ≠ 0 then _ else _) = _
  rw [e2]
  exact if_neg (fun z => z rfl)
theorem zLX.semi (h : zLX f n Z false M p c C L A B T) (hc : zch f n p = 59) (h2 : p2 = p + 1) : zLX f n Z true M p2 c C L A B T := by
  obtain ⟨k, hk, e⟩ := h.posA
  have b := h.b
  have hl := zch_lt (f := f) (n := n) (p := p) (by omega)
  subst h2
  exact ⟨⟨k, by show 2 * (n - (p + 1)) + 1 ≤ _; omega, e.trans ((if_pos hl).trans (if_pos hc))⟩, by omega⟩
theorem zLX.bad (h : zLX f n Z false M p c C L A B T) (hp : p < n) (hc : zch f n p ≠ 59) : Z.1 = -1000 - p := by
  obtain ⟨k, hk, e⟩ := h.posA
  rw [e]
  have e2 : zLw f n (k + 1) false M p c C L A B T = (-1000 - p, M, c, C, L, A, B, T) := (if_pos hp).trans (if_neg hc)
  rw [e2]
theorem zLX.fin (h : zLX f n Z false M p c C L A B T) (hp : n ≤ p) : Z = (0, M, c, C, L, A, B, T) := by
  obtain ⟨k, hk, e⟩ := h.posA
  exact e.trans (if_neg (by omega))
end LX


/-! ===== a law's code is safe, and never deep ===== -/
def zwf : List Int → Int → Int
  | [] => fun _ => 0
  | v :: r => xud (zwf r) (r.length : Int) v
def zWD (C : Int → Int) (st : List Int) (c a D : Int) : Prop := zDC C (zwf st) c (st.length : Int) a D
theorem zlenc (v : Int) (r : List Int) : (((v :: r).length : Nat) : Int) = (r.length : Int) + 1 := by rw [List.length_cons]; omega
section WD
variable {C C2 : Int → Int} {st r : List Int} {c a D D2 v o c2 : Int}
theorem zWD.push (h : zWD C st c a D) (hv : v < 11534336 ∨ 13631488 ≤ v) : zWD C (v :: st) c a D := by
  unfold zWD
  rw [zlenc]
  exact zDC_push h hv
theorem zWD.pop (h : zWD C (v :: r) c a D) (hv : v < 11534336 ∨ 13631488 ≤ v) : zWD C r c a D := by
  unfold zWD at h
  rw [zlenc] at h
  have e : zwf (v :: r) ((r.length : Int) + 1 - 1) = v := by
    rw [show (r.length : Int) + 1 - 1 = r.length from by omega]
    exact xud_s _ _ _
  have h2 := zDC_pop h (by rw [e]; exact hv)
  rw [show (r.length : Int) + 1 - 1 = r.length from by omega] at h2
  exact zDC_c h2 (fun i i1 i2 => (xud_o (zwf r) v (by omega)).symm) rfl
theorem zWD.note (h : zWD C st c a D) (ha : a ≤ c) (hv : 0 ≤ v) (hD : (v < 1048583 ∧ D2 = D + 1) ∨ ((10485760 ≤ v ∧ v < 11534336) ∧ 1 ≤ D ∧ D2 = D) ∨ ((2097152 ≤ v ∧ v < 10485760) ∧ 2 ≤ D ∧ D2 = D - 1)) : zWD (xud C c v) st (c + 1) a D2 := zDC_note h ha hv hD
theorem zWD.jump (h : zWD C st c a 1) (ha : 0 ≤ a ∧ a ≤ c ∧ c < 1048576) (ho : o = 11534336 ∨ o = 12582912) : zWD (xud C c o) ((o + c) :: st) (c + 1) a 0 := by
  unfold zWD
  rw [zlenc]
  rcases ho with rfl | rfl
  · exact zDC_jump (o := 11) h ha (by omega) (Or.inl rfl)
  · exact zDC_jump (o := 12) h ha (by omega) (Or.inr rfl)
theorem zWD.land (h : zWD C (v :: r) c a 1) (ha : 0 ≤ a ∧ c < 1048576) (hv : 11534336 ≤ v ∧ v < 13631488) : zWD (zland C v c) r c a 1 := by
  unfold zWD at h
  rw [zlenc] at h
  have e0 : (r.length : Int) + 1 - 1 = r.length := by omega
  have e : zwf (v :: r) ((r.length : Int) + 1 - 1) = v := by
    rw [e0]
    exact xud_s _ _ _
  have h2 := zDC_land h ha (by omega) (by rw [e]; exact hv) (k0 := v % 1048576) (by rw [e])
  rw [e0] at h2
  exact zDC_c h2 (fun i i1 i2 => (xud_o (zwf r) v (by omega)).symm) rfl
end WD
theorem zDC_cp {c c2 w : Int → Int} {C W a D : Int} (h : zDC c w C W a D) (hc : ∀ k, a ≤ k → k < C → c2 k = c k) : zDC c2 w C W a D := by
  obtain ⟨d, h1, h2, h3, h4, h5⟩ := h
  refine ⟨d, h1, h2, fun k k1 k2 => zokc_c (h3 k k1 k2) (hc k k1 k2) (fun _ _ => rfl) k2 (Int.le_refl _), h4, fun i i1 i2 i3 i4 => ?_⟩
  have q := h5 i i1 i2 i3 i4
  unfold zokw at q ⊢
  rw [hc _ q.1 q.2.1]
  exact q
/-- how a number of the code changes the depth, and the depth behind so many of them -/
def zdl (v : Int) : Int := if v < 2097152 then 1 else if v < 10485760 then -1 else if v < 11534336 then 0 else -1
def zdp (C : Int → Int) (a : Int) : Nat → Int
  | 0 => 0
  | j + 1 => zdp C a j + zdl (C (a + j))
def zBD (C : Int → Int) (c a : Int) : Prop := ∀ j : Nat, (j : Int) ≤ c - a → zdp C a j ≤ 40
theorem zdp_f {C C2 : Int → Int} {a : Int} : ∀ j : Nat, (∀ i : Int, a ≤ i → i < a + j → zdl (C2 i) = zdl (C i)) → zdp C2 a j = zdp C a j
  | 0, _ => rfl
  | j + 1, h => by
    unfold zdp
    rw [zdp_f j (fun i i1 i2 => h i i1 (by omega)), h (a + j) (by omega) (by omega)]
theorem zdp_d {c w d : Int → Int} {C W a : Int} (h1 : d a = 0) (h3 : ∀ k, a ≤ k → k < C → zokc c w d C W k) : ∀ j : Nat, (j : Int) ≤ C - a → d (a + j) = zdp c a j
  | 0, _ => by
    rw [show a + ((0 : Nat) : Int) = a from by omega]
    exact h1
  | j + 1, hj => by
    have ih := zdp_d h1 h3 j (by omega)
    have z := h3 (a + j) (by omega) (by omega)
    unfold zdp
    rw [← ih, show a + ((j + 1 : Nat) : Int) = a + j + 1 from by omega]
    unfold zokc at z
    unfold zdl
    obtain ⟨z0, z⟩ := z
    rcases z with z | z | z | z | z
    · rw [if_pos (by omega), z.2]
    · rw [if_pos (by omega), z.2]
    · rw [if_neg (by omega), if_neg (by omega), if_pos (by omega), z.2.2]; omega
    · rw [if_neg (by omega), if_neg (by omega), if_neg (by omega), z.2.2.1, z.2.1]; omega
    · by_cases e : c (a + j) < 10485760
      · rw [if_neg (by omega), if_pos e, z.2.2]; omega
      · omega
theorem zWD_dp {C : Int → Int} {st : List Int} {c a D : Int} (h : zWD C st c a D) (ha : a ≤ c) : D = zdp C a (c - a).toNat := by
  obtain ⟨d, h1, h2, h3, h4, h5⟩ := h
  have z := zdp_d h1 h3 (c - a).toNat (by omega)
  rw [← z, ← h2, show a + (((c - a).toNat : Nat) : Int) = c from by omega]
theorem zBD.note {C : Int → Int} {st : List Int} {c a v D2 : Int} (hb : zBD C c a) (h : zWD (xud C c v) st (c + 1) a D2) (ha : a ≤ c) (hD : D2 ≤ 40) : zBD (xud C c v) (c + 1) a := fun j hj => by
  by_cases e : (j : Int) = c + 1 - a
  · have z := zWD_dp h (by omega)
    rw [show (c + 1 - a).toNat = j from by omega] at z
    omega
  · rw [zdp_f j (fun i i1 i2 => by rw [xud_o C v (by omega)])]
    exact hb j (by omega)
theorem zBD.land {C : Int → Int} {c a v : Int} (hb : zBD C c a) (hv : 11534336 ≤ C (v % 1048576) ∧ C (v % 1048576) < 13631488) (hc : 0 ≤ c ∧ c < 1048576) : zBD (zland C v c) c a := fun j hj => by
  rw [zdp_f j (fun i i1 i2 => ?_)]
  · exact hb j hj
  · unfold zland
    by_cases e : i = v % 1048576
    · rw [e, xud_s]
      unfold zdl
      rw [if_neg (by omega), if_neg (by omega), if_neg (by omega), if_neg (by omega), if_neg (by omega), if_neg (by omega)]
    · rw [xud_o C _ e]
theorem zBD_0 (C : Int → Int) (a : Int) : zBD C a a := fun j hj => by
  have : j = 0 := by omega
  subst this
  exact (by decide : (0 : Int) ≤ 40)
theorem zBD_cp {C C2 : Int → Int} {c a : Int} (hb : zBD C c a) (hc : ∀ k, a ≤ k → k < c → C2 k = C k) : zBD C2 c a := fun j hj => by
  rw [zdp_f j (fun i i1 i2 => by rw [hc i i1 (by omega)])]
  exact hb j hj
theorem zdl_n {f : Int → Int} {n p : Int} : 0 ≤ (znr f n 5 p 0).2 ∧ (znr f n 5 p 0).2 < 1048576 := by
  have := znr_5 f n p
  omega
/-- a sum's code -/
theorem zEX.wf {f : Int → Int} {n q W K b0 p2 c2 a D0 : Int} {B0 C2 : Int → Int} {st : List Int} (hD : 0 ≤ D0 ∧ D0 ≤ 1) (ha : 0 ≤ a) (hq : 0 ≤ q) : ∀ (u : Nat) (m : Bool) (p c : Int) (C : Int → Int) (se : List Int), 2 * (n - p) + (se.length : Int) + 1 ≤ (u : Int) → zEX f n q W K b0 B0 (0, p2, c2, C2) m p c C se → q + zop se ≤ 6 → a ≤ c → zWD C st c a (D0 + znp se + (bif m then 0 else 1)) → zBD C c a → (zWD C2 st c2 a (D0 + 1) ∧ zBD C2 c2 a) ∧ (c ≤ c2 ∧ p ≤ p2 ∧ p2 ≤ n ∧ c2 + K ≤ p2 ∧ (m = true → p + 1 ≤ p2)) ∧ ∀ k, k < c → C2 k = C k := by
  intro u
  induction u with
  | zero =>
    intro m p c C se hu h
    have b := h.b
    omega
  | succ u ih =>
    intro m p c C se hu h ho hac hw hb
    have b := h.b
    have hz := zs2_n h.sh
    have hos := zop_n se
    have zc := zsg_cs (zch f n p)
    have hlt : zch f n p ≠ -1 → p < n := zch_lt
    have no : ∀ {x : Int} {y : Int × Int × (Int → Int)}, x < 0 → ((0, p2, c2, C2) : Int × Int × Int × (Int → Int)) ≠ (x, y) := fun hx e => by
      have e2 : (0 : Int) = _ := congrArg Prod.fst e
      omega
    have tru : ∀ v : Int, zEX f n q W K b0 B0 (0, p2, c2, C2) true (p + 1) c C (v :: se) → p < n → (2097152 ≤ v ∧ v < 7340032) → zWD C st c a (D0 + znp se + 1) → (zWD C2 st c2 a (D0 + 1) ∧ zBD C2 c2 a) ∧ (c ≤ c2 ∧ p + 1 ≤ p2 ∧ p2 ≤ n ∧ c2 + K ≤ p2) ∧ ∀ k, k < c → C2 k = C k := fun v h9 hp hv hw9 => by
      have z := ih true (p + 1) c C (v :: se) (by rw [zlenc]; omega) h9 (by rw [zop_z (by omega)]; exact ho) hac (by
        rw [znp_y (by omega)]
        show zWD C st c a (D0 + (znp se + 1) + 0)
        rw [show D0 + (znp se + 1) + 0 = D0 + znp se + 1 from by omega]
        exact hw9) hb
      exact ⟨z.1, ⟨z.2.1.1, z.2.1.2.1, z.2.1.2.2.1, z.2.1.2.2.2.1⟩, z.2.2⟩
    cases m with
    | true =>
      have hw : zWD C st c a (D0 + znp se + 0) := hw
      by_cases c1 : zch f n p = 91
      · by_cases c3 : 6 ≤ q + zop se
        · exact absurd (h.five c1 c3) (no (by omega))
        · have h9 := h.open_ c1 (by omega) rfl rfl
          have z := ih true (p + 1) c C (14680064 :: se) (by rw [zlenc]; omega) h9 (by rw [zop_y (by decide)]; omega) hac (by rw [znp_z (by decide)]; exact hw) hb
          exact ⟨z.1, ⟨z.2.1.1, by omega, z.2.1.2.2.1, z.2.1.2.2.2.1, fun _ => by omega⟩, z.2.2⟩
      by_cases c2' : zdg (zch f n p)
      · have z1 := znr_p (f := f) (n := n) 5 p 0
        have z2 := z1.2.2 c2' (by decide)
        by_cases c3 : zdg (zch f n (znr f n 5 p 0).1)
        · exact absurd (h.two c2' rfl c3) (no (by omega))
        · have h9 := h.num c2' rfl c3 rfl rfl
          have zv := zdl_n (f := f) (n := n) (p := p)
          have hw9 := hw.note (v := (znr f n 5 p 0).2) (D2 := D0 + znp se + 1) hac (by omega) (Or.inl ⟨by omega, by omega⟩)
          have z := ih false _ _ _ se (by omega) h9 ho (by omega) hw9 (hb.note hw9 hac (by omega))
          exact ⟨z.1, ⟨by omega, by omega, z.2.1.2.2.1, z.2.1.2.2.2.1, fun _ => by omega⟩, fun k hk => (z.2.2 k (by omega)).trans (xud_o C _ (by omega))⟩
      by_cases c3 : zlt (zch f n p) = -1
      · exact absurd (h.one c1 c2' c3) (no (by omega))
      · have h9 := h.let_ c3 rfl rfl rfl
        have zl := zlt_cs (zch f n p)
        have hw9 := hw.note (v := 1048576 + zlt (zch f n p)) (D2 := D0 + znp se + 1) hac (by omega) (Or.inl ⟨by omega, by omega⟩)
        have z := ih false _ _ _ se (by omega) h9 ho (by omega) hw9 (hb.note hw9 hac (by omega))
        exact ⟨z.1, ⟨by omega, by omega, z.2.1.2.2.1, z.2.1.2.2.2.1, fun _ => by omega⟩, fun k hk => (z.2.2 k (by omega)).trans (xud_o C _ (by omega))⟩
    | false =>
      have hw : zWD C st c a (D0 + znp se + 1) := hw
      cases se with
      | nil =>
        by_cases c1 : zsg (zch f n p) < 2
        · have e := h.fin c1
          have e1 : p2 = p := congrArg (fun z => z.2.1) e
          have e2 : c2 = c := congrArg (fun z => z.2.2.1) e
          have e3 : C2 = C := congrArg (fun z => z.2.2.2) e
          subst e1; subst e2; subst e3
          have hw : zWD C2 st c2 a (D0 + 0 + 1) := hw
          rw [show D0 + 0 + 1 = D0 + 1 from by omega] at hw
          exact ⟨⟨hw, hb⟩, ⟨Int.le_refl _, Int.le_refl _, by omega, by omega, fun q => by cases q⟩, fun _ _ => rfl⟩
        have h9 : zEX f n q W K b0 B0 (0, p2, c2, C2) true (p + 1) c C [1048576 * zsg (zch f n p)] := by
          by_cases c4 : 4 ≤ zsg (zch f n p)
          · exact h.sgm (Or.inl (by decide)) c4 rfl rfl
          · exact h.sga (Or.inl (by decide)) (by omega) rfl rfl
        have z := tru _ h9 (by omega) (by omega) hw
        exact ⟨z.1, ⟨z.2.1.1, by omega, z.2.1.2.2.1, z.2.1.2.2.2, fun q => by cases q⟩, z.2.2⟩
      | cons v r =>
        have hsh := h.sh
        have hz2 := zs2_n hsh.2
        have hn := znp_n r
        have hor := zop_n r
        rw [zlenc] at hu
        have hv := hsh.1
        have emit : v < 7340032 → (zWD (xud C c v) st (c + 1) a (D0 + znp r + 1) ∧ zBD (xud C c v) (c + 1) a) := fun h7 => by
          rw [znp_y h7] at hw
          rw [zop_z (by omega)] at ho
          have hw9 := hw.note (v := v) (D2 := D0 + znp r + 1) hac (by omega) (Or.inr (Or.inr ⟨by omega, by omega, by omega⟩))
          exact ⟨hw9, hb.note hw9 hac (by omega)⟩
        by_cases c1 : 4194304 ≤ v ∧ v < 7340032
        · have h9 := h.mul c1 rfl rfl
          have w9 := emit c1.2
          have z := ih false p (c + 1) _ r (by omega) h9 (by rw [zop_z (by omega)] at ho; exact ho) (by omega) w9.1 w9.2
          exact ⟨z.1, ⟨by omega, z.2.1.2.1, z.2.1.2.2.1, z.2.1.2.2.2.1, fun q => by cases q⟩, fun k hk => (z.2.2 k (by omega)).trans (xud_o C _ (by omega))⟩
        by_cases c2' : 4 ≤ zsg (zch f n p)
        · have h9 := h.sgm (v := 1048576 * zsg (zch f n p)) (by show v < 4194304 ∨ 7340032 ≤ v; omega) c2' rfl rfl
          have z := tru _ h9 (by omega) (by omega) hw
          exact ⟨z.1, ⟨z.2.1.1, by omega, z.2.1.2.2.1, z.2.1.2.2.2, fun q => by cases q⟩, z.2.2⟩
        by_cases c3 : v < 4194304
        · have h9 := h.add c3 (by omega) rfl rfl
          have w9 := emit (by omega)
          have z := ih false p (c + 1) _ r (by omega) h9 (by rw [zop_z (by omega)] at ho; exact ho) (by omega) w9.1 w9.2
          exact ⟨z.1, ⟨by omega, z.2.1.2.1, z.2.1.2.2.1, z.2.1.2.2.2.1, fun q => by cases q⟩, fun k hk => (z.2.2 k (by omega)).trans (xud_o C _ (by omega))⟩
        by_cases c4 : 2 ≤ zsg (zch f n p)
        · have h9 := h.sga (v := 1048576 * zsg (zch f n p)) (by show v < 0 ∨ 7340032 ≤ v; omega) ⟨c4, by omega⟩ rfl rfl
          have z := tru _ h9 (by omega) (by omega) hw
          exact ⟨z.1, ⟨z.2.1.1, by omega, z.2.1.2.2.1, z.2.1.2.2.2, fun q => by cases q⟩, z.2.2⟩
        by_cases c5 : zch f n p = 93
        · have h9 := h.shut (by omega) c5 rfl
          rw [znp_z (by omega)] at hw
          have z := ih false (p + 1) c C r (by omega) h9 (by rw [zop_y (by omega)] at ho; omega) hac hw hb
          exact ⟨z.1, ⟨z.2.1.1, by omega, z.2.1.2.2.1, z.2.1.2.2.2.1, fun q => by cases q⟩, z.2.2⟩
        · have e := zEX.bad (v :: r) c C h (by rw [zop_y (by omega)]; omega) (by omega) c5
          have e2 : (0 : Int) = -1000 - p := e
          omega
theorem zE0_wf {f : Int → Int} {n q K p c p2 c2 a D0 : Int} {C C2 : Int → Int} {st : List Int} (hD : 0 ≤ D0 ∧ D0 ≤ 1) (ha : 0 ≤ a) (hq : 0 ≤ q ∧ q ≤ 6) (hb : 0 ≤ c ∧ c + K ≤ p ∧ 0 ≤ K ∧ p ≤ n ∧ n ≤ 240) (e : zE0 f n q p c C = (0, p2, c2, C2)) (hac : a ≤ c) (hw : zWD C st c a D0) (hd : zBD C c a) : (zWD C2 st c2 a (D0 + 1) ∧ zBD C2 c2 a) ∧ (c ≤ c2 ∧ p + 1 ≤ p2 ∧ p2 ≤ n ∧ c2 + K ≤ p2) ∧ ∀ k, k < c → C2 k = C k := by
  have h : zEX f n q 0 K c C (0, p2, c2, C2) true p c C [] := by
    rw [← e]
    exact zEX.new ⟨hb.1, hb.2.1, Int.le_refl _, hb.2.2.1, by omega, hb.2.2.2.1, hb.2.2.2.2⟩
  have z := zEX.wf hD ha hq.1 (2 * n + 2).toNat true p c C [] (by show 2 * (n - p) + 0 + 1 ≤ _; omega) h (by show q + 0 ≤ 6; omega) hac (by show zWD C st c a (D0 + 0 + 0); rw [show D0 + 0 + 0 = D0 from by omega]; exact hw) hd
  exact ⟨z.1, ⟨z.2.1.1, z.2.1.2.2.2.2 rfl, z.2.1.2.2.1, z.2.1.2.2.2.1⟩, z.2.2⟩
/-- a condition's code -/
theorem zCX.wf {f : Int → Int} {n a p2 c2 : Int} {C2 : Int → Int} : ∀ (u : Nat) (m : Bool) (p c : Int) (C : Int → Int) (st : List Int), 2 * (n - p) + (st.length : Int) + 1 ≤ (u : Int) → zCX f n a (0, p2, c2, C2) m p c C st → zqn st ≤ 6 → zWD C st c a (bif m then 0 else 1) → zBD C c a → (zWD C2 [] c2 a 1 ∧ zBD C2 c2 a) ∧ (c ≤ c2 ∧ p ≤ p2 ∧ p2 ≤ n ∧ c2 ≤ p2 ∧ (m = true → p + 1 ≤ p2)) ∧ ∀ k, k < a → C2 k = C k := by
  intro u
  induction u with
  | zero =>
    intro m p c C st hu h
    have b := h.b
    omega
  | succ u ih =>
    intro m p c C st hu h ho hw hb
    have b := h.b
    have hlt : zch f n p ≠ -1 → p < n := zch_lt
    have no : ∀ {x : Int} {y : Int × Int × (Int → Int)}, x < 0 → ((0, p2, c2, C2) : Int × Int × Int × (Int → Int)) ≠ (x, y) := fun hx e => by
      have e2 : (0 : Int) = _ := congrArg Prod.fst e
      omega
    have no2 : ∀ {y : Int × Int × Int × (Int → Int)}, y.1 ≠ 0 → ((0, p2, c2, C2) : Int × Int × Int × (Int → Int)) ≠ y := fun hx e => hx (congrArg Prod.fst e).symm
    cases m with
    | true =>
      have hw : zWD C st c a 0 := hw
      by_cases c1 : zch f n p = 33 ∨ zch f n p = 40
      · by_cases c3 : 6 ≤ zqn st
        · exact absurd (h.five c1 c3) (no (by omega))
        · obtain ⟨v, hv⟩ : ∃ v : Int, (zch f n p = 33 ∧ v = 10485760) ∨ (zch f n p = 40 ∧ v = 13631488) := by
            rcases c1 with q | q
            · exact ⟨_, Or.inl ⟨q, rfl⟩⟩
            · exact ⟨_, Or.inr ⟨q, rfl⟩⟩
          have h9 := h.open_ hv (by omega) rfl
          have z := ih true (p + 1) c C (v :: st) (by rw [zlenc]; omega) h9 (by rw [zqn_y (by omega)]; omega) (hw.push (by omega)) hb
          exact ⟨z.1, ⟨z.2.1.1, by omega, z.2.1.2.2.1, z.2.1.2.2.2.1, fun _ => by omega⟩, z.2.2⟩
      obtain ⟨x1, p3, c3, C3, e1⟩ : ∃ x1 p3 c3 C3, zE0 f n (zqn st) p c C = (x1, p3, c3, C3) := ⟨_, _, _, _, rfl⟩
      by_cases z1 : x1 = 0
      · subst z1
        have hqs := zqn_n st
        have w1 := zE0_wf (K := znN st) (st := st) (D0 := 0) ⟨by decide, by decide⟩ b.1 ⟨hqs, ho⟩ ⟨by omega, b.2.2.1, b.2.2.2.1, b.2.2.2.2.2.1, b.2.2.2.2.2.2⟩ e1 b.2.1 hw hb
        by_cases z2 : zcp (zch f n p3) = -1
        · exact absurd (h.one (by omega) e1 z2) (no (by omega))
        obtain ⟨x2, p4, c4, C4, e2⟩ : ∃ x2 p4 c4 C4, zE0 f n (zqn st) (p3 + 1) c3 C3 = (x2, p4, c4, C4) := ⟨_, _, _, _, rfl⟩
        have zc := zcp_cs (zch f n p3)
        have hl3 := zch_lt (f := f) (n := n) (p := p3) (by omega)
        by_cases z3 : x2 = 0
        · subst z3
          have w2 := zE0_wf (K := znN st + 1) (st := st) (D0 := 1) ⟨by decide, by decide⟩ b.1 ⟨hqs, ho⟩ ⟨by omega, by omega, by omega, by omega, b.2.2.2.2.2.2⟩ e2 (by omega) w1.1.1 w1.1.2
          have h9 := h.cmp (by omega) e1 z2 e2 (by omega) (fun k hk => by rw [w2.2.2 k (by omega), w1.2.2 k (by omega)]) rfl rfl
          have hw9 := w2.1.1.note (v := 1048576 * zcp (zch f n p3)) (D2 := 1) (by omega) (by omega) (Or.inr (Or.inr ⟨by omega, by omega, by omega⟩))
          have z := ih false _ _ _ st (by omega) h9 ho hw9 (w2.1.2.note hw9 (by omega) (by omega))
          exact ⟨z.1, ⟨by omega, by omega, z.2.1.2.2.1, z.2.1.2.2.2.1, fun _ => by omega⟩, fun k hk => by
            rw [z.2.2 k hk, xud_o C4 _ (by omega), w2.2.2 k (by omega), w1.2.2 k (by omega)]⟩
        · have e9 := h.e2 (by omega) e1 z2 (by rw [e2]; exact z3)
          exact absurd e9 (no2 (by rw [e2]; exact z3))
      · have e9 := h.e1 (by omega) (by rw [e1]; exact z1)
        exact absurd e9 (no2 (by rw [e1]; exact z1))
    | false =>
      have hw : zWD C st c a 1 := hw
      cases st with
      | nil =>
        have e := h.fin
        have e1 : p2 = p := congrArg (fun z => z.2.1) e
        have e2 : c2 = c := congrArg (fun z => z.2.2.1) e
        have e3 : C2 = C := congrArg (fun z => z.2.2.2) e
        subst e1; subst e2; subst e3
        exact ⟨⟨hw, hb⟩, ⟨Int.le_refl _, Int.le_refl _, by omega, by omega, fun q => by cases q⟩, fun _ _ => rfl⟩
      | cons v r =>
        have hsh := h.sh
        have hv := hsh.1
        have hn := znN_n r
        rw [zlenc] at hu
        have hq1 : zqn r ≤ 6 := by
          by_cases q : v < 11534336 ∨ 13631488 ≤ v
          · rw [zqn_y q] at ho; omega
          · rw [zqn_z (by omega)] at ho; exact ho
        have jmp : 11534336 ≤ v ∧ v < 13631488 → (zWD (zland C v c) r c a 1 ∧ zBD (zland C v c) c a) ∧ ∀ k, k < a → zland C v c k = C k := fun q => by
          have w9 := hw
          unfold zWD at w9
          rw [zlenc] at w9
          have e : zwf (v :: r) ((r.length : Int) + 1 - 1) = v := by
            rw [show (r.length : Int) + 1 - 1 = r.length from by omega]
            exact xud_s _ _ _
          have at9 := zDC_at w9 (by omega) (by rw [e]; exact q)
          rw [e] at at9
          exact ⟨⟨hw.land (by omega) q, hb.land ⟨at9.2.2.1, at9.2.2.2⟩ (by omega)⟩, fun k hk => xud_o C _ (by omega)⟩
        by_cases c1 : v < 11534336
        · have h9 := h.not c1 rfl rfl
          have hw9 := (hw.pop (Or.inl c1)).note (v := 10485760) (D2 := 1) b.2.1 (by decide) (Or.inr (Or.inl ⟨by decide, by decide, rfl⟩))
          have z := ih false _ _ _ r (by omega) h9 hq1 hw9 (hb.note hw9 b.2.1 (by decide))
          exact ⟨z.1, ⟨by omega, z.2.1.2.1, z.2.1.2.2.1, z.2.1.2.2.2.1, fun q => by cases q⟩, fun k hk => by rw [z.2.2 k hk, xud_o C _ (by omega)]⟩
        by_cases c2' : v < 12582912
        · have h9 := h.landA ⟨by omega, c2'⟩ rfl
          have j := jmp (by omega)
          have z := ih false _ _ _ r (by omega) h9 hq1 j.1.1 j.1.2
          exact ⟨z.1, ⟨z.2.1.1, z.2.1.2.1, z.2.1.2.2.1, z.2.1.2.2.2.1, fun q => by cases q⟩, fun k hk => by rw [z.2.2 k hk, j.2 k hk]⟩
        have hz9 : zWD C (v :: r) c a 1 := hw
        by_cases c3 : zch f n p = 38
        · have h9 := h.and_ (by show 12582912 ≤ v; omega) c3 rfl rfl rfl rfl
          have hw9 := hz9.jump (o := 11534336) (by omega) (Or.inl rfl)
          have z := ih true _ _ _ ((11534336 + c) :: v :: r) (by rw [zlenc, zlenc]; omega) h9 (by rw [zqn_z (by omega)]; exact ho) hw9 (hb.note (v := 11534336) (st := (11534336 + c) :: v :: r) hw9 b.2.1 (by decide))
          exact ⟨z.1, ⟨by omega, by omega, z.2.1.2.2.1, z.2.1.2.2.2.1, fun q => by cases q⟩, fun k hk => by rw [z.2.2 k hk, xud_o C _ (by omega)]⟩
        by_cases c4 : v < 13631488
        · have h9 := h.landP ⟨by omega, c4⟩ c3 rfl
          have j := jmp (by omega)
          have z := ih false _ _ _ r (by omega) h9 hq1 j.1.1 j.1.2
          exact ⟨z.1, ⟨z.2.1.1, z.2.1.2.1, z.2.1.2.2.1, z.2.1.2.2.2.1, fun q => by cases q⟩, fun k hk => by rw [z.2.2 k hk, j.2 k hk]⟩
        by_cases c5 : zch f n p = 124
        · have h9 := h.or_ (by show 13631488 ≤ v; omega) c5 rfl rfl rfl rfl
          have hw9 := hz9.jump (o := 12582912) (by omega) (Or.inr rfl)
          have z := ih true _ _ _ ((12582912 + c) :: v :: r) (by rw [zlenc, zlenc]; omega) h9 (by rw [zqn_z (by omega)]; exact ho) hw9 (hb.note (v := 12582912) (st := (12582912 + c) :: v :: r) hw9 b.2.1 (by decide))
          exact ⟨z.1, ⟨by omega, by omega, z.2.1.2.2.1, z.2.1.2.2.2.1, fun q => by cases q⟩, fun k hk => by rw [z.2.2 k hk, xud_o C _ (by omega)]⟩
        by_cases c6 : zch f n p = 41
        · have h9 := h.shut (by omega) c6 rfl
          have z := ih false (p + 1) c C r (by omega) h9 hq1 (hw.pop (Or.inr (by omega))) hb
          exact ⟨z.1, ⟨z.2.1.1, by omega, z.2.1.2.2.1, z.2.1.2.2.2.1, fun q => by cases q⟩, z.2.2⟩
        · have e := zCX.bad (v :: r) c C h (List.cons_ne_nil _ _) c3 c5 c6
          have e2 : (0 : Int) = -1000 - p := e
          omega
theorem zC0_wf {f : Int → Int} {n p c p2 c2 : Int} {C C2 : Int → Int} (hb : 0 ≤ c ∧ c + 1 ≤ p ∧ p ≤ n ∧ n ≤ 240) (e : zC0 f n p c C = (0, p2, c2, C2)) : (zWD C2 [] c2 c 1 ∧ zBD C2 c2 c) ∧ (c ≤ c2 ∧ p + 1 ≤ p2 ∧ p2 ≤ n ∧ c2 ≤ p2) ∧ ∀ k, k < c → C2 k = C k := by
  have h : zCX f n c (0, p2, c2, C2) true p c C [13631488] := by
    rw [← e]
    exact zCX.new hb
  have z := zCX.wf (2 * n + 2).toNat true p c C [13631488] (by show 2 * (n - p) + 1 + 1 ≤ _; omega) h (by decide) (zWD.push (zDC_new _ _ _) (Or.inr (by decide))) (zBD_0 _ _)
  exact ⟨z.1, ⟨z.2.1.1, z.2.1.2.2.2.2 rfl, z.2.1.2.2.1, z.2.1.2.2.2.1⟩, z.2.2⟩
/-- the clauses' code -/
def zSG (C : Int → Int) (a t : Int) : Prop := (0 ≤ a ∧ a ≤ t ∧ t ≤ 240) ∧ zWD C [] t a 1 ∧ zBD C t a
theorem zSG.cp {C C2 : Int → Int} {a t : Int} (h : zSG C a t) (hc : ∀ k, a ≤ k → k < t → C2 k = C k) : zSG C2 a t := ⟨h.1, zDC_cp h.2.1 hc, zBD_cp h.2.2 hc⟩
theorem zSG.ok {C : Int → Int} {a t : Int} (h : zSG C a t) : segOK C a t := zDC_seg h.2.1 h.1
def zSS (C L A B T : Int → Int) (M c : Int) : Prop := ∀ q, 0 ≤ q → q < M → (0 ≤ A q ∧ A q ≤ B q ∧ B q ≤ T q ∧ T q ≤ c) ∧ ((L q = 110 ∧ A q = B q) ∨ (L q ≠ 110 ∧ zSG C (A q) (B q))) ∧ zSG C (B q) (T q)
theorem zc1_wf {f : Int → Int} {n p c p1 c1 : Int} {C C1 : Int → Int} (hb : 0 ≤ c ∧ c ≤ p ∧ p < n ∧ n ≤ 240) (e : zc1 f n p c C = (0, p1, c1, C1)) : ((zch f n p = 110 ∧ c = c1) ∨ (zch f n p ≠ 110 ∧ zSG C1 c c1)) ∧ (c ≤ c1 ∧ p + 1 ≤ p1 ∧ p1 ≤ n ∧ c1 + 1 ≤ p1) ∧ ∀ k, k < c → C1 k = C k := by
  unfold zc1 at e
  split at e
  · rename_i h
    have e1 : p + 1 = p1 := congrArg (fun z => z.2.1) e
    have e2 : c = c1 := congrArg (fun z => z.2.2.1) e
    have e3 : C = C1 := congrArg (fun z => z.2.2.2) e
    subst e3
    exact ⟨Or.inl ⟨h, e2⟩, by omega, fun _ _ => rfl⟩
  · rename_i h
    have z := zE0_wf (K := 1) (st := []) (D0 := 0) (a := c) ⟨by decide, by decide⟩ hb.1 ⟨by decide, by decide⟩ ⟨hb.1, by omega, by decide, by omega, hb.2.2.2⟩ e (Int.le_refl _) (zDC_new _ _ _) (zBD_0 _ _)
    exact ⟨Or.inr ⟨h, ⟨hb.1, z.2.1.1, by omega⟩, z.1⟩, by omega, z.2.2⟩
theorem zc2_wf {f : Int → Int} {n p c p1 c1 : Int} {C C1 : Int → Int} (hb : 0 ≤ c ∧ c ≤ p ∧ p ≤ n ∧ n ≤ 240) (e : zc2 f n p c C = (0, p1, c1, C1)) : zSG C1 c c1 ∧ (c ≤ c1 ∧ p + 1 ≤ p1 ∧ p1 ≤ n ∧ c1 ≤ p1) ∧ ∀ k, k < c → C1 k = C k := by
  unfold zc2 at e
  split at e
  · have e2 : -1000 - p = (0 : Int) := congrArg Prod.fst e
    omega
  · rename_i h
    have hl := zch_lt (f := f) (n := n) (p := p) (by omega)
    have z := zC0_wf ⟨hb.1, by omega, by omega, hb.2.2.2⟩ e
    exact ⟨⟨⟨hb.1, z.2.1.1, by omega⟩, z.1⟩, by omega, z.2.2⟩
theorem zLX.wf {f : Int → Int} {n M2 c2 : Int} {C2 L2 A2 B2 T2 : Int → Int} : ∀ (u : Nat) (m : Bool) (M p c : Int) (C L A B T : Int → Int), 2 * (n - p) + (bif m then 1 else 2) ≤ (u : Int) → zLX f n (0, M2, c2, C2, L2, A2, B2, T2) m M p c C L A B T → zSS C L A B T M c → zSS C2 L2 A2 B2 T2 M2 c2 ∧ 0 ≤ c2 ∧ c2 ≤ 240 ∧ 0 ≤ M2 ∧ M2 ≤ 16 := by
  intro u
  induction u with
  | zero =>
    intro m M p c C L A B T hu h
    have b := h.b
    cases m with
    | true => have hu : 2 * (n - p) + 1 ≤ (0 : Int) := hu; omega
    | false => have hu : 2 * (n - p) + 2 ≤ (0 : Int) := hu; omega
  | succ u ih =>
    intro m M p c C L A B T hu h hs
    have b := h.b
    have hlt : zch f n p ≠ -1 → p < n := zch_lt
    cases m with
    | true =>
      have hu : 2 * (n - p) + 1 ≤ ((u + 1 : Nat) : Int) := hu
      have hk := zkl_cs (zch f n p)
      by_cases k1 : zkl (zch f n p) = 0
      · have e2 : (0 : Int) = -1000 - p := h.one k1
        omega
      by_cases k2 : 16 ≤ M
      · have e2 : (0 : Int) = -4000 - p := h.four k1 k2
        omega
      obtain ⟨x1, p3, c3, C3, e1⟩ : ∃ x1 p3 c3 C3, zc1 f n p c C = (x1, p3, c3, C3) := ⟨_, _, _, _, rfl⟩
      by_cases z1 : x1 = 0
      · subst z1
        have w1 := zc1_wf ⟨b.1, b.2.1, by omega, b.2.2.2.1⟩ e1
        obtain ⟨x2, p4, c4, C4, e2⟩ : ∃ x2 p4 c4 C4, zc2 f n p3 c3 C3 = (x2, p4, c4, C4) := ⟨_, _, _, _, rfl⟩
        by_cases z2 : x2 = 0
        · subst z2
          have w2 := zc2_wf (by omega) e2
          have h9 := h.clause k1 (by omega) e1 e2 (by omega) rfl rfl rfl rfl rfl
          refine ih false _ _ _ _ _ _ _ _ (by show 2 * (n - p4) + 2 ≤ _; omega) h9 (fun q q1 q2 => ?_)
          by_cases e : q = M
          · subst e
            rw [xud_s, xud_s, xud_s, xud_s]
            refine ⟨by omega, ?_, w2.1⟩
            rcases w1.1 with w | w
            · exact Or.inl w
            · exact Or.inr ⟨w.1, w.2.cp (fun k _ k2 => w2.2.2 k k2)⟩
          · rw [xud_o L _ e, xud_o A _ e, xud_o B _ e, xud_o T _ e]
            have z := hs q q1 (by omega)
            have hc : ∀ k, k < c → C4 k = C k := fun k hk => by rw [w2.2.2 k (by omega), w1.2.2 k hk]
            exact ⟨by omega, z.2.1.elim Or.inl (fun w => Or.inr ⟨w.1, w.2.cp (fun k _ k2 => hc k (by omega))⟩), z.2.2.cp (fun k _ k2 => hc k (by omega))⟩
        · have e9 : (0 : Int) = (zc2 f n p3 c3 C3).1 := h.e2 k1 (by omega) e1 (by rw [e2]; exact z2)
          rw [e2] at e9
          exact absurd e9.symm z2
      · have e9 : (0 : Int) = (zc1 f n p c C).1 := h.e1 k1 (by omega) (by rw [e1]; exact z1)
        rw [e1] at e9
        exact absurd e9.symm z1
    | false =>
      have hu : 2 * (n - p) + 2 ≤ ((u + 1 : Nat) : Int) := hu
      by_cases k1 : p < n
      · by_cases k2 : zch f n p = 59
        · exact ih true _ _ _ _ _ _ _ _ (by show 2 * (n - (p + 1)) + 1 ≤ _; omega) (h.semi k2 rfl) hs
        · have e2 : (0 : Int) = -1000 - p := h.bad k1 k2
          omega
      · have e := h.fin (by omega)
        have e1 : M2 = M := congrArg (fun z => z.2.1) e
        have e2 : c2 = c := congrArg (fun z => z.2.2.1) e
        have e3 : C2 = C := congrArg (fun z => z.2.2.2.1) e
        have e4 : L2 = L := congrArg (fun z => z.2.2.2.2.1) e
        have e5 : A2 = A := congrArg (fun z => z.2.2.2.2.2.1) e
        have e6 : B2 = B := congrArg (fun z => z.2.2.2.2.2.2.1) e
        have e7 : T2 = T := congrArg (fun z => z.2.2.2.2.2.2.2) e
        subst e1; subst e2; subst e3; subst e4; subst e5; subst e6; subst e7
        exact ⟨hs, by omega⟩
theorem zL0_wf {f : Int → Int} {n M2 c2 : Int} {C L A B T C2 L2 A2 B2 T2 : Int → Int} (hn : 0 ≤ n ∧ n ≤ 240) (e : zL0 f n C L A B T = (0, M2, c2, C2, L2, A2, B2, T2)) : zSS C2 L2 A2 B2 T2 M2 c2 ∧ 0 ≤ c2 ∧ c2 ≤ 240 ∧ 0 ≤ M2 ∧ M2 ≤ 16 := by
  have h : zLX f n (0, M2, c2, C2, L2, A2, B2, T2) true 0 0 0 C L A B T := by
    rw [← e]
    exact zLX.new hn
  exact zLX.wf (2 * n + 2).toNat true 0 0 0 C L A B T (by show 2 * (n - 0) + 1 ≤ _; omega) h (fun q q1 q2 => by omega)


/-! ===== a law as the class writes it ===== -/
def zom (v : Int) : Int := if v < 1048576 then 1 else if v < 2097152 then 2 else if v < 3145728 then 43 else if v < 4194304 then 45 else if v < 5242880 then 42 else if v < 6291456 then 47 else if v < 7340032 then 37 else if v < 8388608 then 60 else if v < 9437184 then 62 else if v < 10485760 then 61 else if v < 11534336 then 3 else if v < 12582912 then 4 else 5
def zwm (s v : Int) : Int := if v < 1048576 then v else if v < 2097152 then v - 1048576 else if v < 11534336 then 0 else if v % 1048576 = 0 then 0 else v % 1048576 + s
theorem zom_sg {x v : Int} (h : v = 1048576 * zsg x) (h2 : 2 ≤ zsg x) : x = zom v ∧ ∀ s, 0 = zwm s v := by
  have z := zsg_cs x
  refine ⟨?_, fun s => ?_⟩
  · unfold zom
    (repeat' split) <;> omega
  · unfold zwm
    (repeat' split) <;> omega
theorem zom_cp {x v : Int} (h : v = 1048576 * zcp x) (h2 : zcp x ≠ -1) : x = zom v ∧ ∀ s, 0 = zwm s v := by
  have z := zcp_cs x
  refine ⟨?_, fun s => ?_⟩
  · unfold zom
    (repeat' split) <;> omega
  · unfold zwm
    (repeat' split) <;> omega
theorem zom_n {v : Int} (h : 0 ≤ v ∧ v < 1048576) : 1 = zom v ∧ ∀ s, v = zwm s v := by
  refine ⟨?_, fun s => ?_⟩
  · unfold zom
    rw [if_pos h.2]
  · unfold zwm
    rw [if_pos h.2]
theorem zom_l {x v : Int} (h : v = 1048576 + x) (hx : 0 ≤ x ∧ x < 7) : 2 = zom v ∧ ∀ s, x = zwm s v := by
  refine ⟨?_, fun s => ?_⟩
  · unfold zom
    rw [if_neg (by omega), if_pos (by omega)]
  · unfold zwm
    rw [if_neg (by omega), if_pos (by omega)]; omega
theorem zwm_0 (s : Int) : 0 = zwm s 10485760 ∧ 0 = zwm s 11534336 ∧ 0 = zwm s 12582912 := by
  unfold zwm
  refine ⟨?_, ?_, ?_⟩
  · (repeat' split) <;> omega
  · (repeat' split) <;> omega
  · (repeat' split) <;> omega
theorem zom_h {x : Int} (h : 11534336 ≤ x) : zom x = if x < 12582912 then 4 else 5 := by
  unfold zom
  rw [if_neg (by omega), if_neg (by omega), if_neg (by omega), if_neg (by omega), if_neg (by omega), if_neg (by omega), if_neg (by omega), if_neg (by omega), if_neg (by omega), if_neg (by omega), if_neg (by omega)]
theorem zom_j {x y : Int} (h : x / 1048576 = y / 1048576) (hx : x / 1048576 = 11 ∨ x / 1048576 = 12) : zom x = zom y := by
  rw [zom_h (by omega), zom_h (by omega)]
  rcases hx with e | e
  · rw [if_pos (by omega), if_pos (by omega)]
  · rw [if_neg (by omega), if_neg (by omega)]
theorem zwm_j {x s c : Int} (h : x = 1048576 * 11 + c ∨ x = 1048576 * 12 + c) (hc : 0 < c ∧ c < 1048576) : zwm s x = c + s := by
  unfold zwm
  rw [if_neg (by omega), if_neg (by omega), if_neg (by omega), if_neg (by omega)]
  omega
/-- the part of the class's code that is being written: from a on, s places behind the other side's -/
def zRD (σ : xS) (s a c : Int) (C O V : Int → Int) : Prop := (σ 118 2 = c + s ∧ (0 ≤ s ∧ s ≤ 31) ∧ 0 ≤ a ∧ a ≤ c) ∧ (∀ k, a ≤ k → k < c → σ 119 (k + s) = zom (C k) ∧ σ 120 (k + s) = zwm s (C k)) ∧ ∀ k, k < a + s → σ 119 k = O k ∧ σ 120 k = V k
section RD
variable {σ τ : xS} {s a c x o w c2 v p : Int} {C C2 O V : Int → Int} {k : Nat} {j y : Int}
theorem zRD.b (h : zRD σ s a c C O V) : σ 118 2 = c + s ∧ (0 ≤ s ∧ s ≤ 31) ∧ 0 ≤ a ∧ a ≤ c := h.1
theorem zRD.f (h : zRD σ s a c C O V) (e2 : τ 118 2 = σ 118 2) (eo : τ 119 = σ 119) (ew : τ 120 = σ 120) : zRD τ s a c C O V := by
  unfold zRD
  rw [e2, eo, ew]
  exact h
theorem zRD.u (h : zRD σ s a c C O V) (e : τ = xU σ k j y) (hk : k ≠ 118 ∧ k ≠ 119 ∧ k ≠ 120) : zRD τ s a c C O V := by
  subst e
  exact h.f (by rw [xU_k _ _ _ (Ne.symm hk.1)]) (xU_k _ _ _ (Ne.symm hk.2.1)) (xU_k _ _ _ (Ne.symm hk.2.2))
theorem zRD.put (h : zRD σ s a c C O V) (e2 : τ 118 2 = σ 118 2 + 1) (eo : τ 119 = xud (σ 119) (σ 118 2) o) (ew : τ 120 = xud (σ 120) (σ 118 2) w) (ho : o = zom x) (hw : w = zwm s x) (hc : c2 = c + 1) (hC : C2 = xud C c x) : zRD τ s a c2 C2 O V := by
  subst hc; subst hC
  have b := h.1
  refine ⟨⟨by omega, b.2.1, b.2.2.1, by omega⟩, fun k k1 k2 => ?_, fun k k1 => ?_⟩
  · rw [eo, ew, b.1]
    by_cases e : k = c
    · subst e
      rw [xud_s, xud_s, xud_s]
      exact ⟨ho, hw⟩
    · rw [xud_o C x e, xud_o _ _ (by omega), xud_o _ _ (by omega)]
      exact h.2.1 k k1 (by omega)
  · rw [eo, ew, xud_o _ _ (by omega), xud_o _ _ (by omega)]
    exact h.2.2 k k1
theorem zRD.land (h : zRD σ s a c C O V) (e2 : τ 118 2 = σ 118 2) (eo : τ 119 = σ 119) (ew : τ 120 = xud (σ 120) p (σ 118 2)) (hp : p = v % 1048576 + s) (hv : 11534336 ≤ v ∧ v < 13631488) (hr : a ≤ v % 1048576 ∧ v % 1048576 < c) (hC : C (v % 1048576) / 1048576 = v / 1048576) (hc : c < 1048576) : zRD τ s a c (zland C v c) O V := by
  subst hp
  have b := h.1
  refine ⟨⟨by rw [e2]; exact b.1, b.2.1, b.2.2.1, b.2.2.2⟩, fun k k1 k2 => ?_, fun k k1 => ?_⟩
  · rw [eo, ew, b.1]
    have z := h.2.1 k k1 k2
    unfold zland
    by_cases e : k = v % 1048576
    · subst e
      rw [xud_s, xud_s]
      refine ⟨z.1.trans (zom_j (by omega) (by omega)), (zwm_j (c := c) (by omega) (by omega)).symm⟩
    · rw [xud_o C _ e, xud_o _ _ (by omega)]
      exact z
  · rw [eo, ew, xud_o _ _ (by omega)]
    exact h.2.2 k k1
end RD
/-- a law's code on both sides: orders o, words v, kinds, where the E and the C begin -/
def zKR (o v kd wa ak C L A B T : Int → Int) (M c : Int) : Prop := ∀ q, 0 ≤ q → q < M → (kd q = L q ∧ wa q = A q + 2 * q ∧ ak q = B q + 2 * q + 1) ∧ (0 ≤ A q ∧ A q ≤ B q ∧ B q ≤ T q ∧ T q ≤ c) ∧
  ((∀ k, A q ≤ k → k < B q → o (k + 2 * q) = zom (C k) ∧ v (k + 2 * q) = zwm (2 * q) (C k)) ∧ o (B q + 2 * q) = 0) ∧
  (∀ k, B q ≤ k → k < T q → o (k + (2 * q + 1)) = zom (C k) ∧ v (k + (2 * q + 1)) = zwm (2 * q + 1) (C k)) ∧ o (T q + (2 * q + 1)) = 0
theorem zKR_0 {o v kd wa ak C L A B T : Int → Int} {M c : Int} (h : M = 0) : zKR o v kd wa ak C L A B T M c := fun q q1 q2 => by omega
theorem zKR.cp {o v kd wa ak C L A B T o2 v2 kd2 wa2 ak2 C2 : Int → Int} {M c c2 : Int} (h : zKR o v kd wa ak C L A B T M c) (ho : ∀ k, k < c + 2 * M → o2 k = o k ∧ v2 k = v k) (hC : ∀ k, k < c → C2 k = C k) (hk : ∀ q, 0 ≤ q → q < M → kd2 q = kd q ∧ wa2 q = wa q ∧ ak2 q = ak q) (hc : c ≤ c2) : zKR o2 v2 kd2 wa2 ak2 C2 L A B T M c2 := fun q q1 q2 => by
  have z := h q q1 q2
  have zk := hk q q1 q2
  refine ⟨⟨zk.1.trans z.1.1, zk.2.1.trans z.1.2.1, zk.2.2.trans z.1.2.2⟩, by omega, ⟨fun k k1 k2 => ?_, ?_⟩, fun k k1 k2 => ?_, ?_⟩
  · rw [(ho _ (by omega)).1, (ho _ (by omega)).2, hC k (by omega)]
    exact z.2.2.1.1 k k1 k2
  · rw [(ho _ (by omega)).1]
    exact z.2.2.1.2
  · rw [(ho _ (by omega)).1, (ho _ (by omega)).2, hC k (by omega)]
    exact z.2.2.2.1 k k1 k2
  · rw [(ho _ (by omega)).1]
    exact z.2.2.2.2
theorem zKR.cp2 {o v kd wa ak C L A B T o2 v2 kd2 wa2 ak2 : Int → Int} {M c : Int} (h : zKR o v kd wa ak C L A B T M c) (ho : ∀ k, 0 ≤ k → k < c + 2 * M → o2 k = o k ∧ v2 k = v k) (hk : ∀ q, 0 ≤ q → q < M → kd2 q = kd q ∧ wa2 q = wa q ∧ ak2 q = ak q) : zKR o2 v2 kd2 wa2 ak2 C L A B T M c := fun q q1 q2 => by
  have z := h q q1 q2
  have zk := hk q q1 q2
  refine ⟨⟨zk.1.trans z.1.1, zk.2.1.trans z.1.2.1, zk.2.2.trans z.1.2.2⟩, by omega, ⟨fun k k1 k2 => ?_, ?_⟩, fun k k1 k2 => ?_, ?_⟩
  · rw [(ho _ (by omega) (by omega)).1, (ho _ (by omega) (by omega)).2]
    exact z.2.2.1.1 k k1 k2
  · rw [(ho _ (by omega) (by omega)).1]
    exact z.2.2.1.2
  · rw [(ho _ (by omega) (by omega)).1, (ho _ (by omega) (by omega)).2]
    exact z.2.2.2.1 k k1 k2
  · rw [(ho _ (by omega) (by omega)).1]
    exact z.2.2.2.2
theorem zKR.snoc {o v kd wa ak C L A B T L2 A2 B2 T2 : Int → Int} {M M2 c c1 c2 x : Int} (h : zKR o v kd wa ak C L A B T M c2) (hM : 0 ≤ M) (hb : 0 ≤ c ∧ c ≤ c1 ∧ c1 ≤ c2) (hM2 : M2 = M + 1) (hL : L2 = xud L M x) (hA : A2 = xud A M c) (hB : B2 = xud B M c1) (hT : T2 = xud T M c2)
    (h1 : kd M = x ∧ wa M = c + 2 * M ∧ ak M = c1 + 2 * M + 1) (h2 : (∀ k, c ≤ k → k < c1 → o (k + 2 * M) = zom (C k) ∧ v (k + 2 * M) = zwm (2 * M) (C k)) ∧ o (c1 + 2 * M) = 0) (h3 : (∀ k, c1 ≤ k → k < c2 → o (k + (2 * M + 1)) = zom (C k) ∧ v (k + (2 * M + 1)) = zwm (2 * M + 1) (C k)) ∧ o (c2 + (2 * M + 1)) = 0) : zKR o v kd wa ak C L2 A2 B2 T2 M2 c2 := by
  subst hM2; subst hL; subst hA; subst hB; subst hT
  intro q q1 q2
  by_cases e : q = M
  · subst e
    rw [xud_s, xud_s, xud_s, xud_s]
    exact ⟨h1, by omega, h2, h3.1, h3.2⟩
  · rw [xud_o L _ e, xud_o A _ e, xud_o B _ e, xud_o T _ e]
    exact h q q1 (by omega)
theorem zRD.new {σ : xS} {s a : Int} {C O V : Int → Int} (h : σ 118 2 = a + s) (hs : 0 ≤ s ∧ s ≤ 31) (ha : 0 ≤ a) (eo : σ 119 = O) (ew : σ 120 = V) : zRD σ s a a C O V := ⟨⟨h, hs, ha, Int.le_refl _⟩, fun k k1 k2 => by omega, fun k _ => by rw [eo, ew]; exact ⟨rfl, rfl⟩⟩
/-- a clause is written -/
theorem zLK {f : Int → Int} {n M p c p1 p2 c1 c2 : Int} {C L A B T C1 C2 o0 v0 kd0 wa0 ak0 o1 v1 o2 v2 o3 v3 o4 v4 kd4 wa4 ak4 : Int → Int} {Z : zLT} (h : zLX f n Z true M p c C L A B T) (hc : zkl (zch f n p) ≠ 0) (hM : M < 16) (e1 : zc1 f n p c C = (0, p1, c1, C1)) (e2 : zc2 f n p1 c1 C1 = (0, p2, c2, C2))
    (k0 : zKR o0 v0 kd0 wa0 ak0 C L A B T M c) (r1 : ∀ k, c ≤ k → k < c1 → o1 (k + 2 * M) = zom (C1 k) ∧ v1 (k + 2 * M) = zwm (2 * M) (C1 k)) (q1 : ∀ k, k < c + 2 * M → o1 k = o0 k ∧ v1 k = v0 k) (eo2 : o2 = xud o1 (c1 + 2 * M) 0) (ev2 : v2 = xud v1 (c1 + 2 * M) 0)
    (r3 : ∀ k, c1 ≤ k → k < c2 → o3 (k + (2 * M + 1)) = zom (C2 k) ∧ v3 (k + (2 * M + 1)) = zwm (2 * M + 1) (C2 k)) (q3 : ∀ k, k < c1 + (2 * M + 1) → o3 k = o2 k ∧ v3 k = v2 k) (eo4 : o4 = xud o3 (c2 + (2 * M + 1)) 0) (ev4 : v4 = xud v3 (c2 + (2 * M + 1)) 0)
    (ekd : kd4 = xud kd0 M (zch f n p)) (ewa : wa4 = xud wa0 M (c + 2 * M)) (eak : ak4 = xud ak0 M (c1 + 2 * M + 1)) :
    zLX f n Z false (M + 1) p2 c2 C2 (xud L M (zch f n p)) (xud A M c) (xud B M c1) (xud T M c2) ∧ zKR o4 v4 kd4 wa4 ak4 C2 (xud L M (zch f n p)) (xud A M c) (xud B M c1) (xud T M c2) (M + 1) c2 := by
  have b := h.b
  have zk := zkl_cs (zch f n p)
  have hl := zch_lt (f := f) (n := n) (p := p) (by omega)
  have w1 := zc1_wf ⟨b.1, b.2.1, hl, b.2.2.2.1⟩ e1
  have w2 := zc2_wf ⟨by omega, by omega, by omega, b.2.2.2.1⟩ e2
  have x4 : ∀ k, k < c2 + (2 * M + 1) → o4 k = o3 k ∧ v4 k = v3 k := fun k hk => by rw [eo4, ev4, xud_o _ _ (by omega), xud_o _ _ (by omega)]; exact ⟨rfl, rfl⟩
  have x2 : ∀ k, k < c1 + 2 * M → o2 k = o1 k ∧ v2 k = v1 k := fun k hk => by rw [eo2, ev2, xud_o _ _ (by omega), xud_o _ _ (by omega)]; exact ⟨rfl, rfl⟩
  have y : ∀ k, k < c1 + 2 * M → o4 k = o1 k ∧ v4 k = v1 k := fun k hk => by
    rw [(x4 k (by omega)).1, (x4 k (by omega)).2, (q3 k (by omega)).1, (q3 k (by omega)).2]
    exact x2 k hk
  refine ⟨h.clause hc hM e1 e2 (by omega) rfl rfl rfl rfl rfl, ?_⟩
  refine zKR.snoc (x := zch f n p) (k0.cp (fun k hk => ?_) (fun k hk => ?_) (fun q a1 a2 => ?_) (by omega)) b.2.2.2.2.1 ⟨b.1, by omega, by omega⟩ rfl rfl rfl rfl rfl ⟨by rw [ekd, xud_s], by rw [ewa, xud_s], by rw [eak, xud_s]⟩ ⟨fun k k1 k2 => ?_, ?_⟩ ⟨fun k k1 k2 => ?_, by rw [eo4, xud_s]⟩
  · rw [(y k (by omega)).1, (y k (by omega)).2]
    exact q1 k hk
  · rw [w2.2.2 k (by omega), w1.2.2 k hk]
  · rw [ekd, ewa, eak, xud_o _ _ (by omega), xud_o _ _ (by omega), xud_o _ _ (by omega)]
    exact ⟨rfl, rfl, rfl⟩
  · rw [(y _ (by omega)).1, (y _ (by omega)).2, w2.2.2 k k2]
    exact r1 k k1 k2
  · rw [(x4 _ (by omega)).1, (q3 _ (by omega)).1, eo2, xud_s]
  · rw [(x4 _ (by omega)).1, (x4 _ (by omega)).2]
    exact r3 k k1 k2


/-! ===== the other side's state while it reads a law ===== -/
def zls (w : Int → Int) (b : Int) : Nat → List Int
  | 0 => []
  | k + 1 => w (b + k) :: zls w b k
theorem zls_l (w : Int → Int) (b : Int) : ∀ k, (zls w b k).length = k
  | 0 => rfl
  | k + 1 => by
    show (zls w b k).length + 1 = k + 1
    rw [zls_l w b k]
theorem zls_f {w w2 : Int → Int} {b : Int} : ∀ k : Nat, (∀ i, b ≤ i → i < b + k → w2 i = w i) → zls w2 b k = zls w b k
  | 0, _ => rfl
  | k + 1, h => by
    show w2 (b + k) :: zls w2 b k = w (b + k) :: zls w b k
    rw [zls_f k (fun i h1 h2 => h i h1 (by omega)), h (b + k) (by omega) (by omega)]
theorem zls_s (w : Int → Int) {b W : Int} (h : b ≤ W) : zls w b (W + 1 - b).toNat = w W :: zls w b (W - b).toNat := by
  rw [show (W + 1 - b).toNat = (W - b).toNat + 1 from by omega]
  show w (b + ((W - b).toNat : Nat)) :: zls w b (W - b).toNat = _
  rw [show b + (((W - b).toNat : Nat) : Int) = W from by omega]
theorem zls_push (w : Int → Int) {b W v : Int} (h : b ≤ W) : zls (xud w W v) b (W + 1 - b).toNat = v :: zls w b (W - b).toNat := by
  rw [zls_s _ h, xud_s, zls_f _ (fun i h1 h2 => xud_o w v (by omega))]
theorem zls_pop (w : Int → Int) {b W : Int} (h : b < W) : zls w b (W - b).toNat = w (W - 1) :: zls w b (W - 1 - b).toNat := by
  have e := zls_s w (b := b) (W := W - 1) (by omega)
  rw [show W - 1 + 1 - b = W - b from by omega] at e
  exact e
theorem zls_0 (w : Int → Int) {b W : Int} (h : W = b) : zls w b (W - b).toNat = [] := by
  rw [show (W - b).toNat = 0 from by omega]
  rfl
theorem zls_sh {w : Int → Int} {b : Int} : ∀ k : Nat, zs2 (zls w b k) → ∀ i, b ≤ i → i < b + k → w i = 14680064 ∨ (2097152 ≤ w i ∧ w i < 7340032)
  | 0, _, i, h1, h2 => by omega
  | k + 1, h, i, h1, h2 => by
    by_cases e : i = b + k
    · subst e
      have := h.1
      omega
    · exact zls_sh k h.2 i h1 (by omega)
theorem zls_op {w : Int → Int} {b : Int} : ∀ k : Nat, (∀ i, b ≤ i → i < b + k → w i < 14680064) → zop (zls w b k) = 0
  | 0, _ => rfl
  | k + 1, h => by
    show zop (w (b + k) :: zls w b k) = 0
    rw [zop_z (h (b + k) (by omega) (by omega))]
    exact zls_op k (fun i h1 h2 => h i h1 (by omega))
theorem zls_oq {w : Int → Int} {b : Int} : ∀ (k : Nat) (i : Int), b ≤ i → i < b + k → 14680064 ≤ w i → 0 < zop (zls w b k)
  | 0, i, h1, h2, _ => by omega
  | k + 1, i, h1, h2, h3 => by
    show 0 < zop (w (b + k) :: zls w b k)
    have n := zop_n (zls w b k)
    by_cases e : i = b + k
    · subst e
      rw [zop_y h3]; omega
    · have z := zls_oq k i h1 (by omega) h3
      by_cases q : 14680064 ≤ w (b + k)
      · rw [zop_y q]; omega
      · rw [zop_z (by omega)]; exact z
/-- within a sum that began with b waiting -/
def zER (f : Int → Int) (n q b K b0 : Int) (B0 : Int → Int) (Z : Int × Int × Int × (Int → Int)) (m : Bool) (w0 : Int → Int) (σ : xS) : Prop :=
  zEX f n q b K b0 B0 Z m (σ 268 9) (σ 268 14) (σ 277) (zls (σ 278) b (σ 268 15 - b).toNat) ∧ b ≤ σ 268 15 ∧ σ 268 13 = q + zop (zls (σ 278) b (σ 268 15 - b).toNat) ∧ (∀ i, i < b → σ 278 i = w0 i) ∧ (b = 0 ∨ 10485760 ≤ w0 (b - 1))
section ER
variable {f : Int → Int} {n q bw K b0 : Int} {B0 : Int → Int} {Z : Int × Int × Int × (Int → Int)} {m : Bool} {w0 : Int → Int} {σ τ : xS} {v : Int}
theorem zER.b (h : zER f n q bw K b0 B0 Z m w0 σ) : (0 ≤ σ 268 14 ∧ σ 268 14 + K ≤ σ 268 9 ∧ σ 268 9 ≤ n ∧ n ≤ 240) ∧ 0 ≤ bw ∧ bw ≤ σ 268 15 ∧ σ 268 15 ≤ σ 268 9 ∧ 0 ≤ K := by
  have z := h.1.b
  have e := zls_l (σ 278) bw (σ 268 15 - bw).toNat
  have h2 := h.2.1
  omega
theorem zER.o (h : zER f n q bw K b0 B0 Z m w0 σ) : σ 268 13 = q + zop (zls (σ 278) bw (σ 268 15 - bw).toNat) ∧ 0 ≤ zop (zls (σ 278) bw (σ 268 15 - bw).toNat) := ⟨h.2.2.1, zop_n _⟩
theorem zER.top (h : zER f n q bw K b0 B0 Z m w0 σ) (hb : bw < σ 268 15) : ztW σ = σ 278 (σ 268 15 - 1) / 1048576 ∧ (σ 278 (σ 268 15 - 1) = 14680064 ∨ σ 278 (σ 268 15 - 1) = 2097152 ∨ σ 278 (σ 268 15 - 1) = 3145728 ∨ σ 278 (σ 268 15 - 1) = 4194304 ∨ σ 278 (σ 268 15 - 1) = 5242880 ∨ σ 278 (σ 268 15 - 1) = 6291456) := by
  have b9 := h.b
  have s := h.1.sh
  rw [zls_pop _ hb] at s
  have z := s.1
  exact ⟨ztW_1 (by omega), by omega⟩
theorem zER.bot (h : zER f n q bw K b0 B0 Z m w0 σ) (hb : σ 268 15 = bw) : ztW σ = -1 ∨ 10 ≤ ztW σ := by
  have b9 := h.b
  rcases h.2.2.2.2 with e | e
  · exact Or.inl (ztW_0 (by omega))
  · by_cases e0 : bw = 0
    · exact Or.inl (ztW_0 (by omega))
    · refine Or.inr ?_
      rw [ztW_1 (by omega), hb, h.2.2.2.1 (bw - 1) (by omega)]
      omega
theorem zER.wt (h : zER f n q bw K b0 B0 Z m w0 σ) : 0 ≤ σ 268 15 ∧ σ 268 15 ≤ 260 ∧ (σ 268 15 = 0 ∨ 0 ≤ σ 278 (σ 268 15 - 1)) := by
  have b9 := h.b
  refine ⟨by omega, by omega, ?_⟩
  by_cases e : bw < σ 268 15
  · have := (h.top e).2
    omega
  · have e2 : σ 268 15 = bw := by omega
    rcases h.2.2.2.2 with e3 | e3
    · exact Or.inl (by omega)
    · refine Or.inr ?_
      rw [e2, h.2.2.2.1 (bw - 1) (by omega)]
      omega
/-- the top, as both sides see it -/
theorem zER.tp (h : zER f n q bw K b0 B0 Z m w0 σ) : ((ztW σ < 4 ∨ 6 < ztW σ) → (ztp (zls (σ 278) bw (σ 268 15 - bw).toNat) < 4194304 ∨ 7340032 ≤ ztp (zls (σ 278) bw (σ 268 15 - bw).toNat))) ∧ ((ztW σ < 2 ∨ 6 < ztW σ) → (ztp (zls (σ 278) bw (σ 268 15 - bw).toNat) < 0 ∨ 7340032 ≤ ztp (zls (σ 278) bw (σ 268 15 - bw).toNat))) := by
  have b9 := h.b
  by_cases e : bw < σ 268 15
  · have t := h.top e
    rw [zls_pop _ e]
    show (_ → (σ 278 (σ 268 15 - 1) < 4194304 ∨ 7340032 ≤ σ 278 (σ 268 15 - 1))) ∧ (_ → (σ 278 (σ 268 15 - 1) < 0 ∨ 7340032 ≤ σ 278 (σ 268 15 - 1)))
    omega
  · rw [zls_0 _ (by omega)]
    exact ⟨fun _ => Or.inl (by decide), fun _ => Or.inl (by decide)⟩
theorem zER.ne (h : zER f n q bw K b0 B0 Z m w0 σ) (ht : 2 ≤ ztW σ ∧ ztW σ ≤ 6) : bw < σ 268 15 := by
  have b9 := h.b
  by_cases e : bw < σ 268 15
  · exact e
  · have := h.bot (by omega)
    omega
theorem zER.num (h : zER f n q bw K b0 B0 Z true w0 σ) (hd : zdg (zch f n (σ 268 9))) (e9 : τ 268 9 = (znr f n 5 (σ 268 9) 0).1) (h5 : ¬ zdg (zch f n (τ 268 9))) (hv : v = (znr f n 5 (σ 268 9) 0).2) (e14 : τ 268 14 = σ 268 14 + 1) (e7 : τ 277 = xud (σ 277) (σ 268 14) v) (e15 : τ 268 15 = σ 268 15) (e13 : τ 268 13 = σ 268 13) (e8 : τ 278 = σ 278) : zER f n q bw K b0 B0 Z false w0 τ := by
  unfold zER
  rw [e15, e13, e8]
  exact ⟨h.1.num hd e9 h5 e14 (by rw [e7, hv]), h.2⟩
theorem zER.let_ (h : zER f n q bw K b0 B0 Z true w0 σ) (hl : zlt (zch f n (σ 268 9)) ≠ -1) (e9 : τ 268 9 = σ 268 9 + 1) (hv : v = 1048576 + zlt (zch f n (σ 268 9))) (e14 : τ 268 14 = σ 268 14 + 1) (e7 : τ 277 = xud (σ 277) (σ 268 14) v) (e15 : τ 268 15 = σ 268 15) (e13 : τ 268 13 = σ 268 13) (e8 : τ 278 = σ 278) : zER f n q bw K b0 B0 Z false w0 τ := by
  unfold zER
  rw [e15, e13, e8]
  exact ⟨h.1.let_ hl e9 e14 (by rw [e7, hv]), h.2⟩
theorem zER.open_ (h : zER f n q bw K b0 B0 Z true w0 σ) (hc : zch f n (σ 268 9) = 91) (hq : σ 268 13 < 6) (e9 : τ 268 9 = σ 268 9 + 1) (e14 : τ 268 14 = σ 268 14) (e7 : τ 277 = σ 277) (e15 : τ 268 15 = σ 268 15 + 1) (e13 : τ 268 13 = σ 268 13 + 1) (e8 : τ 278 = xud (σ 278) (σ 268 15) v) (hv : v = 14680064) : zER f n q bw K b0 B0 Z true w0 τ := by
  have h2 := h.2.1
  have h3 := h.2.2.1
  unfold zER
  rw [e15, e13, e8, e14, e7, zls_push _ h2, zop_y (by omega)]
  exact ⟨h.1.open_ hc (by omega) e9 hv, by omega, by omega, fun i hi => by rw [xud_o _ _ (by omega)]; exact h.2.2.2.1 i hi, h.2.2.2.2⟩
theorem zER.emit (h : zER f n q bw K b0 B0 Z false w0 σ) (ht : (4 ≤ ztW σ ∧ ztW σ ≤ 6) ∨ ((ztW σ = 2 ∨ ztW σ = 3) ∧ zsg (zch f n (σ 268 9)) < 4)) (hv : v = 1048576 * ztW σ) (e9 : τ 268 9 = σ 268 9) (e14 : τ 268 14 = σ 268 14 + 1) (e7 : τ 277 = xud (σ 277) (σ 268 14) v) (e15 : τ 268 15 = σ 268 15 - 1) (e13 : τ 268 13 = σ 268 13) (e8 : τ 278 = σ 278) : zER f n q bw K b0 B0 Z false w0 τ := by
  have hb := h.ne (by omega)
  have t := h.top hb
  have hv2 : v = σ 278 (σ 268 15 - 1) := by omega
  obtain ⟨h1, h2, h3, h4⟩ := h
  rw [zls_pop _ hb, zop_z (by omega)] at h3
  rw [zls_pop _ hb] at h1
  unfold zER
  rw [e15, e13, e8, e9]
  refine ⟨?_, by omega, h3, h4⟩
  by_cases e : 4 ≤ ztW σ
  · exact h1.mul (by omega) e14 (by rw [e7, hv2])
  · exact h1.add (by omega) (by omega) e14 (by rw [e7, hv2])
theorem zER.sign (h : zER f n q bw K b0 B0 Z false w0 σ) (ht : (4 ≤ zsg (zch f n (σ 268 9)) ∧ (ztW σ < 4 ∨ 6 < ztW σ)) ∨ ((2 ≤ zsg (zch f n (σ 268 9)) ∧ zsg (zch f n (σ 268 9)) < 4) ∧ (ztW σ < 2 ∨ 6 < ztW σ))) (hv : v = 1048576 * zsg (zch f n (σ 268 9))) (e9 : τ 268 9 = σ 268 9 + 1) (e14 : τ 268 14 = σ 268 14) (e7 : τ 277 = σ 277) (e15 : τ 268 15 = σ 268 15 + 1) (e13 : τ 268 13 = σ 268 13) (e8 : τ 278 = xud (σ 278) (σ 268 15) v) : zER f n q bw K b0 B0 Z true w0 τ := by
  have h2 := h.2.1
  have h3 := h.2.2.1
  have t := h.tp
  have zc := zsg_cs (zch f n (σ 268 9))
  unfold zER
  rw [e15, e13, e8, e14, e7, zls_push _ h2, zop_z (by omega)]
  refine ⟨?_, by omega, h3, fun i hi => by rw [xud_o _ _ (by omega)]; exact h.2.2.2.1 i hi, h.2.2.2.2⟩
  rcases ht with ⟨a1, a2⟩ | ⟨a1, a2⟩
  · exact h.1.sgm (t.1 a2) a1 e9 hv
  · exact h.1.sga (t.2 a2) a1 e9 hv
theorem zER.shut (h : zER f n q bw K b0 B0 Z false w0 σ) (ho : 0 < zop (zls (σ 278) bw (σ 268 15 - bw).toNat)) (ht : ztW σ < 2 ∨ 6 < ztW σ) (hc : zch f n (σ 268 9) = 93) (e9 : τ 268 9 = σ 268 9 + 1) (e14 : τ 268 14 = σ 268 14) (e7 : τ 277 = σ 277) (e15 : τ 268 15 = σ 268 15 - 1) (e13 : τ 268 13 = σ 268 13 - 1) (e8 : τ 278 = σ 278) : zER f n q bw K b0 B0 Z false w0 τ := by
  have b9 := h.b
  have hb : bw < σ 268 15 := by
    by_cases e : bw < σ 268 15
    · exact e
    · rw [zls_0 _ (by omega)] at ho
      exact absurd ho (by decide)
  have t := h.top hb
  obtain ⟨h1, h2, h3, h4⟩ := h
  rw [zls_pop _ hb, zop_y (by omega)] at h3
  rw [zls_pop _ hb] at h1
  unfold zER
  rw [e15, e13, e8, e14, e7]
  exact ⟨h1.shut (by omega) hc e9, by omega, by omega, h4⟩
theorem zER.fin (h : zER f n q bw K b0 B0 Z false w0 σ) (ho : zop (zls (σ 278) bw (σ 268 15 - bw).toNat) = 0) (ht : ztW σ < 2 ∨ 6 < ztW σ) (hs : zsg (zch f n (σ 268 9)) < 2) : Z = (0, σ 268 9, σ 268 14, σ 277) ∧ σ 268 15 = bw := by
  have b9 := h.b
  have hb : ¬ bw < σ 268 15 := fun e => by
    have t := h.top e
    rw [zls_pop _ e, zop_y (by omega)] at ho
    have := zop_n (zls (σ 278) bw (σ 268 15 - 1 - bw).toNat)
    omega
  have h1 := h.1
  rw [zls_0 _ (by omega)] at h1
  exact ⟨h1.fin hs, by omega⟩
end ER


/-! ===== within a condition ===== -/
def zCQ (f : Int → Int) (n a : Int) (Z : Int × Int × Int × (Int → Int)) (m : Bool) (σ : xS) : Prop :=
  zCX f n a Z m (σ 268 9) (σ 268 14) (σ 277) (zls (σ 278) 0 (σ 268 15 - 0).toNat) ∧ 0 ≤ σ 268 15 ∧ σ 268 13 = zqn (zls (σ 278) 0 (σ 268 15 - 0).toNat) ∧ σ 268 13 ≤ 6
section CQ
variable {f : Int → Int} {n a : Int} {Z : Int × Int × Int × (Int → Int)} {m : Bool} {σ τ : xS} {v oo k c1 c2 p1 p2 : Int} {C1 C2 : Int → Int}
theorem zCQ.b (h : zCQ f n a Z m σ) : (0 ≤ a ∧ a ≤ σ 268 14 ∧ σ 268 14 + znN (zls (σ 278) 0 (σ 268 15 - 0).toNat) ≤ σ 268 9 ∧ 0 ≤ znN (zls (σ 278) 0 (σ 268 15 - 0).toNat) ∧ σ 268 9 ≤ n ∧ n ≤ 240) ∧ 0 ≤ σ 268 15 ∧ σ 268 15 ≤ σ 268 9 := by
  have z := h.1.b
  have e := zls_l (σ 278) 0 (σ 268 15 - 0).toNat
  have h2 := h.2.1
  omega
theorem zCQ.o (h : zCQ f n a Z m σ) : σ 268 13 = zqn (zls (σ 278) 0 (σ 268 15 - 0).toNat) ∧ 0 ≤ σ 268 13 ∧ σ 268 13 ≤ 6 := ⟨h.2.2.1, by rw [h.2.2.1]; exact zqn_n _, h.2.2.2⟩
theorem zCQ.top (h : zCQ f n a Z m σ) (hb : 0 < σ 268 15) : ztW σ = σ 278 (σ 268 15 - 1) / 1048576 ∧ (σ 278 (σ 268 15 - 1) = 10485760 ∨ σ 278 (σ 268 15 - 1) = 13631488 ∨ (11534336 ≤ σ 278 (σ 268 15 - 1) ∧ σ 278 (σ 268 15 - 1) < 13631488 ∧ a ≤ σ 278 (σ 268 15 - 1) % 1048576 ∧ σ 278 (σ 268 15 - 1) % 1048576 < σ 268 14 ∧ σ 277 (σ 278 (σ 268 15 - 1) % 1048576) / 1048576 = σ 278 (σ 268 15 - 1) / 1048576)) := by
  have s := h.1.sh
  rw [zls_pop _ hb] at s
  refine ⟨ztW_1 (by omega), ?_⟩
  rcases s.1 with e | e | e
  · exact Or.inl e
  · exact Or.inr (Or.inl e)
  · exact Or.inr (Or.inr ⟨e.1, e.2.1, e.2.2.1, e.2.2.2.1, e.2.2.2.2.1⟩)
theorem zCQ.wt (h : zCQ f n a Z m σ) : 0 ≤ σ 268 15 ∧ σ 268 15 ≤ 260 ∧ (σ 268 15 = 0 ∨ 0 ≤ σ 278 (σ 268 15 - 1)) := by
  have b9 := h.b
  refine ⟨by omega, by omega, ?_⟩
  by_cases e : 0 < σ 268 15
  · have := (h.top e).2
    omega
  · exact Or.inl (by omega)
theorem zCQ.hb (h : zCQ f n a Z m σ) : σ 268 15 = 0 ∨ 10485760 ≤ σ 278 (σ 268 15 - 1) := by
  have b9 := h.b
  by_cases e : 0 < σ 268 15
  · have := (h.top e).2
    omega
  · exact Or.inl (by omega)
theorem zCQ.ne (h : zCQ f n a Z true σ) : 0 < σ 268 15 := by
  have b9 := h.b
  by_cases e : 0 < σ 268 15
  · exact e
  · have z := h.1.ne
    exact absurd (zls_0 _ (by omega)) z
theorem zCQ.ne2 (h : zCQ f n a Z m σ) (ht : 0 ≤ ztW σ) : 0 < σ 268 15 := by
  have b9 := h.b
  by_cases e : 0 < σ 268 15
  · exact e
  · have := ztW_0 (σ := σ) (by omega)
    omega
theorem zCQ.open_ (h : zCQ f n a Z true σ) (hc : (zch f n (σ 268 9) = 33 ∧ v = 10485760) ∨ (zch f n (σ 268 9) = 40 ∧ v = 13631488)) (hq : σ 268 13 < 6) (e9 : τ 268 9 = σ 268 9 + 1) (e14 : τ 268 14 = σ 268 14) (e7 : τ 277 = σ 277) (e15 : τ 268 15 = σ 268 15 + 1) (e13 : τ 268 13 = σ 268 13 + 1) (e8 : τ 278 = xud (σ 278) (σ 268 15) v) : zCQ f n a Z true τ := by
  have h2 := h.2.1
  have h3 := h.2.2.1
  unfold zCQ
  rw [e15, e13, e8, e14, e7, zls_push _ h2, zqn_y (by omega)]
  exact ⟨h.1.open_ hc (by omega) e9, by omega, by omega, by omega⟩
theorem zCQ.not (h : zCQ f n a Z false σ) (ht : ztW σ = 10) (e9 : τ 268 9 = σ 268 9) (e14 : τ 268 14 = σ 268 14 + 1) (e7 : τ 277 = xud (σ 277) (σ 268 14) 10485760) (e15 : τ 268 15 = σ 268 15 - 1) (e13 : τ 268 13 = σ 268 13 - 1) (e8 : τ 278 = σ 278) : zCQ f n a Z false τ ∧ 0 < τ 268 15 := by
  have hb := h.ne2 (by omega)
  have t := h.top hb
  have h3 := h.2.2.1
  have h1 := h.1
  have h6 := h.2.2.2
  rw [zls_pop _ hb] at h1 h3
  rw [zqn_y (by omega)] at h3
  refine ⟨?_, ?_⟩
  · unfold zCQ
    rw [e15, e13, e8, e9]
    exact ⟨h1.not (by omega) e14 e7, by omega, by omega, by omega⟩
  · by_cases e : 0 < σ 268 15 - 1
    · omega
    · have z := h1.bt.1 (zls_0 _ (by omega))
      omega
theorem zCQ.land (h : zCQ f n a Z false σ) (ht : ztW σ = 11 ∨ (ztW σ = 12 ∧ zch f n (σ 268 9) ≠ 38)) (hk : k = σ 278 (σ 268 15 - 1) % 1048576) (hv : v = 1048576 * (σ 277 k / 1048576) + σ 268 14) (e9 : τ 268 9 = σ 268 9) (e14 : τ 268 14 = σ 268 14) (e7 : τ 277 = xud (σ 277) k v) (e15 : τ 268 15 = σ 268 15 - 1) (e13 : τ 268 13 = σ 268 13) (e8 : τ 278 = σ 278) : zCQ f n a Z false τ ∧ (ztW σ = 11 → 12 ≤ ztW τ) ∧ (ztW σ = 12 → 13 ≤ ztW τ) := by
  have hb := h.ne2 (by omega)
  have t := h.top hb
  have h3 := h.2.2.1
  have h1 := h.1
  have s := h.1.sh
  rw [zls_pop _ hb] at h1 h3 s
  rw [zqn_z (by omega)] at h3
  have e7' : τ 277 = zland (σ 277) (σ 278 (σ 268 15 - 1)) (σ 268 14) := by
    rw [e7, hv, hk]
    rfl
  have s2 : (σ 278 (σ 268 15 - 1) < 12582912 → 12582912 ≤ ztp (zls (σ 278) 0 (σ 268 15 - 1 - 0).toNat)) ∧ (12582912 ≤ σ 278 (σ 268 15 - 1) → 13631488 ≤ ztp (zls (σ 278) 0 (σ 268 15 - 1 - 0).toNat)) := by
    rcases s.1 with e | e | e
    · omega
    · omega
    · exact e.2.2.2.2.2
  have tp : 12582912 ≤ ztp (zls (σ 278) 0 (σ 268 15 - 1 - 0).toNat) → ztW τ = ztp (zls (σ 278) 0 (σ 268 15 - 1 - 0).toNat) / 1048576 := fun q => by
    by_cases e : 0 < σ 268 15 - 1
    · rw [ztW_1 (by omega), e15, e8, zls_pop _ e]
      rfl
    · rw [zls_0 _ (by omega)] at q
      exact absurd q (by decide)
  refine ⟨?_, fun q => ?_, fun q => ?_⟩
  · unfold zCQ
    rw [e15, e13, e8, e9, e14]
    refine ⟨?_, by omega, h3, h.2.2.2⟩
    rcases ht with e | e
    · exact h1.landA (by omega) e7'
    · exact h1.landP (by omega) e.2 e7'
  · have z := s2.1 (by omega)
    rw [tp z]; omega
  · have z := s2.2 (by omega)
    rw [tp (by omega)]; omega
theorem zCQ.jump (h : zCQ f n a Z false σ) (ht : (oo = 11 ∧ zch f n (σ 268 9) = 38 ∧ 12 ≤ ztW σ) ∨ (oo = 12 ∧ zch f n (σ 268 9) = 124 ∧ 13 ≤ ztW σ)) (hv : v = 1048576 * oo + σ 268 14) (hw : k = 1048576 * oo) (e9 : τ 268 9 = σ 268 9 + 1) (e14 : τ 268 14 = σ 268 14 + 1) (e7 : τ 277 = xud (σ 277) (σ 268 14) k) (e15 : τ 268 15 = σ 268 15 + 1) (e13 : τ 268 13 = σ 268 13) (e8 : τ 278 = xud (σ 278) (σ 268 15) v) : zCQ f n a Z true τ := by
  have hb := h.ne2 (by omega)
  have b9 := h.b
  have t := h.top hb
  have h3 := h.2.2.1
  have h2 := h.2.1
  have tp : ztp (zls (σ 278) 0 (σ 268 15 - 0).toNat) = σ 278 (σ 268 15 - 1) := by
    rw [zls_pop _ hb]
    rfl
  unfold zCQ
  rw [e15, e13, e8, zls_push _ h2, zqn_z (by omega)]
  refine ⟨?_, by omega, h3, h.2.2.2⟩
  rcases ht with ⟨q1, q2, q3⟩ | ⟨q1, q2, q3⟩
  · subst q1
    exact h.1.and_ (by rw [tp]; omega) q2 e9 e14 (by omega) (by rw [e7, hw]; rfl)
  · subst q1
    exact h.1.or_ (by rw [tp]; omega) q2 e9 e14 (by omega) (by rw [e7, hw]; rfl)
theorem zCQ.shut (h : zCQ f n a Z false σ) (ht : 13 ≤ ztW σ) (hc : zch f n (σ 268 9) = 41) (e9 : τ 268 9 = σ 268 9 + 1) (e14 : τ 268 14 = σ 268 14) (e7 : τ 277 = σ 277) (e15 : τ 268 15 = σ 268 15 - 1) (e13 : τ 268 13 = σ 268 13 - 1) (e8 : τ 278 = σ 278) : zCQ f n a Z false τ := by
  have hb := h.ne2 (by omega)
  have t := h.top hb
  have h3 := h.2.2.1
  have h1 := h.1
  have h6 := h.2.2.2
  rw [zls_pop _ hb] at h1 h3
  rw [zqn_y (by omega)] at h3
  unfold zCQ
  rw [e15, e13, e8, e14, e7]
  exact ⟨h1.shut (by omega) hc e9, by omega, by omega, by omega⟩
theorem zCQ.fin (h : zCQ f n a Z false σ) (hw : σ 268 15 = 0) : Z = (0, σ 268 9, σ 268 14, σ 277) := by
  have h1 := h.1
  rw [zls_0 _ (by omega)] at h1
  exact h1.fin
theorem zCQ.bad (h : zCQ f n a Z false σ) (hw : 0 < σ 268 15) (h1 : zch f n (σ 268 9) ≠ 38) (h2 : zch f n (σ 268 9) ≠ 124) (h3 : zch f n (σ 268 9) ≠ 41) : Z.1 = -1000 - σ 268 9 := zCX.bad _ _ _ h.1 (fun e => by
  rw [zls_pop _ hw] at e
  cases e) h1 h2 h3
theorem zCQ.cmp (h : zCQ f n a Z true σ) (hc : zch f n (σ 268 9) ≠ 33 ∧ zch f n (σ 268 9) ≠ 40) (h1 : zE0 f n (σ 268 13) (σ 268 9) (σ 268 14) (σ 277) = (0, p1, c1, C1)) (h2 : zcp (zch f n p1) ≠ -1) (h3 : zE0 f n (σ 268 13) (p1 + 1) c1 C1 = (0, p2, c2, C2)) (hb : σ 268 9 + 1 ≤ p2 ∧ p2 ≤ n ∧ σ 268 14 ≤ c2 ∧ c2 + 1 + znN (zls (σ 278) 0 (σ 268 15 - 0).toNat) ≤ p2) (ho : ∀ k, k < σ 268 14 → C2 k = σ 277 k)
    (hv : v = 1048576 * zcp (zch f n p1)) (e9 : τ 268 9 = p2) (e14 : τ 268 14 = c2 + 1) (e7 : τ 277 = xud C2 c2 v) (e15 : τ 268 15 = σ 268 15) (e13 : τ 268 13 = σ 268 13) (e8 : ∀ i, i < σ 268 15 → τ 278 i = σ 278 i) : zCQ f n a Z false τ := by
  have h0 := h.2.1
  have el : zls (τ 278) 0 (σ 268 15 - 0).toNat = zls (σ 278) 0 (σ 268 15 - 0).toNat := zls_f _ (fun i i1 i2 => e8 i (by omega))
  unfold zCQ
  rw [e15, e13, el]
  rw [h.2.2.1] at h1 h3
  exact ⟨by rw [e9]; exact h.1.cmp hc h1 h2 h3 hb ho e14 (by rw [e7, hv]), h.2⟩
end CQ
theorem zSS.imk {σ : xS} {C L A B T : Int → Int} {M c : Int} (h : zSS C L A B T M c) (hM : σ 268 17 = M) (hm : 0 ≤ M ∧ M ≤ 16) (hc : c ≤ 240) (h3 : ∀ k, 0 ≤ k → k < c → σ 283 k = C k) (h4 : ∀ q, 0 ≤ q → q < M → σ 284 q = L q ∧ σ 285 q = A q ∧ σ 286 q = B q ∧ σ 287 q = T q) : IMk σ := by
  refine ⟨by omega, fun q q1 q2 => ?_⟩
  have z := h q q1 (by omega)
  have w := h4 q q1 (by omega)
  rw [w.2.1, w.2.2.1, w.2.2.2]
  refine ⟨?_, segOK_cp z.2.2.ok (fun k k1 k2 => h3 k k1 (by omega))⟩
  rcases z.2.1 with e | e
  · rw [e.2]
    exact segOK_0 _ (by omega)
  · exact segOK_cp e.2.ok (fun k k1 k2 => h3 k k1 (by omega))


/-! ===== a walk's text ===== -/
def wst (c : Int) : Int := if c = 110 then 0 else if c = 101 then 1 else if c = 115 then 2 else if c = 119 then 3 else if c = 46 then 4 else -1
theorem wst_i {c r : Int} (h : (c = 110 ∧ r = 0) ∨ (c = 101 ∧ r = 1) ∨ (c = 115 ∧ r = 2) ∨ (c = 119 ∧ r = 3) ∨ (c = 46 ∧ r = 4) ∨ (c ≠ 110 ∧ c ≠ 101 ∧ c ≠ 115 ∧ c ≠ 119 ∧ c ≠ 46 ∧ r = -1)) : r = wst c := by
  unfold wst
  (repeat' split) <;> omega
theorem wst_cs (c : Int) : (c = 110 ∧ wst c = 0) ∨ (c = 101 ∧ wst c = 1) ∨ (c = 115 ∧ wst c = 2) ∨ (c = 119 ∧ wst c = 3) ∨ (c = 46 ∧ wst c = 4) ∨ (c ≠ 110 ∧ c ≠ 101 ∧ c ≠ 115 ∧ c ≠ 119 ∧ c ≠ 46 ∧ wst c = -1) := by
  unfold wst
  (repeat' split) <;> omega
def wtm (c : Int) : Int := if 50 ≤ c ∧ c ≤ 57 then c - 48 else 1
theorem wtm_cs (c : Int) : (50 ≤ c ∧ c ≤ 57 ∧ wtm c = c - 48) ∨ ((c < 50 ∨ 57 < c) ∧ wtm c = 1) := by
  unfold wtm
  (repeat' split) <;> omega
def wp1 (f : Int → Int) (n p : Int) : Int := if 1 < wtm (zch f n p) then p + 1 else p
theorem wp1_cs (f : Int → Int) (n p : Int) : (1 < wtm (zch f n p) ∧ wp1 f n p = p + 1) ∨ (wtm (zch f n p) = 1 ∧ wp1 f n p = p) := by
  have h := wtm_cs (zch f n p)
  unfold wp1
  split <;> omega
/-- what stands from a on, m more of it behind z -/
def wrep (K : Int → Int) (a z m : Int) : Int → Int := fun j => if z ≤ j ∧ j < z + m then K (a + (j - a) % (z - a)) else K j
theorem wrep_0 (K : Int → Int) (a z : Int) {m : Int} (h : m = 0) : wrep K a z m = K := funext fun j => if_neg (by omega)
theorem wrep_c {K : Int → Int} {a z m m2 : Int} (h : m = m2) : wrep K a z m = wrep K a z m2 := by rw [h]
theorem wrep_at {K : Int → Int} {a z i : Int} (ha : a < z) (hi : 0 ≤ i) : wrep K a z i (a + i) = K (a + i % (z - a)) := by
  unfold wrep
  by_cases h : a + i < z
  · rw [if_neg (by omega), Int.emod_eq_of_lt hi (by omega)]
  · rw [if_pos (by omega), show a + i - a = i from by omega]
theorem wrep_s {K K1 : Int → Int} {a z i p v i2 : Int} (h : K1 = wrep K a z i) (ha : a < z) (hi : 0 ≤ i) (hp : p = z + i) (hv : v = K1 (a + i)) (h2 : i2 = i + 1) : xud K1 p v = wrep K a z i2 := by
  subst hp; subst h2; subst hv; subst h
  funext j
  rw [wrep_at ha hi]
  unfold xud
  by_cases e : j = z + i
  · rw [if_pos e]
    unfold wrep
    rw [if_pos (by omega), e, show z + i - a = i + (z - a) from by omega, Int.add_emod_right]
  · rw [if_neg e]
    unfold wrep
    by_cases q : z ≤ j ∧ j < z + i
    · rw [if_pos q, if_pos (by omega)]
    · rw [if_neg q, if_neg (by omega)]
theorem wmul1 (t z b : Int) : (t - 1) * (z - b) = t * (z - b) - (z - b) := by rw [Int.sub_mul, Int.one_mul]
/-- the reading of a walk's text: m tells whether a step comes next; z steps stand in K, u times their number; st: open rounds (start, first step, times) -/
def zws (f : Int → Int) (n u : Int) : Nat → Bool → Int → Int → (Int → Int) → List (Int × Int × Int) → Int × Int × (Int → Int)
  | 0, _, _, z, K, _ => (0, z, K)
  | k + 1, true, p, z, K, st =>
    if zch f n (wp1 f n p) = 40 then (if 2 ≤ st.length then (-5000 - wp1 f n p, z, K) else zws f n u k true (wp1 f n p + 1) z K ((p, z, wtm (zch f n p)) :: st)) else
    if wst (zch f n (wp1 f n p)) = -1 then (-1000 - wp1 f n p, z, K) else
    if 60 < z + wtm (zch f n p) then (-6000 - p, z, K) else
    zws f n u k false (wp1 f n p + 1) (z + wtm (zch f n p)) (wrep (xud K z (u * wst (zch f n (wp1 f n p)))) z (z + 1) (wtm (zch f n p) - 1)) st
  | k + 1, false, p, z, K, [] => if p < n then zws f n u k true p z K [] else (0, z, K)
  | k + 1, false, p, z, K, (s, b, t) :: r =>
    if zch f n p = 41 then (if 60 < z + (t - 1) * (z - b) then (-6000 - s, z, K) else zws f n u k false (p + 1) (z + (t - 1) * (z - b)) (wrep K b z ((t - 1) * (z - b))) r) else zws f n u k true p z K ((s, b, t) :: r)
def zWS (f : Int → Int) (n u : Int) (Z : Int × Int × (Int → Int)) (m : Bool) (p z : Int) (K : Int → Int) (st : List (Int × Int × Int)) : Prop := ∃ k : Nat, 2 * (n - p) + (bif m then 1 else 2) ≤ (k : Int) ∧ Z = zws f n u k m p z K st
section WS
variable {f : Int → Int} {n u p z : Int} {K : Int → Int} {Z : Int × Int × (Int → Int)} {st r : List (Int × Int × Int)} {p1 p2 z2 t c s b : Int} {K2 : Int → Int}
theorem zWS.new (f : Int → Int) (n u z : Int) (K : Int → Int) : zWS f n u (zws f n u (2 * n + 1).toNat true 0 z K []) true 0 z K [] := ⟨(2 * n + 1).toNat, by show 2 * (n - 0) + 1 ≤ _; omega, rfl⟩
theorem zWS.pos (h : zWS f n u Z true p z K st) (hp : p ≤ n) : ∃ k : Nat, 2 * (n - p) ≤ (k : Int) ∧ Z = zws f n u (k + 1) true p z K st := by
  obtain ⟨k, hk, e⟩ := h
  have hk : 2 * (n - p) + 1 ≤ (k : Int) := hk
  cases k with
  | zero => omega
  | succ k => exact ⟨k, by omega, e⟩
theorem zWS.posA (h : zWS f n u Z false p z K st) (hp : p ≤ n) : ∃ k : Nat, 2 * (n - p) + 1 ≤ (k : Int) ∧ Z = zws f n u (k + 1) false p z K st := by
  obtain ⟨k, hk, e⟩ := h
  have hk : 2 * (n - p) + 2 ≤ (k : Int) := hk
  cases k with
  | zero => omega
  | succ k => exact ⟨k, by omega, e⟩
theorem zWS.five (h : zWS f n u Z true p z K st) (hp : p ≤ n) (h1 : p1 = wp1 f n p) (hc : zch f n p1 = 40) (hl : 2 ≤ st.length) : Z = (-5000 - p1, z, K) := by
  obtain ⟨k, hk, e⟩ := h.pos hp
  subst h1
  exact e.trans ((if_pos hc).trans (if_pos hl))
theorem zWS.open_ (h : zWS f n u Z true p z K st) (hp : p ≤ n) (h1 : p1 = wp1 f n p) (ht : t = wtm (zch f n p)) (hc : zch f n p1 = 40) (hl : st.length < 2) (h2 : p2 = p1 + 1) : zWS f n u Z true p2 z K ((p, z, t) :: st) := by
  obtain ⟨k, hk, e⟩ := h.pos hp
  have hw := wp1_cs f n p
  subst h1; subst ht; subst h2
  exact ⟨k, by show 2 * (n - (wp1 f n p + 1)) + 1 ≤ _; omega, e.trans ((if_pos hc).trans (if_neg (by omega)))⟩
theorem zWS.one (h : zWS f n u Z true p z K st) (hp : p ≤ n) (h1 : p1 = wp1 f n p) (hc : zch f n p1 ≠ 40) (hs : wst (zch f n p1) = -1) : Z = (-1000 - p1, z, K) := by
  obtain ⟨k, hk, e⟩ := h.pos hp
  subst h1
  exact e.trans ((if_neg hc).trans (if_pos hs))
theorem zWS.six (h : zWS f n u Z true p z K st) (hp : p ≤ n) (h1 : p1 = wp1 f n p) (ht : t = wtm (zch f n p)) (hc : zch f n p1 ≠ 40) (hs : wst (zch f n p1) ≠ -1) (h6 : 60 < z + t) : Z = (-6000 - p, z, K) := by
  obtain ⟨k, hk, e⟩ := h.pos hp
  subst h1; subst ht
  exact e.trans ((if_neg hc).trans ((if_neg hs).trans (if_pos h6)))
theorem zWS.step (h : zWS f n u Z true p z K st) (hp : p ≤ n) (h1 : p1 = wp1 f n p) (ht : t = wtm (zch f n p)) (hc : zch f n p1 ≠ 40) (hs : wst (zch f n p1) ≠ -1) (h6 : z + t ≤ 60) (h2 : p2 = p1 + 1) (hz : z2 = z + t) (hK : K2 = wrep (xud K z (u * wst (zch f n p1))) z (z + 1) (t - 1)) : zWS f n u Z false p2 z2 K2 st := by
  obtain ⟨k, hk, e⟩ := h.pos hp
  have hw := wp1_cs f n p
  subst h1; subst ht; subst h2; subst hz; subst hK
  exact ⟨k, by show 2 * (n - (wp1 f n p + 1)) + 2 ≤ _; omega, e.trans ((if_neg hc).trans ((if_neg hs).trans (if_neg (by omega))))⟩
theorem zWS.fin (h : zWS f n u Z false p z K []) (hp : p = n) : Z = (0, z, K) := by
  obtain ⟨k, hk, e⟩ := h.posA (by omega)
  exact e.trans (if_neg (by omega))
theorem zWS.more (h : zWS f n u Z false p z K []) (hp : p < n) : zWS f n u Z true p z K [] := by
  obtain ⟨k, hk, e⟩ := h.posA (by omega)
  exact ⟨k, by show 2 * (n - p) + 1 ≤ _; omega, e.trans (if_pos hp)⟩
theorem zWS.more1 (h : zWS f n u Z false p z K ((s, b, t) :: r)) (hp : p ≤ n) (hc : zch f n p ≠ 41) : zWS f n u Z true p z K ((s, b, t) :: r) := by
  obtain ⟨k, hk, e⟩ := h.posA hp
  exact ⟨k, by show 2 * (n - p) + 1 ≤ _; omega, e.trans (if_neg hc)⟩
theorem zWS.pop6 (h : zWS f n u Z false p z K ((s, b, t) :: r)) (hp : p ≤ n) (hc : zch f n p = 41) (h6 : 60 < z + (t - 1) * (z - b)) : Z = (-6000 - s, z, K) := by
  obtain ⟨k, hk, e⟩ := h.posA hp
  exact e.trans ((if_pos hc).trans (if_pos h6))
theorem zWS.pop (h : zWS f n u Z false p z K ((s, b, t) :: r)) (hp : p ≤ n) (hc : zch f n p = 41) (h6 : z + (t - 1) * (z - b) ≤ 60) (h2 : p2 = p + 1) (hz : z2 = z + (t - 1) * (z - b)) (hK : K2 = wrep K b z ((t - 1) * (z - b))) : zWS f n u Z false p2 z2 K2 r := by
  obtain ⟨k, hk, e⟩ := h.posA hp
  subst h2; subst hz; subst hK
  exact ⟨k, by show 2 * (n - (p + 1)) + 2 ≤ _; omega, e.trans ((if_pos hc).trans (if_neg (by omega)))⟩
end WS
section WS2
variable {f : Int → Int} {n u p z : Int} {K : Int → Int} {Z : Int × Int × (Int → Int)} {st : List (Int × Int × Int)}
theorem zWS.fin0 (h : zWS f n u Z false p z K st) (hl : st.length = 0) (hp : p = n) : Z = (0, z, K) := by
  have e := List.eq_nil_of_length_eq_zero hl
  subst e
  exact h.fin hp
theorem zWS.more0 (h : zWS f n u Z false p z K st) (hl : st.length = 0) (hp : p < n) : zWS f n u Z true p z K st := by
  have e := List.eq_nil_of_length_eq_zero hl
  subst e
  exact h.more hp
theorem zWS.moreN (h : zWS f n u Z false p z K st) (hl : 0 < st.length) (hp : p ≤ n) (hc : zch f n p ≠ 41) : zWS f n u Z true p z K st := by
  cases st with
  | nil => exact absurd hl (Nat.lt_irrefl 0)
  | cons q r => obtain ⟨s, b, t⟩ := q; exact h.more1 hp hc
end WS2
/-- faults and sizes hang on the text alone -/
theorem zws_e {f : Int → Int} {n u u2 : Int} : ∀ (k : Nat) (m : Bool) (p z : Int) (K K2 : Int → Int) (st : List (Int × Int × Int)), (zws f n u2 k m p z K2 st).1 = (zws f n u k m p z K st).1 ∧ (zws f n u2 k m p z K2 st).2.1 = (zws f n u k m p z K st).2.1
  | 0, _, _, _, _, _, _ => ⟨rfl, rfl⟩
  | k + 1, true, p, z, K, K2, st => by
    unfold zws
    split
    · split
      · exact ⟨rfl, rfl⟩
      · exact zws_e k _ _ _ _ _ _
    split
    · exact ⟨rfl, rfl⟩
    split
    · exact ⟨rfl, rfl⟩
    · exact zws_e k _ _ _ _ _ _
  | k + 1, false, p, z, K, K2, [] => by
    unfold zws
    split
    · exact zws_e k _ _ _ _ _ _
    · exact ⟨rfl, rfl⟩
  | k + 1, false, p, z, K, K2, (s, b, t) :: r => by
    unfold zws
    split
    · split
      · exact ⟨rfl, rfl⟩
      · exact zws_e k _ _ _ _ _ _
    · exact zws_e k _ _ _ _ _ _
/-- the reference's open rounds -/
def zst (σ : xS) : List (Int × Int × Int) := if σ 268 35 = 0 then [] else if σ 268 35 = 1 then [(σ 290 0, σ 291 0, σ 292 0)] else [(σ 290 1, σ 291 1, σ 292 1), (σ 290 0, σ 291 0, σ 292 0)]
theorem zst_l {σ : xS} (h : 0 ≤ σ 268 35 ∧ σ 268 35 ≤ 2) : ((zst σ).length : Int) = σ 268 35 := by
  unfold zst
  split
  · rename_i e; rw [e]; rfl
  split
  · rename_i e; rw [e]; rfl
  · show (2 : Int) = _; omega
theorem zst_f {σ τ : xS} (e5 : τ 268 35 = σ 268 35) (e0 : τ 290 = σ 290) (e1 : τ 291 = σ 291) (e2 : τ 292 = σ 292) : zst τ = zst σ := by
  unfold zst
  rw [e5, e0, e1, e2]
theorem zst_push {σ τ : xS} {a b t : Int} (h : σ 268 35 = 0 ∨ σ 268 35 = 1) (e5 : τ 268 35 = σ 268 35 + 1) (e0 : τ 290 = xud (σ 290) (σ 268 35) a) (e1 : τ 291 = xud (σ 291) (σ 268 35) b) (e2 : τ 292 = xud (σ 292) (σ 268 35) t) : zst τ = (a, b, t) :: zst σ := by
  unfold zst
  rw [e5, e0, e1, e2]
  rcases h with q | q
  · rw [q]
    rfl
  · rw [q]
    rfl
theorem zst_pop {σ τ : xS} (h : σ 268 35 = 1 ∨ σ 268 35 = 2) (e5 : τ 268 35 = σ 268 35 - 1) (e0 : τ 290 = σ 290) (e1 : τ 291 = σ 291) (e2 : τ 292 = σ 292) : zst σ = (σ 290 (τ 268 35), σ 291 (τ 268 35), σ 292 (τ 268 35)) :: zst τ := by
  unfold zst
  rw [e5, e0, e1, e2]
  rcases h with q | q
  · rw [q]
    rfl
  · rw [q]
    rfl

/-- the reading, whatever the steps are -/
def zWX (f : Int → Int) (n : Int) (Z : Int × Int × (Int → Int)) (m : Bool) (p z : Int) (st : List (Int × Int × Int)) : Prop := ∃ K, zWS f n 1 Z m p z K st
theorem wmul2 (z a b : Int) : (z - a) * b = (b - 1) * (z - a) + (z - a) := by
  rw [wmul1, Int.mul_comm]
  omega
section WX
variable {f : Int → Int} {n p z : Int} {Z : Int × Int × (Int → Int)} {st r : List (Int × Int × Int)} {p1 p2 z2 t s b : Int}
theorem zWX.five (h : zWX f n Z true p z st) (hp : p ≤ n) (h1 : p1 = wp1 f n p) (hc : zch f n p1 = 40) (hl : 2 ≤ st.length) : Z.1 = -5000 - p1 := by
  obtain ⟨K, h⟩ := h; rw [h.five hp h1 hc hl]
theorem zWX.open_ (h : zWX f n Z true p z st) (hp : p ≤ n) (h1 : p1 = wp1 f n p) (ht : t = wtm (zch f n p)) (hc : zch f n p1 = 40) (hl : st.length < 2) (h2 : p2 = p1 + 1) : zWX f n Z true p2 z ((p, z, t) :: st) := by
  obtain ⟨K, h⟩ := h; exact ⟨K, h.open_ hp h1 ht hc hl h2⟩
theorem zWX.one (h : zWX f n Z true p z st) (hp : p ≤ n) (h1 : p1 = wp1 f n p) (hc : zch f n p1 ≠ 40) (hs : wst (zch f n p1) = -1) : Z.1 = -1000 - p1 := by
  obtain ⟨K, h⟩ := h; rw [h.one hp h1 hc hs]
theorem zWX.six (h : zWX f n Z true p z st) (hp : p ≤ n) (h1 : p1 = wp1 f n p) (ht : t = wtm (zch f n p)) (hc : zch f n p1 ≠ 40) (hs : wst (zch f n p1) ≠ -1) (h6 : 60 < z + t) : Z.1 = -6000 - p := by
  obtain ⟨K, h⟩ := h; rw [h.six hp h1 ht hc hs h6]
theorem zWX.step (h : zWX f n Z true p z st) (hp : p ≤ n) (h1 : p1 = wp1 f n p) (ht : t = wtm (zch f n p)) (hc : zch f n p1 ≠ 40) (hs : wst (zch f n p1) ≠ -1) (h6 : z + t ≤ 60) (h2 : p2 = p1 + 1) (hz : z2 = z + t) : zWX f n Z false p2 z2 st := by
  obtain ⟨K, h⟩ := h; exact ⟨_, h.step hp h1 ht hc hs h6 h2 hz rfl⟩
theorem zWX.pop6 (h : zWX f n Z false p z ((s, b, t) :: r)) (hp : p ≤ n) (hc : zch f n p = 41) (h6 : 60 < z + (t - 1) * (z - b)) : Z.1 = -6000 - s := by
  obtain ⟨K, h⟩ := h; rw [h.pop6 hp hc h6]
theorem zWX.pop (h : zWX f n Z false p z ((s, b, t) :: r)) (hp : p ≤ n) (hc : zch f n p = 41) (h6 : z + (t - 1) * (z - b) ≤ 60) (h2 : p2 = p + 1) (hz : z2 = z + (t - 1) * (z - b)) : zWX f n Z false p2 z2 r := by
  obtain ⟨K, h⟩ := h; exact ⟨_, h.pop hp hc h6 h2 hz rfl⟩
theorem zWX.fin0 (h : zWX f n Z false p z st) (hl : st.length = 0) (hp : p = n) : Z.1 = 0 ∧ Z.2.1 = z := by
  obtain ⟨K, h⟩ := h; rw [h.fin0 hl hp]; exact ⟨rfl, rfl⟩
theorem zWX.more0 (h : zWX f n Z false p z st) (hl : st.length = 0) (hp : p < n) : zWX f n Z true p z st := by
  obtain ⟨K, h⟩ := h; exact ⟨K, h.more0 hl hp⟩
theorem zWX.moreN (h : zWX f n Z false p z st) (hl : 0 < st.length) (hp : p ≤ n) (hc : zch f n p ≠ 41) : zWX f n Z true p z st := by
  obtain ⟨K, h⟩ := h; exact ⟨K, h.moreN hl hp hc⟩
theorem zWX.new (f : Int → Int) (n : Int) (K : Int → Int) : zWX f n (zws f n 1 (2 * n + 1).toNat true 0 0 K []) true 0 0 [] := ⟨K, zWS.new f n 1 0 K⟩
end WX

/-- where the open rounds begin -/
def zR0 (σ : xS) : Prop := ∀ j, 0 ≤ j → j < σ 268 35 → 0 ≤ σ 290 j ∧ σ 290 j ≤ 240
theorem zR0.new {σ : xS} (h5 : σ 268 35 = 0) : zR0 σ := fun j j1 j2 => by omega
theorem zR0.f {σ τ : xS} (h : zR0 σ) (h5 : τ 268 35 ≤ σ 268 35) (h0 : τ 290 = σ 290) : zR0 τ := fun j j1 j2 => by
  rw [h0]
  exact h j j1 (by omega)
theorem zR0.push {σ τ : xS} {v : Int} (h : zR0 σ) (h5 : τ 268 35 = σ 268 35 + 1) (h0 : τ 290 = xud (σ 290) (σ 268 35) v) (hv : 0 ≤ v ∧ v ≤ 240) : zR0 τ := fun j j1 j2 => by
  rw [h0]
  by_cases e : j = σ 268 35
  · rw [e, xud_s]; exact hv
  · rw [xud_o _ _ e]; exact h j j1 (by omega)


