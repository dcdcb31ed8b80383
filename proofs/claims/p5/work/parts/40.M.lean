/-! ===== conditions ===== -/
def znN : List Int → Int
  | [] => 0
  | v :: r => znN r + (if v < 11534336 then 1 else 0)
def zqn : List Int → Int
  | [] => 0
  | v :: r => zqn r + (if v < 11534336 ∨ 13631488 ≤ v then 1 else 0)
/-- what may wait in a condition: !, (, and jumps of the code from a to c -/
def zsc (a c : Int) (C : Int → Int) : List Int → Prop
  | [] => True
  | v :: r => (v = 10485760 ∨ v = 13631488 ∨ (11534336 ≤ v ∧ v < 13631488 ∧ a ≤ v % 1048576 ∧ v % 1048576 < c ∧ C (v % 1048576) / 1048576 = v / 1048576 ∧ (v < 12582912 → 12582912 ≤ ztp r) ∧ (12582912 ≤ v → 13631488 ≤ ztp r))) ∧ zsc a c C r
def zbt : List Int → Prop
  | [] => True
  | v :: r => (r = [] → v = 13631488) ∧ zbt r
theorem znN_n : ∀ s : List Int, 0 ≤ znN s
  | [] => Int.le_refl _
  | v :: r => by
    have := znN_n r
    unfold znN
    split <;> omega
theorem zqn_n : ∀ s : List Int, 0 ≤ zqn s
  | [] => Int.le_refl _
  | v :: r => by
    have := zqn_n r
    unfold zqn
    split <;> omega
theorem znN_y {v : Int} {r : List Int} (h : v < 11534336) : znN (v :: r) = znN r + 1 := by
  show znN r + (if v < 11534336 then 1 else 0) = znN r + 1
  rw [if_pos h]
theorem znN_z {v : Int} {r : List Int} (h : 11534336 ≤ v) : znN (v :: r) = znN r := by
  show znN r + (if v < 11534336 then 1 else 0) = znN r
  rw [if_neg (by omega)]; omega
theorem zqn_y {v : Int} {r : List Int} (h : v < 11534336 ∨ 13631488 ≤ v) : zqn (v :: r) = zqn r + 1 := by
  show zqn r + (if v < 11534336 ∨ 13631488 ≤ v then 1 else 0) = zqn r + 1
  rw [if_pos h]
theorem zqn_z {v : Int} {r : List Int} (h : 11534336 ≤ v ∧ v < 13631488) : zqn (v :: r) = zqn r := by
  show zqn r + (if v < 11534336 ∨ 13631488 ≤ v then 1 else 0) = zqn r
  rw [if_neg (by omega)]; omega
theorem zsc_m {a c c2 : Int} {C C2 : Int → Int} (h : c ≤ c2) (hC : ∀ k, k < c → C2 k / 1048576 = C k / 1048576) : ∀ {s : List Int}, zsc a c C s → zsc a c2 C2 s
  | [], _ => trivial
  | v :: r, q => ⟨by
      rcases q.1 with e | e | e
      · exact Or.inl e
      · exact Or.inr (Or.inl e)
      · exact Or.inr (Or.inr ⟨e.1, e.2.1, e.2.2.1, by omega, by rw [hC _ e.2.2.2.1]; exact e.2.2.2.2.1, e.2.2.2.2.2⟩), zsc_m h hC q.2⟩
def zland (C : Int → Int) (v c : Int) : Int → Int := xud C (v % 1048576) (1048576 * (C (v % 1048576) / 1048576) + c)
theorem zland_op (C : Int → Int) (v : Int) {c : Int} (h : 0 ≤ c ∧ c < 1048576) (k : Int) : zland C v c k / 1048576 = C k / 1048576 := by
  unfold zland
  by_cases e : k = v % 1048576
  · rw [e, xud_s]; omega
  · rw [xud_o C _ e]
/-- the reading of a condition behind its first ( : m tells whether a piece comes next -/
def zcg (f : Int → Int) (n : Int) : Nat → Bool → Int → Int → (Int → Int) → List Int → Int × Int × Int × (Int → Int)
  | 0, _, p, c, C, _ => (0, p, c, C)
  | k + 1, true, p, c, C, st =>
    if zch f n p = 33 ∨ zch f n p = 40 then (if 6 ≤ zqn st then (-5000 - p, p, c, C) else zcg f n k true (p + 1) c C ((if zch f n p = 33 then 10485760 else 13631488) :: st)) else
    if (zE0 f n (zqn st) p c C).1 ≠ 0 then zE0 f n (zqn st) p c C else
    if zcp (zch f n (zE0 f n (zqn st) p c C).2.1) = -1 then (-1000 - (zE0 f n (zqn st) p c C).2.1, p, c, C) else
    if (zE0 f n (zqn st) ((zE0 f n (zqn st) p c C).2.1 + 1) (zE0 f n (zqn st) p c C).2.2.1 (zE0 f n (zqn st) p c C).2.2.2).1 ≠ 0 then zE0 f n (zqn st) ((zE0 f n (zqn st) p c C).2.1 + 1) (zE0 f n (zqn st) p c C).2.2.1 (zE0 f n (zqn st) p c C).2.2.2 else
    zcg f n k false (zE0 f n (zqn st) ((zE0 f n (zqn st) p c C).2.1 + 1) (zE0 f n (zqn st) p c C).2.2.1 (zE0 f n (zqn st) p c C).2.2.2).2.1
      ((zE0 f n (zqn st) ((zE0 f n (zqn st) p c C).2.1 + 1) (zE0 f n (zqn st) p c C).2.2.1 (zE0 f n (zqn st) p c C).2.2.2).2.2.1 + 1)
      (xud (zE0 f n (zqn st) ((zE0 f n (zqn st) p c C).2.1 + 1) (zE0 f n (zqn st) p c C).2.2.1 (zE0 f n (zqn st) p c C).2.2.2).2.2.2 (zE0 f n (zqn st) ((zE0 f n (zqn st) p c C).2.1 + 1) (zE0 f n (zqn st) p c C).2.2.1 (zE0 f n (zqn st) p c C).2.2.2).2.2.1 (1048576 * zcp (zch f n (zE0 f n (zqn st) p c C).2.1))) st
  | _ + 1, false, p, c, C, [] => (0, p, c, C)
  | k + 1, false, p, c, C, v :: r =>
    if v < 11534336 then zcg f n k false p (c + 1) (xud C c 10485760) r else
    if v < 12582912 then zcg f n k false p c (zland C v c) r else
    if zch f n p = 38 then zcg f n k true (p + 1) (c + 1) (xud C c 11534336) ((11534336 + c) :: v :: r) else
    if v < 13631488 then zcg f n k false p c (zland C v c) r else
    if zch f n p = 124 then zcg f n k true (p + 1) (c + 1) (xud C c 12582912) ((12582912 + c) :: v :: r) else
    if zch f n p = 41 then zcg f n k false (p + 1) c C r else (-1000 - p, p, c, C)
def zC0 (f : Int → Int) (n p c : Int) (C : Int → Int) : Int × Int × Int × (Int → Int) := zcg f n (2 * n + 2).toNat true p c C [13631488]
def zCI (n a p c : Int) (C : Int → Int) (m : Bool) (st : List Int) : Prop := (0 ≤ a ∧ a ≤ c) ∧ c + znN st ≤ p ∧ (st.length : Int) ≤ p ∧ p ≤ n ∧ n ≤ 240 ∧ zsc a c C st ∧ zbt st ∧ (m = true → st ≠ [])
def zCX (f : Int → Int) (n a : Int) (Z : Int × Int × Int × (Int → Int)) (m : Bool) (p c : Int) (C : Int → Int) (st : List Int) : Prop := (∃ k : Nat, 2 * (n - p) + (st.length : Int) + 1 ≤ (k : Int) ∧ Z = zcg f n k m p c C st) ∧ zCI n a p c C m st
section CX
variable {f : Int → Int} {n a p c p1 p2 c1 c2 c3 v : Int} {C C1 C2 C3 : Int → Int} {Z : Int × Int × Int × (Int → Int)} {m : Bool} {st r : List Int}
theorem zCX.new (h : 0 ≤ c ∧ c + 1 ≤ p ∧ p ≤ n ∧ n ≤ 240) : zCX f n c (zC0 f n p c C) true p c C [13631488] :=
  ⟨⟨(2 * n + 2).toNat, by show 2 * (n - p) + 1 + 1 ≤ _; omega, rfl⟩, ⟨h.1, Int.le_refl _⟩, by show c + 0 ≤ p; omega, by show (1 : Int) ≤ p; omega, h.2.2.1, h.2.2.2, ⟨Or.inr (Or.inl rfl), trivial⟩, ⟨fun _ => rfl, trivial⟩, fun _ => List.cons_ne_nil _ _⟩
theorem zCX.pos (h : zCX f n a Z m p c C st) : ∃ k : Nat, 2 * (n - p) + (st.length : Int) ≤ (k : Int) ∧ Z = zcg f n (k + 1) m p c C st := by
  obtain ⟨⟨k, hk, e⟩, hi⟩ := h
  have hp := hi.2.2.2.1
  cases k with
  | zero => omega
  | succ k => exact ⟨k, by omega, e⟩
theorem zCX.b (h : zCX f n a Z m p c C st) : 0 ≤ a ∧ a ≤ c ∧ c + znN st ≤ p ∧ 0 ≤ znN st ∧ (st.length : Int) ≤ p ∧ p ≤ n ∧ n ≤ 240 :=
  ⟨h.2.1.1, h.2.1.2, h.2.2.1, znN_n st, h.2.2.2.1, h.2.2.2.2.1, h.2.2.2.2.2.1⟩
theorem zCX.sh (h : zCX f n a Z m p c C st) : zsc a c C st := h.2.2.2.2.2.2.1
theorem zCX.bt (h : zCX f n a Z m p c C st) : zbt st := h.2.2.2.2.2.2.2.1
theorem zCX.ne (h : zCX f n a Z true p c C st) : st ≠ [] := h.2.2.2.2.2.2.2.2 rfl
theorem zCX.five (h : zCX f n a Z true p c C st) (hc : zch f n p = 33 ∨ zch f n p = 40) (hq : 6 ≤ zqn st) : Z = (-5000 - p, p, c, C) := by
  obtain ⟨k, hk, e⟩ := h.pos
  exact e.trans ((if_pos hc).trans (if_pos hq))
theorem zCX.open_ (h : zCX f n a Z true p c C st) (hc : (zch f n p = 33 ∧ v = 10485760) ∨ (zch f n p = 40 ∧ v = 13631488)) (hq : zqn st < 6) (h2 : p2 = p + 1) : zCX f n a Z true p2 c C (v :: st) := by
  obtain ⟨k, hk, e⟩ := h.pos
  have b := h.b
  have hl := zch_lt (f := f) (n := n) (p := p) (by omega)
  subst h2
  have hv : (if zch f n p = 33 then (10485760 : Int) else 13631488) = v := by split <;> omega
  refine ⟨⟨k, ?_, e.trans ((if_pos (by omega)).trans ((if_neg (by omega)).trans (by rw [hv])))⟩, ⟨b.1, b.2.1⟩, ?_, ?_, by omega, b.2.2.2.2.2.2, ⟨by omega, h.sh⟩, ⟨fun q => absurd q h.ne, h.bt⟩, fun _ => List.cons_ne_nil _ _⟩
  · rw [List.length_cons]; omega
  · by_cases e : v < 11534336
    · rw [znN_y e]; omega
    · rw [znN_z (by omega)]; omega
  · rw [List.length_cons]; omega
theorem zCX.e1 (h : zCX f n a Z true p c C st) (hc : zch f n p ≠ 33 ∧ zch f n p ≠ 40) (h1 : (zE0 f n (zqn st) p c C).1 ≠ 0) : Z = zE0 f n (zqn st) p c C := by
  obtain ⟨k, hk, e⟩ := h.pos
  exact e.trans ((if_neg (by omega)).trans (if_pos h1))
theorem zCX.one (h : zCX f n a Z true p c C st) (hc : zch f n p ≠ 33 ∧ zch f n p ≠ 40) (h1 : zE0 f n (zqn st) p c C = (0, p1, c1, C1)) (h2 : zcp (zch f n p1) = -1) : Z = (-1000 - p1, p, c, C) := by
  obtain ⟨k, hk, e⟩ := h.pos
  unfold zcg at e
  rw [h1] at e
  exact e.trans ((if_neg (by omega)).trans ((if_neg (fun z => z rfl)).trans (if_pos h2)))
theorem zCX.e2 (h : zCX f n a Z true p c C st) (hc : zch f n p ≠ 33 ∧ zch f n p ≠ 40) (h1 : zE0 f n (zqn st) p c C = (0, p1, c1, C1)) (h2 : zcp (zch f n p1) ≠ -1) (h3 : (zE0 f n (zqn st) (p1 + 1) c1 C1).1 ≠ 0) : Z = zE0 f n (zqn st) (p1 + 1) c1 C1 := by
  obtain ⟨k, hk, e⟩ := h.pos
  unfold zcg at e
  rw [h1] at e
  exact e.trans ((if_neg (by omega)).trans ((if_neg (fun z => z rfl)).trans ((if_neg h2).trans (if_pos h3))))
theorem zCX.cmp (h : zCX f n a Z true p c C st) (hc : zch f n p ≠ 33 ∧ zch f n p ≠ 40) (h1 : zE0 f n (zqn st) p c C = (0, p1, c1, C1)) (h2 : zcp (zch f n p1) ≠ -1) (h3 : zE0 f n (zqn st) (p1 + 1) c1 C1 = (0, p2, c2, C2)) (hb : p + 1 ≤ p2 ∧ p2 ≤ n ∧ c ≤ c2 ∧ c2 + 1 + znN st ≤ p2) (ho : ∀ k, k < c → C2 k = C k) (h4 : c3 = c2 + 1) (hC : C3 = xud C2 c2 (1048576 * zcp (zch f n p1))) : zCX f n a Z false p2 c3 C3 st := by
  obtain ⟨k, hk, e⟩ := h.pos
  have b := h.b
  unfold zcg at e
  rw [h1] at e
  subst h4; subst hC
  refine ⟨⟨k, by omega, e.trans ((if_neg (by omega)).trans ((if_neg (fun z => z rfl)).trans ((if_neg h2).trans ?_)))⟩, ⟨b.1, by omega⟩, by omega, by omega, by omega, b.2.2.2.2.2.2, zsc_m (by omega) (fun k hk => by rw [xud_o C2 _ (by omega), ho k hk]) h.sh, h.bt, fun q => by cases q⟩
  show (if (zE0 f n (zqn st) (p1 + 1) c1 C1).1 ≠ 0 then _ else _) = _
  rw [h3]
  exact if_neg (fun z => z rfl)
theorem zCX.not (h : zCX f n a Z false p c C (v :: r)) (hv : v < 11534336) (hc : c2 = c + 1) (hC : C2 = xud C c 10485760) : zCX f n a Z false p c2 C2 r := by
  obtain ⟨k, hk, e⟩ := h.pos
  have b := h.b
  subst hc; subst hC
  have hn : znN (v :: r) = znN r + 1 := znN_y hv
  rw [List.length_cons] at hk b
  exact ⟨⟨k, by omega, e.trans (if_pos hv)⟩, ⟨b.1, by omega⟩, by omega, by omega, by omega, b.2.2.2.2.2.2, zsc_m (by omega) (fun k hk => by rw [xud_o C _ (by omega)]) h.sh.2, h.bt.2, fun q => by cases q⟩
theorem zCX.landA (h : zCX f n a Z false p c C (v :: r)) (hv : 11534336 ≤ v ∧ v < 12582912) (hC : C2 = zland C v c) : zCX f n a Z false p c C2 r := by
  obtain ⟨k, hk, e⟩ := h.pos
  have b := h.b
  subst hC
  have hn : znN (v :: r) = znN r := znN_z (by omega)
  rw [List.length_cons] at hk b
  exact ⟨⟨k, by omega, e.trans ((if_neg (by omega)).trans (if_pos hv.2))⟩, ⟨b.1, by omega⟩, by omega, by omega, by omega, b.2.2.2.2.2.2, zsc_m (Int.le_refl _) (fun k _ => zland_op C v (by omega) k) h.sh.2, h.bt.2, fun q => by cases q⟩
theorem zCX.landP (h : zCX f n a Z false p c C (v :: r)) (hv : 12582912 ≤ v ∧ v < 13631488) (hn : zch f n p ≠ 38) (hC : C2 = zland C v c) : zCX f n a Z false p c C2 r := by
  obtain ⟨k, hk, e⟩ := h.pos
  have b := h.b
  subst hC
  have hm : znN (v :: r) = znN r := znN_z (by omega)
  rw [List.length_cons] at hk b
  exact ⟨⟨k, by omega, e.trans ((if_neg (by omega)).trans ((if_neg (by omega)).trans ((if_neg hn).trans (if_pos hv.2))))⟩, ⟨b.1, by omega⟩, by omega, by omega, by omega, b.2.2.2.2.2.2, zsc_m (Int.le_refl _) (fun k _ => zland_op C v (by omega) k) h.sh.2, h.bt.2, fun q => by cases q⟩
theorem zCX.and_ (h : zCX f n a Z false p c C st) (ht : 12582912 ≤ ztp st) (hc : zch f n p = 38) (h2 : p2 = p + 1) (h3 : c2 = c + 1) (hv : v = 11534336 + c) (hC : C2 = xud C c 11534336) : zCX f n a Z true p2 c2 C2 (v :: st) := by
  obtain ⟨k, hk, e⟩ := h.pos
  have b := h.b
  have hl := zch_lt (f := f) (n := n) (p := p) (by omega)
  have hx := h.bt
  have hy := h.sh
  cases st with
  | nil => exact absurd ht (by decide)
  | cons v9 r9 =>
    have ht : 12582912 ≤ v9 := ht
    subst h2; subst h3; subst hC
    have hn : znN (v :: v9 :: r9) = znN (v9 :: r9) := znN_z (by omega)
    refine ⟨⟨k, ?_, ?_⟩, ⟨b.1, by omega⟩, by omega, ?_, by omega, b.2.2.2.2.2.2, ⟨Or.inr (Or.inr ⟨by omega, by omega, by omega, by omega, by rw [show v % 1048576 = c from by omega, xud_s]; omega, fun _ => by show 12582912 ≤ v9; omega, fun _ => by show 13631488 ≤ v9; omega⟩), zsc_m (by omega) (fun k hk => by rw [xud_o C _ (by omega)]) hy⟩, ⟨fun q => absurd q (List.cons_ne_nil _ _), hx⟩, fun _ => List.cons_ne_nil _ _⟩
    · rw [List.length_cons]; omega
    · subst hv
      exact e.trans ((if_neg (by omega)).trans ((if_neg (by omega)).trans (if_pos hc)))
    · rw [List.length_cons]; omega
theorem zCX.or_ (h : zCX f n a Z false p c C st) (ht : 13631488 ≤ ztp st) (hc : zch f n p = 124) (h2 : p2 = p + 1) (h3 : c2 = c + 1) (hv : v = 12582912 + c) (hC : C2 = xud C c 12582912) : zCX f n a Z true p2 c2 C2 (v :: st) := by
  obtain ⟨k, hk, e⟩ := h.pos
  have b := h.b
  have hl := zch_lt (f := f) (n := n) (p := p) (by omega)
  have hx := h.bt
  have hy := h.sh
  cases st with
  | nil => exact absurd ht (by decide)
  | cons v9 r9 =>
    have ht : 13631488 ≤ v9 := ht
    subst h2; subst h3; subst hC
    have hn : znN (v :: v9 :: r9) = znN (v9 :: r9) := znN_z (by omega)
    refine ⟨⟨k, ?_, ?_⟩, ⟨b.1, by omega⟩, by omega, ?_, by omega, b.2.2.2.2.2.2, ⟨Or.inr (Or.inr ⟨by omega, by omega, by omega, by omega, by rw [show v % 1048576 = c from by omega, xud_s]; omega, fun _ => by show 12582912 ≤ v9; omega, fun _ => by show 13631488 ≤ v9; omega⟩), zsc_m (by omega) (fun k hk => by rw [xud_o C _ (by omega)]) hy⟩, ⟨fun q => absurd q (List.cons_ne_nil _ _), hx⟩, fun _ => List.cons_ne_nil _ _⟩
    · rw [List.length_cons]; omega
    · subst hv
      exact e.trans ((if_neg (by omega)).trans ((if_neg (by omega)).trans ((if_neg (by omega)).trans ((if_neg (by omega)).trans (if_pos hc)))))
    · rw [List.length_cons]; omega
theorem zCX.shut (h : zCX f n a Z false p c C (v :: r)) (hv : 13631488 ≤ v) (hc : zch f n p = 41) (h2 : p2 = p + 1) : zCX f n a Z false p2 c C r := by
  obtain ⟨k, hk, e⟩ := h.pos
  have b := h.b
  have hl := zch_lt (f := f) (n := n) (p := p) (by omega)
  subst h2
  have hn : znN (v :: r) = znN r := znN_z (by omega)
  rw [List.length_cons] at hk b
  exact ⟨⟨k, by omega, e.trans ((if_neg (by omega)).trans ((if_neg (by omega)).trans ((if_neg (by omega)).trans ((if_neg (by omega)).trans ((if_neg (by omega)).trans (if_pos hc))))))⟩, ⟨b.1, b.2.1⟩, by omega, by omega, by omega, b.2.2.2.2.2.2, h.sh.2, h.bt.2, fun q => by cases q⟩
theorem zCX.fin (h : zCX f n a Z false p c C []) : Z = (0, p, c, C) := by
  obtain ⟨k, hk, e⟩ := h.pos
  exact e
end CX
theorem zCX.bad {f : Int → Int} {n a p : Int} {Z : Int × Int × Int × (Int → Int)} : ∀ (st : List Int) (c : Int) (C : Int → Int), zCX f n a Z false p c C st → st ≠ [] → zch f n p ≠ 38 → zch f n p ≠ 124 → zch f n p ≠ 41 → Z.1 = -1000 - p
  | [], _, _, _, h, _, _, _ => absurd rfl h
  | v :: r, c, C, h, ho, h1, h2, h3 => by
    have hb := h.bt.1
    by_cases a1 : v < 11534336
    · exact zCX.bad r _ _ (h.not a1 rfl rfl) (fun q => by have := hb q; omega) h1 h2 h3
    by_cases a2 : v < 12582912
    · exact zCX.bad r _ _ (h.landA ⟨by omega, a2⟩ rfl) (fun q => by have := hb q; omega) h1 h2 h3
    by_cases a3 : v < 13631488
    · exact zCX.bad r _ _ (h.landP ⟨by omega, a3⟩ h1 rfl) (fun q => by have := hb q; omega) h1 h2 h3
    obtain ⟨k, hk, e⟩ := h.pos
    have e2 : zcg f n (k + 1) false p c C (v :: r) = (-1000 - p, p, c, C) := (if_neg a1).trans ((if_neg a2).trans ((if_neg h1).trans ((if_neg a3).trans ((if_neg h2).trans (if_neg h3)))))
    rw [e, e2]
/-! ===== clauses ===== -/
def zkl (c : Int) : Int := if c = 97 ∨ c = 108 ∨ c = 99 ∨ c = 110 ∨ c = 118 ∨ c = 111 then 1 else 0
theorem zkl_cs (c : Int) : ((c = 97 ∨ c = 108 ∨ c = 99 ∨ c = 110 ∨ c = 118 ∨ c = 111) ∧ zkl c = 1) ∨ (¬ (c = 97 ∨ c = 108 ∨ c = 99 ∨ c = 110 ∨ c = 118 ∨ c = 111) ∧ zkl c = 0) := by
  unfold zkl
  split
  · rename_i h; exact Or.inl ⟨h, rfl⟩
  · rename_i h; exact Or.inr ⟨h, rfl⟩
def zc1 (f : Int → Int) (n p c : Int) (C : Int → Int) : Int × Int × Int × (Int → Int) := if zch f n p = 110 then (0, p + 1, c, C) else zE0 f n 0 (p + 1) c C
def zc2 (f : Int → Int) (n p c : Int) (C : Int → Int) : Int × Int × Int × (Int → Int) := if zch f n p ≠ 40 then (-1000 - p, p, c, C) else zC0 f n (p + 1) c C
abbrev zLT : Type := Int × Int × Int × (Int → Int) × (Int → Int) × (Int → Int) × (Int → Int) × (Int → Int)
def zLw (f : Int → Int) (n : Int) : Nat → Bool → Int → Int → Int → (Int → Int) → (Int → Int) → (Int → Int) → (Int → Int) → (Int → Int) → zLT
  | 0, _, M, _, c, C, L, A, B, T => (0, M, c, C, L, A, B, T)
  | k + 1, true, M, p, c, C, L, A, B, T =>
    if zkl (zch f n p) = 0 then (-1000 - p, M, c, C, L, A, B, T) else
    if 16 ≤ M then (-4000 - p, M, c, C, L, A, B, T) else
    if (zc1 f n p c C).1 ≠ 0 then ((zc1 f n p c C).1, M, c, C, L, A, B, T) else
    if (zc2 f n (zc1 f n p c C).2.1 (zc1 f n p c C).2.2.1 (zc1 f n p c C).2.2.2).1 ≠ 0 then ((zc2 f n (zc1 f n p c C).2.1 (zc1 f n p c C).2.2.1 (zc1 f n p c C).2.2.2).1, M, c, C, L, A, B, T) else
    zLw f n k false (M + 1) (zc2 f n (zc1 f n p c C).2.1 (zc1 f n p c C).2.2.1 (zc1 f n p c C).2.2.2).2.1 (zc2 f n (zc1 f n p c C).2.1 (zc1 f n p c C).2.2.1 (zc1 f n p c C).2.2.2).2.2.1 (zc2 f n (zc1 f n p c C).2.1 (zc1 f n p c C).2.2.1 (zc1 f n p c C).2.2.2).2.2.2
      (xud L M (zch f n p)) (xud A M c) (xud B M (zc1 f n p c C).2.2.1) (xud T M (zc2 f n (zc1 f n p c C).2.1 (zc1 f n p c C).2.2.1 (zc1 f n p c C).2.2.2).2.2.1)
  | k + 1, false, M, p, c, C, L, A, B, T => if p < n then (if zch f n p = 59 then zLw f n k true M (p + 1) c C L A B T else (-1000 - p, M, c, C, L, A, B, T)) else (0, M, c, C, L, A, B, T)
def zL0 (f : Int → Int) (n : Int) (C L A B T : Int → Int) : zLT := zLw f n (2 * n + 2).toNat true 0 0 0 C L A B T
def zLX (f : Int → Int) (n : Int) (Z : zLT) (m : Bool) (M p c : Int) (C L A B T : Int → Int) : Prop := (∃ k : Nat, 2 * (n - p) + (bif m then 1 else 2) ≤ (k : Int) ∧ Z = zLw f n k m M p c C L A B T) ∧ 0 ≤ c ∧ c ≤ p ∧ p ≤ n ∧ n ≤ 240 ∧ 0 ≤ M ∧ M ≤ 16
section LX
variable {f : Int → Int} {n M p c p1 p2 c1 c2 h1 M2 : Int} {C L A B T C1 C2 L2 A2 B2 T2 : Int → Int} {Z : zLT} {m : Bool}
theorem zLX.new (h : 0 ≤ n ∧ n ≤ 240) : zLX f n (zL0 f n C L A B T) true 0 0 0 C L A B T := ⟨⟨(2 * n + 2).toNat, by show 2 * (n - 0) + 1 ≤ _; omega, rfl⟩, by omega⟩
theorem zLX.b (h : zLX f n Z m M p c C L A B T) : 0 ≤ c ∧ c ≤ p ∧ p ≤ n ∧ n ≤ 240 ∧ 0 ≤ M ∧ M ≤ 16 := h.2
theorem zLX.pos (h : zLX f n Z true M p c C L A B T) : ∃ k : Nat, 2 * (n - p) ≤ (k : Int) ∧ Z = zLw f n (k + 1) true M p c C L A B T := by
  obtain ⟨⟨k, hk, e⟩, hi⟩ := h
  have hk : 2 * (n - p) + 1 ≤ (k : Int) := hk
  cases k with
  | zero => omega
  | succ k => exact ⟨k, by omega, e⟩
theorem zLX.posA (h : zLX f n Z false M p c C L A B T) : ∃ k : Nat, 2 * (n - p) + 1 ≤ (k : Int) ∧ Z = zLw f n (k + 1) false M p c C L A B T := by
  obtain ⟨⟨k, hk, e⟩, hi⟩ := h
  have hk : 2 * (n - p) + 2 ≤ (k : Int) := hk
  cases k with
  | zero => omega
  | succ k => exact ⟨k, by omega, e⟩
theorem zLX.one (h : zLX f n Z true M p c C L A B T) (hc : zkl (zch f n p) = 0) : Z.1 = -1000 - p := by
  obtain ⟨k, hk, e⟩ := h.pos
  rw [e]
  have e2 : zLw f n (k + 1) true M p c C L A B T = (-1000 - p, M, c, C, L, A, B, T) := if_pos hc
  rw [e2]
theorem zLX.four (h : zLX f n Z true M p c C L A B T) (hc : zkl (zch f n p) ≠ 0) (hM : 16 ≤ M) : Z.1 = -4000 - p := by
  obtain ⟨k, hk, e⟩ := h.pos
  rw [e]
  have e2 : zLw f n (k + 1) true M p c C L A B T = (-4000 - p, M, c, C, L, A, B, T) := (if_neg hc).trans (if_pos hM)
  rw [e2]
theorem zLX.e1 (h : zLX f n Z true M p c C L A B T) (hc : zkl (zch f n p) ≠ 0) (hM : M < 16) (h1 : (zc1 f n p c C).1 ≠ 0) : Z.1 = (zc1 f n p c C).1 := by
  obtain ⟨k, hk, e⟩ := h.pos
  rw [e]
  have e2 : zLw f n (k + 1) true M p c C L A B T = ((zc1 f n p c C).1, M, c, C, L, A, B, T) := (if_neg hc).trans ((if_neg (by omega)).trans (if_pos h1))
  rw [e2]
theorem zLX.e2 (h : zLX f n Z true M p c C L A B T) (hc : zkl (zch f n p) ≠ 0) (hM : M < 16) (e1 : zc1 f n p c C = (0, p1, c1, C1)) (h2 : (zc2 f n p1 c1 C1).1 ≠ 0) : Z.1 = (zc2 f n p1 c1 C1).1 := by
  obtain ⟨k, hk, e⟩ := h.pos
  unfold zLw at e
  rw [e1] at e
  have e2 := e.trans ((if_neg hc).trans ((if_neg (by omega)).trans ((if_neg (fun z => z rfl)).trans (if_pos h2))))
  rw [e2]
theorem zLX.clause (h : zLX f n Z true M p c C L A B T) (hc : zkl (zch f n p) ≠ 0) (hM : M < 16) (e1 : zc1 f n p c C = (0, p1, c1, C1)) (e2 : zc2 f n p1 c1 C1 = (0, p2, c2, C2)) (hb : p + 1 ≤ p2 ∧ p2 ≤ n ∧ 0 ≤ c2 ∧ c2 ≤ p2) (hM2 : M2 = M + 1)
    (hL : L2 = xud L M (zch f n p)) (hA : A2 = xud A M c) (hB : B2 = xud B M c1) (hT : T2 = xud T M c2) : zLX f n Z false M2 p2 c2 C2 L2 A2 B2 T2 := by
  obtain ⟨k, hk, e⟩ := h.pos
  have b := h.b
  subst hM2; subst hL; subst hA; subst hB; subst hT
  unfold zLw at e
  rw [e1] at e
  refine ⟨⟨k, by show 2 * (n - p2) + 2 ≤ _; omega, e.trans ((if_neg hc).trans ((if_neg (by omega)).trans ((if_neg (fun z => z rfl)).trans ?_)))⟩, by omega⟩
  show (if (zc2 f n p1 c1 C1).1 ≠ 0 then _ else _) = _
  rw [e2]
  exact if_neg (fun z => z rfl)
theorem zLX.semi (h : zLX f n Z false M p c C L A B T) (hc : zch f n p = 59) (h2 : p2 = p + 1) : zLX f n Z true M p2 c C L A B T := by
  obtain ⟨k, hk, e⟩ := h.posA
  have b := h.b
  have hl := zch_lt (f := f) (n := n) (p := p) (by omega)
  subst h2
  exact ⟨⟨k, by show 2 * (n - (p + 1)) + 1 ≤ _; omega, e.trans ((if_pos hl).trans (if_pos hc))⟩, by omega⟩
theorem zLX.bad (h : zLX f n Z false M p c C L A B T) (hp : p < n) (hc : zch f n p ≠ 59) : Z.1 = -1000 - p := by
  obtain ⟨k, hk, e⟩ := h.posA
  rw [e]
  have e2 : zLw f n (k + 1) false M p c C L A B T = (-1000 - p, M, c, C, L, A, B, T) := (if_pos hp).trans (if_neg hc)
  rw [e2]
theorem zLX.fin (h : zLX f n Z false M p c C L A B T) (hp : n ≤ p) : Z = (0, M, c, C, L, A, B, T) := by
  obtain ⟨k, hk, e⟩ := h.posA
  exact e.trans (if_neg (by omega))
end LX
