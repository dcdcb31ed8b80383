/-! ===== counting ===== -/
theorem zsu_le {f g : Int → Int} : ∀ {n : Nat}, (∀ i : Int, 0 ≤ i → i < (n : Int) → f i ≤ g i) → zsu f n ≤ zsu g n
  | 0, _ => Int.le_refl _
  | n + 1, h => by
    show zsu f n + f (n : Int) ≤ zsu g n + g (n : Int)
    have a := zsu_le (f := f) (g := g) (n := n) (fun i h1 h2 => h i h1 (by omega))
    have b := h (n : Int) (by omega) (by omega)
    omega
theorem zsu_one {f : Int → Int} {t : Int} {n : Nat} (h1 : 0 ≤ t) (h2 : t < (n : Int)) (h : ∀ i : Int, i ≠ t → f i = 0) : zsu f n = f t := by
  have z := zsu_1 (f := fun _ => 0) (g := f) (t := t) (n := n) h1 h2 (fun i hi => h i hi)
  rw [zsu_0] at z
  have z : zsu f n = 0 - 0 + f t := z
  omega
theorem zsu_sw (c : Int → Int → Int) (m : Nat) : ∀ n : Nat, zsu (fun f => zsu (fun g => c f g) m) n = zsu (fun g => zsu (fun f => c f g) n) m
  | 0 => by
    show (0 : Int) = zsu (fun _ => 0) m
    rw [zsu_0]
  | n + 1 => by
    show zsu (fun f => zsu (fun g => c f g) m) n + zsu (fun g => c (n : Int) g) m = zsu (fun g => zsu (fun f => c f g) n + c (n : Int) g) m
    rw [zsu_sw c m n, ← zsu_add]
/-- at most one of them is 1 -/
theorem zsu_u {f : Int → Int} {n : Nat} (h : ∀ i : Int, 0 ≤ i → i < (n : Int) → f i = 0 ∨ f i = 1) (hu : ∀ i k : Int, 0 ≤ i → i < (n : Int) → 0 ≤ k → k < (n : Int) → f i = 1 → f k = 1 → i = k) : zsu f n = 0 ∨ (zsu f n = 1 ∧ ∃ i : Int, 0 ≤ i ∧ i < (n : Int) ∧ f i = 1) := by
  by_cases c : ∃ t : Int, 0 ≤ t ∧ t < (n : Int) ∧ f t = 1
  · obtain ⟨t, t1, t2, t3⟩ := c
    have z := zsu_one (f := fun i => if i = t then f t else 0) (t := t) (n := n) t1 t2 (fun i hi => if_neg hi)
    have e : zsu f n = zsu (fun i => if i = t then f t else 0) n := zsu_c (fun i i1 i2 => by
      show f i = if i = t then f t else 0
      by_cases q : i = t
      · rw [if_pos q, q]
      · rw [if_neg q]
        exact (h i i1 i2).resolve_right (fun y => q (hu i t i1 i2 t1 t2 y t3)))
    refine Or.inr ⟨?_, t, t1, t2, t3⟩
    rw [e, z]
    show (if t = t then f t else 0) = 1
    rw [if_pos rfl, t3]
  · refine Or.inl ?_
    rw [zsu_c (g := fun _ => 0) (fun i i1 i2 => (h i i1 i2).resolve_right (fun y => c ⟨i, i1, i2, y⟩)), zsu_0]
/-- as many fit in as go in one by one -/
theorem zsu_pg {a b phi : Int → Int} {n : Nat} (ha : ∀ i : Int, 0 ≤ i → i < (n : Int) → a i = 0 ∨ a i = 1) (hb : ∀ i : Int, 0 ≤ i → i < (n : Int) → b i = 0 ∨ b i = 1) (hp : ∀ i : Int, 0 ≤ i → i < (n : Int) → a i = 1 → (0 ≤ phi i ∧ phi i < (n : Int)) ∧ b (phi i) = 1) (hi : ∀ i k : Int, 0 ≤ i → i < (n : Int) → 0 ≤ k → k < (n : Int) → a i = 1 → a k = 1 → phi i = phi k → i = k) : zsu a n ≤ zsu b n := by
  have e1 : zsu a n = zsu (fun f => zsu (fun g => if a f = 1 ∧ phi f = g then 1 else 0) n) n := zsu_c (fun f f1 f2 => by
    rcases ha f f1 f2 with q | q
    · rw [q, zsu_c (g := fun _ => 0) (fun g _ _ => if_neg (fun c => by have := c.1; omega)), zsu_0]
    · have r := (hp f f1 f2 q).1
      have z := zsu_one (f := fun g => if a f = 1 ∧ phi f = g then (1 : Int) else 0) (t := phi f) (n := n) r.1 r.2 (fun i hi => if_neg (fun c => hi c.2.symm))
      have z : zsu (fun g => if a f = 1 ∧ phi f = g then (1 : Int) else 0) n = if a f = 1 ∧ phi f = phi f then 1 else 0 := z
      rw [z, if_pos ⟨q, rfl⟩, q])
  rw [e1, zsu_sw (fun f g => if a f = 1 ∧ phi f = g then 1 else 0)]
  refine zsu_le (fun g g1 g2 => ?_)
  show zsu (fun f => if a f = 1 ∧ phi f = g then (1 : Int) else 0) n ≤ b g
  have u := zsu_u (f := fun f => if a f = 1 ∧ phi f = g then (1 : Int) else 0) (n := n) (fun i _ _ => by
    show (if a i = 1 ∧ phi i = g then (1 : Int) else 0) = 0 ∨ (if a i = 1 ∧ phi i = g then (1 : Int) else 0) = 1
    split
    · exact Or.inr rfl
    · exact Or.inl rfl) (fun i k i1 i2 k1 k2 q1 q2 => by
    have q1 : (if a i = 1 ∧ phi i = g then (1 : Int) else 0) = 1 := q1
    have q2 : (if a k = 1 ∧ phi k = g then (1 : Int) else 0) = 1 := q2
    have c1 : a i = 1 ∧ phi i = g := by
      by_cases c : a i = 1 ∧ phi i = g
      · exact c
      · rw [if_neg c] at q1; omega
    have c2 : a k = 1 ∧ phi k = g := by
      by_cases c : a k = 1 ∧ phi k = g
      · exact c
      · rw [if_neg c] at q2; omega
    exact hi i k i1 i2 k1 k2 c1.1 c2.1 (c1.2.trans c2.2.symm))
  have bg := hb g g1 g2
  rcases u with u | ⟨u, i, i1, i2, q1⟩
  · rw [u]; omega
  · have q1 : (if a i = 1 ∧ phi i = g then (1 : Int) else 0) = 1 := q1
    have c1 : a i = 1 ∧ phi i = g := by
      by_cases c : a i = 1 ∧ phi i = g
      · exact c
      · rw [if_neg c] at q1; omega
    have y := (hp i i1 i2 c1.1).2
    rw [c1.2] at y
    rw [u, y]
    exact Int.le_refl _
/-! ===== who stands where: p the place of each of ten, h the holder of each of a hundred ===== -/
def zMt (A : Int → Int → Prop) (p h : Int → Int) : Prop := (∀ f : Int, 0 ≤ f → f < 10 → p f ≠ -1 → (0 ≤ p f ∧ p f < 100) ∧ A f (p f) ∧ h (p f) = f) ∧ ∀ k : Int, 0 ≤ k → k < 100 → h k ≠ -1 → (0 ≤ h k ∧ h k < 10) ∧ p (h k) = k
/-- nobody of D finds a place that another one of D does not hold; F: who found none -/
def zCl (A : Int → Int → Prop) (p h : Int → Int) (D F : Int → Prop) : Prop := (∀ f : Int, 0 ≤ f → f < 10 → F f → D f ∧ p f = -1) ∧ (∀ f : Int, 0 ≤ f → f < 10 → D f → ¬ F f → p f ≠ -1) ∧ ∀ f k : Int, 0 ≤ f → f < 10 → 0 ≤ k → k < 100 → D f → A f k → h k ≠ -1 ∧ D (h k)
def zin (p : Int → Int) (f : Int) : Int := if p f ≠ -1 then 1 else 0
theorem zin_b (p : Int → Int) (f : Int) : zin p f = 0 ∨ zin p f = 1 := by
  unfold zin
  split
  · exact Or.inr rfl
  · exact Or.inl rfl
theorem zin_y {p : Int → Int} {f : Int} : zin p f = 1 ↔ p f ≠ -1 := by
  unfold zin
  by_cases c : p f ≠ -1
  · rw [if_pos c]; exact ⟨fun _ => c, fun _ => rfl⟩
  · rw [if_neg c]; exact ⟨fun q => absurd q (by decide), fun q => absurd q c⟩
/-- nobody does better -/
theorem zMt_max {A : Int → Int → Prop} {p h s mu : Int → Int} {D F : Int → Prop} (hm : zMt A p h) (hc : zCl A p h D F) (hF : ∀ f : Int, 0 ≤ f → f < 10 → (∃ k, A f k) → p f ≠ -1 ∨ F f) (hs : ∀ f : Int, 0 ≤ f → f < 10 → s f = 0 ∨ s f = 1) (hmu : ∀ f : Int, 0 ≤ f → f < 10 → s f = 1 → (0 ≤ mu f ∧ mu f < 100) ∧ A f (mu f)) (hi : ∀ f g : Int, 0 ≤ f → f < 10 → 0 ≤ g → g < 10 → s f = 1 → s g = 1 → mu f = mu g → f = g) : zsu s 10 ≤ zsu (zin p) 10 := by
  have dD : ∀ f : Int, Decidable (D f) := fun f => Classical.propDecidable _
  refine zsu_pg (phi := fun f => if D f then h (mu f) else f) hs (fun f _ _ => zin_b p f) (fun f f1 f2 q => ?_) (fun f g f1 f2 g1 g2 q1 q2 e => ?_)
  · have m := hmu f f1 f2 q
    show (0 ≤ (if D f then h (mu f) else f) ∧ (if D f then h (mu f) else f) < ((10 : Nat) : Int)) ∧ zin p (if D f then h (mu f) else f) = 1
    by_cases d : D f
    · rw [if_pos d]
      have z := hc.2.2 f (mu f) f1 f2 m.1.1 m.1.2 d m.2
      have y := hm.2 (mu f) m.1.1 m.1.2 z.1
      refine ⟨⟨y.1.1, by have := y.1.2; omega⟩, zin_y.mpr ?_⟩
      rw [y.2]
      omega
    · rw [if_neg d]
      refine ⟨⟨f1, f2⟩, zin_y.mpr ?_⟩
      rcases hF f f1 f2 ⟨_, m.2⟩ with w | w
      · exact w
      · exact absurd (hc.1 f f1 f2 w).1 d
  · have mf := hmu f f1 f2 q1
    have mg := hmu g g1 g2 q2
    have e : (if D f then h (mu f) else f) = (if D g then h (mu g) else g) := e
    by_cases d : D f
    · have zf := hc.2.2 f (mu f) f1 f2 mf.1.1 mf.1.2 d mf.2
      rw [if_pos d] at e
      by_cases d2 : D g
      · have zg := hc.2.2 g (mu g) g1 g2 mg.1.1 mg.1.2 d2 mg.2
        rw [if_pos d2] at e
        have yf := (hm.2 (mu f) mf.1.1 mf.1.2 zf.1).2
        have yg := (hm.2 (mu g) mg.1.1 mg.1.2 zg.1).2
        rw [e] at yf
        exact hi f g f1 f2 g1 g2 q1 q2 (yf.symm.trans yg)
      · rw [if_neg d2] at e
        rw [e] at zf
        exact absurd zf.2 d2
    · rw [if_neg d] at e
      by_cases d2 : D g
      · have zg := hc.2.2 g (mu g) g1 g2 mg.1.1 mg.1.2 d2 mg.2
        rw [if_pos d2] at e
        rw [← e] at zg
        exact absurd zg.2 d
      · rw [if_neg d2] at e
        exact e
/-! ===== handing on ===== -/
def zCd (A : Int → Int → Prop) (h : Int → Int) (D : Int → Prop) : Prop := ∀ f k : Int, 0 ≤ f → f < 10 → 0 ≤ k → k < 100 → D f → A f k → h k ≠ -1 ∧ D (h k)
theorem zCd_or {A : Int → Int → Prop} {h : Int → Int} {D E : Int → Prop} (a : zCd A h D) (b : zCd A h E) : zCd A h (fun f => D f ∨ E f) := fun f k f1 f2 k1 k2 d e => by
  rcases d with d | d
  · exact ⟨(a f k f1 f2 k1 k2 d e).1, Or.inl (a f k f1 f2 k1 k2 d e).2⟩
  · exact ⟨(b f k f1 f2 k1 k2 d e).1, Or.inr (b f k f1 f2 k1 k2 d e).2⟩
/-- q: who waits, w of them; rb: by whom each place is reached; fel: for whom a place is sought -/
def zHp (A : Int → Int → Prop) (p h q rb : Int → Int) (fel w : Int) : Prop := (zMt A p h) ∧ (1 ≤ w ∧ w ≤ 10) ∧ (∀ i : Int, 0 ≤ i → i < w → 0 ≤ q i ∧ q i < 10) ∧ (∀ i j : Int, 0 ≤ i → i < w → 0 ≤ j → j < w → q i = q j → i = j) ∧ (∀ i : Int, 0 ≤ i → i < w → (p (q i) = -1 ∧ q i = fel) ∨ (p (q i) ≠ -1 ∧ ∃ n : Int, (0 ≤ n ∧ n < i) ∧ rb (p (q i)) = q n)) ∧ (∀ k : Int, 0 ≤ k → k < 100 → rb k ≠ -1 → ∃ i : Int, (0 ≤ i ∧ i < w) ∧ rb k = q i ∧ A (q i) k)
theorem zHp.m {A : Int → Int → Prop} {p h q rb : Int → Int} {fel w : Int} (H : zHp A p h q rb fel w) : zMt A p h := H.1
theorem zHp.w10 {A : Int → Int → Prop} {p h q rb : Int → Int} {fel w : Int} (H : zHp A p h q rb fel w) : 1 ≤ w ∧ w ≤ 10 := H.2.1
theorem zHp.b {A : Int → Int → Prop} {p h q rb : Int → Int} {fel w : Int} (H : zHp A p h q rb fel w) : ∀ i : Int, 0 ≤ i → i < w → 0 ≤ q i ∧ q i < 10 := H.2.2.1
theorem zHp.j {A : Int → Int → Prop} {p h q rb : Int → Int} {fel w : Int} (H : zHp A p h q rb fel w) : ∀ i j : Int, 0 ≤ i → i < w → 0 ≤ j → j < w → q i = q j → i = j := H.2.2.2.1
theorem zHp.c {A : Int → Int → Prop} {p h q rb : Int → Int} {fel w : Int} (H : zHp A p h q rb fel w) : ∀ i : Int, 0 ≤ i → i < w → (p (q i) = -1 ∧ q i = fel) ∨ (p (q i) ≠ -1 ∧ ∃ n : Int, (0 ≤ n ∧ n < i) ∧ rb (p (q i)) = q n) := H.2.2.2.2.1
theorem zHp.r {A : Int → Int → Prop} {p h q rb : Int → Int} {fel w : Int} (H : zHp A p h q rb fel w) : ∀ k : Int, 0 ≤ k → k < 100 → rb k ≠ -1 → ∃ i : Int, (0 ≤ i ∧ i < w) ∧ rb k = q i ∧ A (q i) k := H.2.2.2.2.2
def zHi (A : Int → Int → Prop) (p h q rb : Int → Int) (fel w sp t : Int) (p2 h2 : Int → Int) : Prop := (∀ f : Int, 0 ≤ f → f < 10 → p2 f ≠ -1 → (0 ≤ p2 f ∧ p2 f < 100) ∧ A f (p2 f) ∧ h2 (p2 f) = f) ∧ (∀ k : Int, 0 ≤ k → k < 100 → k ≠ sp → h2 k ≠ -1 → (0 ≤ h2 k ∧ h2 k < 10) ∧ p2 (h2 k) = k) ∧ ((sp = -1 ∧ ∀ f : Int, 0 ≤ f → f < 10 → (p2 f ≠ -1 ↔ p f ≠ -1 ∨ f = fel)) ∨ ((0 ≤ sp ∧ sp < 100) ∧ (∀ f : Int, 0 ≤ f → f < 10 → p2 f ≠ sp) ∧ (∀ f : Int, 0 ≤ f → f < 10 → (p2 f ≠ -1 ↔ p f ≠ -1)) ∧ ∃ i : Int, (0 ≤ i ∧ i < w ∧ i ≤ 9 - t) ∧ rb sp = q i ∧ A (q i) sp ∧ ∀ n : Int, 0 ≤ n → n ≤ i → p2 (q n) = p (q n))) ∧ (∀ D : Int → Prop, zCd A h D → (∀ f : Int, 0 ≤ f → f < 10 → D f → p2 f = p f) ∧ (∀ k : Int, 0 ≤ k → k < 100 → h k ≠ -1 → D (h k) → h2 k = h k) ∧ (0 ≤ sp → h sp = -1 ∨ ¬ D (h sp)))
theorem zHi.a {A : Int → Int → Prop} {p h q rb : Int → Int} {fel w sp t : Int} {p2 h2 : Int → Int} (H : zHi A p h q rb fel w sp t p2 h2) : ∀ f : Int, 0 ≤ f → f < 10 → p2 f ≠ -1 → (0 ≤ p2 f ∧ p2 f < 100) ∧ A f (p2 f) ∧ h2 (p2 f) = f := H.1
theorem zHi.b {A : Int → Int → Prop} {p h q rb : Int → Int} {fel w sp t : Int} {p2 h2 : Int → Int} (H : zHi A p h q rb fel w sp t p2 h2) : ∀ k : Int, 0 ≤ k → k < 100 → k ≠ sp → h2 k ≠ -1 → (0 ≤ h2 k ∧ h2 k < 10) ∧ p2 (h2 k) = k := H.2.1
theorem zHi.c {A : Int → Int → Prop} {p h q rb : Int → Int} {fel w sp t : Int} {p2 h2 : Int → Int} (H : zHi A p h q rb fel w sp t p2 h2) : (sp = -1 ∧ ∀ f : Int, 0 ≤ f → f < 10 → (p2 f ≠ -1 ↔ p f ≠ -1 ∨ f = fel)) ∨ ((0 ≤ sp ∧ sp < 100) ∧ (∀ f : Int, 0 ≤ f → f < 10 → p2 f ≠ sp) ∧ (∀ f : Int, 0 ≤ f → f < 10 → (p2 f ≠ -1 ↔ p f ≠ -1)) ∧ ∃ i : Int, (0 ≤ i ∧ i < w ∧ i ≤ 9 - t) ∧ rb sp = q i ∧ A (q i) sp ∧ ∀ n : Int, 0 ≤ n → n ≤ i → p2 (q n) = p (q n)) := H.2.2.1
theorem zHi.d {A : Int → Int → Prop} {p h q rb : Int → Int} {fel w sp t : Int} {p2 h2 : Int → Int} (H : zHi A p h q rb fel w sp t p2 h2) : ∀ D : Int → Prop, zCd A h D → (∀ f : Int, 0 ≤ f → f < 10 → D f → p2 f = p f) ∧ (∀ k : Int, 0 ≤ k → k < 100 → h k ≠ -1 → D (h k) → h2 k = h k) ∧ (0 ≤ sp → h sp = -1 ∨ ¬ D (h sp)) := H.2.2.2
/-- one more has a place -/
def zHq (A : Int → Int → Prop) (p h : Int → Int) (fel : Int) (p2 h2 : Int → Int) : Prop := zMt A p2 h2 ∧ (∀ f : Int, 0 ≤ f → f < 10 → (p2 f ≠ -1 ↔ p f ≠ -1 ∨ f = fel)) ∧ ∀ D : Int → Prop, zCd A h D → zCd A h2 D ∧ ∀ f : Int, 0 ≤ f → f < 10 → D f → p2 f = p f
section HO
variable {A : Int → Int → Prop} {p h q rb p2 h2 : Int → Int} {fel w sp t k n : Int}
theorem zHi_0 (H : zHp A p h q rb fel w) (hk : 0 ≤ k ∧ k < 100) (h0 : h k = -1) (hr : rb k ≠ -1) : zHi A p h q rb fel w k 0 p h := by
  obtain ⟨i, i1, i2, i3⟩ := H.r k hk.1 hk.2 hr
  have w10 := H.w10
  refine ⟨H.m.1, fun k k1 k2 _ e => H.m.2 k k1 k2 e, Or.inr ⟨hk, fun f f1 f2 e => ?_, fun _ _ _ => Iff.rfl, i, ⟨i1.1, i1.2, by omega⟩, i2, i3, fun _ _ _ => rfl⟩, fun D _ => ⟨fun _ _ _ _ => rfl, fun _ _ _ _ _ => rfl, fun _ => Or.inl h0⟩⟩
  have z := (H.m.1 f f1 f2 (by omega)).2.2
  rw [e, h0] at z
  omega
theorem zHi_b (H : zHp A p h q rb fel w) (I : zHi A p h q rb fel w sp t p2 h2) (hs : 0 ≤ sp) : (0 ≤ rb sp ∧ rb sp < 10) ∧ sp < 100 ∧ t ≤ 9 := by
  rcases I.c with c | ⟨c, _, _, i, i1, i2, _⟩
  · omega
  · have z := H.b i i1.1 i1.2.1
    omega
theorem zHi_s (H : zHp A p h q rb fel w) (I : zHi A p h q rb fel w sp t p2 h2) (hs : 0 ≤ sp) : zHi A p h q rb fel w (p2 (rb sp)) (t + 1) (xud p2 (rb sp) sp) (xud h2 sp (rb sp)) := by
  rcases I.c with c | ⟨c, cf, cd, i, i1, i2, i3, i4⟩
  · exact absurd hs (by omega)
  obtain ⟨f, ef⟩ : ∃ f, f = rb sp := ⟨_, rfl⟩
  have fq : f = q i := ef.trans i2
  have fb := H.b i i1.1 i1.2.1
  rw [← fq] at fb i3
  rw [← ef]
  have pf : p2 f = p f := by rw [fq]; exact i4 i i1.1 (Int.le_refl _)
  obtain ⟨lf, el⟩ : ∃ lf, lf = p2 f := ⟨_, rfl⟩
  rw [← el]
  have ps : ∀ g : Int, g ≠ f → xud p2 f sp g = p2 g := fun g hg => xud_o _ _ hg
  have pS : xud p2 f sp f = sp := xud_s _ _ _
  have hS : xud h2 sp f sp = f := xud_s _ _ _
  have ho : ∀ k : Int, k ≠ sp → xud h2 sp f k = h2 k := fun k hk => xud_o _ _ hk
  refine ⟨fun g g1 g2 e => ?_, fun k k1 k2 k3 e => ?_, ?_, fun D hD => ?_⟩
  · by_cases hg : g = f
    · rw [hg, pS, hS]
      exact ⟨c, i3, rfl⟩
    · rw [ps g hg] at e ⊢
      rw [ho _ (cf g g1 g2)]
      exact I.a g g1 g2 e
  · by_cases hk : k = sp
    · rw [hk, hS, pS]
      exact ⟨fb, rfl⟩
    · rw [ho k hk] at e ⊢
      have z := I.b k k1 k2 hk e
      have n : h2 k ≠ f := fun y => by
        rw [y] at z
        omega
      rw [ps _ n]
      exact z
  · have cc := H.c i i1.1 i1.2.1
    rw [← fq, ← pf, ← el] at cc
    rcases cc with ⟨c1, c2⟩ | ⟨c1, m, m1, m2⟩
    · refine Or.inl ⟨c1, fun g g1 g2 => ?_⟩
      by_cases hg : g = f
      · rw [hg, pS]
        exact ⟨fun _ => Or.inr c2, fun _ => by omega⟩
      · rw [ps g hg]
        exact (cd g g1 g2).trans ⟨fun y => Or.inl y, fun y => y.resolve_right (fun z => hg (z.trans c2.symm))⟩
    · have lb := I.a f fb.1 fb.2 (by omega)
      rw [← el] at lb
      refine Or.inr ⟨lb.1, fun g g1 g2 e => ?_, fun g g1 g2 => ?_, m, ⟨m1.1, by omega, by omega⟩, m2, ?_, fun j j1 j2 => ?_⟩
      · by_cases hg : g = f
        · rw [hg, pS] at e
          exact cf f fb.1 fb.2 (by omega)
        · rw [ps g hg] at e
          have z := (I.a g g1 g2 (by omega)).2.2
          rw [e, lb.2.2] at z
          exact hg z.symm
      · by_cases hg : g = f
        · rw [hg, pS, ← pf, ← el]
          exact ⟨fun _ => c1, fun _ => by omega⟩
        · rw [ps g hg]
          exact cd g g1 g2
      · obtain ⟨a, a1, a2, a3⟩ := H.r lf lb.1.1 lb.1.2 (by have z := H.b m m1.1 (by omega); omega)
        rw [← a2, m2] at a3
        exact a3
      · have n : q j ≠ f := fun y => by
          have z := H.j j i j1 (by omega) i1.1 i1.2.1 (y.trans fq)
          omega
        rw [ps _ n]
        exact i4 j j1 (by omega)
  · have d := I.d D hD
    have nf : ¬ D f := fun y => by
      have z := hD f sp fb.1 fb.2 c.1 c.2 y i3
      rcases d.2.2 hs with u | u
      · exact z.1 u
      · exact u z.2
    refine ⟨fun g g1 g2 y => ?_, fun k k1 k2 e y => ?_, fun hl => ?_⟩
    · rw [ps g (fun e => nf (e ▸ y))]
      exact d.1 g g1 g2 y
    · have n : k ≠ sp := fun z => by
        rw [z] at e y
        rcases d.2.2 hs with u | u
        · exact e u
        · exact u y
      rw [ho k n]
      exact d.2.1 k k1 k2 e y
    · refine Or.inr ?_
      have z := (H.m.1 f fb.1 fb.2 (by omega)).2.2
      rw [← pf, ← el] at z
      rw [z]
      exact nf
theorem zHi_e (I : zHi A p h q rb fel w sp t p2 h2) (hs : sp < 0) : zHq A p h fel p2 h2 := by
  rcases I.c with ⟨c, cd⟩ | ⟨c, _⟩
  · refine ⟨⟨I.a, fun k k1 k2 e => I.b k k1 k2 (by omega) e⟩, cd, fun D hD => ⟨fun f k f1 f2 k1 k2 d e => ?_, (I.d D hD).1⟩⟩
    have z := hD f k f1 f2 k1 k2 d e
    have y := (I.d D hD).2.1 k k1 k2 z.1 z.2
    rw [y]
    exact z
  · omega
theorem zHi_x (I : zHi A p h q rb fel w sp t p2 h2) (hs : ¬ (0 ≤ sp ∧ sp < 100) ∨ 10 ≤ t) : sp < 0 := by
  rcases I.c with ⟨c, _⟩ | ⟨c, _, _, i, i1, _⟩ <;> omega
end HO
/-! ===== seeking ===== -/
def zBf (A : Int → Int → Prop) (p h q rb : Int → Int) (fel n w : Int) : Prop := (zHp A p h q rb fel w) ∧ (q 0 = fel) ∧ (∀ k : Int, 0 ≤ k → k < 100 → rb k ≠ -1 → h k ≠ -1 ∧ ∃ j : Int, (0 ≤ j ∧ j < w) ∧ q j = h k) ∧ (∀ i : Int, 0 ≤ i → i < n → i < w → ∀ k : Int, 0 ≤ k → k < 100 → A (q i) k → rb k ≠ -1)
theorem zBf.H {A : Int → Int → Prop} {p h q rb : Int → Int} {fel n w : Int} (H : zBf A p h q rb fel n w) : zHp A p h q rb fel w := H.1
theorem zBf.o {A : Int → Int → Prop} {p h q rb : Int → Int} {fel n w : Int} (H : zBf A p h q rb fel n w) : q 0 = fel := H.2.1
theorem zBf.k {A : Int → Int → Prop} {p h q rb : Int → Int} {fel n w : Int} (H : zBf A p h q rb fel n w) : ∀ k : Int, 0 ≤ k → k < 100 → rb k ≠ -1 → h k ≠ -1 ∧ ∃ j : Int, (0 ≤ j ∧ j < w) ∧ q j = h k := H.2.2.1
theorem zBf.x {A : Int → Int → Prop} {p h q rb : Int → Int} {fel n w : Int} (H : zBf A p h q rb fel n w) : ∀ i : Int, 0 ≤ i → i < n → i < w → ∀ k : Int, 0 ≤ k → k < 100 → A (q i) k → rb k ≠ -1 := H.2.2.2
theorem zten {q : Int → Int} {g : Int} (hb : ∀ i : Int, 0 ≤ i → i < 10 → 0 ≤ q i ∧ q i < 10) (hj : ∀ i j : Int, 0 ≤ i → i < 10 → 0 ≤ j → j < 10 → q i = q j → i = j) (hg : 0 ≤ g ∧ g < 10) : ∃ i : Int, (0 ≤ i ∧ i < 10) ∧ q i = g := by
  by_cases c : ∃ i : Int, (0 ≤ i ∧ i < 10) ∧ q i = g
  · exact c
  exfalso
  have e : zsu (fun _ => 1) 10 ≤ zsu (fun f => if f = g then 0 else 1) 10 := zsu_pg (phi := q) (fun _ _ _ => Or.inr rfl) (fun i _ _ => by
    show (if i = g then (0 : Int) else 1) = 0 ∨ (if i = g then (0 : Int) else 1) = 1
    split
    · exact Or.inl rfl
    · exact Or.inr rfl) (fun i i1 i2 _ => by
    have z := hb i i1 (by omega)
    refine ⟨⟨z.1, by omega⟩, ?_⟩
    show (if q i = g then (0 : Int) else 1) = 1
    rw [if_neg (fun y => c ⟨i, ⟨i1, by omega⟩, y⟩)]) (fun i k i1 i2 k1 k2 _ _ y => hj i k i1 (by omega) k1 (by omega) y)
  have a := zsu_1 (f := fun f => if f = g then 0 else 1) (g := fun _ => 1) (t := g) (n := 10) hg.1 (by omega) (fun i hi => by show (1 : Int) = if i = g then 0 else 1; rw [if_neg hi])
  have a : zsu (fun _ => 1) 10 = zsu (fun f => if f = g then 0 else 1) 10 - (if g = g then 0 else 1) + 1 := a
  rw [if_pos rfl] at a
  omega
section BF
variable {A : Int → Int → Prop} {p h q rb : Int → Int} {fel n w k : Int}
theorem zBf_0 (hm : zMt A p h) (hf : 0 ≤ fel ∧ fel < 10) (hp : p fel = -1) (hq : q 0 = fel) (hr : ∀ k : Int, 0 ≤ k → k < 100 → rb k = -1) : zBf A p h q rb fel 0 1 := by
  refine ⟨⟨hm, by omega, fun i i1 i2 => ?_, fun i j i1 i2 j1 j2 _ => by omega, fun i i1 i2 => ?_, fun k k1 k2 e => absurd (hr k k1 k2) e⟩, hq, fun k k1 k2 e => absurd (hr k k1 k2) e, fun i i1 i2 => absurd i1 (by omega)⟩
  · rw [show i = 0 from by omega, hq]
    exact hf
  · rw [show i = 0 from by omega, hq]
    exact Or.inl ⟨hp, rfl⟩
theorem zHp_r (B : zBf A p h q rb fel n w) (hn : 0 ≤ n ∧ n < w) (hk : 0 ≤ k ∧ k < 100) (ha : A (q n) k) (hr : rb k = -1) : zHp A p h q (xud rb k (q n)) fel w := by
  refine ⟨B.H.m, B.H.w10, B.H.b, B.H.j, fun i i1 i2 => ?_, fun m m1 m2 e => ?_⟩
  · rcases B.H.c i i1 i2 with c | ⟨c, y, y1, y2⟩
    · exact Or.inl c
    · refine Or.inr ⟨c, y, y1, ?_⟩
      have z := B.H.b y y1.1 (by omega)
      rw [xud_o _ _ (fun e => by rw [e, hr] at y2; omega)]
      exact y2
  · by_cases c : m = k
    · rw [c, xud_s]
      exact ⟨n, hn, rfl, ha⟩
    · rw [xud_o _ _ c] at e ⊢
      exact B.H.r m m1 m2 e
theorem zBf_n (B : zBf A p h q rb fel n w) (hn : 0 ≤ n ∧ n < w) (hk : 0 ≤ k ∧ k < 100) (hr : rb k = -1) (h1 : h k ≠ -1) : ∀ i : Int, 0 ≤ i → i < w → q i ≠ h k := fun i i1 i2 e => by
  have m := (B.H.m.2 k hk.1 hk.2 h1).2
  rcases B.H.c i i1 i2 with c | ⟨c, y, y1, y2⟩
  · rw [e, m] at c
    omega
  · rw [e, m, hr] at y2
    have z := B.H.b y y1.1 (by omega)
    omega
theorem zBf_w (B : zBf A p h q rb fel n w) (hn : 0 ≤ n ∧ n < w) (hk : 0 ≤ k ∧ k < 100) (hr : rb k = -1) (h1 : h k ≠ -1) : w < 10 := by
  by_cases c : w < 10
  · exact c
  exfalso
  have w10 := B.H.w10
  have e : w = 10 := by omega
  have b := (B.H.m.2 k hk.1 hk.2 h1).1
  obtain ⟨i, i1, i2⟩ := zten (q := q) (g := h k) (fun i i1 i2 => B.H.b i i1 (by omega)) (fun i j i1 i2 j1 j2 y => B.H.j i j i1 (by omega) j1 (by omega) y) b
  exact zBf_n B hn hk hr h1 i i1.1 (by omega) i2
theorem zBf_r (B : zBf A p h q rb fel n w) (hn : 0 ≤ n ∧ n < w) (hk : 0 ≤ k ∧ k < 100) (ha : A (q n) k) (hr : rb k = -1) (h1 : h k ≠ -1) : zBf A p h (xud q w (h k)) (xud rb k (q n)) fel n (w + 1) := by
  have R := zHp_r B hn hk ha hr
  have N := zBf_n B hn hk hr h1
  have W := zBf_w B hn hk hr h1
  have b := B.H.m.2 k hk.1 hk.2 h1
  have qo : ∀ i : Int, i < w → xud q w (h k) i = q i := fun i hi => xud_o _ _ (by omega)
  have qs : xud q w (h k) w = h k := xud_s _ _ _
  have w10 := B.H.w10
  refine ⟨⟨R.m, by omega, fun i i1 i2 => ?_, fun i j i1 i2 j1 j2 e => ?_, fun i i1 i2 => ?_, fun m m1 m2 e => ?_⟩, by rw [qo 0 (by omega)]; exact B.o, fun m m1 m2 e => ?_, fun i i1 i2 i3 m m1 m2 e => ?_⟩
  · by_cases c : i = w
    · rw [c, qs]; exact b.1
    · rw [qo i (by omega)]; exact R.b i i1 (by omega)
  · by_cases c : i = w
    · by_cases c2 : j = w
      · omega
      · rw [c, qs, qo j (by omega)] at e
        exact absurd e.symm (N j j1 (by omega))
    · by_cases c2 : j = w
      · rw [c2, qs, qo i (by omega)] at e
        exact absurd e (N i i1 (by omega))
      · rw [qo i (by omega), qo j (by omega)] at e
        exact R.j i j i1 (by omega) j1 (by omega) e
  · by_cases c : i = w
    · rw [c, qs, b.2, xud_s]
      exact Or.inr ⟨by omega, n, hn, (qo n hn.2).symm⟩
    · rw [qo i (by omega)]
      rcases R.c i i1 (by omega) with y | ⟨y, m, m1, m2⟩
      · exact Or.inl y
      · exact Or.inr ⟨y, m, m1, by rw [qo m (by omega)]; exact m2⟩
  · obtain ⟨i, i1, i2, i3⟩ := R.r m m1 m2 e
    exact ⟨i, ⟨i1.1, by omega⟩, by rw [qo i i1.2]; exact i2, by rw [qo i i1.2]; exact i3⟩
  · by_cases c : m = k
    · rw [c]
      exact ⟨h1, w, ⟨by omega, by omega⟩, qs⟩
    · rw [xud_o _ _ c] at e
      obtain ⟨z, j, j1, j2⟩ := B.k m m1 m2 e
      exact ⟨z, j, ⟨j1.1, by omega⟩, by rw [qo j j1.2]; exact j2⟩
  · rw [qo i (by omega)] at e
    have z := B.x i i1 i2 (by omega) m m1 m2 e
    by_cases c : m = k
    · rw [c, xud_s]
      have y := B.H.b n hn.1 hn.2
      omega
    · rw [xud_o _ _ c]
      exact z
theorem zBf_x (B : zBf A p h q rb fel n w) (hn : 0 ≤ n) (hx : ∀ k : Int, 0 ≤ k → k < 100 → A (q n) k → rb k ≠ -1) : zBf A p h q rb fel (n + 1) w := ⟨B.H, B.o, B.k, fun i i1 i2 i3 k k1 k2 e => by
  by_cases c : i = n
  · rw [c] at e
    exact hx k k1 k2 e
  · exact B.x i i1 (by omega) i3 k k1 k2 e⟩
theorem zBf_e (B : zBf A p h q rb fel n w) (hn : w ≤ n ∨ 10 ≤ n) : ∃ D : Int → Prop, zCd A h D ∧ D fel := by
  have w10 := B.H.w10
  refine ⟨fun f => ∃ i : Int, (0 ≤ i ∧ i < w) ∧ q i = f, fun f k f1 f2 k1 k2 d e => ?_, 0, ⟨by omega, by omega⟩, B.o⟩
  obtain ⟨i, i1, i2⟩ := d
  rw [← i2] at e
  exact B.k k k1 k2 (B.x i i1.1 (by omega) i1.2 k k1 k2 e)
end BF
/-! ===== one after another ===== -/
def zVm (A : Int → Int → Prop) (s mu : Int → Int) : Prop := (∀ f : Int, 0 ≤ f → f < 10 → s f = 0 ∨ s f = 1) ∧ (∀ f : Int, 0 ≤ f → f < 10 → s f = 1 → (0 ≤ mu f ∧ mu f < 100) ∧ A f (mu f)) ∧ ∀ f g : Int, 0 ≤ f → f < 10 → 0 ≤ g → g < 10 → s f = 1 → s g = 1 → mu f = mu g → f = g
/-- so many at most -/
def zIm (A : Int → Int → Prop) (r : Int) : Prop := (∃ s mu, zVm A s mu ∧ zsu s 10 = r) ∧ ∀ s mu, zVm A s mu → zsu s 10 ≤ r
theorem zIm_u {A B : Int → Int → Prop} {r t : Int} (h : ∀ f k : Int, 0 ≤ f → f < 10 → 0 ≤ k → k < 100 → (A f k ↔ B f k)) (a : zIm A r) (b : zIm B t) : r = t := by
  have m1 : ∀ s mu, zVm A s mu → zVm B s mu := fun s mu v => ⟨v.1, fun f f1 f2 y => by have z := v.2.1 f f1 f2 y; exact ⟨z.1, (h f _ f1 f2 z.1.1 z.1.2).mp z.2⟩, v.2.2⟩
  have m2 : ∀ s mu, zVm B s mu → zVm A s mu := fun s mu v => ⟨v.1, fun f f1 f2 y => by have z := v.2.1 f f1 f2 y; exact ⟨z.1, (h f _ f1 f2 z.1.1 z.1.2).mpr z.2⟩, v.2.2⟩
  obtain ⟨s, mu, v, e⟩ := a.1
  obtain ⟨s2, mu2, v2, e2⟩ := b.1
  have x := b.2 s mu (m1 s mu v)
  have y := a.2 s2 mu2 (m2 s2 mu2 v2)
  omega
def zMs (A : Int → Int → Prop) (S : Int → Prop) (p h : Int → Int) (c many : Int) : Prop := (zMt A p h) ∧ (∀ f : Int, c ≤ f → f < 10 → p f = -1) ∧ (many = zsu (zin p) 10) ∧ (∃ D : Int → Prop, zCd A h D ∧ ∀ f : Int, 0 ≤ f → f < c → S f → p f ≠ -1 ∨ D f)
theorem zMs.m {A : Int → Int → Prop} {S : Int → Prop} {p h : Int → Int} {c many : Int} (H : zMs A S p h c many) : zMt A p h := H.1
theorem zMs.o {A : Int → Int → Prop} {S : Int → Prop} {p h : Int → Int} {c many : Int} (H : zMs A S p h c many) : ∀ f : Int, c ≤ f → f < 10 → p f = -1 := H.2.1
theorem zMs.n {A : Int → Int → Prop} {S : Int → Prop} {p h : Int → Int} {c many : Int} (H : zMs A S p h c many) : many = zsu (zin p) 10 := H.2.2.1
theorem zMs.d {A : Int → Int → Prop} {S : Int → Prop} {p h : Int → Int} {c many : Int} (H : zMs A S p h c many) : ∃ D : Int → Prop, zCd A h D ∧ ∀ f : Int, 0 ≤ f → f < c → S f → p f ≠ -1 ∨ D f := H.2.2.2
section MS
variable {A : Int → Int → Prop} {S : Int → Prop} {p h p2 h2 : Int → Int} {c many : Int}
theorem zMs_0 (hp : ∀ f : Int, 0 ≤ f → f < 10 → p f = -1) (hh : ∀ k : Int, 0 ≤ k → k < 100 → h k = -1) : zMs A S p h 0 0 := by
  refine ⟨⟨fun f f1 f2 e => absurd (hp f f1 f2) e, fun k k1 k2 e => absurd (hh k k1 k2) e⟩, fun f f1 f2 => hp f f1 f2, ?_, fun _ => False, fun f k _ _ _ _ d => d.elim, fun f f1 f2 => absurd f1 (by omega)⟩
  rw [zsu_c (g := fun _ => 0) (fun f f1 f2 => by unfold zin; rw [if_neg (fun y => y (hp f f1 (by omega)))]), zsu_0]
theorem zMs_n (M : zMs A S p h c many) (h0 : ¬ S c) : zMs A S p h (c + 1) many := by
  obtain ⟨D, d1, d2⟩ := M.d
  refine ⟨M.m, fun f f1 f2 => M.o f (by omega) f2, M.n, D, d1, fun f f1 f2 y => ?_⟩
  by_cases e : f = c
  · exact absurd (e ▸ y) h0
  · exact d2 f f1 (by omega) y
theorem zMs_f (M : zMs A S p h c many) (h0 : ∃ D : Int → Prop, zCd A h D ∧ D c) : zMs A S p h (c + 1) many := by
  obtain ⟨D, d1, d2⟩ := M.d
  obtain ⟨E, e1, e2⟩ := h0
  refine ⟨M.m, fun f f1 f2 => M.o f (by omega) f2, M.n, _, zCd_or d1 e1, fun f f1 f2 y => ?_⟩
  by_cases e : f = c
  · exact Or.inr (Or.inr (e ▸ e2))
  · rcases d2 f f1 (by omega) y with z | z
    · exact Or.inl z
    · exact Or.inr (Or.inl z)
theorem zMs_y (M : zMs A S p h c many) (hc : 0 ≤ c ∧ c < 10) (h0 : zHq A p h c p2 h2) : zMs A S p2 h2 (c + 1) (many + 1) := by
  obtain ⟨D, d1, d2⟩ := M.d
  have dm := h0.2.1
  have z := h0.2.2 D d1
  refine ⟨h0.1, fun f f1 f2 => ?_, ?_, D, z.1, fun f f1 f2 y => ?_⟩
  · by_cases e : p2 f = -1
    · exact e
    · rcases (dm f (by omega) f2).mp e with y | y
      · exact absurd (M.o f (by omega) f2) y
      · omega
  · have a := zsu_1 (f := zin p) (g := xud (zin p) c 1) (t := c) (n := 10) hc.1 (by omega) (fun i hi => xud_o _ _ hi)
    rw [xud_s, show zin p c = 0 from by unfold zin; rw [if_neg (fun y => y (M.o c (Int.le_refl _) hc.2))]] at a
    rw [zsu_c (f := zin p2) (g := xud (zin p) c 1) (fun f f1 f2 => by
      by_cases e : f = c
      · rw [e, xud_s]
        exact zin_y.mpr ((dm c hc.1 hc.2).mpr (Or.inr rfl))
      · rw [xud_o _ _ e]
        have y := dm f f1 (by omega)
        unfold zin
        by_cases u : p f ≠ -1
        · rw [if_pos u, if_pos (y.mpr (Or.inl u))]
        · rw [if_neg u, if_neg (fun w => (y.mp w).elim u e)]), a, M.n]
    omega
  · by_cases e : f = c
    · exact Or.inl ((dm f f1 (by omega)).mpr (Or.inr e))
    · rcases d2 f f1 (by omega) y with u | u
      · exact Or.inl ((dm f f1 (by omega)).mpr (Or.inl u))
      · exact Or.inr u
theorem zMs_e (M : zMs A S p h c many) (hc : 10 ≤ c) (hS : ∀ f k : Int, 0 ≤ f → f < 10 → A f k → S f) : zIm A many := by
  obtain ⟨D, d1, d2⟩ := M.d
  refine ⟨⟨zin p, p, ⟨fun f _ _ => zin_b p f, fun f f1 f2 y => ?_, fun f g f1 f2 g1 g2 y1 y2 e => ?_⟩, M.n.symm⟩, fun s mu v => ?_⟩
  · have z := M.m.1 f f1 f2 (zin_y.mp y)
    exact ⟨z.1, z.2.1⟩
  · have a := (M.m.1 f f1 f2 (zin_y.mp y1)).2.2
    have b := (M.m.1 g g1 g2 (zin_y.mp y2)).2.2
    rw [e] at a
    exact a.symm.trans b
  · rw [M.n]
    exact zMt_max (D := D) (F := fun f => D f ∧ p f = -1) M.m ⟨fun f _ _ y => y, fun f _ _ y z e => z ⟨y, e⟩, d1⟩ (fun f f1 f2 ⟨k, y⟩ => by
      by_cases e : p f = -1
      · rcases d2 f f1 (by omega) (hS f k f1 f2 y) with u | u
        · exact absurd e u
        · exact Or.inr ⟨u, e⟩
      · exact Or.inl e) v.1 v.2.1 v.2.2
end MS
/-! ===== who may stand where ===== -/
def zAt (K : Int → Int) (q : zLaw) (L Y : Int → Int) (f k : Int) : Prop := zOw Y f ∧ L k ≠ 0 ∧ zsb K (Y (4 + f)) k ≤ zvF K q Y 118 3 f
theorem zsb_0 (K : Int → Int) (a b : Int) : 0 ≤ zsb K a b := by
  unfold zsb
  split
  · have z := zds_r K a 3 b
    omega
  · decide
theorem zIm_c {A B : Int → Int → Prop} {r : Int} (h : ∀ f k : Int, 0 ≤ f → f < 10 → 0 ≤ k → k < 100 → (A f k ↔ B f k)) (a : zIm A r) : zIm B r := by
  have m1 : ∀ s mu, zVm A s mu → zVm B s mu := fun s mu v => ⟨v.1, fun f f1 f2 y => by have z := v.2.1 f f1 f2 y; exact ⟨z.1, (h f _ f1 f2 z.1.1 z.1.2).mp z.2⟩, v.2.2⟩
  have m2 : ∀ s mu, zVm B s mu → zVm A s mu := fun s mu v => ⟨v.1, fun f f1 f2 y => by have z := v.2.1 f f1 f2 y; exact ⟨z.1, (h f _ f1 f2 z.1.1 z.1.2).mpr z.2⟩, v.2.2⟩
  obtain ⟨s, mu, v, e⟩ := a.1
  exact ⟨⟨s, mu, m1 s mu v, e⟩, fun s mu v => a.2 s mu (m2 s mu v)⟩
set_option maxHeartbeats 4000000 in
set_option maxRecDepth 100000 in
theorem c_X1_handOnP (l : Launch) (D : va_G) (g : xG) (T : Nat × Nat × Nat) (h0 : Nat) (s0 : xS) (hσ : xRR s0) (a : Int) (ra : xR a) (A9 : Int → Int → Prop) (x9 : Int) (w9 : Int) (hH : zHp A9 (s0 263) (s0 264) (s0 266) (s0 265) x9 w9) (ha : 0 ≤ a ∧ a < 100) (hz0 : s0 264 a = -1) (hr0 : s0 265 a ≠ -1) (p0 : IC s0) : Met l yX1_handOn (xws yX1_handOn cX1_handOn 6 none) { frames := 1, cells := 0, slots := 0, locals := 20 } (xP [.ref (h0 + 261), .int (xJ a)] D g T h0 s0) (xQv D g h0 (fun τ => xFr (fun k => k = 263 ∨ k = 264) s0 τ ∧ (((IC τ) ∧ True) ∧ (zHq A9 (s0 263) (s0 264) x9 (τ 263) (τ 264))))) 0 0 (xA h0) := by
  refine x_met hσ (by decide) (Nat.le_of_ble_eq_true rfl) ?_
  intro p e s m args below meth c hx hb hr hml hown hT hlk hnm hE hW ls hl
  have hl : lv_has ls 6 [(0, .ref (h0 + 261)), (1, .int (xJ a))] := hl
  obtain ⟨Q, eQ⟩ : ∃ Q, Q = MQ below (xQv D g h0 (fun τ => xFr (fun k => k = 263 ∨ k = 264) s0 τ ∧ (((IC τ) ∧ True) ∧ (zHq A9 (s0 263) (s0 264) x9 (τ 263) (τ 264))))) args s 0 0 (xA h0) := ⟨_, rfl⟩
  rw [← eQ]
  generalize hHe : ([] : List Loc) = locs at hW ⊢
  obtain ⟨H, eH⟩ : ∃ H, H = s.heap := ⟨_, rfl⟩
  rw [← eH] at hW ⊢
  have hF : xFr (fun k => k = 263 ∨ k = 264) s0 s0 := xFr.rf
  have k1_1 : s0 1 1 = s0 1 1 := rfl
  have kg265 : s0 265 = s0 265 := rfl
  have kg266 : s0 266 = s0 266 := rfl
  refine x_iload_n hx hb hl 1 rfl dX1_handOn_0 rfl ?_
  refine lv_istore_n (lv' := [(2, .int (xJ a)), (0, .ref (h0 + 261)), (1, .int (xJ a))]) hx hb dX1_handOn_1 rfl hl (by decide) rfl (fun ls hl => ?_)
  refine x_iconst hx hb dX1_handOn_2 ?_
  refine lv_istore_n (lv' := [(3, .int (xJ 0)), (2, .int (xJ a)), (0, .ref (h0 + 261)), (1, .int (xJ a))]) hx hb dX1_handOn_3 rfl hl (by decide) rfl (fun ls hl => ?_)
  have L4 : ∀ (fu : Nat) (i2_4 : Int) (i3_4 : Int) (s_4 : xS) (H : Heap) (locs : List Loc) (ls : Array Slot), (xR i2_4) → (xR i3_4) → (xFr (fun k => k = 263 ∨ k = 264) s0 s_4) → (IC s_4) → (s_4 1 1 = s0 1 1) → (s_4 265 = s0 265) → (s_4 266 = s0 266) → (0 ≤ i3_4 ∧ i3_4 ≤ 10) → (zHi A9 (s0 263) (s0 264) (s0 266) (s0 265) x9 w9 i2_4 i3_4 (s_4 263) (s_4 264)) → (10 - i3_4).toNat < fu → xW D g h0 s H locs s_4 → lv_has ls 6 [(0, .ref (h0 + 261)), (2, .int (xJ i2_4)), (3, .int (xJ i3_4))] → W p l e { frames := 1, cells := 0, slots := 0, locals := 20 } s m args below meth c H locs 0 0 Q (F0 m 4 ls []) := by
    intro fu
    induction fu with
    | zero => intro i2_4 i3_4 s_4 H locs ls ri2_4 ri3_4 hF_4 q4_0 q4_1 q4_2 q4_3 v4_0 v4_1 hm; exact absurd hm (Nat.not_lt_zero _)
    | succ fu ih4 =>
      intro i2_4 i3_4 s_4 H locs ls ri2_4 ri3_4 hF_4 q4_0 q4_1 q4_2 q4_3 v4_0 v4_1 hm hW hl
      have hm_4 := fun (_ : Unit) => hm
      clear hm
      refine x_iload_n hx hb hl 2 rfl dX1_handOn_4 rfl ?_
      refine x_bipush hx hb dX1_handOn_5 (by decide) ?_
      refine x_icmp_ge (tgt := 72) hx hb ri3_4 (by decide) dX1_handOn_7 (by decide) (fun c1 => ?_) (fun c1 => ?_)
      · skip
        rw [eQ]
        exact x_vret hx hb hr hlk hW ⟨hF_4, ⟨q4_0, trivial⟩, zHi_e v4_1 (zHi_x v4_1 (by omega))⟩ dX1_handOn_72
      refine x_iload_n hx hb hl 1 rfl dX1_handOn_10 rfl ?_
      refine x_goi (x_runSN (As := [.int (xJ i2_4)]) hx hb hml hown hT hE hW hl.1 cf_X6_isSpot wq831 wn970 (c_X6_isSpot l D g T h0 s_4 hW.2.1 i2_4 ri2_4) ⟨rfl, rfl, ⟨by decide, by decide⟩, ⟨by decide, by decide⟩⟩ rfl rfl (Nat.le_of_ble_eq_true rfl) dX1_handOn_11) hW (fun x2 s3 H locs rx2 hp4 hW => ?_)
      obtain ⟨es3, hp4⟩ := hp4
      subst es3
      have ghp4 := hp4
      refine x_if_eq (tgt := 72) hx hb rx2 dX1_handOn_14 (by decide) (fun c5 => ?_) (fun c5 => ?_)
      · skip
        rw [eQ]
        exact x_vret hx hb hr hlk hW ⟨hF_4, ⟨q4_0, trivial⟩, zHi_e v4_1 (zHi_x v4_1 (by omega))⟩ dX1_handOn_72
      refine x_aload_n hx hb hl 0 rfl dX1_handOn_17 rfl ?_
      refine x_get (j := 4) (v := .ref (h0 + 265)) hx hb hown hT hE hW cls_X1 (Or.inl (by decide)) (so_261 h0 g _) (by decide) rfl wq497 dX1_handOn_18 ?_
      refine x_iload_n hx hb hl 1 rfl dX1_handOn_21 rfl ?_
      refine x_iald hx hb hE hW (Or.inl (by decide)) (sa_265 h0 g _) (by omega) (by decide) dX1_handOn_22 ?_
      refine x_rd hW (fun x6 ex6 rx6 => ?_)
      refine lv_istore (lv' := [(4, .int (xJ x6)), (0, .ref (h0 + 261)), (2, .int (xJ i2_4)), (3, .int (xJ i3_4))]) hx hb dX1_handOn_23 hl (by decide) rfl (fun ls hl => ?_)
      have V23 : x6 = s0 265 i2_4 := ex6.trans (congrFun q4_2 _)
      have B23 := zHi_b hH v4_1 (by omega)
      rw [← V23] at B23
      refine x_iload hx hb hl 0 rfl dX1_handOn_25 ?_
      refine x_if_lt (tgt := 37) hx hb rx6 dX1_handOn_27 (by decide) (fun c7 => ?_) (fun c7 => ?_)
      · skip
        rw [eQ]
        exact x_vret hx hb hr hlk hW ⟨hF_4, ⟨q4_0, trivial⟩, by exfalso; omega⟩ dX1_handOn_37
      refine x_iload hx hb hl 0 rfl dX1_handOn_30 ?_
      refine x_bipush hx hb dX1_handOn_32 (by decide) ?_
      refine x_icmp_lt (tgt := 38) hx hb rx6 (by decide) dX1_handOn_34 (by decide) (fun c8 => ?_) (fun c8 => ?_)
      · skip
        refine x_aload_n hx hb hl 1 rfl dX1_handOn_38 rfl ?_
        refine x_get (j := 2) (v := .ref (h0 + 263)) hx hb hown hT hE hW cls_X1 (Or.inl (by decide)) (so_261 h0 g _) (by decide) rfl wq495 dX1_handOn_39 ?_
        refine x_iload hx hb hl 0 rfl dX1_handOn_42 ?_
        refine x_iald hx hb hE hW (Or.inl (by decide)) (sa_263 h0 g _) (by omega) (by decide) dX1_handOn_44 ?_
        refine x_rd hW (fun x10 ex10 rx10 => ?_)
        have V44 : x10 = s_4 263 x6 := ex10
        refine lv_istore (lv' := [(5, .int (xJ x10)), (4, .int (xJ x6)), (0, .ref (h0 + 261)), (2, .int (xJ i2_4)), (3, .int (xJ i3_4))]) hx hb dX1_handOn_45 hl (by decide) rfl (fun ls hl => ?_)
        refine x_aload_n hx hb hl 2 rfl dX1_handOn_47 rfl ?_
        refine x_get (j := 3) (v := .ref (h0 + 264)) hx hb hown hT hE hW cls_X1 (Or.inl (by decide)) (so_261 h0 g _) (by decide) rfl wq496 dX1_handOn_48 ?_
        refine x_iload_n hx hb hl 3 rfl dX1_handOn_51 rfl ?_
        refine x_iload hx hb hl 1 rfl dX1_handOn_52 ?_
        refine x_iast hx hb hE hW (by decide) (fun σ => sa_264 h0 g σ) (by omega) (by decide) rx6 dX1_handOn_54 (fun H locs s11 es11 hW => ?_)
        have q12 : IC s11 := by rw [es11]; exact IC_o (by decide) q4_0
        have q13 : s11 1 1 = s0 1 1 := (show s11 1 1 = s_4 1 1 from by rw [es11, xU_k _ _ _ (by first | decide | omega)]).trans q4_1
        have q14 : s11 265 = s0 265 := by rw [es11, xU_k _ _ _ (by first | decide | omega)]; exact q4_2
        have q15 : s11 266 = s0 266 := by rw [es11, xU_k _ _ _ (by first | decide | omega)]; exact q4_3
        have hF16 := hF_4.put es11 (by omega)
        have N54 : s11 264 = xud (s_4 264) i2_4 x6 := by rw [es11, xU_xud]
        have O54 : s11 263 = s_4 263 := by rw [es11, xU_k _ _ _ (by first | decide | omega)]
        have E54 := es11
        refine x_aload_n hx hb hl 2 rfl dX1_handOn_55 rfl ?_
        refine x_get (j := 2) (v := .ref (h0 + 263)) hx hb hown hT hE hW cls_X1 (Or.inl (by decide)) (so_261 h0 g _) (by decide) rfl wq495 dX1_handOn_56 ?_
        refine x_iload hx hb hl 1 rfl dX1_handOn_59 ?_
        refine x_iload_n hx hb hl 3 rfl dX1_handOn_61 rfl ?_
        refine x_iast hx hb hE hW (by decide) (fun σ => sa_263 h0 g σ) (by omega) (by decide) ri2_4 dX1_handOn_62 (fun H locs s17 es17 hW => ?_)
        have q18 : IC s17 := by rw [es17]; exact IC_o (by decide) q12
        have q19 : s17 1 1 = s0 1 1 := (show s17 1 1 = s11 1 1 from by rw [es17, xU_k _ _ _ (by first | decide | omega)]).trans q13
        have q20 : s17 265 = s0 265 := by rw [es17, xU_k _ _ _ (by first | decide | omega)]; exact q14
        have q21 : s17 266 = s0 266 := by rw [es17, xU_k _ _ _ (by first | decide | omega)]; exact q15
        have hF22 := hF16.put es17 (by omega)
        have N62 : s17 263 = xud (s_4 263) x6 i2_4 := by rw [es17, xU_xud, O54]
        have M62 : s17 264 = xud (s_4 264) i2_4 x6 := by rw [es17, xU_k _ _ _ (by first | decide | omega)]; exact N54
        refine x_iload hx hb hl 0 rfl dX1_handOn_63 ?_
        refine lv_istore_n (lv' := [(2, .int (xJ x10)), (5, .int (xJ x10)), (4, .int (xJ x6)), (0, .ref (h0 + 261)), (3, .int (xJ i3_4))]) hx hb dX1_handOn_65 rfl hl (by decide) rfl (fun ls hl => ?_)
        refine x_iinc (lv' := [(3, .int (xJ (i3_4 + 1))), (2, .int (xJ x10)), (5, .int (xJ x10)), (4, .int (xJ x6)), (0, .ref (h0 + 261))]) hx hb hl 4 rfl dX1_handOn_66 (by decide) rfl (fun ls hl => ?_)
        refine lv_goto (tgt := 4) hx hb dX1_handOn_69 (by decide) ?_
        exact ih4 x10 (i3_4 + 1) s17 H locs ls rx10 (by omega) hF22 q18 q19 q20 q21 (by omega) (by
            have z := zHi_s hH v4_1 (by omega)
            rw [← V23] at z
            rw [N62, M62, V44]
            exact z) (by have hm := hm_4 (); omega) hW (lv_sub hl [4, 1, 0] rfl)
      rw [eQ]
      exact x_vret hx hb hr hlk hW ⟨hF_4, ⟨q4_0, trivial⟩, by exfalso; omega⟩ dX1_handOn_37
  exact L4 ((10 - 0 : Int).toNat + 1) a 0 s0 H locs ls ra (by decide) hF p0 k1_1 kg265 kg266 (by omega) (zHi_0 hH ha hz0 hr0) (Nat.lt_succ_self _) hW (lv_sub hl [2, 1, 0] rfl)
set_option maxHeartbeats 4000000 in
set_option maxRecDepth 100000 in
theorem c_X1_canGoP (l : Launch) (D : va_G) (g : xG) (T : Nat × Nat × Nat) (h0 : Nat) (s0 : xS) (hσ : xRR s0) (d : Nat) (hd : xDay d) (f : Int) (rf : xR f) (a : Int) (ra : xR a) (K9 : Int → Int) (hK : ∀ t : Int, 0 ≤ t → t < 100 → s0 4 t = K9 t) (p0 : IC s0) (p1 : IQ s0) : Met l yX1_canGo (xws yX1_canGo cX1_canGo 4 (some .boolean)) { frames := 3, cells := 0, slots := 0, locals := 73 } (xP [.ref (h0 + 261), .ref (h0 + d), .int (xJ f), .int (xJ a)] D g T h0 s0) (xQi D g h0 (fun r τ => xFr (fun k => (7 ≤ k ∧ k < 107) ∨ k = 107) s0 τ ∧ (((IC τ) ∧ (IQ τ) ∧ True) ∧ ((r = 1 ∧ (0 ≤ f ∧ f < 10 ∧ s0 (d + 6) f ≠ -1 ∧ 0 ≤ a ∧ a < 100 ∧ zsb K9 (s0 (d + 6) f) a ≤ s0 262 f)) ∨ (r = 0 ∧ ¬ (0 ≤ f ∧ f < 10 ∧ s0 (d + 6) f ≠ -1 ∧ 0 ≤ a ∧ a < 100 ∧ zsb K9 (s0 (d + 6) f) a ≤ s0 262 f)))))) 0 0 (xA h0) := by
  refine x_met hσ (by decide) (Nat.le_of_ble_eq_true rfl) ?_
  intro p e s m args below meth c hx hb hr hml hown hT hlk hnm hE hW ls hl
  have hl : lv_has ls 4 [(0, .ref (h0 + 261)), (1, .ref (h0 + d)), (2, .int (xJ f)), (3, .int (xJ a))] := hl
  obtain ⟨Q, eQ⟩ : ∃ Q, Q = MQ below (xQi D g h0 (fun r τ => xFr (fun k => (7 ≤ k ∧ k < 107) ∨ k = 107) s0 τ ∧ (((IC τ) ∧ (IQ τ) ∧ True) ∧ ((r = 1 ∧ (0 ≤ f ∧ f < 10 ∧ s0 (d + 6) f ≠ -1 ∧ 0 ≤ a ∧ a < 100 ∧ zsb K9 (s0 (d + 6) f) a ≤ s0 262 f)) ∨ (r = 0 ∧ ¬ (0 ≤ f ∧ f < 10 ∧ s0 (d + 6) f ≠ -1 ∧ 0 ≤ a ∧ a < 100 ∧ zsb K9 (s0 (d + 6) f) a ≤ s0 262 f)))))) args s 0 0 (xA h0) := ⟨_, rfl⟩
  rw [← eQ]
  generalize hHe : ([] : List Loc) = locs at hW ⊢
  obtain ⟨H, eH⟩ : ∃ H, H = s.heap := ⟨_, rfl⟩
  rw [← eH] at hW ⊢
  have hF : xFr (fun k => (7 ≤ k ∧ k < 107) ∨ k = 107) s0 s0 := xFr.rf
  have hbd : (136 ≤ d ∧ d < 209) ∧ (d ≤ 146 ∨ 158 ≤ d) := by unfold xDay at hd; omega
  have k1_1 : s0 1 1 = s0 1 1 := rfl
  refine x_aload_n hx hb hl 1 rfl dX1_canGo_0 rfl ?_
  refine x_iload_n hx hb hl 2 rfl dX1_canGo_1 rfl ?_
  refine x_goi (x_runVN (As := [.int (xJ f)]) hx hb hml hown hT hE hW hl.1 (Or.inl (by omega)) (so_day0 h0 g hd _) rfl cf_X2_hasFelon wq862 wq53 wn969 (c_X2_hasFelonF l D g T h0 s0 hW.2.1 d hd f rf p0) ⟨rfl, rfl, ⟨by decide, by decide⟩, ⟨by decide, by decide⟩⟩ rfl rfl (Nat.le_of_ble_eq_true rfl) dX1_canGo_2) hW (fun x1 s2 H locs rx1 hp3 hW => ?_)
  obtain ⟨es2, hp3⟩ := hp3
  subst es2
  have ghp3 := hp3
  have H2 := ghp3
  refine x_if_eq (tgt := 45) hx hb rx1 dX1_canGo_5 (by decide) (fun c4 => ?_) (fun c4 => ?_)
  · skip
    refine x_iconst hx hb dX1_canGo_45 ?_
    rw [eQ]
    exact x_zret hx hb hr hlk hW (by omega) ⟨hF, ⟨p0, p1, trivial⟩, by omega⟩ dX1_canGo_46
  refine x_iload_n hx hb hl 3 rfl dX1_canGo_8 rfl ?_
  refine x_goi (x_runSN (As := [.int (xJ a)]) hx hb hml hown hT hE hW hl.1 cf_X6_isSpot wq831 wn970 (c_X6_isSpot l D g T h0 s0 hW.2.1 a ra) ⟨rfl, rfl, ⟨by decide, by decide⟩, ⟨by decide, by decide⟩⟩ rfl rfl (Nat.le_of_ble_eq_true rfl) dX1_canGo_9) hW (fun x5 s6 H locs rx5 hp7 hW => ?_)
  obtain ⟨es6, hp7⟩ := hp7
  subst es6
  have ghp7 := hp7
  refine x_if_eq (tgt := 45) hx hb rx5 dX1_canGo_12 (by decide) (fun c8 => ?_) (fun c8 => ?_)
  · skip
    refine x_iconst hx hb dX1_canGo_45 ?_
    rw [eQ]
    exact x_zret hx hb hr hlk hW (by omega) ⟨hF, ⟨p0, p1, trivial⟩, by omega⟩ dX1_canGo_46
  refine x_aload_n hx hb hl 0 rfl dX1_canGo_15 rfl ?_
  refine x_get (j := 0) (v := .ref (h0 + 128)) hx hb hown hT hE hW cls_X1 (Or.inl (by decide)) (so_261 h0 g _) (by decide) rfl wq493 dX1_canGo_16 ?_
  refine x_getN (j := 0) (v := .ref (h0 + 3)) hx hb hown hT hE hW cls_X0 (Or.inl (by decide)) (so_128 h0 g _) (by decide) rfl wn352 dX1_canGo_19 ?_
  refine x_aload_n hx hb hl 1 rfl dX1_canGo_22 rfl ?_
  refine x_getN (j := 3) (v := .ref (h0 + (d + 6))) hx hb hown hT hE hW cls_X2 (Or.inl (by omega)) (so_day0 h0 g hd _) (by decide) rfl wn389 dX1_canGo_23 ?_
  refine x_iload_n hx hb hl 2 rfl dX1_canGo_26 rfl ?_
  refine x_iald hx hb hE hW (Or.inl (by omega)) (sa_day6 h0 g hd _) (by omega) (by decide) dX1_canGo_27 ?_
  refine x_rd hW (fun x9 ex9 rx9 => ?_)
  have V27 : x9 = s0 (d + 6) f := ex9
  refine x_iload_n hx hb hl 3 rfl dX1_canGo_28 rfl ?_
  refine x_goi (x_runVN (As := [.int (xJ x9), .int (xJ a)]) hx hb hml hown hT hE hW hl.1 (Or.inl (by decide)) (so_3 h0 g _) rfl cf_X6_stepsBetween wq888 wq59 wn971 (c_X6_stepsBetweenF l D g T h0 s0 hW.2.1 x9 rx9 a ra p0 p1) ⟨rfl, rfl, ⟨by decide, by decide⟩, ⟨by decide, by decide⟩⟩ rfl rfl (Nat.le_of_ble_eq_true rfl) dX1_canGo_29) hW (fun x10 s11 H locs rx10 hp12 hW => ?_)
  obtain ⟨fs11, hp12⟩ := hp12
  have hF13 := hF.call fs11 (fun k h => by omega)
  have q14 : s11 1 1 = s0 1 1 := (congrFun (fs11 _ (by omega)) _).trans k1_1
  have ghp12 := hp12.2
  have H29 : x10 = zsb K9 (s0 (d + 6) f) a := by
    have e := ghp12
    rw [V27] at e
    exact e.trans (zsb_f (fun t t1 t2 => hK t t1 t2))
  refine x_aload_n hx hb hl 0 rfl dX1_canGo_32 rfl ?_
  refine x_get (j := 1) (v := .ref (h0 + 262)) hx hb hown hT hE hW cls_X1 (Or.inl (by decide)) (so_261 h0 g _) (by decide) rfl wq494 dX1_canGo_33 ?_
  refine x_iload_n hx hb hl 2 rfl dX1_canGo_36 rfl ?_
  refine x_iald hx hb hE hW (Or.inl (by decide)) (sa_262 h0 g _) (by omega) (by decide) dX1_canGo_37 ?_
  refine x_rd hW (fun x15 ex15 rx15 => ?_)
  have V37 : x15 = s0 262 f := by rw [ex15, hF13 262 (by first | decide | omega)]
  refine x_icmp_gt (tgt := 45) hx hb rx10 rx15 dX1_canGo_38 (by decide) (fun c16 => ?_) (fun c16 => ?_)
  · skip
    refine x_iconst hx hb dX1_canGo_45 ?_
    rw [eQ]
    exact x_zret hx hb hr hlk hW (by omega) ⟨hF13, ⟨hp12.1.1, hp12.1.2.1, trivial⟩, by omega⟩ dX1_canGo_46
  refine x_iconst hx hb dX1_canGo_41 ?_
  refine lv_goto (tgt := 46) hx hb dX1_canGo_42 (by decide) ?_
  rw [eQ]
  exact x_zret hx hb hr hlk hW (by omega) ⟨hF13, ⟨hp12.1.1, hp12.1.2.1, trivial⟩, by omega⟩ dX1_canGo_46
set_option maxHeartbeats 4000000 in
set_option maxRecDepth 100000 in
theorem c_X1_findsPlaceP (l : Launch) (D : va_G) (g : xG) (T : Nat × Nat × Nat) (h0 : Nat) (s0 : xS) (hσ : xRR s0) (d : Nat) (hd : xDay d) (f : Int) (rf : xR f) (K9 : Int → Int) (A9 : Int → Int → Prop) (hK : ∀ t : Int, 0 ≤ t → t < 100 → s0 4 t = K9 t) (hA : ∀ f k : Int, 0 ≤ f → f < 10 → 0 ≤ k → k < 100 → (A9 f k ↔ (s0 131 k ≠ 0 ∧ s0 (d + 6) f ≠ -1 ∧ zsb K9 (s0 (d + 6) f) k ≤ s0 262 f))) (hM : zMt A9 (s0 263) (s0 264)) (hf : 0 ≤ f ∧ f < 10) (hz0 : s0 263 f = -1) (p0 : IC s0) (p1 : IS s0) (p2 : IQ s0) : Met l yX1_findsPlace (xws yX1_findsPlace cX1_findsPlace 8 (some .boolean)) { frames := 4, cells := 0, slots := 0, locals := 96 } (xP [.ref (h0 + 261), .ref (h0 + d), .int (xJ f)] D g T h0 s0) (xQi D g h0 (fun r τ => xFr (fun k => (7 ≤ k ∧ k < 107) ∨ k = 107 ∨ k = 263 ∨ k = 264 ∨ k = 265 ∨ k = 266) s0 τ ∧ (((IC τ) ∧ (IS τ) ∧ (IQ τ) ∧ True) ∧ ((r = 1 ∧ zHq A9 (s0 263) (s0 264) f (τ 263) (τ 264)) ∨ (r = 0 ∧ τ 263 = s0 263 ∧ τ 264 = s0 264 ∧ ∃ D : Int → Prop, zCd A9 (s0 264) D ∧ D f))))) 0 0 (xA h0) := by
  refine x_met hσ (by decide) (Nat.le_of_ble_eq_true rfl) ?_
  intro p e s m args below meth c hx hb hr hml hown hT hlk hnm hE hW ls hl
  have hl : lv_has ls 8 [(0, .ref (h0 + 261)), (1, .ref (h0 + d)), (2, .int (xJ f))] := hl
  obtain ⟨Q, eQ⟩ : ∃ Q, Q = MQ below (xQi D g h0 (fun r τ => xFr (fun k => (7 ≤ k ∧ k < 107) ∨ k = 107 ∨ k = 263 ∨ k = 264 ∨ k = 265 ∨ k = 266) s0 τ ∧ (((IC τ) ∧ (IS τ) ∧ (IQ τ) ∧ True) ∧ ((r = 1 ∧ zHq A9 (s0 263) (s0 264) f (τ 263) (τ 264)) ∨ (r = 0 ∧ τ 263 = s0 263 ∧ τ 264 = s0 264 ∧ ∃ D : Int → Prop, zCd A9 (s0 264) D ∧ D f))))) args s 0 0 (xA h0) := ⟨_, rfl⟩
  rw [← eQ]
  generalize hHe : ([] : List Loc) = locs at hW ⊢
  obtain ⟨H, eH⟩ : ∃ H, H = s.heap := ⟨_, rfl⟩
  rw [← eH] at hW ⊢
  have hF : xFr (fun k => (7 ≤ k ∧ k < 107) ∨ k = 107 ∨ k = 263 ∨ k = 264 ∨ k = 265 ∨ k = 266) s0 s0 := xFr.rf
  have hbd : (136 ≤ d ∧ d < 209) ∧ (d ≤ 146 ∨ 158 ≤ d) := by unfold xDay at hd; omega
  have k1_1 : s0 1 1 = s0 1 1 := rfl
  have k130_3 : s0 130 3 = s0 130 3 := rfl
  have kg263 : s0 263 = s0 263 := rfl
  have kg264 : s0 264 = s0 264 := rfl
  refine x_iconst hx hb dX1_findsPlace_0 ?_
  refine lv_istore_n (lv' := [(3, .int (xJ 0)), (0, .ref (h0 + 261)), (1, .ref (h0 + d)), (2, .int (xJ f))]) hx hb dX1_findsPlace_1 rfl hl (by decide) rfl (fun ls hl => ?_)
  have L2 : ∀ (fu : Nat) (i3_2 : Int) (s_2 : xS) (H : Heap) (locs : List Loc) (ls : Array Slot), (xR i3_2) → (xFr (fun k => (7 ≤ k ∧ k < 107) ∨ k = 107 ∨ k = 263 ∨ k = 264 ∨ k = 265 ∨ k = 266) s0 s_2) → (IC s_2) → (IS s_2) → (IQ s_2) → (s_2 1 1 = s0 1 1) → (s_2 130 3 = s0 130 3) → (s_2 263 = s0 263) → (s_2 264 = s0 264) → (0 ≤ i3_2) → (∀ k : Int, 0 ≤ k → k < i3_2 → s_2 265 k = -1) → (101 - i3_2).toNat < fu → xW D g h0 s H locs s_2 → lv_has ls 8 [(0, .ref (h0 + 261)), (1, .ref (h0 + d)), (2, .int (xJ f)), (3, .int (xJ i3_2))] → W p l e { frames := 4, cells := 0, slots := 0, locals := 96 } s m args below meth c H locs 0 0 Q (F0 m 2 ls []) := by
    intro fu
    induction fu with
    | zero => intro i3_2 s_2 H locs ls ri3_2 hF_2 q2_0 q2_1 q2_2 q2_3 q2_4 q2_5 q2_6 v2_0 v2_1 hm; exact absurd hm (Nat.not_lt_zero _)
    | succ fu ih2 =>
      intro i3_2 s_2 H locs ls ri3_2 hF_2 q2_0 q2_1 q2_2 q2_3 q2_4 q2_5 q2_6 v2_0 v2_1 hm hW hl
      have hm_2 := fun (_ : Unit) => hm
      clear hm
      refine x_iload_n hx hb hl 3 rfl dX1_findsPlace_2 rfl ?_
      refine x_bipush hx hb dX1_findsPlace_3 (by decide) ?_
      refine x_icmp_ge (tgt := 21) hx hb ri3_2 (by decide) dX1_findsPlace_5 (by decide) (fun c1 => ?_) (fun c1 => ?_)
      · skip
        refine x_aload_n hx hb hl 0 rfl dX1_findsPlace_21 rfl ?_
        refine x_get (j := 5) (v := .ref (h0 + 266)) hx hb hown hT hE hW cls_X1 (Or.inl (by decide)) (so_261 h0 g _) (by decide) rfl wq498 dX1_findsPlace_22 ?_
        refine x_iconst hx hb dX1_findsPlace_25 ?_
        refine x_iload_n hx hb hl 2 rfl dX1_findsPlace_26 rfl ?_
        refine x_iast hx hb hE hW (by decide) (fun σ => sa_266 h0 g σ) ⟨by decide, by decide⟩ (by decide) rf dX1_findsPlace_27 (fun H locs s2 es2 hW => ?_)
        have q3 : IC s2 := by rw [es2]; exact IC_o (by decide) q2_0
        have q4 : IS s2 := by rw [es2]; exact IS_o (by unfold suIS; first | decide | omega) q2_1
        have q5 : IQ s2 := by rw [es2]; exact IQ_o (by unfold suIQ; first | decide | omega) q2_2
        have q6 : s2 1 1 = s0 1 1 := (show s2 1 1 = s_2 1 1 from by rw [es2, xU_k _ _ _ (by first | decide | omega)]).trans q2_3
        have q7 : s2 130 3 = s0 130 3 := (show s2 130 3 = s_2 130 3 from by rw [es2, xU_k _ _ _ (by first | decide | omega)]).trans q2_4
        have q8 : s2 263 = s0 263 := by rw [es2, xU_k _ _ _ (by first | decide | omega)]; exact q2_5
        have q9 : s2 264 = s0 264 := by rw [es2, xU_k _ _ _ (by first | decide | omega)]; exact q2_6
        have hF10 := hF_2.put es2 (by omega)
        have Q27 : s2 266 0 = f := by rw [es2, xU_s]
        have R27 : ∀ k : Int, 0 ≤ k → k < 100 → s2 265 k = -1 := fun k k1 k2 => by rw [es2, xU_k _ _ _ (by first | decide | omega)]; exact v2_1 k k1 (by omega)
        refine x_iconst hx hb dX1_findsPlace_28 ?_
        refine lv_istore_n (lv' := [(3, .int (xJ 1)), (0, .ref (h0 + 261)), (1, .ref (h0 + d)), (2, .int (xJ f))]) hx hb dX1_findsPlace_29 rfl hl (by decide) rfl (fun ls hl => ?_)
        refine x_iconst hx hb dX1_findsPlace_30 ?_
        refine lv_istore (lv' := [(4, .int (xJ 0)), (3, .int (xJ 1)), (0, .ref (h0 + 261)), (1, .ref (h0 + d)), (2, .int (xJ f))]) hx hb dX1_findsPlace_31 hl (by decide) rfl (fun ls hl => ?_)
        have L33 : ∀ (fu : Nat) (i3_33 : Int) (i4_33 : Int) (s_33 : xS) (H : Heap) (locs : List Loc) (ls : Array Slot), (xR i3_33) → (xR i4_33) → (xFr (fun k => (7 ≤ k ∧ k < 107) ∨ k = 107 ∨ k = 263 ∨ k = 264 ∨ k = 265 ∨ k = 266) s0 s_33) → (IC s_33) → (IS s_33) → (IQ s_33) → (s_33 1 1 = s0 1 1) → (s_33 130 3 = s0 130 3) → (s_33 263 = s0 263) → (s_33 264 = s0 264) → (0 ≤ i4_33 ∧ i4_33 ≤ 10) → (0 ≤ i3_33) → (zBf A9 (s0 263) (s0 264) (s_33 266) (s_33 265) f i4_33 i3_33) → (11 - i4_33).toNat < fu → xW D g h0 s H locs s_33 → lv_has ls 8 [(0, .ref (h0 + 261)), (1, .ref (h0 + d)), (3, .int (xJ i3_33)), (4, .int (xJ i4_33))] → W p l e { frames := 4, cells := 0, slots := 0, locals := 96 } s m args below meth c H locs 0 0 Q (F0 m 33 ls []) := by
          intro fu
          induction fu with
          | zero => intro i3_33 i4_33 s_33 H locs ls ri3_33 ri4_33 hF_33 q33_0 q33_1 q33_2 q33_3 q33_4 q33_5 q33_6 v33_0 v33_1 v33_2 hm; exact absurd hm (Nat.not_lt_zero _)
          | succ fu ih33 =>
            intro i3_33 i4_33 s_33 H locs ls ri3_33 ri4_33 hF_33 q33_0 q33_1 q33_2 q33_3 q33_4 q33_5 q33_6 v33_0 v33_1 v33_2 hm hW hl
            have hm_33 := fun (_ : Unit) => hm
            clear hm
            refine x_iload hx hb hl 3 rfl dX1_findsPlace_33 ?_
            refine x_iload_n hx hb hl 2 rfl dX1_findsPlace_35 rfl ?_
            refine x_icmp_ge (tgt := 183) hx hb ri4_33 ri3_33 dX1_findsPlace_36 (by decide) (fun c11 => ?_) (fun c11 => ?_)
            · skip
              refine x_iconst hx hb dX1_findsPlace_183 ?_
              rw [eQ]
              exact x_zret hx hb hr hlk hW (by omega) ⟨hF_33, ⟨q33_0, q33_1, q33_2, trivial⟩, Or.inr ⟨by omega, q33_5, q33_6, zBf_e v33_2 (by omega)⟩⟩ dX1_findsPlace_184
            refine x_iload hx hb hl 3 rfl dX1_findsPlace_39 ?_
            refine x_bipush hx hb dX1_findsPlace_41 (by decide) ?_
            refine x_icmp_ge (tgt := 183) hx hb ri4_33 (by decide) dX1_findsPlace_43 (by decide) (fun c12 => ?_) (fun c12 => ?_)
            · skip
              refine x_iconst hx hb dX1_findsPlace_183 ?_
              rw [eQ]
              exact x_zret hx hb hr hlk hW (by omega) ⟨hF_33, ⟨q33_0, q33_1, q33_2, trivial⟩, Or.inr ⟨by omega, q33_5, q33_6, zBf_e v33_2 (by omega)⟩⟩ dX1_findsPlace_184
            refine x_aload_n hx hb hl 0 rfl dX1_findsPlace_46 rfl ?_
            refine x_get (j := 5) (v := .ref (h0 + 266)) hx hb hown hT hE hW cls_X1 (Or.inl (by decide)) (so_261 h0 g _) (by decide) rfl wq498 dX1_findsPlace_47 ?_
            refine x_iload hx hb hl 3 rfl dX1_findsPlace_50 ?_
            refine x_iald hx hb hE hW (Or.inl (by decide)) (sa_266 h0 g _) (by omega) (by decide) dX1_findsPlace_52 ?_
            refine x_rd hW (fun x13 ex13 rx13 => ?_)
            have V52 : x13 = s_33 266 i4_33 := ex13
            refine lv_istore (lv' := [(5, .int (xJ x13)), (0, .ref (h0 + 261)), (1, .ref (h0 + d)), (3, .int (xJ i3_33)), (4, .int (xJ i4_33))]) hx hb dX1_findsPlace_53 hl (by decide) rfl (fun ls hl => ?_)
            refine x_iconst hx hb dX1_findsPlace_55 ?_
            refine lv_istore (lv' := [(6, .int (xJ 0)), (5, .int (xJ x13)), (0, .ref (h0 + 261)), (1, .ref (h0 + d)), (3, .int (xJ i3_33)), (4, .int (xJ i4_33))]) hx hb dX1_findsPlace_56 hl (by decide) rfl (fun ls hl => ?_)
            have L58 : ∀ (fu : Nat) (i3_58 : Int) (i6_58 : Int) (s_58 : xS) (H : Heap) (locs : List Loc) (ls : Array Slot), (xR i3_58) → (xR i6_58) → (xFr (fun k => (7 ≤ k ∧ k < 107) ∨ k = 107 ∨ k = 263 ∨ k = 264 ∨ k = 265 ∨ k = 266) s0 s_58) → (IC s_58) → (IS s_58) → (IQ s_58) → (s_58 1 1 = s0 1 1) → (s_58 130 3 = s0 130 3) → (s_58 263 = s0 263) → (s_58 264 = s0 264) → (0 ≤ i6_58 ∧ i6_58 ≤ 100) → (0 ≤ i3_58 ∧ i4_33 < i3_58 ∧ 0 ≤ i4_33 ∧ i4_33 < 10) → (zBf A9 (s0 263) (s0 264) (s_58 266) (s_58 265) f i4_33 i3_58) → (s_58 266 i4_33 = x13) → (∀ j : Int, 0 ≤ j → j < i6_58 → A9 (s_58 266 i4_33) (s0 132 j) → s_58 265 (s0 132 j) ≠ -1) → (101 - i6_58).toNat < fu → xW D g h0 s H locs s_58 → lv_has ls 8 [(0, .ref (h0 + 261)), (1, .ref (h0 + d)), (3, .int (xJ i3_58)), (4, .int (xJ i4_33)), (5, .int (xJ x13)), (6, .int (xJ i6_58))] → W p l e { frames := 4, cells := 0, slots := 0, locals := 96 } s m args below meth c H locs 0 0 Q (F0 m 58 ls []) := by
              intro fu
              induction fu with
              | zero => intro i3_58 i6_58 s_58 H locs ls ri3_58 ri6_58 hF_58 q58_0 q58_1 q58_2 q58_3 q58_4 q58_5 q58_6 v58_0 v58_1 v58_2 v58_3 v58_4 hm; exact absurd hm (Nat.not_lt_zero _)
              | succ fu ih58 =>
                intro i3_58 i6_58 s_58 H locs ls ri3_58 ri6_58 hF_58 q58_0 q58_1 q58_2 q58_3 q58_4 q58_5 q58_6 v58_0 v58_1 v58_2 v58_3 v58_4 hm hW hl
                have hm_58 := fun (_ : Unit) => hm
                clear hm
                have b58 := v58_2.H.b i4_33 (by omega) (by omega)
                rw [v58_3] at b58
                refine x_iload hx hb hl 5 rfl dX1_findsPlace_58 ?_
                refine x_aload_n hx hb hl 0 rfl dX1_findsPlace_60 rfl ?_
                refine x_get (j := 0) (v := .ref (h0 + 128)) hx hb hown hT hE hW cls_X1 (Or.inl (by decide)) (so_261 h0 g _) (by decide) rfl wq493 dX1_findsPlace_61 ?_
                refine x_getN (j := 3) (v := .ref (h0 + 130)) hx hb hown hT hE hW cls_X0 (Or.inl (by decide)) (so_128 h0 g _) (by decide) rfl wn358 dX1_findsPlace_64 ?_
                refine x_getN (j := 3) (v := .int (xJ (s_58 130 3))) hx hb hown hT hE hW cls_X7 (Or.inl (by decide)) (so_130 h0 g _) (by decide) rfl wn338 dX1_findsPlace_67 ?_
                refine x_rd hW (fun x14 ex14 rx14 => ?_)
                have bx14 : 0 ≤ x14 ∧ x14 ≤ 100 := by rw [ex14]; exact IC.z q58_0
                have fx14 : x14 = s0 130 3 := ex14.trans q58_4
                refine x_icmp_ge (tgt := 177) hx hb ri6_58 rx14 dX1_findsPlace_70 (by decide) (fun c15 => ?_) (fun c15 => ?_)
                · skip
                  refine x_iinc (lv' := [(4, .int (xJ (i4_33 + 1))), (0, .ref (h0 + 261)), (1, .ref (h0 + d)), (3, .int (xJ i3_58)), (5, .int (xJ x13)), (6, .int (xJ i6_58))]) hx hb hl 3 rfl dX1_findsPlace_177 (by decide) rfl (fun ls hl => ?_)
                  refine lv_goto (tgt := 33) hx hb dX1_findsPlace_180 (by decide) ?_
                  exact ih33 i3_58 (i4_33 + 1) s_58 H locs ls ri3_58 (by omega) hF_58 q58_0 q58_1 q58_2 q58_3 q58_4 q58_5 q58_6 (by omega) (by omega) (zBf_x v58_2 (by omega) (fun k k1 k2 a => by
                      obtain ⟨i, i1, i2, i3⟩ := p1.1.2.2.1 k k1 k2 ((hA x13 k (by omega) (by omega) k1 k2).mp (by rw [← v58_3]; exact a)).1
                      have z := v58_4 i i1 (by omega)
                      rw [i3] at z
                      exact z a)) (by have hm := hm_33 (); omega) hW (lv_sub hl [1, 2, 3, 0] rfl)
                refine x_iload hx hb hl 5 rfl dX1_findsPlace_73 ?_
                refine x_bipush hx hb dX1_findsPlace_75 (by decide) ?_
                refine x_icmp_ge (tgt := 177) hx hb ri6_58 (by decide) dX1_findsPlace_77 (by decide) (fun c16 => ?_) (fun c16 => ?_)
                · skip
                  refine x_iinc (lv' := [(4, .int (xJ (i4_33 + 1))), (0, .ref (h0 + 261)), (1, .ref (h0 + d)), (3, .int (xJ i3_58)), (5, .int (xJ x13)), (6, .int (xJ i6_58))]) hx hb hl 3 rfl dX1_findsPlace_177 (by decide) rfl (fun ls hl => ?_)
                  refine lv_goto (tgt := 33) hx hb dX1_findsPlace_180 (by decide) ?_
                  exact ih33 i3_58 (i4_33 + 1) s_58 H locs ls ri3_58 (by omega) hF_58 q58_0 q58_1 q58_2 q58_3 q58_4 q58_5 q58_6 (by omega) (by omega) (zBf_x v58_2 (by omega) (fun k k1 k2 a => by
                      obtain ⟨i, i1, i2, i3⟩ := p1.1.2.2.1 k k1 k2 ((hA x13 k (by omega) (by omega) k1 k2).mp (by rw [← v58_3]; exact a)).1
                      have z := v58_4 i i1 (by omega)
                      rw [i3] at z
                      exact z a)) (by have hm := hm_33 (); omega) hW (lv_sub hl [1, 2, 3, 0] rfl)
                refine x_aload_n hx hb hl 0 rfl dX1_findsPlace_80 rfl ?_
                refine x_get (j := 0) (v := .ref (h0 + 128)) hx hb hown hT hE hW cls_X1 (Or.inl (by decide)) (so_261 h0 g _) (by decide) rfl wq493 dX1_findsPlace_81 ?_
                refine x_getN (j := 3) (v := .ref (h0 + 130)) hx hb hown hT hE hW cls_X0 (Or.inl (by decide)) (so_128 h0 g _) (by decide) rfl wn358 dX1_findsPlace_84 ?_
                refine x_getN (j := 1) (v := .ref (h0 + 132)) hx hb hown hT hE hW cls_X7 (Or.inl (by decide)) (so_130 h0 g _) (by decide) rfl wn332 dX1_findsPlace_87 ?_
                refine x_iload hx hb hl 5 rfl dX1_findsPlace_90 ?_
                refine x_iald hx hb hE hW (Or.inl (by decide)) (sa_132 h0 g _) (by omega) (by decide) dX1_findsPlace_92 ?_
                refine x_rd hW (fun x17 ex17 rx17 => ?_)
                have V92 : x17 = s0 132 i6_58 := by rw [ex17, hF_58 132 (by first | decide | omega)]
                have B92 := p1.1.2.1 i6_58 (by omega) (by omega)
                rw [← V92] at B92
                refine lv_istore (lv' := [(7, .int (xJ x17)), (0, .ref (h0 + 261)), (1, .ref (h0 + d)), (3, .int (xJ i3_58)), (4, .int (xJ i4_33)), (5, .int (xJ x13)), (6, .int (xJ i6_58))]) hx hb dX1_findsPlace_93 hl (by decide) rfl (fun ls hl => ?_)
                refine x_aload_n hx hb hl 1 rfl dX1_findsPlace_95 rfl ?_
                refine x_aload_n hx hb hl 2 rfl dX1_findsPlace_96 rfl ?_
                refine x_iload hx hb hl 5 rfl dX1_findsPlace_97 ?_
                refine x_iload hx hb hl 0 rfl dX1_findsPlace_99 ?_
                refine x_goi (x_runV (As := [.ref (h0 + d), .int (xJ x13), .int (xJ x17)]) hx hb hml hown hT hE hW hl.1 (Or.inl (by decide)) (so_261 h0 g _) rfl cf_X1_canGo wq967 wq72 wq965 (c_X1_canGoP l D g T h0 s_58 hW.2.1 d hd x13 rx13 x17 rx17 K9 (by first | exact hK | exact fun t t1 t2 => by rw [hF_58 4 (by first | decide | omega)]; exact hK t t1 t2) q58_0 q58_2) ⟨rfl, rfl, ⟨by decide, by decide⟩, ⟨by decide, by decide⟩⟩ rfl rfl (Nat.le_of_ble_eq_true rfl) dX1_findsPlace_101) hW (fun x18 s19 H locs rx18 hp20 hW => ?_)
                obtain ⟨fs19, hp20⟩ := hp20
                have hF21 := hF_58.call fs19 (fun k h => by omega)
                have q22 : IS s19 := IS_f (fun k hk => fs19 k (by unfold suIS at hk; omega)) q58_1
                have q23 : s19 1 1 = s0 1 1 := (congrFun (fs19 _ (by omega)) _).trans q58_3
                have q24 : s19 130 3 = s0 130 3 := (congrFun (fs19 _ (by omega)) _).trans q58_4
                have q25 : s19 263 = s0 263 := (fs19 _ (by omega)).trans q58_5
                have q26 : s19 264 = s0 264 := (fs19 _ (by omega)).trans q58_6
                have ghp20 := hp20.2
                have D101 : s_58 (d + 6) = s0 (d + 6) ∧ s_58 262 = s0 262 := ⟨(fs19 _ (by omega)).symm.trans (hF21 _ (by omega)), (fs19 _ (by omega)).symm.trans (hF21 _ (by omega))⟩
                have H101 := ghp20
                rw [D101.1, D101.2] at H101
                have G101 := hA x13 x17 (by omega) (by omega) (by omega) (by omega)
                have N101 : x18 = 0 → ¬ A9 x13 x17 := fun h q => by
                  have z := G101.mp q
                  omega
                have Y101 : x18 = 1 → A9 x13 x17 := fun h => G101.mpr ⟨B92.2.2, by omega, by omega⟩
                have X101 : zBf A9 (s0 263) (s0 264) (s19 266) (s19 265) f i4_33 i3_58 := by rw [fs19 266 (by first | decide | omega), fs19 265 (by first | decide | omega)]; exact v58_2
                have W101 : s19 266 i4_33 = x13 := by rw [fs19 266 (by first | decide | omega)]; exact v58_3
                have T101 : ∀ j : Int, 0 ≤ j → j < i6_58 → A9 (s19 266 i4_33) (s0 132 j) → s19 265 (s0 132 j) ≠ -1 := fun j j1 j2 q => by
                  rw [fs19 266 (by first | decide | omega)] at q
                  rw [fs19 265 (by first | decide | omega)]
                  exact v58_4 j j1 j2 q
                have S101 : (A9 x13 x17 → s19 265 x17 ≠ -1) → ∀ j : Int, 0 ≤ j → j < i6_58 + 1 → A9 (s19 266 i4_33) (s0 132 j) → s19 265 (s0 132 j) ≠ -1 := fun h j j1 j2 q => by
                  by_cases c : j = i6_58
                  · rw [c, ← V92] at q ⊢
                    rw [W101] at q
                    exact h q
                  · exact T101 j j1 (by omega) q
                have J171 : ∀ (i3_171 : Int) (s_171 : xS) (H : Heap) (locs : List Loc) (ls : Array Slot), (xR i3_171) → (xFr (fun k => (7 ≤ k ∧ k < 107) ∨ k = 107 ∨ k = 263 ∨ k = 264 ∨ k = 265 ∨ k = 266) s0 s_171) → (IS s_171) → (s_171 1 1 = s0 1 1) → (s_171 130 3 = s0 130 3) → (s_171 263 = s0 263) → (s_171 264 = s0 264) → (IC s_171) → (IQ s_171) → (0 ≤ i6_58 ∧ i6_58 < 100) → (0 ≤ i3_171 ∧ i4_33 < i3_171 ∧ 0 ≤ i4_33 ∧ i4_33 < 10) → (zBf A9 (s0 263) (s0 264) (s_171 266) (s_171 265) f i4_33 i3_171) → (s_171 266 i4_33 = x13) → (∀ j : Int, 0 ≤ j → j < i6_58 + 1 → A9 (s_171 266 i4_33) (s0 132 j) → s_171 265 (s0 132 j) ≠ -1) → xW D g h0 s H locs s_171 → lv_has ls 8 [(0, .ref (h0 + 261)), (1, .ref (h0 + d)), (3, .int (xJ i3_171)), (4, .int (xJ i4_33)), (5, .int (xJ x13)), (6, .int (xJ i6_58))] → W p l e { frames := 4, cells := 0, slots := 0, locals := 96 } s m args below meth c H locs 0 0 Q (F0 m 171 ls []) := by
                  intro i3_171 s_171 H locs ls ri3_171 hF_171 q171_0 q171_1 q171_2 q171_3 q171_4 q171_5 q171_6 v171_0 v171_1 v171_2 v171_3 v171_4 hW hl
                  refine x_iinc (lv' := [(6, .int (xJ (i6_58 + 1))), (0, .ref (h0 + 261)), (1, .ref (h0 + d)), (3, .int (xJ i3_171)), (4, .int (xJ i4_33)), (5, .int (xJ x13))]) hx hb hl 5 rfl dX1_findsPlace_171 (by decide) rfl (fun ls hl => ?_)
                  refine lv_goto (tgt := 58) hx hb dX1_findsPlace_174 (by decide) ?_
                  exact ih58 i3_171 (i6_58 + 1) s_171 H locs ls ri3_171 (by omega) hF_171 q171_5 q171_0 q171_6 q171_1 q171_2 q171_3 q171_4 (by omega) (by omega) (v171_2) (v171_3) (v171_4) (by have hm := hm_58 (); omega) hW (lv_sub hl [1, 2, 3, 4, 5, 0] rfl)
                refine x_if_eq (tgt := 171) hx hb rx18 dX1_findsPlace_104 (by decide) (fun c27 => ?_) (fun c27 => ?_)
                · skip
                  exact J171 i3_58 s19 H locs ls ri3_58 hF21 q22 q23 q24 q25 q26 hp20.1.1 hp20.1.2.1 (by omega) (by omega) (by first | exact X101 | exact X167) (by first | exact W101 | exact W167) (by first | exact S101 (fun q => absurd q (N101 (by omega))) | exact S101 (fun _ => by rw [← V113]; omega) | exact S167) hW (lv_sub hl [1, 2, 3, 4, 5, 6] rfl)
                refine x_aload_n hx hb hl 1 rfl dX1_findsPlace_107 rfl ?_
                refine x_get (j := 4) (v := .ref (h0 + 265)) hx hb hown hT hE hW cls_X1 (Or.inl (by decide)) (so_261 h0 g _) (by decide) rfl wq497 dX1_findsPlace_108 ?_
                refine x_iload hx hb hl 0 rfl dX1_findsPlace_111 ?_
                refine x_iald hx hb hE hW (Or.inl (by decide)) (sa_265 h0 g _) (by omega) (by decide) dX1_findsPlace_113 ?_
                refine x_rd hW (fun x28 ex28 rx28 => ?_)
                have V113 : x28 = s19 265 x17 := ex28
                refine x_iconst hx hb dX1_findsPlace_114 ?_
                refine x_icmp_eq (tgt := 121) hx hb rx28 (by decide) dX1_findsPlace_115 (by decide) (fun c29 => ?_) (fun c29 => ?_)
                · skip
                  refine x_aload_n hx hb hl 1 rfl dX1_findsPlace_121 rfl ?_
                  refine x_get (j := 4) (v := .ref (h0 + 265)) hx hb hown hT hE hW cls_X1 (Or.inl (by decide)) (so_261 h0 g _) (by decide) rfl wq497 dX1_findsPlace_122 ?_
                  refine x_iload hx hb hl 0 rfl dX1_findsPlace_125 ?_
                  refine x_iload hx hb hl 5 rfl dX1_findsPlace_127 ?_
                  refine x_iast hx hb hE hW (by decide) (fun σ => sa_265 h0 g σ) (by omega) (by decide) rx13 dX1_findsPlace_129 (fun H locs s30 es30 hW => ?_)
                  have q31 : IS s30 := by rw [es30]; exact IS_o (by unfold suIS; first | decide | omega) q22
                  have q32 : s30 1 1 = s0 1 1 := (show s30 1 1 = s19 1 1 from by rw [es30, xU_k _ _ _ (by first | decide | omega)]).trans q23
                  have q33 : s30 130 3 = s0 130 3 := (show s30 130 3 = s19 130 3 from by rw [es30, xU_k _ _ _ (by first | decide | omega)]).trans q24
                  have q34 : s30 263 = s0 263 := by rw [es30, xU_k _ _ _ (by first | decide | omega)]; exact q25
                  have q35 : s30 264 = s0 264 := by rw [es30, xU_k _ _ _ (by first | decide | omega)]; exact q26
                  have q36 : IC s30 := by rw [es30]; exact IC_o (by decide) hp20.1.1
                  have q37 : IQ s30 := by rw [es30]; exact IQ_o (by unfold suIQ; first | decide | omega) hp20.1.2.1
                  have hF38 := hF21.put es30 (by omega)
                  have E129 := es30
                  have Z113 : s19 265 x17 = -1 := by rw [← V113]; omega
                  have A129 : A9 (s19 266 i4_33) x17 := by rw [W101]; exact Y101 (by omega)
                  have O129 : s30 265 = xud (s19 265) x17 x13 ∧ s30 266 = s19 266 := ⟨by rw [es30, xU_xud], by rw [es30, xU_k _ _ _ (by first | decide | omega)]⟩
                  have G129 : s30 263 = s0 263 ∧ s30 264 = s0 264 := ⟨q34, q35⟩
                  have H129 : zHp A9 (s30 263) (s30 264) (s30 266) (s30 265) f i3_58 := by
                    rw [G129.1, G129.2, O129.1, O129.2, ← W101]
                    exact zHp_r X101 ⟨by omega, by omega⟩ ⟨by omega, by omega⟩ A129 Z113
                  have P129 : s30 265 x17 ≠ -1 := by rw [O129.1, xud_s]; omega
                  refine x_aload_n hx hb hl 1 rfl dX1_findsPlace_130 rfl ?_
                  refine x_get (j := 3) (v := .ref (h0 + 264)) hx hb hown hT hE hW cls_X1 (Or.inl (by decide)) (so_261 h0 g _) (by decide) rfl wq496 dX1_findsPlace_131 ?_
                  refine x_iload hx hb hl 0 rfl dX1_findsPlace_134 ?_
                  refine x_iald hx hb hE hW (Or.inl (by decide)) (sa_264 h0 g _) (by omega) (by decide) dX1_findsPlace_136 ?_
                  refine x_rd hW (fun x39 ex39 rx39 => ?_)
                  have V136 : x39 = s0 264 x17 := by rw [ex39, G129.2]
                  have Z129 : x39 = -1 → s30 264 x17 = -1 := fun h => by rw [G129.2, ← V136]; exact h
                  refine x_iconst hx hb dX1_findsPlace_137 ?_
                  refine x_icmp_ne (tgt := 149) hx hb rx39 (by decide) dX1_findsPlace_138 (by decide) (fun c40 => ?_) (fun c40 => ?_)
                  · skip
                    refine x_iload_n hx hb hl 3 rfl dX1_findsPlace_149 rfl ?_
                    have Z136 : s0 264 x17 ≠ -1 := by omega
                    refine x_bipush hx hb dX1_findsPlace_150 (by decide) ?_
                    refine x_icmp_ge (tgt := 171) hx hb ri3_58 (by decide) dX1_findsPlace_152 (by decide) (fun c41 => False.elim (by have := zBf_w X101 ⟨by omega, by omega⟩ ⟨by omega, by omega⟩ Z113 Z136; omega)) (fun c41 => ?_)
                    refine x_aload_n hx hb hl 1 rfl dX1_findsPlace_155 rfl ?_
                    refine x_get (j := 5) (v := .ref (h0 + 266)) hx hb hown hT hE hW cls_X1 (Or.inl (by decide)) (so_261 h0 g _) (by decide) rfl wq498 dX1_findsPlace_156 ?_
                    refine x_iload_n hx hb hl 3 rfl dX1_findsPlace_159 rfl ?_
                    refine x_aload_n hx hb hl 1 rfl dX1_findsPlace_160 rfl ?_
                    refine x_get (j := 3) (v := .ref (h0 + 264)) hx hb hown hT hE hW cls_X1 (Or.inl (by decide)) (so_261 h0 g _) (by decide) rfl wq496 dX1_findsPlace_161 ?_
                    refine x_iload hx hb hl 0 rfl dX1_findsPlace_164 ?_
                    refine x_iald hx hb hE hW (Or.inl (by decide)) (sa_264 h0 g _) (by omega) (by decide) dX1_findsPlace_166 ?_
                    refine x_rd hW (fun x42 ex42 rx42 => ?_)
                    have V166 : x42 = s0 264 x17 := by rw [ex42, G129.2]
                    refine x_iast hx hb hE hW (by decide) (fun σ => sa_266 h0 g σ) (by omega) (by decide) rx42 dX1_findsPlace_167 (fun H locs s43 es43 hW => ?_)
                    have q44 : IS s43 := by rw [es43]; exact IS_o (by unfold suIS; first | decide | omega) q31
                    have q45 : s43 1 1 = s0 1 1 := (show s43 1 1 = s30 1 1 from by rw [es43, xU_k _ _ _ (by first | decide | omega)]).trans q32
                    have q46 : s43 130 3 = s0 130 3 := (show s43 130 3 = s30 130 3 from by rw [es43, xU_k _ _ _ (by first | decide | omega)]).trans q33
                    have q47 : s43 263 = s0 263 := by rw [es43, xU_k _ _ _ (by first | decide | omega)]; exact q34
                    have q48 : s43 264 = s0 264 := by rw [es43, xU_k _ _ _ (by first | decide | omega)]; exact q35
                    have q49 : IC s43 := by rw [es43]; exact IC_o (by decide) q36
                    have q50 : IQ s43 := by rw [es43]; exact IQ_o (by unfold suIQ; first | decide | omega) q37
                    have hF51 := hF38.put es43 (by omega)
                    have O167 : s43 266 = xud (s19 266) i3_58 (s0 264 x17) ∧ s43 265 = xud (s19 265) x17 x13 := ⟨by rw [es43, xU_xud, V166, O129.2], by rw [es43, xU_k _ _ _ (by first | decide | omega)]; exact O129.1⟩
                    have X167 : zBf A9 (s0 263) (s0 264) (s43 266) (s43 265) f i4_33 (i3_58 + 1) := by
                      rw [O167.1, O167.2, ← W101]
                      exact zBf_r X101 ⟨by omega, by omega⟩ ⟨by omega, by omega⟩ A129 Z113 Z136
                    have W167 : s43 266 i4_33 = x13 := by rw [O167.1, xud_o _ _ (by omega)]; exact W101
                    have S167 : ∀ j : Int, 0 ≤ j → j < i6_58 + 1 → A9 (s43 266 i4_33) (s0 132 j) → s43 265 (s0 132 j) ≠ -1 := fun j j1 j2 q => by
                      rw [O167.2]
                      by_cases c : j = i6_58
                      · rw [c, ← V92, xud_s]; omega
                      · by_cases c2 : s0 132 j = x17
                        · rw [c2, xud_s]; omega
                        · rw [xud_o _ _ c2]
                          exact T101 j j1 (by omega) (by rw [W101]; rw [W167] at q; exact q)
                    refine x_iinc (lv' := [(3, .int (xJ (i3_58 + 1))), (7, .int (xJ x17)), (0, .ref (h0 + 261)), (1, .ref (h0 + d)), (4, .int (xJ i4_33)), (5, .int (xJ x13)), (6, .int (xJ i6_58))]) hx hb hl 3 rfl dX1_findsPlace_168 (by decide) rfl (fun ls hl => ?_)
                    exact J171 (i3_58 + 1) s43 H locs ls (by omega) hF51 q44 q45 q46 q47 q48 q49 q50 (by omega) (by omega) (by first | exact X101 | exact X167) (by first | exact W101 | exact W167) (by first | exact S101 (fun q => absurd q (N101 (by omega))) | exact S101 (fun _ => by rw [← V113]; omega) | exact S167) hW (lv_sub hl [2, 3, 0, 4, 5, 6] rfl)
                  refine x_aload_n hx hb hl 1 rfl dX1_findsPlace_141 rfl ?_
                  refine x_iload hx hb hl 0 rfl dX1_findsPlace_142 ?_
                  refine x_gov (x_runV (As := [.int (xJ x17)]) hx hb hml hown hT hE hW hl.1 (Or.inl (by decide)) (so_261 h0 g _) rfl cf_X1_handOn wq974 wq73 wq972 (c_X1_handOnP l D g T h0 s30 hW.2.1 x17 rx17 A9 f i3_58 (H129) (by omega) (Z129 (by omega)) (P129) q36) ⟨rfl, rfl, ⟨by decide, by decide⟩, ⟨by decide, by decide⟩⟩ rfl rfl (Nat.le_of_ble_eq_true rfl) dX1_findsPlace_144) hW (fun s53 H locs hp54 hW => ?_)
                  obtain ⟨fs53, hp54⟩ := hp54
                  have hF55 := hF38.call fs53 (fun k h => by omega)
                  have q56 : IS s53 := IS_f (fun k hk => fs53 k (by unfold suIS at hk; omega)) q31
                  have q57 : s53 1 1 = s0 1 1 := (congrFun (fs53 _ (by omega)) _).trans q32
                  have q58 : s53 130 3 = s0 130 3 := (congrFun (fs53 _ (by omega)) _).trans q33
                  have q59 : IQ s53 := IQ_f (fun k hk => fs53 k (by unfold suIQ at hk; omega)) q37
                  have ghp54 := hp54.2
                  have H144 : zHq A9 (s0 263) (s0 264) f (s53 263) (s53 264) := by
                    have e := ghp54
                    rw [G129.1, G129.2] at e
                    exact e
                  refine x_iconst hx hb dX1_findsPlace_147 ?_
                  rw [eQ]
                  exact x_zret hx hb hr hlk hW (by omega) ⟨hF55, ⟨hp54.1.1, q56, q59, trivial⟩, Or.inl ⟨by omega, H144⟩⟩ dX1_findsPlace_148
                refine lv_goto (tgt := 171) hx hb dX1_findsPlace_118 (by decide) ?_
                exact J171 i3_58 s19 H locs ls ri3_58 hF21 q22 q23 q24 q25 q26 hp20.1.1 hp20.1.2.1 (by omega) (by omega) (by first | exact X101 | exact X167) (by first | exact W101 | exact W167) (by first | exact S101 (fun q => absurd q (N101 (by omega))) | exact S101 (fun _ => by rw [← V113]; omega) | exact S167) hW (lv_sub hl [1, 2, 3, 4, 5, 6] rfl)
            exact L58 ((101 - 0 : Int).toNat + 1) i3_33 0 s_33 H locs ls ri3_33 (by decide) hF_33 q33_0 q33_1 q33_2 q33_3 q33_4 q33_5 q33_6 (by omega) (by omega) (v33_2) (V52.symm) (fun j j1 j2 => absurd j2 (by omega)) (Nat.lt_succ_self _) hW (lv_sub hl [2, 3, 4, 5, 1, 0] rfl)
        exact L33 ((11 - 0 : Int).toNat + 1) 1 0 s2 H locs ls (by decide) (by decide) hF10 q3 q4 q5 q6 q7 q8 q9 (by omega) (by omega) (zBf_0 hM hf hz0 Q27 R27) (Nat.lt_succ_self _) hW (lv_sub hl [2, 3, 1, 0] rfl)
      refine x_aload_n hx hb hl 0 rfl dX1_findsPlace_8 rfl ?_
      refine x_get (j := 4) (v := .ref (h0 + 265)) hx hb hown hT hE hW cls_X1 (Or.inl (by decide)) (so_261 h0 g _) (by decide) rfl wq497 dX1_findsPlace_9 ?_
      refine x_iload_n hx hb hl 3 rfl dX1_findsPlace_12 rfl ?_
      refine x_iconst hx hb dX1_findsPlace_13 ?_
      refine x_iast hx hb hE hW (by decide) (fun σ => sa_265 h0 g σ) (by omega) (by decide) (by decide) dX1_findsPlace_14 (fun H locs s60 es60 hW => ?_)
      have q61 : IC s60 := by rw [es60]; exact IC_o (by decide) q2_0
      have q62 : IS s60 := by rw [es60]; exact IS_o (by unfold suIS; first | decide | omega) q2_1
      have q63 : IQ s60 := by rw [es60]; exact IQ_o (by unfold suIQ; first | decide | omega) q2_2
      have q64 : s60 1 1 = s0 1 1 := (show s60 1 1 = s_2 1 1 from by rw [es60, xU_k _ _ _ (by first | decide | omega)]).trans q2_3
      have q65 : s60 130 3 = s0 130 3 := (show s60 130 3 = s_2 130 3 from by rw [es60, xU_k _ _ _ (by first | decide | omega)]).trans q2_4
      have q66 : s60 263 = s0 263 := by rw [es60, xU_k _ _ _ (by first | decide | omega)]; exact q2_5
      have q67 : s60 264 = s0 264 := by rw [es60, xU_k _ _ _ (by first | decide | omega)]; exact q2_6
      have hF68 := hF_2.put es60 (by omega)
      have E14 := es60
      refine x_iinc (lv' := [(3, .int (xJ (i3_2 + 1))), (0, .ref (h0 + 261)), (1, .ref (h0 + d)), (2, .int (xJ f))]) hx hb hl 3 rfl dX1_findsPlace_15 (by decide) rfl (fun ls hl => ?_)
      refine lv_goto (tgt := 2) hx hb dX1_findsPlace_18 (by decide) ?_
      exact ih2 (i3_2 + 1) s60 H locs ls (by omega) hF68 q61 q62 q63 q64 q65 q66 q67 (by omega) (fun k k1 k2 => by
            rw [E14, xU_xud]
            by_cases h : k = i3_2
            · rw [h, xud_s]
            · rw [xud_o _ _ h]; exact v2_1 k k1 (by omega)) (by have hm := hm_2 (); omega) hW (lv_sub hl [1, 2, 3, 0] rfl)
  exact L2 ((101 - 0 : Int).toNat + 1) 0 s0 H locs ls (by decide) hF p0 p1 p2 k1_1 k130_3 kg263 kg264 (by omega) (fun k k1 k2 => absurd k2 (by omega)) (Nat.lt_succ_self _) hW (lv_sub hl [1, 2, 3, 0] rfl)
set_option maxHeartbeats 4000000 in
set_option maxRecDepth 100000 in
theorem c_X1_mostP (l : Launch) (D : va_G) (g : xG) (T : Nat × Nat × Nat) (h0 : Nat) (s0 : xS) (hσ : xRR s0) (d : Nat) (hd : xDay d) (q9 : zLaw) (K9 : Int → Int) (hok : zLok q9) (hlc : zLD s0 q9) (hK : ∀ t : Int, 0 ≤ t → t < 100 → s0 4 t = K9 t) (hfr : ∀ f : Int, 0 ≤ f → f < 10 → s0 (d + 6) f = -1 ∨ (0 ≤ s0 (d + 6) f ∧ s0 (d + 6) f < 100)) (p0 : IC s0) (p1 : IS s0) (p2 : IQ s0) : Met l yX1_most (xws yX1_most cX1_most 4 (some .int)) { frames := 5, cells := 0, slots := 0, locals := 123 } (xP [.ref (h0 + 261), .ref (h0 + d)] D g T h0 s0) (xQi D g h0 (fun r τ => xFr (fun k => (7 ≤ k ∧ k < 107) ∨ k = 107 ∨ k = 115 ∨ k = 116 ∨ k = 262 ∨ k = 263 ∨ k = 264 ∨ k = 265 ∨ k = 266) s0 τ ∧ (((IC τ) ∧ (IS τ) ∧ (IQ τ) ∧ True) ∧ (zIm (zAt K9 q9 (s0 131) (zYc s0 d)) r)))) 0 0 (xA h0) := by
  refine x_met hσ (by decide) (Nat.le_of_ble_eq_true rfl) ?_
  intro p e s m args below meth c hx hb hr hml hown hT hlk hnm hE hW ls hl
  have hl : lv_has ls 4 [(0, .ref (h0 + 261)), (1, .ref (h0 + d))] := hl
  obtain ⟨Q, eQ⟩ : ∃ Q, Q = MQ below (xQi D g h0 (fun r τ => xFr (fun k => (7 ≤ k ∧ k < 107) ∨ k = 107 ∨ k = 115 ∨ k = 116 ∨ k = 262 ∨ k = 263 ∨ k = 264 ∨ k = 265 ∨ k = 266) s0 τ ∧ (((IC τ) ∧ (IS τ) ∧ (IQ τ) ∧ True) ∧ (zIm (zAt K9 q9 (s0 131) (zYc s0 d)) r)))) args s 0 0 (xA h0) := ⟨_, rfl⟩
  rw [← eQ]
  generalize hHe : ([] : List Loc) = locs at hW ⊢
  obtain ⟨H, eH⟩ : ∃ H, H = s.heap := ⟨_, rfl⟩
  rw [← eH] at hW ⊢
  have hF : xFr (fun k => (7 ≤ k ∧ k < 107) ∨ k = 107 ∨ k = 115 ∨ k = 116 ∨ k = 262 ∨ k = 263 ∨ k = 264 ∨ k = 265 ∨ k = 266) s0 s0 := xFr.rf
  have hbd : (136 ≤ d ∧ d < 209) ∧ (d ≤ 146 ∨ 158 ≤ d) := by unfold xDay at hd; omega
  have k1_1 : s0 1 1 = s0 1 1 := rfl
  refine x_iconst hx hb dX1_most_0 ?_
  refine lv_istore_n (lv' := [(2, .int (xJ 0)), (0, .ref (h0 + 261)), (1, .ref (h0 + d))]) hx hb dX1_most_1 rfl hl (by decide) rfl (fun ls hl => ?_)
  have L2 : ∀ (fu : Nat) (i2_2 : Int) (s_2 : xS) (H : Heap) (locs : List Loc) (ls : Array Slot), (xR i2_2) → (xFr (fun k => (7 ≤ k ∧ k < 107) ∨ k = 107 ∨ k = 115 ∨ k = 116 ∨ k = 262 ∨ k = 263 ∨ k = 264 ∨ k = 265 ∨ k = 266) s0 s_2) → (IC s_2) → (IS s_2) → (IQ s_2) → (s_2 1 1 = s0 1 1) → (0 ≤ i2_2) → (∀ k : Int, 0 ≤ k → k < i2_2 → s_2 264 k = -1) → (101 - i2_2).toNat < fu → xW D g h0 s H locs s_2 → lv_has ls 4 [(0, .ref (h0 + 261)), (1, .ref (h0 + d)), (2, .int (xJ i2_2))] → W p l e { frames := 5, cells := 0, slots := 0, locals := 123 } s m args below meth c H locs 0 0 Q (F0 m 2 ls []) := by
    intro fu
    induction fu with
    | zero => intro i2_2 s_2 H locs ls ri2_2 hF_2 q2_0 q2_1 q2_2 q2_3 v2_0 v2_1 hm; exact absurd hm (Nat.not_lt_zero _)
    | succ fu ih2 =>
      intro i2_2 s_2 H locs ls ri2_2 hF_2 q2_0 q2_1 q2_2 q2_3 v2_0 v2_1 hm hW hl
      have hm_2 := fun (_ : Unit) => hm
      clear hm
      refine x_iload_n hx hb hl 2 rfl dX1_most_2 rfl ?_
      refine x_bipush hx hb dX1_most_3 (by decide) ?_
      refine x_icmp_ge (tgt := 21) hx hb ri2_2 (by decide) dX1_most_5 (by decide) (fun c1 => ?_) (fun c1 => ?_)
      · skip
        refine x_iconst hx hb dX1_most_21 ?_
        refine lv_istore_n (lv' := [(2, .int (xJ 0)), (0, .ref (h0 + 261)), (1, .ref (h0 + d))]) hx hb dX1_most_22 rfl hl (by decide) rfl (fun ls hl => ?_)
        have L23 : ∀ (fu : Nat) (i2_23 : Int) (s_23 : xS) (H : Heap) (locs : List Loc) (ls : Array Slot), (xR i2_23) → (xFr (fun k => (7 ≤ k ∧ k < 107) ∨ k = 107 ∨ k = 115 ∨ k = 116 ∨ k = 262 ∨ k = 263 ∨ k = 264 ∨ k = 265 ∨ k = 266) s0 s_23) → (IC s_23) → (IS s_23) → (IQ s_23) → (s_23 1 1 = s0 1 1) → (0 ≤ i2_23 ∧ i2_23 ≤ 10) → (∀ k : Int, 0 ≤ k → k < 100 → s_23 264 k = -1) → (∀ f : Int, 0 ≤ f → f < i2_23 → s_23 263 f = -1) → (∀ f : Int, 0 ≤ f → f < i2_23 → (zOw (zYc s0 d) f ∧ s_23 262 f = zvF K9 q9 (zYc s0 d) 118 3 f) ∨ (¬ zOw (zYc s0 d) f ∧ s_23 262 f = -1)) → (11 - i2_23).toNat < fu → xW D g h0 s H locs s_23 → lv_has ls 4 [(0, .ref (h0 + 261)), (1, .ref (h0 + d)), (2, .int (xJ i2_23))] → W p l e { frames := 5, cells := 0, slots := 0, locals := 123 } s m args below meth c H locs 0 0 Q (F0 m 23 ls []) := by
          intro fu
          induction fu with
          | zero => intro i2_23 s_23 H locs ls ri2_23 hF_23 q23_0 q23_1 q23_2 q23_3 v23_0 v23_1 v23_2 v23_3 hm; exact absurd hm (Nat.not_lt_zero _)
          | succ fu ih23 =>
            intro i2_23 s_23 H locs ls ri2_23 hF_23 q23_0 q23_1 q23_2 q23_3 v23_0 v23_1 v23_2 v23_3 hm hW hl
            have hm_23 := fun (_ : Unit) => hm
            clear hm
            refine x_iload_n hx hb hl 2 rfl dX1_most_23 rfl ?_
            refine x_bipush hx hb dX1_most_24 (by decide) ?_
            refine x_icmp_ge (tgt := 69) hx hb ri2_23 (by decide) dX1_most_26 (by decide) (fun c2 => ?_) (fun c2 => ?_)
            · skip
              refine x_iconst hx hb dX1_most_69 ?_
              refine lv_istore_n (lv' := [(2, .int (xJ 0)), (0, .ref (h0 + 261)), (1, .ref (h0 + d))]) hx hb dX1_most_70 rfl hl (by decide) rfl (fun ls hl => ?_)
              refine x_iconst hx hb dX1_most_71 ?_
              refine lv_istore_n (lv' := [(3, .int (xJ 0)), (2, .int (xJ 0)), (0, .ref (h0 + 261)), (1, .ref (h0 + d))]) hx hb dX1_most_72 rfl hl (by decide) rfl (fun ls hl => ?_)
              have L73 : ∀ (fu : Nat) (i2_73 : Int) (i3_73 : Int) (s_73 : xS) (H : Heap) (locs : List Loc) (ls : Array Slot), (xR i2_73) → (xR i3_73) → (xFr (fun k => (7 ≤ k ∧ k < 107) ∨ k = 107 ∨ k = 115 ∨ k = 116 ∨ k = 262 ∨ k = 263 ∨ k = 264 ∨ k = 265 ∨ k = 266) s0 s_73) → (IC s_73) → (IS s_73) → (IQ s_73) → (s_73 1 1 = s0 1 1) → (0 ≤ i3_73 ∧ i3_73 ≤ 10) → (∀ f : Int, 0 ≤ f → f < 10 → (zOw (zYc s0 d) f ∧ s_73 262 f = zvF K9 q9 (zYc s0 d) 118 3 f) ∨ (¬ zOw (zYc s0 d) f ∧ s_73 262 f = -1)) → (zMs (zAt K9 q9 (s0 131) (zYc s0 d)) (fun f => zOw (zYc s0 d) f) (s_73 263) (s_73 264) i3_73 i2_73) → (0 ≤ i2_73 ∧ i2_73 ≤ i3_73) → (11 - i3_73).toNat < fu → xW D g h0 s H locs s_73 → lv_has ls 4 [(0, .ref (h0 + 261)), (1, .ref (h0 + d)), (2, .int (xJ i2_73)), (3, .int (xJ i3_73))] → W p l e { frames := 5, cells := 0, slots := 0, locals := 123 } s m args below meth c H locs 0 0 Q (F0 m 73 ls []) := by
                intro fu
                induction fu with
                | zero => intro i2_73 i3_73 s_73 H locs ls ri2_73 ri3_73 hF_73 q73_0 q73_1 q73_2 q73_3 v73_0 v73_1 v73_2 v73_3 hm; exact absurd hm (Nat.not_lt_zero _)
                | succ fu ih73 =>
                  intro i2_73 i3_73 s_73 H locs ls ri2_73 ri3_73 hF_73 q73_0 q73_1 q73_2 q73_3 v73_0 v73_1 v73_2 v73_3 hm hW hl
                  have hm_73 := fun (_ : Unit) => hm
                  clear hm
                  refine x_iload_n hx hb hl 3 rfl dX1_most_73 rfl ?_
                  refine x_bipush hx hb dX1_most_74 (by decide) ?_
                  refine x_icmp_ge (tgt := 105) hx hb ri3_73 (by decide) dX1_most_76 (by decide) (fun c3 => ?_) (fun c3 => ?_)
                  · skip
                    refine x_iload_n hx hb hl 2 rfl dX1_most_105 rfl ?_
                    rw [eQ]
                    exact x_iret hx hb hr hlk hW ri2_73 ⟨hF_73, ⟨q73_0, q73_1, q73_2, trivial⟩, zMs_e v73_2 (by omega) (fun f k f1 f2 z => z.1)⟩ dX1_most_106
                  refine x_aload_n hx hb hl 1 rfl dX1_most_79 rfl ?_
                  refine x_iload_n hx hb hl 3 rfl dX1_most_80 rfl ?_
                  refine x_goi (x_runVN (As := [.int (xJ i3_73)]) hx hb hml hown hT hE hW hl.1 (Or.inl (by omega)) (so_day0 h0 g hd _) rfl cf_X2_mustServe wq858 wq52 wn959 (c_X2_mustServeF l D g T h0 s_73 hW.2.1 d hd i3_73 ri3_73 (by omega) q73_0) ⟨rfl, rfl, ⟨by decide, by decide⟩, ⟨by decide, by decide⟩⟩ rfl rfl (Nat.le_of_ble_eq_true rfl) dX1_most_81) hW (fun x4 s5 H locs rx4 hp6 hW => ?_)
                  obtain ⟨es5, hp6⟩ := hp6
                  subst es5
                  have ghp6 := hp6
                  have H81 := ghp6
                  rw [show zYc s_73 d = (zYc s0 d) from zYc_f (fun o ho => hF_73 (d + o) (by omega))] at H81
                  have W81n : x4 = 0 → ¬ zOw (zYc s0 d) i3_73 := fun h => (H81.resolve_left (fun q => by omega)).2
                  have A81 : ∀ f k : Int, 0 ≤ f → f < 10 → 0 ≤ k → k < 100 → (zAt K9 q9 (s0 131) (zYc s0 d) f k ↔ (s_73 131 k ≠ 0 ∧ s_73 (d + 6) f ≠ -1 ∧ zsb K9 (s_73 (d + 6) f) k ≤ s_73 262 f)) := fun f k f1 f2 k1 k2 => by
                    rw [hF_73 131 (by first | decide | omega), hF_73 (d + 6) (by omega)]
                    have e : (zYc s0 d) (4 + f) = s0 (d + 6) f := zYc_F ⟨f1, f2⟩
                    unfold zAt
                    rw [e]
                    rcases v73_1 f f1 f2 with ⟨g1, g2⟩ | ⟨g1, g2⟩
                    · rw [g2]
                      have y := (zOw_c ⟨f1, f2⟩).mp g1
                      exact ⟨fun z => ⟨z.2.1, y.1, z.2.2⟩, fun z => ⟨g1, z.1, z.2.2⟩⟩
                    · rw [g2]
                      exact ⟨fun z => absurd z.1 g1, fun z => absurd z.2.2 (by have := zsb_0 K9 (s0 (d + 6) f) k; omega)⟩
                  refine x_if_eq (tgt := 99) hx hb rx4 dX1_most_84 (by decide) (fun c7 => ?_) (fun c7 => ?_)
                  · skip
                    refine x_iinc (lv' := [(3, .int (xJ (i3_73 + 1))), (0, .ref (h0 + 261)), (1, .ref (h0 + d)), (2, .int (xJ i2_73))]) hx hb hl 3 rfl dX1_most_99 (by decide) rfl (fun ls hl => ?_)
                    refine lv_goto (tgt := 73) hx hb dX1_most_102 (by decide) ?_
                    exact ih73 i2_73 (i3_73 + 1) s_73 H locs ls ri2_73 (by omega) hF_73 q73_0 q73_1 q73_2 q73_3 (by omega) (by first | exact v73_1 | (rw [fs_73 262 (by omega)]; exact v73_1)) (by
                        first
                          | exact zMs_n v73_2 (W81n (by omega))
                          | exact zMs_y v73_2 (by omega) ((H90.resolve_right (fun q => by omega)).2)
                          | (have z := (H90.resolve_left (fun q => by omega)).2
                             rw [z.1, z.2.1]
                             exact zMs_f v73_2 z.2.2)) (by omega) (by have hm := hm_73 (); omega) hW (lv_sub hl [1, 2, 3, 0] rfl)
                  refine x_aload_n hx hb hl 0 rfl dX1_most_87 rfl ?_
                  refine x_aload_n hx hb hl 1 rfl dX1_most_88 rfl ?_
                  refine x_iload_n hx hb hl 3 rfl dX1_most_89 rfl ?_
                  refine x_goi (x_runV (As := [.ref (h0 + d), .int (xJ i3_73)]) hx hb hml hown hT hE hW hl.1 (Or.inl (by decide)) (so_261 h0 g _) rfl cf_X1_findsPlace wq963 wq71 wq961 (c_X1_findsPlaceP l D g T h0 s_73 hW.2.1 d hd i3_73 ri3_73 K9 (zAt K9 q9 (s0 131) (zYc s0 d)) (by first | exact hK | exact fun t t1 t2 => by rw [hF_73 4 (by first | decide | omega)]; exact hK t t1 t2) (A81) (v73_2.m) (by omega) (v73_2.o _ (Int.le_refl _) (by omega)) q73_0 q73_1 q73_2) ⟨rfl, rfl, ⟨by decide, by decide⟩, ⟨by decide, by decide⟩⟩ rfl rfl (Nat.le_of_ble_eq_true rfl) dX1_most_90) hW (fun x8 s9 H locs rx8 hp10 hW => ?_)
                  obtain ⟨fs9, hp10⟩ := hp10
                  have hF11 := hF_73.call fs9 (fun k h => by omega)
                  have q12 : s9 1 1 = s0 1 1 := (congrFun (fs9 _ (by omega)) _).trans q73_3
                  have ghp10 := hp10.2
                  have H90 := ghp10
                  refine x_if_eq (tgt := 99) hx hb rx8 dX1_most_93 (by decide) (fun c13 => ?_) (fun c13 => ?_)
                  · skip
                    refine x_iinc (lv' := [(3, .int (xJ (i3_73 + 1))), (0, .ref (h0 + 261)), (1, .ref (h0 + d)), (2, .int (xJ i2_73))]) hx hb hl 3 rfl dX1_most_99 (by decide) rfl (fun ls hl => ?_)
                    refine lv_goto (tgt := 73) hx hb dX1_most_102 (by decide) ?_
                    exact ih73 i2_73 (i3_73 + 1) s9 H locs ls ri2_73 (by omega) hF11 hp10.1.1 hp10.1.2.1 hp10.1.2.2.1 q12 (by omega) (by first | exact v73_1 | (rw [fs9 262 (by first | decide | omega)]; exact v73_1)) (by
                        first
                          | exact zMs_n v73_2 (W81n (by omega))
                          | exact zMs_y v73_2 (by omega) ((H90.resolve_right (fun q => by omega)).2)
                          | (have z := (H90.resolve_left (fun q => by omega)).2
                             rw [z.1, z.2.1]
                             exact zMs_f v73_2 z.2.2)) (by omega) (by have hm := hm_73 (); omega) hW (lv_sub hl [1, 2, 3, 0] rfl)
                  refine x_iinc (lv' := [(2, .int (xJ (i2_73 + 1))), (0, .ref (h0 + 261)), (1, .ref (h0 + d)), (3, .int (xJ i3_73))]) hx hb hl 2 rfl dX1_most_96 (by decide) rfl (fun ls hl => ?_)
                  refine x_iinc (lv' := [(3, .int (xJ (i3_73 + 1))), (2, .int (xJ (i2_73 + 1))), (0, .ref (h0 + 261)), (1, .ref (h0 + d))]) hx hb hl 3 rfl dX1_most_99 (by decide) rfl (fun ls hl => ?_)
                  refine lv_goto (tgt := 73) hx hb dX1_most_102 (by decide) ?_
                  exact ih73 (i2_73 + 1) (i3_73 + 1) s9 H locs ls (by omega) (by omega) hF11 hp10.1.1 hp10.1.2.1 hp10.1.2.2.1 q12 (by omega) (by first | exact v73_1 | (rw [fs9 262 (by first | decide | omega)]; exact v73_1)) (by
                      first
                        | exact zMs_n v73_2 (W81n (by omega))
                        | exact zMs_y v73_2 (by omega) ((H90.resolve_right (fun q => by omega)).2)
                        | (have z := (H90.resolve_left (fun q => by omega)).2
                           rw [z.1, z.2.1]
                           exact zMs_f v73_2 z.2.2)) (by omega) (by have hm := hm_73 (); omega) hW (lv_sub hl [2, 3, 1, 0] rfl)
              exact L73 ((11 - 0 : Int).toNat + 1) 0 0 s_23 H locs ls (by decide) (by decide) hF_23 q23_0 q23_1 q23_2 q23_3 (by omega) (fun f f1 f2 => v23_3 f f1 (by omega)) (zMs_0 (fun f f1 f2 => v23_2 f f1 (by omega)) v23_1) (by omega) (Nat.lt_succ_self _) hW (lv_sub hl [2, 3, 1, 0] rfl)
            refine x_aload_n hx hb hl 0 rfl dX1_most_29 rfl ?_
            refine x_get (j := 2) (v := .ref (h0 + 263)) hx hb hown hT hE hW cls_X1 (Or.inl (by decide)) (so_261 h0 g _) (by decide) rfl wq495 dX1_most_30 ?_
            refine x_iload_n hx hb hl 2 rfl dX1_most_33 rfl ?_
            refine x_iconst hx hb dX1_most_34 ?_
            refine x_iast hx hb hE hW (by decide) (fun σ => sa_263 h0 g σ) (by omega) (by decide) (by decide) dX1_most_35 (fun H locs s14 es14 hW => ?_)
            have q15 : IC s14 := by rw [es14]; exact IC_o (by decide) q23_0
            have q16 : IS s14 := by rw [es14]; exact IS_o (by unfold suIS; first | decide | omega) q23_1
            have q17 : IQ s14 := by rw [es14]; exact IQ_o (by unfold suIQ; first | decide | omega) q23_2
            have q18 : s14 1 1 = s0 1 1 := (show s14 1 1 = s_23 1 1 from by rw [es14, xU_k _ _ _ (by first | decide | omega)]).trans q23_3
            have hF19 := hF_23.put es14 (by omega)
            have N34 : s14 264 = s_23 264 ∧ s14 263 = xud (s_23 263) i2_23 (-1) ∧ s14 262 = s_23 262 := ⟨by rw [es14, xU_k _ _ _ (by first | decide | omega)], by rw [es14, xU_xud], by rw [es14, xU_k _ _ _ (by first | decide | omega)]⟩
            refine x_aload_n hx hb hl 0 rfl dX1_most_36 rfl ?_
            refine x_get (j := 1) (v := .ref (h0 + 262)) hx hb hown hT hE hW cls_X1 (Or.inl (by decide)) (so_261 h0 g _) (by decide) rfl wq494 dX1_most_37 ?_
            refine x_iload_n hx hb hl 2 rfl dX1_most_40 rfl ?_
            refine x_aload_n hx hb hl 1 rfl dX1_most_41 rfl ?_
            refine x_iload_n hx hb hl 2 rfl dX1_most_42 rfl ?_
            refine x_goi (x_runVN (As := [.int (xJ i2_23)]) hx hb hml hown hT hE hW hl.1 (Or.inl (by omega)) (so_day0 h0 g hd _) rfl cf_X2_mustServe wq858 wq52 wn959 (c_X2_mustServeF l D g T h0 s14 hW.2.1 d hd i2_23 ri2_23 (by omega) q15) ⟨rfl, rfl, ⟨by decide, by decide⟩, ⟨by decide, by decide⟩⟩ rfl rfl (Nat.le_of_ble_eq_true rfl) dX1_most_43) hW (fun x20 s21 H locs rx20 hp22 hW => ?_)
            obtain ⟨es21, hp22⟩ := hp22
            subst es21
            have ghp22 := hp22
            have H43 := ghp22
            have Y43 : zYc s14 d = (zYc s0 d) := zYc_f (fun o ho => hF19 (d + o) (by omega))
            rw [Y43] at H43
            have W43 : x20 = 1 → zOw (zYc s0 d) i2_23 := fun h => (H43.resolve_right (fun q => by omega)).2
            have W43n : x20 = 0 → ¬ zOw (zYc s0 d) i2_23 := fun h => (H43.resolve_left (fun q => by omega)).2
            have J62 : ∀ (t0_62 : Int) (s_62 : xS) (H : Heap) (locs : List Loc) (ls : Array Slot), (xR t0_62) → (xFr (fun k => (7 ≤ k ∧ k < 107) ∨ k = 107 ∨ k = 115 ∨ k = 116 ∨ k = 262 ∨ k = 263 ∨ k = 264 ∨ k = 265 ∨ k = 266) s0 s_62) → (IC s_62) → (IS s_62) → (IQ s_62) → (s_62 1 1 = s0 1 1) → ((zOw (zYc s0 d) i2_23 ∧ t0_62 = zvF K9 q9 (zYc s0 d) 118 3 i2_23) ∨ (¬ zOw (zYc s0 d) i2_23 ∧ t0_62 = -1)) → (s_62 264 = s_23 264 ∧ s_62 263 = xud (s_23 263) i2_23 (-1) ∧ s_62 262 = s_23 262) → xW D g h0 s H locs s_62 → lv_has ls 4 [(0, .ref (h0 + 261)), (1, .ref (h0 + d)), (2, .int (xJ i2_23))] → W p l e { frames := 5, cells := 0, slots := 0, locals := 123 } s m args below meth c H locs 0 0 Q (F0 m 62 ls [.int (xJ t0_62), .int (xJ i2_23), .ref (h0 + 262)]) := by
              intro t0_62 s_62 H locs ls rt0_62 hF_62 q62_0 q62_1 q62_2 q62_3 v62_0 v62_1 hW hl
              refine x_iast hx hb hE hW (by decide) (fun σ => sa_262 h0 g σ) (by omega) (by decide) rt0_62 dX1_most_62 (fun H locs s23 es23 hW => ?_)
              have q24 : IC s23 := by rw [es23]; exact IC_o (by decide) q62_0
              have q25 : IS s23 := by rw [es23]; exact IS_o (by unfold suIS; first | decide | omega) q62_1
              have q26 : IQ s23 := by rw [es23]; exact IQ_o (by unfold suIQ; first | decide | omega) q62_2
              have q27 : s23 1 1 = s0 1 1 := (show s23 1 1 = s_62 1 1 from by rw [es23, xU_k _ _ _ (by first | decide | omega)]).trans q62_3
              have hF28 := hF_62.put es23 (by omega)
              have E62 := es23
              refine x_iinc (lv' := [(2, .int (xJ (i2_23 + 1))), (0, .ref (h0 + 261)), (1, .ref (h0 + d))]) hx hb hl 2 rfl dX1_most_63 (by decide) rfl (fun ls hl => ?_)
              refine lv_goto (tgt := 23) hx hb dX1_most_66 (by decide) ?_
              exact ih23 (i2_23 + 1) s23 H locs ls (by omega) hF28 q24 q25 q26 q27 (by omega) (fun k k1 k2 => by rw [E62, xU_k _ _ _ (by first | decide | omega), v62_1.1]; exact v23_1 k k1 k2) (fun f f1 f2 => by
                  rw [E62, xU_k _ _ _ (by first | decide | omega), v62_1.2.1]
                  by_cases h : f = i2_23
                  · rw [h, xud_s]
                  · rw [xud_o _ _ h]; exact v23_2 f f1 (by omega)) (fun f f1 f2 => by
                  rw [E62, xU_xud]
                  by_cases h : f = i2_23
                  · rw [h, xud_s]; exact v62_0
                  · rw [xud_o _ _ h, v62_1.2.2]; exact v23_3 f f1 (by omega)) (by have hm := hm_23 (); omega) hW (lv_sub hl [1, 2, 0] rfl)
            refine x_if_eq (tgt := 61) hx hb rx20 dX1_most_46 (by decide) (fun c29 => ?_) (fun c29 => ?_)
            · skip
              refine x_iconst hx hb dX1_most_61 ?_
              exact J62 (-1) s14 H locs ls (by decide) hF19 q15 q16 q17 q18 (by first | exact Or.inl ⟨W43, H55⟩ | exact Or.inr ⟨W43n (by omega), rfl⟩) (by first | exact N34 | (rw [fs14 264 (by first | decide | omega), fs14 263 (by first | decide | omega), fs14 262 (by first | decide | omega)]; exact N34)) hW (lv_sub hl [0, 1, 2] rfl)
            refine x_aload_n hx hb hl 0 rfl dX1_most_49 rfl ?_
            have W43 := W43 (by omega)
            refine x_get (j := 0) (v := .ref (h0 + 128)) hx hb hown hT hE hW cls_X1 (Or.inl (by decide)) (so_261 h0 g _) (by decide) rfl wq493 dX1_most_50 ?_
            refine x_aload_n hx hb hl 1 rfl dX1_most_53 rfl ?_
            refine x_iload_n hx hb hl 2 rfl dX1_most_54 rfl ?_
            refine x_goi (x_runVN (As := [.ref (h0 + d), .int (xJ i2_23)]) hx hb hml hown hT hE hW hl.1 (Or.inl (by decide)) (so_128 h0 g _) rfl cf_X0_reachOf wq879 wq57 wn960 (c_X0_reachOfF l D g T h0 s14 hW.2.1 d hd i2_23 ri2_23 q9 K9 (hok) (by first | exact hlc | exact hlc.f (fun k hk => hF19 k (by omega))) (by omega) (by first | exact hK | exact fun t t1 t2 => by rw [hF19 4 (by first | decide | omega)]; exact hK t t1 t2) (by first | exact hfr | exact fun i i1 i2 => by rw [hF19 _ (by omega)]; exact hfr i i1 i2) (by have y := (zOw_c (by omega)).mp W43; rw [hF19 _ (by omega)]; exact y.1) q15) ⟨rfl, rfl, ⟨by decide, by decide⟩, ⟨by decide, by decide⟩⟩ rfl rfl (Nat.le_of_ble_eq_true rfl) dX1_most_55) hW (fun x30 s31 H locs rx30 hp32 hW => ?_)
            obtain ⟨fs31, hp32⟩ := hp32
            have hF33 := hF19.call fs31 (fun k h => by omega)
            have q34 : IS s31 := IS_f (fun k hk => fs31 k (by unfold suIS at hk; omega)) q16
            have q35 : IQ s31 := IQ_f (fun k hk => fs31 k (by unfold suIQ at hk; omega)) q17
            have q36 : s31 1 1 = s0 1 1 := (congrFun (fs31 _ (by omega)) _).trans q18
            have ghp32 := hp32.2
            have H55 := ghp32
            rw [show zYc s14 d = (zYc s0 d) from Y43] at H55
            refine lv_goto (tgt := 62) hx hb dX1_most_58 (by decide) ?_
            exact J62 x30 s31 H locs ls rx30 hF33 hp32.1.1 q34 q35 q36 (by first | exact Or.inl ⟨W43, H55⟩ | exact Or.inr ⟨W43n (by omega), rfl⟩) (by first | exact N34 | (rw [fs31 264 (by first | decide | omega), fs31 263 (by first | decide | omega), fs31 262 (by first | decide | omega)]; exact N34)) hW (lv_sub hl [0, 1, 2] rfl)
        exact L23 ((11 - 0 : Int).toNat + 1) 0 s_2 H locs ls (by decide) hF_2 q2_0 q2_1 q2_2 q2_3 (by omega) (fun k k1 k2 => v2_1 k k1 (by omega)) (fun f f1 f2 => absurd f2 (by omega)) (fun f f1 f2 => absurd f2 (by omega)) (Nat.lt_succ_self _) hW (lv_sub hl [1, 2, 0] rfl)
      refine x_aload_n hx hb hl 0 rfl dX1_most_8 rfl ?_
      refine x_get (j := 3) (v := .ref (h0 + 264)) hx hb hown hT hE hW cls_X1 (Or.inl (by decide)) (so_261 h0 g _) (by decide) rfl wq496 dX1_most_9 ?_
      refine x_iload_n hx hb hl 2 rfl dX1_most_12 rfl ?_
      refine x_iconst hx hb dX1_most_13 ?_
      refine x_iast hx hb hE hW (by decide) (fun σ => sa_264 h0 g σ) (by omega) (by decide) (by decide) dX1_most_14 (fun H locs s37 es37 hW => ?_)
      have q38 : IC s37 := by rw [es37]; exact IC_o (by decide) q2_0
      have q39 : IS s37 := by rw [es37]; exact IS_o (by unfold suIS; first | decide | omega) q2_1
      have q40 : IQ s37 := by rw [es37]; exact IQ_o (by unfold suIQ; first | decide | omega) q2_2
      have q41 : s37 1 1 = s0 1 1 := (show s37 1 1 = s_2 1 1 from by rw [es37, xU_k _ _ _ (by first | decide | omega)]).trans q2_3
      have hF42 := hF_2.put es37 (by omega)
      have E14 := es37
      refine x_iinc (lv' := [(2, .int (xJ (i2_2 + 1))), (0, .ref (h0 + 261)), (1, .ref (h0 + d))]) hx hb hl 2 rfl dX1_most_15 (by decide) rfl (fun ls hl => ?_)
      refine lv_goto (tgt := 2) hx hb dX1_most_18 (by decide) ?_
      exact ih2 (i2_2 + 1) s37 H locs ls (by omega) hF42 q38 q39 q40 q41 (by omega) (fun k k1 k2 => by
            rw [E14, xU_xud]
            by_cases h : k = i2_2
            · rw [h, xud_s]
            · rw [xud_o _ _ h]; exact v2_1 k k1 (by omega)) (by have hm := hm_2 (); omega) hW (lv_sub hl [1, 2, 0] rfl)
  exact L2 ((101 - 0 : Int).toNat + 1) 0 s0 H locs ls (by decide) hF p0 p1 p2 k1_1 (by omega) (fun k k1 k2 => absurd k2 (by omega)) (Nat.lt_succ_self _) hW (lv_sub hl [1, 2, 0] rfl)
set_option maxHeartbeats 4000000 in
set_option maxRecDepth 100000 in
theorem c_X10_atOnceP (l : Launch) (D : va_G) (g : xG) (T : Nat × Nat × Nat) (h0 : Nat) (s0 : xS) (hσ : xRR s0) (n : Int) (rn : xR n) (K9 : Int → Int) (n9 : Int → Int) (w9 : Int → Int → Int) (q9 : zLaw) (l9 : Int → Int) (hok : zLok q9) (hlc : zLD s0 q9) (hK : ∀ t : Int, 0 ≤ t → t < 100 → s0 4 t = K9 t) (hlm : ∀ i : Int, 0 ≤ i → i < 4 → s0 129 i = l9 i ∧ (l9 i = -1 ∨ (0 ≤ l9 i ∧ l9 i < 100))) (hw : zWc s0 136 n9 w9) (hY : zYq (zYc s0 136)) (hok4 : zok (zY4 (zYc s0 136))) (p0 : IC s0) (p1 : IS s0) (p2 : IQ s0) : Met l yX10_atOnce (xws yX10_atOnce cX10_atOnce 2 (some .int)) { frames := 6, cells := 0, slots := 0, locals := 146 } (xP [.ref (h0 + 0), .int (xJ n)] D g T h0 s0) (xQi D g h0 (fun r τ => xFr (fun k => (7 ≤ k ∧ k < 107) ∨ k = 107 ∨ k = 115 ∨ k = 116 ∨ k = 130 ∨ k = 131 ∨ k = 132 ∨ k = 133 ∨ k = 262 ∨ k = 263 ∨ k = 264 ∨ k = 265 ∨ k = 266) s0 τ ∧ (((IC τ) ∧ (IS τ) ∧ (IQ τ) ∧ True) ∧ (((0 ≤ n ∧ n ≤ 2) ∧ (n = 1 → r = zsu (fun t => if zLy K9 q9 l9 (zYc s0 136 44) (zYc s0 136) 1 (zni q9 (zYc s0 136 44)) t ≠ 0 then 1 else 0) 100) ∧ (n = 2 → r = zsu (fun t => if 1 < zLy K9 q9 l9 (zYc s0 136 44) (zYc s0 136) 1 (zni q9 (zYc s0 136 44)) t then 1 else 0) 100) ∧ (n = 0 → zIm (zAt K9 q9 (fun t => zLy K9 q9 l9 (zYc s0 136 44) (zYc s0 136) 1 (zni q9 (zYc s0 136 44)) t) (zYc s0 136)) r)) ∨ (¬ (0 ≤ n ∧ n ≤ 2) ∧ r = -1))))) 0 0 (xA h0) := by
  refine x_met hσ (by decide) (Nat.le_of_ble_eq_true rfl) ?_
  intro p e s m args below meth c hx hb hr hml hown hT hlk hnm hE hW ls hl
  have hl : lv_has ls 2 [(0, .ref (h0 + 0)), (1, .int (xJ n))] := hl
  obtain ⟨Q, eQ⟩ : ∃ Q, Q = MQ below (xQi D g h0 (fun r τ => xFr (fun k => (7 ≤ k ∧ k < 107) ∨ k = 107 ∨ k = 115 ∨ k = 116 ∨ k = 130 ∨ k = 131 ∨ k = 132 ∨ k = 133 ∨ k = 262 ∨ k = 263 ∨ k = 264 ∨ k = 265 ∨ k = 266) s0 τ ∧ (((IC τ) ∧ (IS τ) ∧ (IQ τ) ∧ True) ∧ (((0 ≤ n ∧ n ≤ 2) ∧ (n = 1 → r = zsu (fun t => if zLy K9 q9 l9 (zYc s0 136 44) (zYc s0 136) 1 (zni q9 (zYc s0 136 44)) t ≠ 0 then 1 else 0) 100) ∧ (n = 2 → r = zsu (fun t => if 1 < zLy K9 q9 l9 (zYc s0 136 44) (zYc s0 136) 1 (zni q9 (zYc s0 136 44)) t then 1 else 0) 100) ∧ (n = 0 → zIm (zAt K9 q9 (fun t => zLy K9 q9 l9 (zYc s0 136 44) (zYc s0 136) 1 (zni q9 (zYc s0 136 44)) t) (zYc s0 136)) r)) ∨ (¬ (0 ≤ n ∧ n ≤ 2) ∧ r = -1))))) args s 0 0 (xA h0) := ⟨_, rfl⟩
  rw [← eQ]
  generalize hHe : ([] : List Loc) = locs at hW ⊢
  obtain ⟨H, eH⟩ : ∃ H, H = s.heap := ⟨_, rfl⟩
  rw [← eH] at hW ⊢
  have hF : xFr (fun k => (7 ≤ k ∧ k < 107) ∨ k = 107 ∨ k = 115 ∨ k = 116 ∨ k = 130 ∨ k = 131 ∨ k = 132 ∨ k = 133 ∨ k = 262 ∨ k = 263 ∨ k = 264 ∨ k = 265 ∨ k = 266) s0 s0 := xFr.rf
  have k1_1 : s0 1 1 = s0 1 1 := rfl
  refine x_iload_n hx hb hl 1 rfl dX10_atOnce_0 rfl ?_
  refine x_iconst hx hb dX10_atOnce_1 ?_
  refine x_iconst hx hb dX10_atOnce_2 ?_
  refine x_goi (x_runS (As := [.int (xJ n), .int (xJ 0), .int (xJ 2)]) hx hb hml hown hT hE hW hl.1 cf_X10_isIn wq562 wq561 (c_X10_isIn l D g T h0 s0 hW.2.1 n rn 0 (by decide) 2 (by decide)) ⟨rfl, rfl, ⟨by decide, by decide⟩, ⟨by decide, by decide⟩⟩ rfl rfl (Nat.le_of_ble_eq_true rfl) dX10_atOnce_3) hW (fun x1 s2 H locs rx1 hp3 hW => ?_)
  obtain ⟨es2, hp3⟩ := hp3
  subst es2
  have ghp3 := hp3
  refine x_if_ne (tgt := 11) hx hb rx1 dX10_atOnce_6 (by decide) (fun c4 => ?_) (fun c4 => ?_)
  · skip
    refine x_aload_n hx hb hl 0 rfl dX10_atOnce_11 rfl ?_
    refine x_get (j := 5) (v := .ref (h0 + 128)) hx hb hown hT hE hW cls_X10 (Or.inl (by decide)) (so_0 h0 g _) (by decide) rfl wq517 dX10_atOnce_12 ?_
    refine x_aload_n hx hb hl 0 rfl dX10_atOnce_15 rfl ?_
    refine x_get (j := 8) (v := .ref (h0 + 136)) hx hb hown hT hE hW cls_X10 (Or.inl (by decide)) (so_0 h0 g _) (by decide) rfl wq520 dX10_atOnce_16 ?_
    refine x_gov (x_runVN (As := [.ref (h0 + 136)]) hx hb hml hown hT hE hW hl.1 (Or.inl (by decide)) (so_128 h0 g _) rfl cf_X0_castCloudless wq943 wq69 wn954 (c_X0_castCloudlessF l D g T h0 s0 hW.2.1 136 xd_136 q9 K9 l9 (hok) (by first | exact hlc | exact hlc.f (fun k hk => hF k (by omega))) (by first | exact hK | exact fun t t1 t2 => by rw [hF 4 (by omega)]; exact hK t t1 t2) (by first | exact hlm | exact fun i i1 i2 => by rw [hF 129 (by omega)]; exact hlm i i1 i2) (fun j j1 j2 => by
      have a := zok_j hok4 j j1 j2
      have b : zYc s0 136 j = s0 (136 + 1) j := zYc_J ⟨j1, j2⟩
      omega) p0 p1) ⟨rfl, rfl, ⟨by decide, by decide⟩, ⟨by decide, by decide⟩⟩ rfl rfl (Nat.le_of_ble_eq_true rfl) dX10_atOnce_19) hW (fun s6 H locs hp7 hW => ?_)
    obtain ⟨fs6, hp7⟩ := hp7
    have hF8 := hF.call fs6 (fun k h => by omega)
    have q10 : IQ s6 := IQ_f (fun k hk => fs6 k (by unfold suIQ at hk; omega)) p2
    have q11 : s6 1 1 = s0 1 1 := (congrFun (fs6 _ (by omega)) _).trans k1_1
    have ghp7 := hp7.2
    have H19 := ghp7
    have L19 : ∀ t : Int, 0 ≤ t → t < 100 → s6 131 t = zLy K9 q9 l9 (zYc s0 136 44) (zYc s0 136) 1 (zni q9 (zYc s0 136 44)) t := fun t t1 t2 => by
      rw [H19.2.2 t t1 t2, zLy_J (J := zYc s0 136) (show s0 137 0 = zYc s0 136 0 from (zYc_J ⟨by decide, by decide⟩).symm) (show s0 137 1 = zYc s0 136 1 from (zYc_J ⟨by decide, by decide⟩).symm), zYc_44]
    have f19o := fs6
    refine x_iload_n hx hb hl 1 rfl dX10_atOnce_22 rfl ?_
    refine x_if_ne (tgt := 38) hx hb rn dX10_atOnce_23 (by decide) (fun c12 => ?_) (fun c12 => ?_)
    · skip
      refine x_iload_n hx hb hl 1 rfl dX10_atOnce_38 rfl ?_
      refine x_iconst hx hb dX10_atOnce_39 ?_
      refine x_icmp_ne (tgt := 56) hx hb rn (by decide) dX10_atOnce_40 (by decide) (fun c13 => ?_) (fun c13 => ?_)
      · skip
        refine x_aload_n hx hb hl 0 rfl dX10_atOnce_56 rfl ?_
        refine x_get (j := 5) (v := .ref (h0 + 128)) hx hb hown hT hE hW cls_X10 (Or.inl (by decide)) (so_0 h0 g _) (by decide) rfl wq517 dX10_atOnce_57 ?_
        refine x_getN (j := 3) (v := .ref (h0 + 130)) hx hb hown hT hE hW cls_X0 (Or.inl (by decide)) (so_128 h0 g _) (by decide) rfl wn360 dX10_atOnce_60 ?_
        refine x_goi (x_runVN (As := []) hx hb hml hown hT hE hW hl.1 (Or.inl (by decide)) (so_130 h0 g _) rfl cf_X7_howManyInMore wq978 wq74 wn976 (c_X7_howManyInMoreF l D g T h0 s6 hW.2.1 (H19.1) hp7.1.1) ⟨rfl, rfl, ⟨by decide, by decide⟩, ⟨by decide, by decide⟩⟩ rfl rfl (Nat.le_of_ble_eq_true rfl) dX10_atOnce_63) hW (fun x14 s15 H locs rx14 hp16 hW => ?_)
        obtain ⟨es15, hp16⟩ := hp16
        subst es15
        have ghp16 := hp16
        have H63 := ghp16
        rw [eQ]
        exact x_iret hx hb hr hlk hW rx14 ⟨hF8, ⟨hp7.1.1, hp7.1.2.1, q10, trivial⟩, by
            first
              | exact Or.inl ⟨by omega, fun z => by
                  have e := H19.1.size
                  rw [zsu_c (g := fun t => if zLy K9 q9 l9 (zYc s0 136 44) (zYc s0 136) 1 (zni q9 (zYc s0 136 44)) t ≠ 0 then 1 else 0) (fun t t1 t2 => by show (if _ ≠ 0 then (1 : Int) else 0) = (if _ ≠ 0 then (1 : Int) else 0); rw [L19 t t1 t2])] at e
                  omega, fun z => absurd z (by omega), fun z => absurd z (by omega)⟩
              | exact Or.inl ⟨by omega, fun z => absurd z (by omega), fun z => by
                  rw [H63]
                  exact zsu_c (fun t t1 t2 => by show (if _ then (1 : Int) else 0) = (if _ then (1 : Int) else 0); rw [L19 t t1 t2]), fun z => absurd z (by omega)⟩⟩ dX10_atOnce_66
      refine x_aload_n hx hb hl 0 rfl dX10_atOnce_43 rfl ?_
      refine x_get (j := 5) (v := .ref (h0 + 128)) hx hb hown hT hE hW cls_X10 (Or.inl (by decide)) (so_0 h0 g _) (by decide) rfl wq517 dX10_atOnce_44 ?_
      refine x_getN (j := 3) (v := .ref (h0 + 130)) hx hb hown hT hE hW cls_X0 (Or.inl (by decide)) (so_128 h0 g _) (by decide) rfl wn360 dX10_atOnce_47 ?_
      refine x_getN (j := 3) (v := .int (xJ (s6 130 3))) hx hb hown hT hE hW cls_X7 (Or.inl (by decide)) (so_130 h0 g _) (by decide) rfl wn341 dX10_atOnce_50 ?_
      refine x_rd hW (fun x17 ex17 rx17 => ?_)
      have bx17 : 0 ≤ x17 ∧ x17 ≤ 100 := by rw [ex17]; exact IC.z hp7.1.1
      refine lv_goto (tgt := 66) hx hb dX10_atOnce_53 (by decide) ?_
      rw [eQ]
      exact x_iret hx hb hr hlk hW rx17 ⟨hF8, ⟨hp7.1.1, hp7.1.2.1, q10, trivial⟩, by
          first
            | exact Or.inl ⟨by omega, fun z => by
                have e := H19.1.size
                rw [zsu_c (g := fun t => if zLy K9 q9 l9 (zYc s0 136 44) (zYc s0 136) 1 (zni q9 (zYc s0 136 44)) t ≠ 0 then 1 else 0) (fun t t1 t2 => by show (if _ ≠ 0 then (1 : Int) else 0) = (if _ ≠ 0 then (1 : Int) else 0); rw [L19 t t1 t2])] at e
                omega, fun z => absurd z (by omega), fun z => absurd z (by omega)⟩
            | exact Or.inl ⟨by omega, fun z => absurd z (by omega), fun z => by
                rw [H63]
                exact zsu_c (fun t t1 t2 => by show (if _ then (1 : Int) else 0) = (if _ then (1 : Int) else 0); rw [L19 t t1 t2]), fun z => absurd z (by omega)⟩⟩ dX10_atOnce_66
    refine x_aload_n hx hb hl 0 rfl dX10_atOnce_26 rfl ?_
    refine x_get (j := 7) (v := .ref (h0 + 261)) hx hb hown hT hE hW cls_X10 (Or.inl (by decide)) (so_0 h0 g _) (by decide) rfl wq519 dX10_atOnce_27 ?_
    refine x_aload_n hx hb hl 0 rfl dX10_atOnce_30 rfl ?_
    refine x_get (j := 8) (v := .ref (h0 + 136)) hx hb hown hT hE hW cls_X10 (Or.inl (by decide)) (so_0 h0 g _) (by decide) rfl wq520 dX10_atOnce_31 ?_
    refine x_goi (x_runVN (As := [.ref (h0 + 136)]) hx hb hml hown hT hE hW hl.1 (Or.inl (by decide)) (so_261 h0 g _) rfl cf_X1_most wq957 wq70 wn955 (c_X1_mostP l D g T h0 s6 hW.2.1 136 xd_136 q9 K9 (hok) (by first | exact hlc | exact hlc.f (fun k hk => hF8 k (by omega))) (by first | exact hK | exact fun t t1 t2 => by rw [hF8 4 (by first | decide | omega)]; exact hK t t1 t2) (fun i i1 i2 => by
      have a := (hY i i1 i2).1
      have b : zYc s0 136 (4 + i) = s0 (136 + 6) i := zYc_F ⟨i1, i2⟩
      rw [hF8 (136 + 6) (by omega)]
      omega) hp7.1.1 hp7.1.2.1 q10) ⟨rfl, rfl, ⟨by decide, by decide⟩, ⟨by decide, by decide⟩⟩ rfl rfl (Nat.le_of_ble_eq_true rfl) dX10_atOnce_34) hW (fun x18 s19 H locs rx18 hp20 hW => ?_)
    obtain ⟨fs19, hp20⟩ := hp20
    have hF21 := hF8.call fs19 (fun k h => by omega)
    have q22 : s19 1 1 = s0 1 1 := (congrFun (fs19 _ (by omega)) _).trans q11
    have ghp20 := hp20.2
    have H34 : zIm (zAt K9 q9 (fun t => zLy K9 q9 l9 (zYc s0 136 44) (zYc s0 136) 1 (zni q9 (zYc s0 136 44)) t) (zYc s0 136)) x18 := by
      have e := ghp20
      rw [show zYc s6 136 = (zYc s0 136) from zYc_f (fun o ho => f19o (136 + o) (by omega))] at e
      exact zIm_c (fun f k _ _ k1 k2 => by unfold zAt; rw [L19 k k1 k2]) e
    rw [eQ]
    exact x_iret hx hb hr hlk hW rx18 ⟨hF21, ⟨hp20.1.1, hp20.1.2.1, hp20.1.2.2.1, trivial⟩, Or.inl ⟨by omega, fun z => absurd z (by omega), fun z => absurd z (by omega), fun _ => H34⟩⟩ dX10_atOnce_37
  refine x_iconst hx hb dX10_atOnce_9 ?_
  rw [eQ]
  exact x_iret hx hb hr hlk hW (by decide) ⟨hF, ⟨p0, p1, p2, trivial⟩, Or.inr ⟨by omega, by omega⟩⟩ dX10_atOnce_10

/-! ===== sets that can stand, spot by spot ===== -/
def zbit (T f : Int) : Prop := xsh T f % 2 = 1
def zMb (A : Int → Int → Prop) (k T : Int) : Prop := ∃ mu : Int → Int, (∀ f : Int, 0 ≤ f → f < 10 → zbit T f → (0 ≤ mu f ∧ mu f < k) ∧ A f (mu f)) ∧ ∀ f g : Int, 0 ≤ f → f < 10 → 0 ≤ g → g < 10 → zbit T f → zbit T g → mu f = mu g → f = g
section MB
variable {A : Int → Int → Prop} {k T f : Int}
theorem zbit_n (hT : 0 ≤ T ∧ T < 1024) (hf : 0 ≤ f ∧ f < 10) : ¬ zbit (zbn T f) f := fun q => by
  have z := (zbn_s hT hf).2
  unfold zbit at q
  omega
theorem zbit_o {g : Int} (hf : 0 ≤ f ∧ f < 10) (hg : 0 ≤ g ∧ g < 10) (h : g ≠ f) : zbit (zbn T f) g ↔ zbit T g := by
  unfold zbit
  rw [(zbo_o (a := T) hf hg h).2]
theorem zMb_0 (h : ∀ f : Int, 0 ≤ f → f < 10 → ¬ zbit T f) : zMb A k T := ⟨fun _ => 0, fun f f1 f2 q => absurd q (h f f1 f2), fun f g f1 f2 _ _ q _ _ => absurd q (h f f1 f2)⟩
theorem zMb_m (h : zMb A k T) : zMb A (k + 1) T := by
  obtain ⟨mu, h1, h2⟩ := h
  exact ⟨mu, fun f f1 f2 q => by have z := h1 f f1 f2 q; exact ⟨⟨z.1.1, by omega⟩, z.2⟩, h2⟩
theorem zMb_a (hk : 0 ≤ k) (hT : 0 ≤ T ∧ T < 1024) (hf : 0 ≤ f ∧ f < 10) (ha : A f k) (h : zMb A k (zbn T f)) : zMb A (k + 1) T := by
  obtain ⟨mu, h1, h2⟩ := h
  refine ⟨xud mu f k, fun g g1 g2 q => ?_, fun g e g1 g2 e1 e2 q1 q2 h3 => ?_⟩
  · by_cases c : g = f
    · rw [c, xud_s]; exact ⟨⟨hk, by omega⟩, ha⟩
    · rw [xud_o _ _ c]
      have z := h1 g g1 g2 ((zbit_o hf ⟨g1, g2⟩ c).mpr q)
      exact ⟨⟨z.1.1, by omega⟩, z.2⟩
  · by_cases c : g = f
    · by_cases c2 : e = f
      · rw [c, c2]
      · rw [c, xud_s, xud_o _ _ c2] at h3
        have z := h1 e e1 e2 ((zbit_o hf ⟨e1, e2⟩ c2).mpr q2)
        omega
    · rw [xud_o _ _ c] at h3
      have z := h1 g g1 g2 ((zbit_o hf ⟨g1, g2⟩ c).mpr q1)
      by_cases c2 : e = f
      · rw [c2, xud_s] at h3
        omega
      · rw [xud_o _ _ c2] at h3
        exact h2 g e g1 g2 e1 e2 ((zbit_o hf ⟨g1, g2⟩ c).mpr q1) ((zbit_o hf ⟨e1, e2⟩ c2).mpr q2) h3
theorem zMb_s (hk : 0 ≤ k) (hT : 0 ≤ T ∧ T < 1024) : zMb A (k + 1) T ↔ zMb A k T ∨ ∃ f : Int, (0 ≤ f ∧ f < 10) ∧ A f k ∧ zbit T f ∧ zMb A k (zbn T f) := by
  constructor
  · intro h
    obtain ⟨mu, h1, h2⟩ := h
    by_cases c : ∃ f : Int, (0 ≤ f ∧ f < 10) ∧ zbit T f ∧ mu f = k
    · obtain ⟨f, f1, f2, f3⟩ := c
      refine Or.inr ⟨f, f1, by have z := (h1 f f1.1 f1.2 f2).2; rw [f3] at z; exact z, f2, mu, fun g g1 g2 q => ?_, fun g e g1 g2 e1 e2 q1 q2 h3 => ?_⟩
      · have n : g ≠ f := fun e => zbit_n hT f1 (e ▸ q)
        have b := (zbit_o f1 ⟨g1, g2⟩ n).mp q
        have z := h1 g g1 g2 b
        have ne : mu g ≠ k := fun e => n (h2 g f g1 g2 f1.1 f1.2 b f2 (e.trans f3.symm))
        exact ⟨⟨z.1.1, by omega⟩, z.2⟩
      · have n1 : g ≠ f := fun e => zbit_n hT f1 (e ▸ q1)
        have n2 : e ≠ f := fun e => zbit_n hT f1 (e ▸ q2)
        exact h2 g e g1 g2 e1 e2 ((zbit_o f1 ⟨g1, g2⟩ n1).mp q1) ((zbit_o f1 ⟨e1, e2⟩ n2).mp q2) h3
    · refine Or.inl ⟨mu, fun f f1 f2 q => ?_, h2⟩
      have z := h1 f f1 f2 q
      have ne : mu f ≠ k := fun e => c ⟨f, ⟨f1, f2⟩, q, e⟩
      exact ⟨⟨z.1.1, by omega⟩, z.2⟩
  · rintro (h | ⟨f, f1, f2, f3, f4⟩)
    · exact zMb_m h
    · exact zMb_a hk hT f1 f2 f4
/-- in the midst of spot k: sets from s on (down) have had their turn, of s itself those ahead of g -/
def zMk2 (A : Int → Int → Prop) (k s g T : Int) : Prop := zMb A k T ∨ ∃ f : Int, (0 ≤ f ∧ f < 10) ∧ A f k ∧ zbit T f ∧ zMb A k (zbn T f) ∧ (s < zbn T f ∨ (zbn T f = s ∧ f < g))
theorem zbn_lt (hT : 0 ≤ T ∧ T < 1024) (hf : 0 ≤ f ∧ f < 10) (h : zbit T f) : zbn T f < T := by
  have y : xsh T f % 2 = 1 := h
  rw [xsh_z hf] at y
  unfold zbn
  rw [if_pos y]
  have p : 1 ≤ zp2 f := by
    unfold zp2
    (repeat' split) <;> omega
  omega
end MB
/-! ===== the other side's sets ===== -/
theorem zbo_n {T s g : Int} (hT : 0 ≤ T ∧ T < 1024) (hs : 0 ≤ s ∧ s < 1024) (hg : 0 ≤ g ∧ g < 10) : (zbit T g ∧ zbn T g = s) ↔ (¬ zbit s g ∧ T = zbo s g) := by
  unfold zbit
  rw [xsh_z hg, xsh_z hg]
  unfold zbo zbn
  rcases (by omega : g = 0 ∨ g = 1 ∨ g = 2 ∨ g = 3 ∨ g = 4 ∨ g = 5 ∨ g = 6 ∨ g = 7 ∨ g = 8 ∨ g = 9) with rfl | rfl | rfl | rfl | rfl | rfl | rfl | rfl | rfl | rfl
  · rw [show zp2 0 = 1 from by decide]; split <;> split <;> constructor <;> omega
  · rw [show zp2 1 = 2 from by decide]; split <;> split <;> constructor <;> omega
  · rw [show zp2 2 = 4 from by decide]; split <;> split <;> constructor <;> omega
  · rw [show zp2 3 = 8 from by decide]; split <;> split <;> constructor <;> omega
  · rw [show zp2 4 = 16 from by decide]; split <;> split <;> constructor <;> omega
  · rw [show zp2 5 = 32 from by decide]; split <;> split <;> constructor <;> omega
  · rw [show zp2 6 = 64 from by decide]; split <;> split <;> constructor <;> omega
  · rw [show zp2 7 = 128 from by decide]; split <;> split <;> constructor <;> omega
  · rw [show zp2 8 = 256 from by decide]; split <;> split <;> constructor <;> omega
  · rw [show zp2 9 = 512 from by decide]; split <;> split <;> constructor <;> omega
theorem zbit_0 {f : Int} (hf : 0 ≤ f ∧ f < 10) : ¬ zbit 0 f := by
  unfold zbit
  rw [xsh_z hf, Int.zero_ediv]
  decide
section MK
variable {A : Int → Int → Prop} {k T s g : Int} {C C2 : Int → Int} {P Q : Int → Prop}
theorem zMk2_0 (hT : 0 ≤ T ∧ T < 1024) : zMk2 A k 1023 0 T ↔ zMb A k T := by
  constructor
  · rintro (h | ⟨f, f1, _, _, _, h⟩)
    · exact h
    · have z := (zbn_s hT f1).1
      omega
  · exact Or.inl
theorem zMk2_e (hk : 0 ≤ k) (hT : 0 ≤ T ∧ T < 1024) : zMk2 A k (-1) 0 T ↔ zMb A (k + 1) T := by
  rw [zMb_s hk hT]
  constructor
  · rintro (h | ⟨f, f1, f2, f3, f4, _⟩)
    · exact Or.inl h
    · exact Or.inr ⟨f, f1, f2, f3, f4⟩
  · rintro (h | ⟨f, f1, f2, f3, f4⟩)
    · exact Or.inl h
    · exact Or.inr ⟨f, f1, f2, f3, f4, Or.inl (by have z := (zbn_s hT f1).1; omega)⟩
theorem zMk2_d : zMk2 A k s 10 T ↔ zMk2 A k (s - 1) 0 T := by
  constructor
  · rintro (h | ⟨f, f1, f2, f3, f4, h⟩)
    · exact Or.inl h
    · exact Or.inr ⟨f, f1, f2, f3, f4, by omega⟩
  · rintro (h | ⟨f, f1, f2, f3, f4, h⟩)
    · exact Or.inl h
    · exact Or.inr ⟨f, f1, f2, f3, f4, by omega⟩
theorem zMk2_n (hs : ¬ zMb A k s) : zMk2 A k s g T ↔ zMk2 A k (s - 1) 0 T := by
  constructor
  · rintro (h | ⟨f, f1, f2, f3, f4, h⟩)
    · exact Or.inl h
    · by_cases e : zbn T f = s
      · exact absurd (e ▸ f4) hs
      · exact Or.inr ⟨f, f1, f2, f3, f4, by omega⟩
  · rintro (h | ⟨f, f1, f2, f3, f4, h⟩)
    · exact Or.inl h
    · by_cases e : zbn T f = s
      · exact absurd (e ▸ f4) hs
      · exact Or.inr ⟨f, f1, f2, f3, f4, by omega⟩
theorem zMk2_s (hT : 0 ≤ T ∧ T < 1024) (hs : 0 ≤ s ∧ s < 1024) (hg : 0 ≤ g ∧ g < 10) : zMk2 A k s (g + 1) T ↔ zMk2 A k s g T ∨ (A g k ∧ ¬ zbit s g ∧ zMb A k s ∧ T = zbo s g) := by
  constructor
  · rintro (h | ⟨f, f1, f2, f3, f4, h⟩)
    · exact Or.inl (Or.inl h)
    · by_cases e : f = g ∧ zbn T f = s
      · obtain ⟨e1, e2⟩ := e
        rw [e1] at f2 f3 f4 e2
        have y := (zbo_n hT hs hg).mp ⟨f3, e2⟩
        rw [e2] at f4
        exact Or.inr ⟨f2, y.1, f4, y.2⟩
      · exact Or.inl (Or.inr ⟨f, f1, f2, f3, f4, by omega⟩)
  · rintro ((h | ⟨f, f1, f2, f3, f4, h⟩) | ⟨a, b, c, d⟩)
    · exact Or.inl h
    · exact Or.inr ⟨f, f1, f2, f3, f4, by omega⟩
    · have y := (zbo_n hT hs hg).mpr ⟨b, d⟩
      exact Or.inr ⟨g, hg, a, y.1, by rw [y.2]; exact c, Or.inr ⟨y.2, by omega⟩⟩
theorem zMk2_t (hs : 0 ≤ s ∧ s < 1024) : zMk2 A k s g s ↔ zMb A k s := by
  constructor
  · rintro (h | ⟨f, f1, _, f3, _, h⟩)
    · exact h
    · have z := zbn_lt hs f1 f3
      omega
  · exact Or.inl
def zCs (C : Int → Int) (P : Int → Prop) : Prop := ∀ T : Int, 0 ≤ T → T < 1024 → (C T = 1 ∧ P T) ∨ (C T = 0 ∧ ¬ P T)
theorem zCs_c (H : zCs C P) (h : ∀ T : Int, 0 ≤ T → T < 1024 → (P T ↔ Q T)) : zCs C Q := fun T T1 T2 => by
  rcases H T T1 T2 with ⟨a, b⟩ | ⟨a, b⟩
  · exact Or.inl ⟨a, (h T T1 T2).mp b⟩
  · exact Or.inr ⟨a, fun q => b ((h T T1 T2).mpr q)⟩
theorem zCs_s (H : zCs C (zMk2 A k s g)) (hs : 0 ≤ s ∧ s < 1024) (hg : 0 ≤ g ∧ g < 10) (h1 : A g k) (h2 : ¬ zbit s g) (h3 : zMb A k s) (e : C2 = xud C (zbo s g) 1) : zCs C2 (zMk2 A k s (g + 1)) := fun T T1 T2 => by
  rw [e]
  by_cases c : T = zbo s g
  · refine Or.inl ⟨by rw [c, xud_s], (zMk2_s ⟨T1, T2⟩ hs hg).mpr (Or.inr ⟨h1, h2, h3, c⟩)⟩
  · rw [xud_o _ _ c]
    rcases H T T1 T2 with ⟨a, b⟩ | ⟨a, b⟩
    · exact Or.inl ⟨a, (zMk2_s ⟨T1, T2⟩ hs hg).mpr (Or.inl b)⟩
    · exact Or.inr ⟨a, fun q => ((zMk2_s ⟨T1, T2⟩ hs hg).mp q).elim b (fun y => c y.2.2.2)⟩
theorem zCs_k (H : zCs C (zMk2 A k s g)) (hs : 0 ≤ s ∧ s < 1024) (hg : 0 ≤ g ∧ g < 10) (h : ¬ (A g k ∧ ¬ zbit s g)) : zCs C (zMk2 A k s (g + 1)) := zCs_c H (fun T T1 T2 => ⟨fun q => (zMk2_s ⟨T1, T2⟩ hs hg).mpr (Or.inl q), fun q => ((zMk2_s ⟨T1, T2⟩ hs hg).mp q).elim id (fun y => absurd ⟨y.1, y.2.1⟩ h)⟩)
/-- as many as the greatest set below n -/
def zMg (A : Int → Int → Prop) (n m : Int) : Prop := (m = 0 ∨ ∃ T : Int, (0 ≤ T ∧ T < 1024) ∧ zMb A 100 T ∧ zsu (fun k => xsh T k % 2) 10 = m) ∧ 0 ≤ m ∧ ∀ T : Int, 0 ≤ T → T < n → zMb A 100 T → zsu (fun k => xsh T k % 2) 10 ≤ m
theorem zT_ex {s : Int → Int} (hs : ∀ f : Int, 0 ≤ f → f < 10 → s f = 0 ∨ s f = 1) : ∀ n : Nat, n ≤ 10 → ∃ T : Int, (0 ≤ T ∧ T < 1024) ∧ ∀ f : Int, 0 ≤ f → f < 10 → xsh T f % 2 = if f < (n : Int) then s f else 0
  | 0, _ => ⟨0, by omega, fun f f1 f2 => by
      rw [if_neg (by omega), xsh_z ⟨f1, f2⟩, Int.zero_ediv]
      rfl⟩
  | n + 1, hn => by
    obtain ⟨T, T1, T2⟩ := zT_ex hs n (by omega)
    rcases hs (n : Int) (by omega) (by omega) with q | q
    · refine ⟨T, T1, fun f f1 f2 => ?_⟩
      rw [T2 f f1 f2]
      by_cases c : f < (n : Int)
      · rw [if_pos c, if_pos (by omega)]
      · by_cases e : f = (n : Int)
        · rw [if_neg c, if_pos (by omega), e, q]
        · rw [if_neg c, if_neg (by omega)]
    · have z := zbo_s T1 (f := (n : Int)) (by omega)
      refine ⟨zbo T (n : Int), z.1, fun f f1 f2 => ?_⟩
      by_cases e : f = (n : Int)
      · rw [e, z.2, if_pos (by omega), q]
      · rw [(zbo_o (a := T) (f := (n : Int)) (by omega) ⟨f1, f2⟩ e).1, T2 f f1 f2]
        by_cases c : f < (n : Int)
        · rw [if_pos c, if_pos (by omega)]
        · rw [if_neg c, if_neg (by omega)]
theorem zMg_i {n m : Int} (h : zMg A n m) (hn : 1024 ≤ n) : zIm A m := by
  refine ⟨?_, fun s mu v => ?_⟩
  · rcases h.1 with e | ⟨T, T1, ⟨mu, m1, m2⟩, T3⟩
    · refine ⟨fun _ => 0, fun _ => 0, ⟨fun _ _ _ => Or.inl rfl, fun f _ _ q => ?_, fun f g _ _ _ _ q => ?_⟩, ?_⟩
      · exact absurd (show (0 : Int) = 1 from q) (by decide)
      · exact absurd (show (0 : Int) = 1 from q) (by decide)
      · rw [e, zsu_0]
    · exact ⟨fun k => xsh T k % 2, mu, ⟨fun f _ _ => by show xsh T f % 2 = 0 ∨ xsh T f % 2 = 1; omega, m1, m2⟩, T3⟩
  · obtain ⟨T, T1, T2⟩ := zT_ex v.1 10 (by omega)
    have b : ∀ f : Int, 0 ≤ f → f < 10 → xsh T f % 2 = s f := fun f f1 f2 => by rw [T2 f f1 f2, if_pos (by omega)]
    have z := h.2.2 T T1.1 (by omega) ⟨mu, fun f f1 f2 q => v.2.1 f f1 f2 (by rw [← b f f1 f2]; exact q), fun f g f1 f2 g1 g2 q1 q2 => v.2.2 f g f1 f2 g1 g2 (by rw [← b f f1 f2]; exact q1) (by rw [← b g g1 g2]; exact q2)⟩
    rw [zsu_c (g := s) (fun f f1 f2 => b f f1 (by omega))] at z
    exact z
theorem zMb_i (hT : 0 ≤ T ∧ T < 1024) : zMb A 0 T ↔ T = 0 := by
  constructor
  · rintro ⟨mu, m1, _⟩
    have n : ∀ f : Int, 0 ≤ f → f < 10 → ¬ zbit T f := fun f f1 f2 q => by
      have z := (m1 f f1 f2 q).1
      omega
    have n0 := n 0 (by decide) (by decide)
    have n1 := n 1 (by decide) (by decide)
    have n2 := n 2 (by decide) (by decide)
    have n3 := n 3 (by decide) (by decide)
    have n4 := n 4 (by decide) (by decide)
    have n5 := n 5 (by decide) (by decide)
    have n6 := n 6 (by decide) (by decide)
    have n7 := n 7 (by decide) (by decide)
    have n8 := n 8 (by decide) (by decide)
    have n9 := n 9 (by decide) (by decide)
    unfold zbit at n0 n1 n2 n3 n4 n5 n6 n7 n8 n9
    rw [xsh_z (by decide)] at n0 n1 n2 n3 n4 n5 n6 n7 n8 n9
    rw [show zp2 0 = 1 from by decide] at n0
    rw [show zp2 1 = 2 from by decide] at n1
    rw [show zp2 2 = 4 from by decide] at n2
    rw [show zp2 3 = 8 from by decide] at n3
    rw [show zp2 4 = 16 from by decide] at n4
    rw [show zp2 5 = 32 from by decide] at n5
    rw [show zp2 6 = 64 from by decide] at n6
    rw [show zp2 7 = 128 from by decide] at n7
    rw [show zp2 8 = 256 from by decide] at n8
    rw [show zp2 9 = 512 from by decide] at n9
    omega
  · intro e
    rw [e]
    exact zMb_0 (fun f f1 f2 => zbit_0 ⟨f1, f2⟩)
theorem zMg_n {n m : Int} (h : zMg A n m) (hn : ¬ zMb A 100 n) : zMg A (n + 1) m := ⟨h.1, h.2.1, fun T T1 T2 q => by
  by_cases e : T = n
  · exact absurd (e ▸ q) hn
  · exact h.2.2 T T1 (by omega) q⟩
theorem zMg_y {n m v m2 : Int} (h : zMg A n m) (hn : 0 ≤ n ∧ n < 1024) (hy : zMb A 100 n) (hv : v = zsu (fun k => xsh n k % 2) 10) (e : (m2 = m ∧ v < m) ∨ (m2 = v ∧ m ≤ v)) : zMg A (n + 1) m2 := by
  refine ⟨?_, ?_, fun T T1 T2 q => ?_⟩
  · rcases e with e | e
    · rw [e.1]; exact h.1
    · rw [e.1]; exact Or.inr ⟨n, hn, hy, hv.symm⟩
  · have := h.2.1
    omega
  · by_cases c : T = n
    · rw [c, ← hv]; omega
    · have z := h.2.2 T T1 (by omega) q
      omega
/-! ===== whom each spot is in reach of ===== -/
def zRk (R : Int → Int) (A : Int → Int → Prop) (f k : Int) : Prop := ∀ t : Int, 0 ≤ t → t < 100 → (0 ≤ R t ∧ R t < 1024) ∧ ∀ g : Int, 0 ≤ g → g < 10 → (zbit (R t) g ↔ (g < f ∨ (g = f ∧ t < k)) ∧ A g t)
theorem zRk_0 {R : Int → Int} (h : ∀ t : Int, 0 ≤ t → t < 100 → R t = 0) : zRk R A 0 0 := fun t t1 t2 => by
  rw [h t t1 t2]
  exact ⟨by omega, fun g g1 g2 => ⟨fun q => absurd q (zbit_0 ⟨g1, g2⟩), fun q => by omega⟩⟩
theorem zRk_e {R : Int → Int} {f : Int} (h : zRk R A f k) (hk : 100 ≤ k) : zRk R A (f + 1) 0 := fun t t1 t2 => by
  have z := h t t1 t2
  refine ⟨z.1, fun g g1 g2 => (z.2 g g1 g2).trans ⟨fun q => ⟨by omega, q.2⟩, fun q => ⟨by omega, q.2⟩⟩⟩
theorem zRk_x {R : Int → Int} {f : Int} (h : zRk R A f 0) (hx : ∀ t : Int, 0 ≤ t → t < 100 → ¬ A f t) : zRk R A (f + 1) 0 := fun t t1 t2 => by
  have z := h t t1 t2
  refine ⟨z.1, fun g g1 g2 => (z.2 g g1 g2).trans ⟨fun q => ⟨by omega, q.2⟩, fun q => ⟨?_, q.2⟩⟩⟩
  by_cases e : g = f
  · exact absurd (e ▸ q.2) (hx t t1 t2)
  · omega
theorem zRk_n {R : Int → Int} {f : Int} (h : zRk R A f k) (hn : ¬ A f k) : zRk R A f (k + 1) := fun t t1 t2 => by
  have z := h t t1 t2
  refine ⟨z.1, fun g g1 g2 => (z.2 g g1 g2).trans ⟨fun q => ⟨by omega, q.2⟩, fun q => ⟨?_, q.2⟩⟩⟩
  by_cases e : g = f ∧ t = k
  · obtain ⟨e1, e2⟩ := e
    rw [e1, e2] at q
    exact absurd q.2 hn
  · omega
theorem zRk_y {R R2 : Int → Int} {f : Int} (h : zRk R A f k) (hf : 0 ≤ f ∧ f < 10) (hy : A f k) (e : R2 = xud R k (zbo (R k) f)) : zRk R2 A f (k + 1) := fun t t1 t2 => by
  have z := h t t1 t2
  rw [e]
  by_cases c : t = k
  · rw [c] at z t1 t2 ⊢
    rw [xud_s]
    have y := zbo_s z.1 hf
    refine ⟨y.1, fun g g1 g2 => ?_⟩
    by_cases d : g = f
    · rw [d]
      exact ⟨fun _ => ⟨by omega, hy⟩, fun _ => y.2⟩
    · have o : zbit (zbo (R k) f) g ↔ zbit (R k) g := by
        unfold zbit
        rw [(zbo_o (a := R k) hf ⟨g1, g2⟩ d).1]
      refine (o.trans (z.2 g g1 g2)).trans ⟨fun q => ⟨by omega, q.2⟩, fun q => ⟨by omega, q.2⟩⟩
  · rw [xud_o _ _ c]
    refine ⟨z.1, fun g g1 g2 => (z.2 g g1 g2).trans ⟨fun q => ⟨by omega, q.2⟩, fun q => ⟨by omega, q.2⟩⟩⟩
end MK
theorem zRt_i {K : Int → Int} {a v k x : Int} (hx : x = zdf 1000000000 (zds K a v.toNat k)) (hv : 0 ≤ v ∧ v ≤ 3) (ha : 0 ≤ a ∧ a < 100) (hk : 0 ≤ k ∧ k < 100) : x < 1000000000 ↔ zsb K a k ≤ v := by
  have z := zds_v (K := K) (a := a) (t := k) hv
  have r := zds_r K a v.toNat k
  unfold zsb
  rw [if_pos ⟨ha.1, ha.2, hk.1, hk.2⟩]
  rcases zdf_c hx with ⟨c1, c2⟩ | ⟨c1, c2⟩
  · rw [c2]
    refine ⟨fun q => by omega, fun q => ?_⟩
    have y := z.1 q
    rw [c1] at y
    omega
  · have y := z.2 c1
    omega
def zAr (K : Int → Int) (q : zLaw) (Y : Int → Int) (f k : Int) : Prop := zOw Y f ∧ zsb K (Y (4 + f)) k ≤ zvF K q Y 118 3 f
set_option maxHeartbeats 4000000 in
set_option maxRecDepth 100000 in
theorem c_X11_laysReachP (l : Launch) (D : va_G) (g : xG) (T : Nat × Nat × Nat) (h0 : Nat) (s0 : xS) (hσ : xRR s0) (q9 : zLaw) (K9 : Int → Int) (hok : zLok q9) (hlr : zLR s0 q9) (hK : ∀ t : Int, 0 ≤ t → t < 100 → s0 272 t = K9 t ∧ 0 ≤ K9 t ∧ K9 t ≤ 3) (p0 : IMn s0) (p1 : IMk s0) (p2 : IMo s0) : Met l yX11_laysReach (xws yX11_laysReach cX11_laysReach 3 none) { frames := 4, cells := 0, slots := 0, locals := 96 } (xP [.ref (h0 + 268)] D g T h0 s0) (xQv D g h0 (fun τ => xFr (fun k => k = 293 ∨ k = 294 ∨ k = 296 ∨ k = 301) s0 τ ∧ (((IMn τ) ∧ (IMk τ) ∧ (IMo τ) ∧ True) ∧ (zRk (τ 301) (zAr K9 q9 (zYr s0)) 10 0)))) 0 0 (xA h0) := by
  refine x_met hσ (by decide) (Nat.le_of_ble_eq_true rfl) ?_
  intro p e s m args below meth c hx hb hr hml hown hT hlk hnm hE hW ls hl
  have hl : lv_has ls 3 [(0, .ref (h0 + 268))] := hl
  obtain ⟨Q, eQ⟩ : ∃ Q, Q = MQ below (xQv D g h0 (fun τ => xFr (fun k => k = 293 ∨ k = 294 ∨ k = 296 ∨ k = 301) s0 τ ∧ (((IMn τ) ∧ (IMk τ) ∧ (IMo τ) ∧ True) ∧ (zRk (τ 301) (zAr K9 q9 (zYr s0)) 10 0)))) args s 0 0 (xA h0) := ⟨_, rfl⟩
  rw [← eQ]
  generalize hHe : ([] : List Loc) = locs at hW ⊢
  obtain ⟨H, eH⟩ : ∃ H, H = s.heap := ⟨_, rfl⟩
  rw [← eH] at hW ⊢
  have hF : xFr (fun k => k = 293 ∨ k = 294 ∨ k = 296 ∨ k = 301) s0 s0 := xFr.rf
  have k268_8 : s0 268 8 = s0 268 8 := rfl
  have k268_58 : s0 268 58 = s0 268 58 := rfl
  have k268_17 : s0 268 17 = s0 268 17 := rfl
  have k268_48 : s0 268 48 = s0 268 48 := rfl
  have kg295 : s0 295 = s0 295 := rfl
  refine x_iconst hx hb dX11_laysReach_0 ?_
  refine lv_istore_n (lv' := [(1, .int (xJ 0)), (0, .ref (h0 + 268))]) hx hb dX11_laysReach_1 rfl hl (by decide) rfl (fun ls hl => ?_)
  have L2 : ∀ (fu : Nat) (i1_2 : Int) (s_2 : xS) (H : Heap) (locs : List Loc) (ls : Array Slot), (xR i1_2) → (xFr (fun k => k = 293 ∨ k = 294 ∨ k = 296 ∨ k = 301) s0 s_2) → (IMn s_2) → (IMk s_2) → (IMo s_2) → (s_2 268 8 = s0 268 8) → (s_2 268 58 = s0 268 58) → (s_2 268 17 = s0 268 17) → (s_2 268 48 = s0 268 48) → (s_2 295 = s0 295) → (0 ≤ i1_2) → (∀ t : Int, 0 ≤ t → t < i1_2 → s_2 301 t = 0) → (101 - i1_2).toNat < fu → xW D g h0 s H locs s_2 → lv_has ls 3 [(0, .ref (h0 + 268)), (1, .int (xJ i1_2))] → W p l e { frames := 4, cells := 0, slots := 0, locals := 96 } s m args below meth c H locs 0 0 Q (F0 m 2 ls []) := by
    intro fu
    induction fu with
    | zero => intro i1_2 s_2 H locs ls ri1_2 hF_2 q2_0 q2_1 q2_2 q2_3 q2_4 q2_5 q2_6 q2_7 v2_0 v2_1 hm; exact absurd hm (Nat.not_lt_zero _)
    | succ fu ih2 =>
      intro i1_2 s_2 H locs ls ri1_2 hF_2 q2_0 q2_1 q2_2 q2_3 q2_4 q2_5 q2_6 q2_7 v2_0 v2_1 hm hW hl
      have hm_2 := fun (_ : Unit) => hm
      clear hm
      refine x_iload_n hx hb hl 1 rfl dX11_laysReach_2 rfl ?_
      refine x_bipush hx hb dX11_laysReach_3 (by decide) ?_
      refine x_icmp_ge (tgt := 21) hx hb ri1_2 (by decide) dX11_laysReach_5 (by decide) (fun c1 => ?_) (fun c1 => ?_)
      · skip
        refine x_iconst hx hb dX11_laysReach_21 ?_
        refine lv_istore_n (lv' := [(1, .int (xJ 0)), (0, .ref (h0 + 268))]) hx hb dX11_laysReach_22 rfl hl (by decide) rfl (fun ls hl => ?_)
        have L23 : ∀ (fu : Nat) (i1_23 : Int) (s_23 : xS) (H : Heap) (locs : List Loc) (ls : Array Slot), (xR i1_23) → (xFr (fun k => k = 293 ∨ k = 294 ∨ k = 296 ∨ k = 301) s0 s_23) → (IMn s_23) → (IMk s_23) → (IMo s_23) → (s_23 268 8 = s0 268 8) → (s_23 268 58 = s0 268 58) → (s_23 268 17 = s0 268 17) → (s_23 268 48 = s0 268 48) → (s_23 295 = s0 295) → (0 ≤ i1_23 ∧ i1_23 ≤ 10) → (zRk (s_23 301) (zAr K9 q9 (zYr s0)) i1_23 0) → (11 - i1_23).toNat < fu → xW D g h0 s H locs s_23 → lv_has ls 3 [(0, .ref (h0 + 268)), (1, .int (xJ i1_23))] → W p l e { frames := 4, cells := 0, slots := 0, locals := 96 } s m args below meth c H locs 0 0 Q (F0 m 23 ls []) := by
          intro fu
          induction fu with
          | zero => intro i1_23 s_23 H locs ls ri1_23 hF_23 q23_0 q23_1 q23_2 q23_3 q23_4 q23_5 q23_6 q23_7 v23_0 v23_1 hm; exact absurd hm (Nat.not_lt_zero _)
          | succ fu ih23 =>
            intro i1_23 s_23 H locs ls ri1_23 hF_23 q23_0 q23_1 q23_2 q23_3 q23_4 q23_5 q23_6 q23_7 v23_0 v23_1 hm hW hl
            have hm_23 := fun (_ : Unit) => hm
            clear hm
            refine x_iload_n hx hb hl 1 rfl dX11_laysReach_23 rfl ?_
            refine x_bipush hx hb dX11_laysReach_24 (by decide) ?_
            refine x_icmp_ge (tgt := 109) hx hb ri1_23 (by decide) dX11_laysReach_26 (by decide) (fun c2 => ?_) (fun c2 => ?_)
            · skip
              rw [eQ]
              exact x_vret hx hb hr hlk hW ⟨hF_23, ⟨q23_0, q23_1, q23_2, trivial⟩, by rw [show (10 : Int) = i1_23 from by omega]; exact v23_1⟩ dX11_laysReach_109
            refine x_aload_n hx hb hl 0 rfl dX11_laysReach_29 rfl ?_
            refine x_iload_n hx hb hl 1 rfl dX11_laysReach_30 rfl ?_
            refine x_goi (x_runV (As := [.int (xJ i1_23)]) hx hb hml hown hT hE hW hl.1 (Or.inl (by decide)) (so_268 h0 g _) rfl cf_X11_owes wq1620 wq147 wq1618 (c_X11_owesF l D g T h0 s_23 hW.2.1 i1_23 ri1_23 (by omega) q23_0 q23_1 q23_2) ⟨rfl, rfl, ⟨by decide, by decide⟩, ⟨by decide, by decide⟩⟩ rfl rfl (Nat.le_of_ble_eq_true rfl) dX11_laysReach_31) hW (fun x3 s4 H locs rx3 hp5 hW => ?_)
            obtain ⟨es4, hp5⟩ := hp5
            subst es4
            have ghp5 := hp5
            have H31 := ghp5
            have Y31 : zYr s_23 = (zYr s0) := zYr_f (hF_23 269 (by first | decide | omega)) (hF_23 268 (by first | decide | omega))
            rw [Y31] at H31
            have W31 : x3 = 1 → zOw (zYr s0) i1_23 := fun h => (H31.resolve_right (fun q => by omega)).2
            have W31n : x3 = 0 → ¬ zOw (zYr s0) i1_23 := fun h => (H31.resolve_left (fun q => by omega)).2
            refine x_if_ne (tgt := 40) hx hb rx3 dX11_laysReach_34 (by decide) (fun c6 => ?_) (fun c6 => ?_)
            · skip
              refine x_aload_n hx hb hl 0 rfl dX11_laysReach_40 rfl ?_
              refine x_aload_n hx hb hl 0 rfl dX11_laysReach_41 rfl ?_
              refine x_get (j := 0) (v := .ref (h0 + 269)) hx hb hown hT hE hW cls_X11 (Or.inl (by decide)) (so_268 h0 g _) (by decide) rfl wq1185 dX11_laysReach_42 ?_
              refine x_iconst hx hb dX11_laysReach_45 ?_
              have W31 := W31 (by omega)
              have L31 := (zOw_r (σ := s0) (f := i1_23) (by omega)).mp W31
              have y31 : (zYr s0) (4 + i1_23) = s0 269 (4 + i1_23) := by
                show zYN (s0 269) _ _ _ (4 + i1_23) = _
                rw [zYN_F (by omega), if_pos L31.1.1]
              refine x_iload_n hx hb hl 1 rfl dX11_laysReach_46 rfl ?_
              refine x_iadd hx hb dX11_laysReach_47 ?_
              refine x_iald hx hb hE hW (Or.inl (by decide)) (sa_269 h0 g _) (by omega) (by decide) dX11_laysReach_48 ?_
              refine x_rd hW (fun x7 ex7 rx7 => ?_)
              have bx7 : 0 ≤ x7 ∧ x7 ≤ 99 := by rw [ex7]; exact (IMn.n1 q23_0).2.2.1 _ (by omega) (by omega)
              have V48 : x7 = s0 269 (4 + i1_23) := by rw [ex7, hF_23 269 (by first | decide | omega)]
              refine x_aload_n hx hb hl 0 rfl dX11_laysReach_49 rfl ?_
              refine x_bipush hx hb dX11_laysReach_50 (by decide) ?_
              refine x_iconst hx hb dX11_laysReach_52 ?_
              refine x_iload_n hx hb hl 1 rfl dX11_laysReach_53 rfl ?_
              refine x_goi (x_runV (As := [.int (xJ 118), .int (xJ 3), .int (xJ i1_23)]) hx hb hml hown hT hE hW hl.1 (Or.inl (by decide)) (so_268 h0 g _) rfl cf_X11_byFelon wq1625 wq148 wq1623 (c_X11_byFelonF l D g T h0 s_23 hW.2.1 118 (by decide) 3 (by decide) i1_23 ri1_23 q9 K9 (hok) (by first | exact hlr | exact hlr.f (fun k hk => hF_23 k (by omega)) (by omega)) (by first | exact hK | exact fun t t1 t2 => by rw [hF_23 272 (by first | decide | omega)]; exact hK t t1 t2) (by omega) (by rw [hF_23 269 (by first | decide | omega)]; exact L31.1.1) (by decide) (by decide) q23_0 q23_1 q23_2) ⟨rfl, rfl, ⟨by decide, by decide⟩, ⟨by decide, by decide⟩⟩ rfl rfl (Nat.le_of_ble_eq_true rfl) dX11_laysReach_54) hW (fun x8 s9 H locs rx8 hp10 hW => ?_)
              obtain ⟨fs9, hp10⟩ := hp10
              have hF11 := hF_23.call fs9 (fun k h => by omega)
              have q12 : s9 268 8 = s0 268 8 := (congrFun (fs9 _ (by omega)) _).trans q23_3
              have q13 : s9 268 58 = s0 268 58 := (congrFun (fs9 _ (by omega)) _).trans q23_4
              have q14 : s9 268 17 = s0 268 17 := (congrFun (fs9 _ (by omega)) _).trans q23_5
              have q15 : s9 268 48 = s0 268 48 := (congrFun (fs9 _ (by omega)) _).trans q23_6
              have q16 : s9 295 = s0 295 := (fs9 _ (by omega)).trans q23_7
              have ghp10 := hp10.2
              have R54 := ghp10
              rw [Y31] at R54
              have B54 := zvF_r (K := K9) (q := q9) (Y := (zYr s0)) (kd := 118) (hi := 3) (f := i1_23) (by decide)
              have C54 := B54
              rw [← R54] at B54
              refine x_iconst hx hb dX11_laysReach_57 ?_
              refine x_gov (x_runV (As := [.int (xJ x7), .int (xJ x8), .int (xJ 0)]) hx hb hml hown hT hE hW hl.1 (Or.inl (by decide)) (so_268 h0 g _) rfl cf_X11_laysCosts wq1637 wq151 wq1635 (c_X11_laysCostsF l D g T h0 s9 hW.2.1 x7 rx7 x8 rx8 0 (by decide) K9 (by first | exact hK | exact fun t t1 t2 => by rw [hF11 272 (by first | decide | omega)]; exact hK t t1 t2) (by have n4 := (IMn.n1 p0).2.2.1 (4 + i1_23) (by omega) (by omega); have l := L31.1.2; omega) (B54) (rfl) hp10.1.1 hp10.1.2.1 hp10.1.2.2.1) ⟨rfl, rfl, ⟨by decide, by decide⟩, ⟨by decide, by decide⟩⟩ rfl rfl (Nat.le_of_ble_eq_true rfl) dX11_laysReach_58) hW (fun s18 H locs hp19 hW => ?_)
              obtain ⟨fs18, hp19⟩ := hp19
              have hF20 := hF11.call fs18 (fun k h => by omega)
              have q21 : s18 268 8 = s0 268 8 := (congrFun (fs18 _ (by omega)) _).trans q12
              have q22 : s18 268 58 = s0 268 58 := (congrFun (fs18 _ (by omega)) _).trans q13
              have q23 : s18 268 17 = s0 268 17 := (congrFun (fs18 _ (by omega)) _).trans q14
              have q24 : s18 268 48 = s0 268 48 := (congrFun (fs18 _ (by omega)) _).trans q15
              have q25 : s18 295 = s0 295 := (fs18 _ (by omega)).trans q16
              have ghp19 := hp19.2
              have H58 := ghp19
              rw [V48, R54, ← y31] at H58
              have R58 : zRk (s18 301) (zAr K9 q9 (zYr s0)) i1_23 0 := by rw [fs18 301 (by first | decide | omega), fs9 301 (by first | decide | omega)]; exact v23_1
              refine x_iconst hx hb dX11_laysReach_61 ?_
              refine lv_istore_n (lv' := [(2, .int (xJ 0)), (0, .ref (h0 + 268)), (1, .int (xJ i1_23))]) hx hb dX11_laysReach_62 rfl hl (by decide) rfl (fun ls hl => ?_)
              have L63 : ∀ (fu : Nat) (i2_63 : Int) (s_63 : xS) (H : Heap) (locs : List Loc) (ls : Array Slot), (xR i2_63) → (xFr (fun k => k = 293 ∨ k = 294 ∨ k = 296 ∨ k = 301) s0 s_63) → (s_63 268 8 = s0 268 8) → (s_63 268 58 = s0 268 58) → (s_63 268 17 = s0 268 17) → (s_63 268 48 = s0 268 48) → (s_63 295 = s0 295) → (IMn s_63) → (IMk s_63) → (IMo s_63) → (0 ≤ i2_63 ∧ i2_63 ≤ 100) → (zRk (s_63 301) (zAr K9 q9 (zYr s0)) i1_23 i2_63) → (∀ t : Int, 0 ≤ t → t < 100 → s_63 296 t = zdf 1000000000 (zds K9 ((zYr s0) (4 + i1_23)) (zvF K9 q9 (zYr s0) 118 3 i1_23).toNat t)) → (101 - i2_63).toNat < fu → xW D g h0 s H locs s_63 → lv_has ls 3 [(0, .ref (h0 + 268)), (1, .int (xJ i1_23)), (2, .int (xJ i2_63))] → W p l e { frames := 4, cells := 0, slots := 0, locals := 96 } s m args below meth c H locs 0 0 Q (F0 m 63 ls []) := by
                intro fu
                induction fu with
                | zero => intro i2_63 s_63 H locs ls ri2_63 hF_63 q63_0 q63_1 q63_2 q63_3 q63_4 q63_5 q63_6 q63_7 v63_0 v63_1 v63_2 hm; exact absurd hm (Nat.not_lt_zero _)
                | succ fu ih63 =>
                  intro i2_63 s_63 H locs ls ri2_63 hF_63 q63_0 q63_1 q63_2 q63_3 q63_4 q63_5 q63_6 q63_7 v63_0 v63_1 v63_2 hm hW hl
                  have hm_63 := fun (_ : Unit) => hm
                  clear hm
                  refine x_iload_n hx hb hl 2 rfl dX11_laysReach_63 rfl ?_
                  refine x_bipush hx hb dX11_laysReach_64 (by decide) ?_
                  refine x_icmp_ge (tgt := 103) hx hb ri2_63 (by decide) dX11_laysReach_66 (by decide) (fun c26 => ?_) (fun c26 => ?_)
                  · skip
                    refine x_iinc (lv' := [(1, .int (xJ (i1_23 + 1))), (0, .ref (h0 + 268)), (2, .int (xJ i2_63))]) hx hb hl 1 rfl dX11_laysReach_103 (by decide) rfl (fun ls hl => ?_)
                    refine lv_goto (tgt := 23) hx hb dX11_laysReach_106 (by decide) ?_
                    exact ih23 (i1_23 + 1) s_63 H locs ls (by omega) hF_63 q63_5 q63_6 q63_7 q63_0 q63_1 q63_2 q63_3 q63_4 (by omega) (by
                        first
                          | exact zRk_e v63_1 (by omega)
                          | exact zRk_x v23_1 (fun t _ _ q => W31n q.1)) (by have hm := hm_23 (); omega) hW (lv_sub hl [1, 0] rfl)
                  refine x_aload_n hx hb hl 0 rfl dX11_laysReach_69 rfl ?_
                  refine x_get (j := 45) (v := .ref (h0 + 296)) hx hb hown hT hE hW cls_X11 (Or.inl (by decide)) (so_268 h0 g _) (by decide) rfl wq1230 dX11_laysReach_70 ?_
                  refine x_iload_n hx hb hl 2 rfl dX11_laysReach_73 rfl ?_
                  refine x_iald hx hb hE hW (Or.inl (by decide)) (sa_296 h0 g _) (by omega) (by decide) dX11_laysReach_74 ?_
                  refine x_rd hW (fun x27 ex27 rx27 => ?_)
                  have V74 : x27 = s_63 296 i2_63 := ex27
                  have I74 := zRt_i (x := x27) (V74.trans (v63_2 i2_63 (by omega) (by omega))) C54 (by have n4 := (IMn.n1 p0).2.2.1 (4 + i1_23) (by omega) (by omega); have l := L31.1.2; omega) (by omega)
                  refine lv_ldcw (v := xJ 1000000000) hx hb hown (hT _ wq1622) dX11_laysReach_75 ?_
                  refine x_icmp_ge (tgt := 97) hx hb rx27 (by decide) dX11_laysReach_78 (by decide) (fun c28 => ?_) (fun c28 => ?_)
                  · skip
                    refine x_iinc (lv' := [(2, .int (xJ (i2_63 + 1))), (0, .ref (h0 + 268)), (1, .int (xJ i1_23))]) hx hb hl 2 rfl dX11_laysReach_97 (by decide) rfl (fun ls hl => ?_)
                    refine lv_goto (tgt := 63) hx hb dX11_laysReach_100 (by decide) ?_
                    exact ih63 (i2_63 + 1) s_63 H locs ls (by omega) hF_63 q63_0 q63_1 q63_2 q63_3 q63_4 q63_5 q63_6 q63_7 (by omega) (by
                        first
                          | exact zRk_y v63_1 (by omega) ⟨W31, (I74.mp (by omega))⟩ E96
                          | exact zRk_n v63_1 (fun q => by have z := I74.mpr q.2; omega)) (by first | exact v63_2 | (rw [O96]; exact v63_2)) (by have hm := hm_63 (); omega) hW (lv_sub hl [1, 2, 0] rfl)
                  refine x_aload_n hx hb hl 0 rfl dX11_laysReach_81 rfl ?_
                  refine x_get (j := 51) (v := .ref (h0 + 301)) hx hb hown hT hE hW cls_X11 (Or.inl (by decide)) (so_268 h0 g _) (by decide) rfl wq1236 dX11_laysReach_82 ?_
                  refine x_iload_n hx hb hl 2 rfl dX11_laysReach_85 rfl ?_
                  refine x_aload_n hx hb hl 0 rfl dX11_laysReach_86 rfl ?_
                  refine x_get (j := 51) (v := .ref (h0 + 301)) hx hb hown hT hE hW cls_X11 (Or.inl (by decide)) (so_268 h0 g _) (by decide) rfl wq1236 dX11_laysReach_87 ?_
                  refine x_iload_n hx hb hl 2 rfl dX11_laysReach_90 rfl ?_
                  refine x_iald hx hb hE hW (Or.inl (by decide)) (sa_301 h0 g _) (by omega) (by decide) dX11_laysReach_91 ?_
                  refine x_rd hW (fun x29 ex29 rx29 => ?_)
                  have V91 : x29 = s_63 301 i2_63 := ex29
                  have B91 := (v63_1 i2_63 (by omega) (by omega)).1
                  rw [← V91] at B91
                  refine x_iconst hx hb dX11_laysReach_92 ?_
                  refine x_iload_n hx hb hl 1 rfl dX11_laysReach_93 rfl ?_
                  refine lv_ishl hx hb dX11_laysReach_94 ?_
                  refine x_anyE (fun x30 ex30 rx30 => ?_)
                  have V94 := ex30
                  refine lv_ior hx hb dX11_laysReach_95 ?_
                  refine x_anyE (fun x31 ex31 rx31 => ?_)
                  have V95 : x31 = zbo (s_63 301 i2_63) i1_23 := by
                    rw [← V91]
                    exact zbo_j B91 (by omega) V94 rx31 ex31
                  refine x_iast hx hb hE hW (by decide) (fun σ => sa_301 h0 g σ) (by omega) (by decide) rx31 dX11_laysReach_96 (fun H locs s32 es32 hW => ?_)
                  have q33 : s32 268 8 = s0 268 8 := (show s32 268 8 = s_63 268 8 from by rw [es32, xU_k _ _ _ (by first | decide | omega)]).trans q63_0
                  have q34 : s32 268 58 = s0 268 58 := (show s32 268 58 = s_63 268 58 from by rw [es32, xU_k _ _ _ (by first | decide | omega)]).trans q63_1
                  have q35 : s32 268 17 = s0 268 17 := (show s32 268 17 = s_63 268 17 from by rw [es32, xU_k _ _ _ (by first | decide | omega)]).trans q63_2
                  have q36 : s32 268 48 = s0 268 48 := (show s32 268 48 = s_63 268 48 from by rw [es32, xU_k _ _ _ (by first | decide | omega)]).trans q63_3
                  have q37 : s32 295 = s0 295 := by rw [es32, xU_k _ _ _ (by first | decide | omega)]; exact q63_4
                  have q38 : IMn s32 := by rw [es32]; exact IMn_o (by unfold suIMn; first | decide | omega) q63_5
                  have q39 : IMk s32 := by rw [es32]; exact IMk_o (by unfold suIMk; first | decide | omega) q63_6
                  have q40 : IMo s32 := by rw [es32]; exact IMo_o (by unfold suIMo; first | decide | omega) q63_7
                  have hF41 := hF_63.put es32 (by omega)
                  have E96 : s32 301 = xud (s_63 301) i2_63 (zbo (s_63 301 i2_63) i1_23) := by rw [es32, xU_xud, V95]
                  have O96 : s32 296 = s_63 296 := by rw [es32, xU_k _ _ _ (by first | decide | omega)]
                  refine x_iinc (lv' := [(2, .int (xJ (i2_63 + 1))), (0, .ref (h0 + 268)), (1, .int (xJ i1_23))]) hx hb hl 2 rfl dX11_laysReach_97 (by decide) rfl (fun ls hl => ?_)
                  refine lv_goto (tgt := 63) hx hb dX11_laysReach_100 (by decide) ?_
                  exact ih63 (i2_63 + 1) s32 H locs ls (by omega) hF41 q33 q34 q35 q36 q37 q38 q39 q40 (by omega) (by
                      first
                        | exact zRk_y v63_1 (by omega) ⟨W31, (I74.mp (by omega))⟩ E96
                        | exact zRk_n v63_1 (fun q => by have z := I74.mpr q.2; omega)) (by first | exact v63_2 | (rw [O96]; exact v63_2)) (by have hm := hm_63 (); omega) hW (lv_sub hl [1, 2, 0] rfl)
              exact L63 ((101 - 0 : Int).toNat + 1) 0 s18 H locs ls (by decide) hF20 q21 q22 q23 q24 q25 hp19.1.1 hp19.1.2.1 hp19.1.2.2.1 (by omega) (R58) (H58) (Nat.lt_succ_self _) hW (lv_sub hl [1, 2, 0] rfl)
            refine lv_goto (tgt := 103) hx hb dX11_laysReach_37 (by decide) ?_
            have W31n := W31n (by omega)
            refine x_iinc (lv' := [(1, .int (xJ (i1_23 + 1))), (0, .ref (h0 + 268))]) hx hb hl 1 rfl dX11_laysReach_103 (by decide) rfl (fun ls hl => ?_)
            refine lv_goto (tgt := 23) hx hb dX11_laysReach_106 (by decide) ?_
            exact ih23 (i1_23 + 1) s_23 H locs ls (by omega) hF_23 q23_0 q23_1 q23_2 q23_3 q23_4 q23_5 q23_6 q23_7 (by omega) (by
                first
                  | exact zRk_e v63_1 (by omega)
                  | exact zRk_x v23_1 (fun t _ _ q => W31n q.1)) (by have hm := hm_23 (); omega) hW (lv_sub hl [1, 0] rfl)
        exact L23 ((11 - 0 : Int).toNat + 1) 0 s_2 H locs ls (by decide) hF_2 q2_0 q2_1 q2_2 q2_3 q2_4 q2_5 q2_6 q2_7 (by omega) (zRk_0 (fun t t1 t2 => v2_1 t t1 (by omega))) (Nat.lt_succ_self _) hW (lv_sub hl [1, 0] rfl)
      refine x_aload_n hx hb hl 0 rfl dX11_laysReach_8 rfl ?_
      refine x_get (j := 51) (v := .ref (h0 + 301)) hx hb hown hT hE hW cls_X11 (Or.inl (by decide)) (so_268 h0 g _) (by decide) rfl wq1236 dX11_laysReach_9 ?_
      refine x_iload_n hx hb hl 1 rfl dX11_laysReach_12 rfl ?_
      refine x_iconst hx hb dX11_laysReach_13 ?_
      refine x_iast hx hb hE hW (by decide) (fun σ => sa_301 h0 g σ) (by omega) (by decide) (by decide) dX11_laysReach_14 (fun H locs s42 es42 hW => ?_)
      have q43 : IMn s42 := by rw [es42]; exact IMn_o (by unfold suIMn; first | decide | omega) q2_0
      have q44 : IMk s42 := by rw [es42]; exact IMk_o (by unfold suIMk; first | decide | omega) q2_1
      have q45 : IMo s42 := by rw [es42]; exact IMo_o (by unfold suIMo; first | decide | omega) q2_2
      have q46 : s42 268 8 = s0 268 8 := (show s42 268 8 = s_2 268 8 from by rw [es42, xU_k _ _ _ (by first | decide | omega)]).trans q2_3
      have q47 : s42 268 58 = s0 268 58 := (show s42 268 58 = s_2 268 58 from by rw [es42, xU_k _ _ _ (by first | decide | omega)]).trans q2_4
      have q48 : s42 268 17 = s0 268 17 := (show s42 268 17 = s_2 268 17 from by rw [es42, xU_k _ _ _ (by first | decide | omega)]).trans q2_5
      have q49 : s42 268 48 = s0 268 48 := (show s42 268 48 = s_2 268 48 from by rw [es42, xU_k _ _ _ (by first | decide | omega)]).trans q2_6
      have q50 : s42 295 = s0 295 := by rw [es42, xU_k _ _ _ (by first | decide | omega)]; exact q2_7
      have hF51 := hF_2.put es42 (by omega)
      have E14 := es42
      refine x_iinc (lv' := [(1, .int (xJ (i1_2 + 1))), (0, .ref (h0 + 268))]) hx hb hl 1 rfl dX11_laysReach_15 (by decide) rfl (fun ls hl => ?_)
      refine lv_goto (tgt := 2) hx hb dX11_laysReach_18 (by decide) ?_
      exact ih2 (i1_2 + 1) s42 H locs ls (by omega) hF51 q43 q44 q45 q46 q47 q48 q49 q50 (by omega) (fun t t1 t2 => by
            rw [E14, xU_xud]
            by_cases h : t = i1_2
            · rw [h, xud_s]
            · rw [xud_o _ _ h]; exact v2_1 t t1 (by omega)) (by have hm := hm_2 (); omega) hW (lv_sub hl [1, 0] rfl)
  exact L2 ((101 - 0 : Int).toNat + 1) 0 s0 H locs ls (by decide) hF p0 p1 p2 k268_8 k268_58 k268_17 k268_48 kg295 (by omega) (fun t t1 t2 => absurd t2 (by omega)) (Nat.lt_succ_self _) hW (lv_sub hl [1, 0] rfl)
set_option maxHeartbeats 4000000 in
set_option maxRecDepth 100000 in
theorem c_X11_mostAtOnceP (l : Launch) (D : va_G) (g : xG) (T : Nat × Nat × Nat) (h0 : Nat) (s0 : xS) (hσ : xRR s0) (q9 : zLaw) (K9 : Int → Int) (hok : zLok q9) (hlr : zLR s0 q9) (hK : ∀ t : Int, 0 ≤ t → t < 100 → s0 272 t = K9 t ∧ 0 ≤ K9 t ∧ K9 t ≤ 3) (p0 : IMn s0) (p1 : IMk s0) (p2 : IMo s0) : Met l yX11_mostAtOnce (xws yX11_mostAtOnce cX11_mostAtOnce 4 (some .int)) { frames := 5, cells := 0, slots := 0, locals := 118 } (xP [.ref (h0 + 268)] D g T h0 s0) (xQi D g h0 (fun r τ => xFr (fun k => k = 293 ∨ k = 294 ∨ k = 296 ∨ k = 300 ∨ k = 301) s0 τ ∧ (((IMn τ) ∧ (IMk τ) ∧ (IMo τ) ∧ True) ∧ (zIm (zAt K9 q9 (s0 295) (zYr s0)) r)))) 0 0 (xA h0) := by
  refine x_met hσ (by decide) (Nat.le_of_ble_eq_true rfl) ?_
  intro p e s m args below meth c hx hb hr hml hown hT hlk hnm hE hW ls hl
  have hl : lv_has ls 4 [(0, .ref (h0 + 268))] := hl
  obtain ⟨Q, eQ⟩ : ∃ Q, Q = MQ below (xQi D g h0 (fun r τ => xFr (fun k => k = 293 ∨ k = 294 ∨ k = 296 ∨ k = 300 ∨ k = 301) s0 τ ∧ (((IMn τ) ∧ (IMk τ) ∧ (IMo τ) ∧ True) ∧ (zIm (zAt K9 q9 (s0 295) (zYr s0)) r)))) args s 0 0 (xA h0) := ⟨_, rfl⟩
  rw [← eQ]
  generalize hHe : ([] : List Loc) = locs at hW ⊢
  obtain ⟨H, eH⟩ : ∃ H, H = s.heap := ⟨_, rfl⟩
  rw [← eH] at hW ⊢
  have hF : xFr (fun k => k = 293 ∨ k = 294 ∨ k = 296 ∨ k = 300 ∨ k = 301) s0 s0 := xFr.rf
  have k268_8 : s0 268 8 = s0 268 8 := rfl
  have k268_58 : s0 268 58 = s0 268 58 := rfl
  have k268_17 : s0 268 17 = s0 268 17 := rfl
  have k268_48 : s0 268 48 = s0 268 48 := rfl
  have kg295 : s0 295 = s0 295 := rfl
  refine x_aload_n hx hb hl 0 rfl dX11_mostAtOnce_0 rfl ?_
  refine x_gov (x_runV (As := []) hx hb hml hown hT hE hW hl.1 (Or.inl (by decide)) (so_268 h0 g _) rfl cf_X11_laysReach wq1674 wq154 wq1672 (c_X11_laysReachP l D g T h0 s0 hW.2.1 q9 K9 (hok) (by first | exact hlr | exact hlr.f (fun k hk => hF k (by omega)) (by omega)) (by first | exact hK | exact fun t t1 t2 => by rw [hF 272 (by omega)]; exact hK t t1 t2) p0 p1 p2) ⟨rfl, rfl, ⟨by decide, by decide⟩, ⟨by decide, by decide⟩⟩ rfl rfl (Nat.le_of_ble_eq_true rfl) dX11_mostAtOnce_1) hW (fun s2 H locs hp3 hW => ?_)
  obtain ⟨fs2, hp3⟩ := hp3
  have hF4 := hF.call fs2 (fun k h => by omega)
  have q5 : s2 268 8 = s0 268 8 := (congrFun (fs2 _ (by omega)) _).trans k268_8
  have q6 : s2 268 58 = s0 268 58 := (congrFun (fs2 _ (by omega)) _).trans k268_58
  have q7 : s2 268 17 = s0 268 17 := (congrFun (fs2 _ (by omega)) _).trans k268_17
  have q8 : s2 268 48 = s0 268 48 := (congrFun (fs2 _ (by omega)) _).trans k268_48
  have q10 : s2 295 = s0 295 := (fs2 _ (by omega)).trans kg295
  have ghp3 := hp3.2
  have q11 : s2 301 = s2 301 := rfl
  have H1 := ghp3
  refine x_iconst hx hb dX11_mostAtOnce_4 ?_
  refine lv_istore_n (lv' := [(1, .int (xJ 0)), (0, .ref (h0 + 268))]) hx hb dX11_mostAtOnce_5 rfl hl (by decide) rfl (fun ls hl => ?_)
  have L6 : ∀ (fu : Nat) (i1_6 : Int) (s_6 : xS) (H : Heap) (locs : List Loc) (ls : Array Slot), (xR i1_6) → (xFr (fun k => k = 293 ∨ k = 294 ∨ k = 296 ∨ k = 300 ∨ k = 301) s0 s_6) → (s_6 268 8 = s0 268 8) → (s_6 268 58 = s0 268 58) → (s_6 268 17 = s0 268 17) → (s_6 268 48 = s0 268 48) → (s_6 295 = s0 295) → (IMn s_6) → (IMk s_6) → (IMo s_6) → (s_6 301 = s2 301) → (0 ≤ i1_6 ∧ i1_6 ≤ 1024) → (∀ T : Int, 0 ≤ T → T < i1_6 → (s_6 300 T = 1 ∧ T = 0) ∨ (s_6 300 T = 0 ∧ T ≠ 0)) → (1025 - i1_6).toNat < fu → xW D g h0 s H locs s_6 → lv_has ls 4 [(0, .ref (h0 + 268)), (1, .int (xJ i1_6))] → W p l e { frames := 5, cells := 0, slots := 0, locals := 118 } s m args below meth c H locs 0 0 Q (F0 m 6 ls []) := by
    intro fu
    induction fu with
    | zero => intro i1_6 s_6 H locs ls ri1_6 hF_6 q6_0 q6_1 q6_2 q6_3 q6_4 q6_5 q6_6 q6_7 q6_8 v6_0 v6_1 hm; exact absurd hm (Nat.not_lt_zero _)
    | succ fu ih6 =>
      intro i1_6 s_6 H locs ls ri1_6 hF_6 q6_0 q6_1 q6_2 q6_3 q6_4 q6_5 q6_6 q6_7 q6_8 v6_0 v6_1 hm hW hl
      have hm_6 := fun (_ : Unit) => hm
      clear hm
      refine x_iload_n hx hb hl 1 rfl dX11_mostAtOnce_6 rfl ?_
      refine x_sipush hx hb dX11_mostAtOnce_7 (by decide) ?_
      refine x_icmp_ge (tgt := 34) hx hb ri1_6 (by decide) dX11_mostAtOnce_10 (by decide) (fun c12 => ?_) (fun c12 => ?_)
      · skip
        refine x_iconst hx hb dX11_mostAtOnce_34 ?_
        refine lv_istore_n (lv' := [(1, .int (xJ 0)), (0, .ref (h0 + 268))]) hx hb dX11_mostAtOnce_35 rfl hl (by decide) rfl (fun ls hl => ?_)
        have L36 : ∀ (fu : Nat) (i1_36 : Int) (s_36 : xS) (H : Heap) (locs : List Loc) (ls : Array Slot), (xR i1_36) → (xFr (fun k => k = 293 ∨ k = 294 ∨ k = 296 ∨ k = 300 ∨ k = 301) s0 s_36) → (s_36 268 8 = s0 268 8) → (s_36 268 58 = s0 268 58) → (s_36 268 17 = s0 268 17) → (s_36 268 48 = s0 268 48) → (s_36 295 = s0 295) → (IMn s_36) → (IMk s_36) → (IMo s_36) → (s_36 301 = s2 301) → (0 ≤ i1_36 ∧ i1_36 ≤ 100) → (zCs (s_36 300) (zMb (zAt K9 q9 (s0 295) (zYr s0)) i1_36)) → (101 - i1_36).toNat < fu → xW D g h0 s H locs s_36 → lv_has ls 4 [(0, .ref (h0 + 268)), (1, .int (xJ i1_36))] → W p l e { frames := 5, cells := 0, slots := 0, locals := 118 } s m args below meth c H locs 0 0 Q (F0 m 36 ls []) := by
          intro fu
          induction fu with
          | zero => intro i1_36 s_36 H locs ls ri1_36 hF_36 q36_0 q36_1 q36_2 q36_3 q36_4 q36_5 q36_6 q36_7 q36_8 v36_0 v36_1 hm; exact absurd hm (Nat.not_lt_zero _)
          | succ fu ih36 =>
            intro i1_36 s_36 H locs ls ri1_36 hF_36 q36_0 q36_1 q36_2 q36_3 q36_4 q36_5 q36_6 q36_7 q36_8 v36_0 v36_1 hm hW hl
            have hm_36 := fun (_ : Unit) => hm
            clear hm
            refine x_iload_n hx hb hl 1 rfl dX11_mostAtOnce_36 rfl ?_
            refine x_bipush hx hb dX11_mostAtOnce_37 (by decide) ?_
            refine x_icmp_ge (tgt := 129) hx hb ri1_36 (by decide) dX11_mostAtOnce_39 (by decide) (fun c13 => ?_) (fun c13 => ?_)
            · skip
              refine x_iconst hx hb dX11_mostAtOnce_129 ?_
              refine lv_istore_n (lv' := [(1, .int (xJ 0)), (0, .ref (h0 + 268))]) hx hb dX11_mostAtOnce_130 rfl hl (by decide) rfl (fun ls hl => ?_)
              refine x_iconst hx hb dX11_mostAtOnce_131 ?_
              refine lv_istore_n (lv' := [(2, .int (xJ 0)), (1, .int (xJ 0)), (0, .ref (h0 + 268))]) hx hb dX11_mostAtOnce_132 rfl hl (by decide) rfl (fun ls hl => ?_)
              have L133 : ∀ (fu : Nat) (i1_133 : Int) (i2_133 : Int) (H : Heap) (locs : List Loc) (ls : Array Slot), (xR i1_133) → (xR i2_133) → (0 ≤ i2_133 ∧ i2_133 ≤ 1024) → (zCs (s_36 300) (zMb (zAt K9 q9 (s0 295) (zYr s0)) 100)) → (zMg (zAt K9 q9 (s0 295) (zYr s0)) i2_133 i1_133) → (1025 - i2_133).toNat < fu → xW D g h0 s H locs s_36 → lv_has ls 4 [(0, .ref (h0 + 268)), (1, .int (xJ i1_133)), (2, .int (xJ i2_133))] → W p l e { frames := 5, cells := 0, slots := 0, locals := 118 } s m args below meth c H locs 0 0 Q (F0 m 133 ls []) := by
                intro fu
                induction fu with
                | zero => intro i1_133 i2_133 H locs ls ri1_133 ri2_133 v133_0 v133_1 v133_2 hm; exact absurd hm (Nat.not_lt_zero _)
                | succ fu ih133 =>
                  intro i1_133 i2_133 H locs ls ri1_133 ri2_133 v133_0 v133_1 v133_2 hm hW hl
                  have hm_133 := fun (_ : Unit) => hm
                  clear hm
                  refine x_iload_n hx hb hl 2 rfl dX11_mostAtOnce_133 rfl ?_
                  refine x_sipush hx hb dX11_mostAtOnce_134 (by decide) ?_
                  refine x_icmp_ge (tgt := 164) hx hb ri2_133 (by decide) dX11_mostAtOnce_137 (by decide) (fun c14 => ?_) (fun c14 => ?_)
                  · skip
                    refine x_iload_n hx hb hl 1 rfl dX11_mostAtOnce_164 rfl ?_
                    rw [eQ]
                    exact x_iret hx hb hr hlk hW ri1_133 ⟨hF_36, ⟨q36_5, q36_6, q36_7, trivial⟩, zMg_i v133_2 (by omega)⟩ dX11_mostAtOnce_165
                  refine x_aload_n hx hb hl 0 rfl dX11_mostAtOnce_140 rfl ?_
                  refine x_get (j := 50) (v := .ref (h0 + 300)) hx hb hown hT hE hW cls_X11 (Or.inl (by decide)) (so_268 h0 g _) (by decide) rfl wq1235 dX11_mostAtOnce_141 ?_
                  refine x_iload_n hx hb hl 2 rfl dX11_mostAtOnce_144 rfl ?_
                  refine x_zald hx hb hE hW (Or.inl (by decide)) (sa_300 h0 g _) (by omega) (by decide) dX11_mostAtOnce_145 ?_
                  refine x_rd hW (fun x15 ex15 rx15 => ?_)
                  have V145 : x15 = s_36 300 i2_133 := ex15
                  have Z145 := v133_1 i2_133 (by omega) (by omega)
                  rw [← V145] at Z145
                  have Y145 : x15 = 1 → zMb (zAt K9 q9 (s0 295) (zYr s0)) 100 i2_133 := fun h => (Z145.resolve_right (fun q => by omega)).2
                  have N145 : x15 = 0 → ¬ zMb (zAt K9 q9 (s0 295) (zYr s0)) 100 i2_133 := fun h => (Z145.resolve_left (fun q => by omega)).2
                  refine x_if_eq (tgt := 158) hx hb rx15 dX11_mostAtOnce_146 (by decide) (fun c16 => ?_) (fun c16 => ?_)
                  · skip
                    refine x_iinc (lv' := [(2, .int (xJ (i2_133 + 1))), (0, .ref (h0 + 268)), (1, .int (xJ i1_133))]) hx hb hl 2 rfl dX11_mostAtOnce_158 (by decide) rfl (fun ls hl => ?_)
                    refine lv_goto (tgt := 133) hx hb dX11_mostAtOnce_161 (by decide) ?_
                    exact ih133 i1_133 (i2_133 + 1) H locs ls ri1_133 (by omega) (by omega) (v133_1) (by
                        first
                          | exact zMg_n v133_2 (N145 (by omega))
                          | exact zMg_y v133_2 ⟨by omega, by omega⟩ (Y145 (by omega)) R151 H154) (by have hm := hm_133 (); omega) hW (lv_sub hl [1, 2, 0] rfl)
                  refine x_iload_n hx hb hl 1 rfl dX11_mostAtOnce_149 rfl ?_
                  refine x_iload_n hx hb hl 2 rfl dX11_mostAtOnce_150 rfl ?_
                  refine x_goi (x_runS (As := [.int (xJ i2_133)]) hx hb hml hown hT hE hW hl.1 cf_X11_bits wq1650 wq1649 (c_X11_bitsF l D g T h0 s_36 hW.2.1 i2_133 ri2_133 (by omega)) ⟨rfl, rfl, ⟨by decide, by decide⟩, ⟨by decide, by decide⟩⟩ rfl rfl (Nat.le_of_ble_eq_true rfl) dX11_mostAtOnce_151) hW (fun x17 s18 H locs rx17 hp19 hW => ?_)
                  obtain ⟨es18, hp19⟩ := hp19
                  subst es18
                  have ghp19 := hp19
                  have R151 := ghp19
                  refine x_goi (x_runS (As := [.int (xJ i1_133), .int (xJ x17)]) hx hb hml hown hT hE hW hl.1 cf_X11_max wq1677 wq1676 (c_X11_max l D g T h0 s_36 hW.2.1 i1_133 ri1_133 x17 rx17) ⟨rfl, rfl, ⟨by decide, by decide⟩, ⟨by decide, by decide⟩⟩ rfl rfl (Nat.le_of_ble_eq_true rfl) dX11_mostAtOnce_154) hW (fun x20 s21 H locs rx20 hp22 hW => ?_)
                  obtain ⟨es21, hp22⟩ := hp22
                  subst es21
                  have ghp22 := hp22
                  have H154 := ghp22
                  refine lv_istore_n (lv' := [(1, .int (xJ x20)), (0, .ref (h0 + 268)), (2, .int (xJ i2_133))]) hx hb dX11_mostAtOnce_157 rfl hl (by decide) rfl (fun ls hl => ?_)
                  refine x_iinc (lv' := [(2, .int (xJ (i2_133 + 1))), (1, .int (xJ x20)), (0, .ref (h0 + 268))]) hx hb hl 2 rfl dX11_mostAtOnce_158 (by decide) rfl (fun ls hl => ?_)
                  refine lv_goto (tgt := 133) hx hb dX11_mostAtOnce_161 (by decide) ?_
                  exact ih133 x20 (i2_133 + 1) H locs ls rx20 (by omega) (by omega) (v133_1) (by
                      first
                        | exact zMg_n v133_2 (N145 (by omega))
                        | exact zMg_y v133_2 ⟨by omega, by omega⟩ (Y145 (by omega)) R151 H154) (by have hm := hm_133 (); omega) hW (lv_sub hl [2, 1, 0] rfl)
              exact L133 ((1025 - 0 : Int).toNat + 1) 0 0 H locs ls (by decide) (by decide) (by omega) (by have z := v36_1; rw [show i1_36 = 100 from by omega] at z; exact z) (⟨Or.inl rfl, by omega, fun T T1 T2 => absurd T2 (by omega)⟩) (Nat.lt_succ_self _) hW (lv_sub hl [2, 1, 0] rfl)
            refine x_aload_n hx hb hl 0 rfl dX11_mostAtOnce_42 rfl ?_
            refine x_get (j := 40) (v := .ref (h0 + 295)) hx hb hown hT hE hW cls_X11 (Or.inl (by decide)) (so_268 h0 g _) (by decide) rfl wq1225 dX11_mostAtOnce_43 ?_
            refine x_iload_n hx hb hl 1 rfl dX11_mostAtOnce_46 rfl ?_
            refine x_iald hx hb hE hW (Or.inl (by decide)) (sa_295 h0 g _) (by omega) (by decide) dX11_mostAtOnce_47 ?_
            refine x_rd hW (fun x23 ex23 rx23 => ?_)
            have V47 : x23 = s0 295 i1_36 := by rw [ex23, q36_4]
            refine x_if_ne (tgt := 54) hx hb rx23 dX11_mostAtOnce_48 (by decide) (fun c24 => ?_) (fun c24 => ?_)
            · skip
              refine x_sipush hx hb dX11_mostAtOnce_54 (by decide) ?_
              refine lv_istore_n (lv' := [(2, .int (xJ 1023)), (0, .ref (h0 + 268)), (1, .int (xJ i1_36))]) hx hb dX11_mostAtOnce_57 rfl hl (by decide) rfl (fun ls hl => ?_)
              have L58 : ∀ (fu : Nat) (i2_58 : Int) (s_58 : xS) (H : Heap) (locs : List Loc) (ls : Array Slot), (xR i2_58) → (xFr (fun k => k = 293 ∨ k = 294 ∨ k = 296 ∨ k = 300 ∨ k = 301) s0 s_58) → (s_58 268 8 = s0 268 8) → (s_58 268 58 = s0 268 58) → (s_58 268 17 = s0 268 17) → (s_58 268 48 = s0 268 48) → (s_58 295 = s0 295) → (IMn s_58) → (IMk s_58) → (IMo s_58) → (s_58 301 = s2 301) → (-1 ≤ i2_58 ∧ i2_58 ≤ 1023) → (zCs (s_58 300) (zMk2 (zAt K9 q9 (s0 295) (zYr s0)) i1_36 i2_58 0)) → (i2_58 + 2).toNat < fu → xW D g h0 s H locs s_58 → lv_has ls 4 [(0, .ref (h0 + 268)), (1, .int (xJ i1_36)), (2, .int (xJ i2_58))] → W p l e { frames := 5, cells := 0, slots := 0, locals := 118 } s m args below meth c H locs 0 0 Q (F0 m 58 ls []) := by
                intro fu
                induction fu with
                | zero => intro i2_58 s_58 H locs ls ri2_58 hF_58 q58_0 q58_1 q58_2 q58_3 q58_4 q58_5 q58_6 q58_7 q58_8 v58_0 v58_1 hm; exact absurd hm (Nat.not_lt_zero _)
                | succ fu ih58 =>
                  intro i2_58 s_58 H locs ls ri2_58 hF_58 q58_0 q58_1 q58_2 q58_3 q58_4 q58_5 q58_6 q58_7 q58_8 v58_0 v58_1 hm hW hl
                  have hm_58 := fun (_ : Unit) => hm
                  clear hm
                  refine x_iload_n hx hb hl 2 rfl dX11_mostAtOnce_58 rfl ?_
                  refine x_if_lt (tgt := 123) hx hb ri2_58 dX11_mostAtOnce_59 (by decide) (fun c25 => ?_) (fun c25 => ?_)
                  · skip
                    refine x_iinc (lv' := [(1, .int (xJ (i1_36 + 1))), (0, .ref (h0 + 268)), (2, .int (xJ i2_58))]) hx hb hl 1 rfl dX11_mostAtOnce_123 (by decide) rfl (fun ls hl => ?_)
                    refine lv_goto (tgt := 36) hx hb dX11_mostAtOnce_126 (by decide) ?_
                    exact ih36 (i1_36 + 1) s_58 H locs ls (by omega) hF_58 q58_0 q58_1 q58_2 q58_3 q58_4 q58_5 q58_6 q58_7 q58_8 (by omega) (by
                        first
                          | exact zCs_c v58_1 (fun T T1 T2 => by rw [show i2_58 = -1 from by omega]; exact zMk2_e (by omega) ⟨T1, T2⟩)
                          | exact zCs_c v36_1 (fun T T1 T2 => ⟨zMb_m, fun q => ((zMb_s (by omega) ⟨T1, T2⟩).mp q).elim id (fun ⟨f, _, y, _⟩ => absurd (by rw [← V47]; omega) y.2.1)⟩)) (by have hm := hm_36 (); omega) hW (lv_sub hl [1, 0] rfl)
                  refine x_iconst hx hb dX11_mostAtOnce_62 ?_
                  refine lv_istore_n (lv' := [(3, .int (xJ 0)), (0, .ref (h0 + 268)), (1, .int (xJ i1_36)), (2, .int (xJ i2_58))]) hx hb dX11_mostAtOnce_63 rfl hl (by decide) rfl (fun ls hl => ?_)
                  have L64 : ∀ (fu : Nat) (i3_64 : Int) (s_64 : xS) (H : Heap) (locs : List Loc) (ls : Array Slot), (xR i3_64) → (xFr (fun k => k = 293 ∨ k = 294 ∨ k = 296 ∨ k = 300 ∨ k = 301) s0 s_64) → (s_64 268 8 = s0 268 8) → (s_64 268 58 = s0 268 58) → (s_64 268 17 = s0 268 17) → (s_64 268 48 = s0 268 48) → (s_64 295 = s0 295) → (IMn s_64) → (IMk s_64) → (IMo s_64) → (s_64 301 = s2 301) → (0 ≤ i3_64 ∧ i3_64 ≤ 10) → (zCs (s_64 300) (zMk2 (zAt K9 q9 (s0 295) (zYr s0)) i1_36 i2_58 i3_64)) → (11 - i3_64).toNat < fu → xW D g h0 s H locs s_64 → lv_has ls 4 [(0, .ref (h0 + 268)), (1, .int (xJ i1_36)), (2, .int (xJ i2_58)), (3, .int (xJ i3_64))] → W p l e { frames := 5, cells := 0, slots := 0, locals := 118 } s m args below meth c H locs 0 0 Q (F0 m 64 ls []) := by
                    intro fu
                    induction fu with
                    | zero => intro i3_64 s_64 H locs ls ri3_64 hF_64 q64_0 q64_1 q64_2 q64_3 q64_4 q64_5 q64_6 q64_7 q64_8 v64_0 v64_1 hm; exact absurd hm (Nat.not_lt_zero _)
                    | succ fu ih64 =>
                      intro i3_64 s_64 H locs ls ri3_64 hF_64 q64_0 q64_1 q64_2 q64_3 q64_4 q64_5 q64_6 q64_7 q64_8 v64_0 v64_1 hm hW hl
                      have hm_64 := fun (_ : Unit) => hm
                      clear hm
                      refine x_iload_n hx hb hl 3 rfl dX11_mostAtOnce_64 rfl ?_
                      refine x_bipush hx hb dX11_mostAtOnce_65 (by decide) ?_
                      refine x_icmp_ge (tgt := 117) hx hb ri3_64 (by decide) dX11_mostAtOnce_67 (by decide) (fun c26 => ?_) (fun c26 => ?_)
                      · skip
                        refine x_iinc (lv' := [(2, .int (xJ (i2_58 + (-1)))), (0, .ref (h0 + 268)), (1, .int (xJ i1_36)), (3, .int (xJ i3_64))]) hx hb hl 2 rfl dX11_mostAtOnce_117 (by decide) rfl (fun ls hl => ?_)
                        refine lv_goto (tgt := 58) hx hb dX11_mostAtOnce_120 (by decide) ?_
                        exact ih58 (i2_58 + (-1)) s_64 H locs ls (by omega) hF_64 q64_0 q64_1 q64_2 q64_3 q64_4 q64_5 q64_6 q64_7 q64_8 (by omega) (by
                            first
                              | exact zCs_c v64_1 (fun T T1 T2 => by rw [show i3_64 = 10 from by omega]; exact zMk2_d)
                              | exact zCs_c v64_1 (fun T T1 T2 => zMk2_n (N75 (by omega)))) (by have hm := hm_58 (); omega) hW (lv_sub hl [1, 2, 0] rfl)
                      refine x_aload_n hx hb hl 0 rfl dX11_mostAtOnce_70 rfl ?_
                      refine x_get (j := 50) (v := .ref (h0 + 300)) hx hb hown hT hE hW cls_X11 (Or.inl (by decide)) (so_268 h0 g _) (by decide) rfl wq1235 dX11_mostAtOnce_71 ?_
                      refine x_iload_n hx hb hl 2 rfl dX11_mostAtOnce_74 rfl ?_
                      refine x_zald hx hb hE hW (Or.inl (by decide)) (sa_300 h0 g _) (by omega) (by decide) dX11_mostAtOnce_75 ?_
                      refine x_rd hW (fun x27 ex27 rx27 => ?_)
                      have V75 : x27 = s_64 300 i2_58 := ex27
                      have Z75 := v64_1 i2_58 (by omega) (by omega)
                      rw [← V75] at Z75
                      have Y75 : x27 = 1 → zMb (zAt K9 q9 (s0 295) (zYr s0)) i1_36 i2_58 := fun h => (zMk2_t (by omega)).mp (Z75.resolve_right (fun q => by omega)).2
                      have N75 : x27 = 0 → ¬ zMb (zAt K9 q9 (s0 295) (zYr s0)) i1_36 i2_58 := fun h q => (Z75.resolve_left (fun q => by omega)).2 ((zMk2_t (by omega)).mpr q)
                      refine x_if_eq (tgt := 117) hx hb rx27 dX11_mostAtOnce_76 (by decide) (fun c28 => ?_) (fun c28 => ?_)
                      · skip
                        refine x_iinc (lv' := [(2, .int (xJ (i2_58 + (-1)))), (0, .ref (h0 + 268)), (1, .int (xJ i1_36)), (3, .int (xJ i3_64))]) hx hb hl 2 rfl dX11_mostAtOnce_117 (by decide) rfl (fun ls hl => ?_)
                        refine lv_goto (tgt := 58) hx hb dX11_mostAtOnce_120 (by decide) ?_
                        exact ih58 (i2_58 + (-1)) s_64 H locs ls (by omega) hF_64 q64_0 q64_1 q64_2 q64_3 q64_4 q64_5 q64_6 q64_7 q64_8 (by omega) (by
                            first
                              | exact zCs_c v64_1 (fun T T1 T2 => by rw [show i3_64 = 10 from by omega]; exact zMk2_d)
                              | exact zCs_c v64_1 (fun T T1 T2 => zMk2_n (N75 (by omega)))) (by have hm := hm_58 (); omega) hW (lv_sub hl [1, 2, 0] rfl)
                      refine x_iload_n hx hb hl 2 rfl dX11_mostAtOnce_79 rfl ?_
                      refine x_iload_n hx hb hl 3 rfl dX11_mostAtOnce_80 rfl ?_
                      refine x_goi (x_runS (As := [.int (xJ i2_58), .int (xJ i3_64)]) hx hb hml hown hT hE hW hl.1 cf_X11_has wq1415 wq1414 (c_X11_has l D g T h0 s_64 hW.2.1 i2_58 ri2_58 i3_64 ri3_64) ⟨rfl, rfl, ⟨by decide, by decide⟩, ⟨by decide, by decide⟩⟩ rfl rfl (Nat.le_of_ble_eq_true rfl) dX11_mostAtOnce_81) hW (fun x29 s30 H locs rx29 hp31 hW => ?_)
                      obtain ⟨es30, hp31⟩ := hp31
                      subst es30
                      have ghp31 := hp31
                      have H81 := ghp31.2 (by omega)
                      have N81 : x29 = 0 → ¬ zbit i2_58 i3_64 := fun h q => by
                        have q : xsh i2_58 i3_64 % 2 = 1 := q
                        omega
                      refine x_if_ne (tgt := 111) hx hb rx29 dX11_mostAtOnce_84 (by decide) (fun c32 => ?_) (fun c32 => ?_)
                      · skip
                        refine x_iinc (lv' := [(3, .int (xJ (i3_64 + 1))), (0, .ref (h0 + 268)), (1, .int (xJ i1_36)), (2, .int (xJ i2_58))]) hx hb hl 3 rfl dX11_mostAtOnce_111 (by decide) rfl (fun ls hl => ?_)
                        refine lv_goto (tgt := 64) hx hb dX11_mostAtOnce_114 (by decide) ?_
                        exact ih64 (i3_64 + 1) s_64 H locs ls (by omega) hF_64 q64_0 q64_1 q64_2 q64_3 q64_4 q64_5 q64_6 q64_7 q64_8 (by omega) (by
                            first
                              | exact zCs_s v64_1 (by omega) (by omega) (A94 (by omega)) (N81 (by omega)) (Y75 (by omega)) E110
                              | exact zCs_k v64_1 (by omega) (by omega) (fun q => q.2 (show xsh i2_58 i3_64 % 2 = 1 from by omega))
                              | exact zCs_k v64_1 (by omega) (by omega) (fun q => by have y := Z94.mpr ⟨q.1.1, q.1.2.2⟩; omega)) (by have hm := hm_64 (); omega) hW (lv_sub hl [1, 2, 3, 0] rfl)
                      refine x_aload_n hx hb hl 0 rfl dX11_mostAtOnce_87 rfl ?_
                      refine x_get (j := 51) (v := .ref (h0 + 301)) hx hb hown hT hE hW cls_X11 (Or.inl (by decide)) (so_268 h0 g _) (by decide) rfl wq1236 dX11_mostAtOnce_88 ?_
                      refine x_iload_n hx hb hl 1 rfl dX11_mostAtOnce_91 rfl ?_
                      refine x_iald hx hb hE hW (Or.inl (by decide)) (sa_301 h0 g _) (by omega) (by decide) dX11_mostAtOnce_92 ?_
                      refine x_rd hW (fun x33 ex33 rx33 => ?_)
                      have V92 : x33 = s2 301 i1_36 := by rw [ex33, q64_8]
                      have Z92 := (H1 i1_36 (by omega) (by omega)).2 i3_64 (by omega) (by omega)
                      refine x_iload_n hx hb hl 3 rfl dX11_mostAtOnce_93 rfl ?_
                      refine x_goi (x_runS (As := [.int (xJ x33), .int (xJ i3_64)]) hx hb hml hown hT hE hW hl.1 cf_X11_has wq1415 wq1414 (c_X11_has l D g T h0 s_64 hW.2.1 x33 rx33 i3_64 ri3_64) ⟨rfl, rfl, ⟨by decide, by decide⟩, ⟨by decide, by decide⟩⟩ rfl rfl (Nat.le_of_ble_eq_true rfl) dX11_mostAtOnce_94) hW (fun x34 s35 H locs rx34 hp36 hW => ?_)
                      obtain ⟨es35, hp36⟩ := hp36
                      subst es35
                      have ghp36 := hp36
                      have H94 := ghp36.2 (by omega)
                      rw [V92] at H94
                      have Z94 : x34 = 1 ↔ zAr K9 q9 (zYr s0) i3_64 i1_36 := ⟨fun h => (Z92.mp (show xsh (s2 301 i1_36) i3_64 % 2 = 1 from by omega)).2, fun q => by
                        have y : xsh (s2 301 i1_36) i3_64 % 2 = 1 := Z92.mpr ⟨Or.inl (by omega), q⟩
                        omega⟩
                      have A94 : x34 = 1 → zAt K9 q9 (s0 295) (zYr s0) i3_64 i1_36 := fun h => by
                        have y := Z94.mp h
                        exact ⟨y.1, by rw [← V47]; omega, y.2⟩
                      refine x_if_eq (tgt := 111) hx hb rx34 dX11_mostAtOnce_97 (by decide) (fun c37 => ?_) (fun c37 => ?_)
                      · skip
                        refine x_iinc (lv' := [(3, .int (xJ (i3_64 + 1))), (0, .ref (h0 + 268)), (1, .int (xJ i1_36)), (2, .int (xJ i2_58))]) hx hb hl 3 rfl dX11_mostAtOnce_111 (by decide) rfl (fun ls hl => ?_)
                        refine lv_goto (tgt := 64) hx hb dX11_mostAtOnce_114 (by decide) ?_
                        exact ih64 (i3_64 + 1) s_64 H locs ls (by omega) hF_64 q64_0 q64_1 q64_2 q64_3 q64_4 q64_5 q64_6 q64_7 q64_8 (by omega) (by
                            first
                              | exact zCs_s v64_1 (by omega) (by omega) (A94 (by omega)) (N81 (by omega)) (Y75 (by omega)) E110
                              | exact zCs_k v64_1 (by omega) (by omega) (fun q => q.2 (show xsh i2_58 i3_64 % 2 = 1 from by omega))
                              | exact zCs_k v64_1 (by omega) (by omega) (fun q => by have y := Z94.mpr ⟨q.1.1, q.1.2.2⟩; omega)) (by have hm := hm_64 (); omega) hW (lv_sub hl [1, 2, 3, 0] rfl)
                      refine x_aload_n hx hb hl 0 rfl dX11_mostAtOnce_100 rfl ?_
                      refine x_get (j := 50) (v := .ref (h0 + 300)) hx hb hown hT hE hW cls_X11 (Or.inl (by decide)) (so_268 h0 g _) (by decide) rfl wq1235 dX11_mostAtOnce_101 ?_
                      refine x_iload_n hx hb hl 2 rfl dX11_mostAtOnce_104 rfl ?_
                      refine x_iconst hx hb dX11_mostAtOnce_105 ?_
                      refine x_iload_n hx hb hl 3 rfl dX11_mostAtOnce_106 rfl ?_
                      refine lv_ishl hx hb dX11_mostAtOnce_107 ?_
                      refine x_anyE (fun x38 ex38 rx38 => ?_)
                      have V107 := ex38
                      refine lv_ior hx hb dX11_mostAtOnce_108 ?_
                      refine x_anyE (fun x39 ex39 rx39 => ?_)
                      have V108 : x39 = zbo i2_58 i3_64 := zbo_j (by omega) (by omega) V107 rx39 ex39
                      have B108 := (zbo_s (show 0 ≤ i2_58 ∧ i2_58 < 1024 from by omega) (show 0 ≤ i3_64 ∧ i3_64 < 10 from by omega)).1
                      rw [← V108] at B108
                      refine x_iconst hx hb dX11_mostAtOnce_109 ?_
                      refine x_zast hx hb hE hW (by decide) (fun σ => sa_300 h0 g σ) (by omega) (by decide) (by omega) dX11_mostAtOnce_110 (fun H locs s40 es40 hW => ?_)
                      have q41 : s40 268 8 = s0 268 8 := (show s40 268 8 = s_64 268 8 from by rw [es40, xU_k _ _ _ (by first | decide | omega)]).trans q64_0
                      have q42 : s40 268 58 = s0 268 58 := (show s40 268 58 = s_64 268 58 from by rw [es40, xU_k _ _ _ (by first | decide | omega)]).trans q64_1
                      have q43 : s40 268 17 = s0 268 17 := (show s40 268 17 = s_64 268 17 from by rw [es40, xU_k _ _ _ (by first | decide | omega)]).trans q64_2
                      have q44 : s40 268 48 = s0 268 48 := (show s40 268 48 = s_64 268 48 from by rw [es40, xU_k _ _ _ (by first | decide | omega)]).trans q64_3
                      have q45 : s40 295 = s0 295 := by rw [es40, xU_k _ _ _ (by first | decide | omega)]; exact q64_4
                      have q46 : IMn s40 := by rw [es40]; exact IMn_o (by unfold suIMn; first | decide | omega) q64_5
                      have q47 : IMk s40 := by rw [es40]; exact IMk_o (by unfold suIMk; first | decide | omega) q64_6
                      have q48 : IMo s40 := by rw [es40]; exact IMo_o (by unfold suIMo; first | decide | omega) q64_7
                      have q49 : s40 301 = s2 301 := by rw [es40, xU_k _ _ _ (by first | decide | omega)]; exact q64_8
                      have hF50 := hF_64.put es40 (by omega)
                      have E110 : s40 300 = xud (s_64 300) (zbo i2_58 i3_64) 1 := by rw [es40, xU_xud, V108]
                      refine x_iinc (lv' := [(3, .int (xJ (i3_64 + 1))), (0, .ref (h0 + 268)), (1, .int (xJ i1_36)), (2, .int (xJ i2_58))]) hx hb hl 3 rfl dX11_mostAtOnce_111 (by decide) rfl (fun ls hl => ?_)
                      refine lv_goto (tgt := 64) hx hb dX11_mostAtOnce_114 (by decide) ?_
                      exact ih64 (i3_64 + 1) s40 H locs ls (by omega) hF50 q41 q42 q43 q44 q45 q46 q47 q48 q49 (by omega) (by
                          first
                            | exact zCs_s v64_1 (by omega) (by omega) (A94 (by omega)) (N81 (by omega)) (Y75 (by omega)) E110
                            | exact zCs_k v64_1 (by omega) (by omega) (fun q => q.2 (show xsh i2_58 i3_64 % 2 = 1 from by omega))
                            | exact zCs_k v64_1 (by omega) (by omega) (fun q => by have y := Z94.mpr ⟨q.1.1, q.1.2.2⟩; omega)) (by have hm := hm_64 (); omega) hW (lv_sub hl [1, 2, 3, 0] rfl)
                  exact L64 ((11 - 0 : Int).toNat + 1) 0 s_58 H locs ls (by decide) hF_58 q58_0 q58_1 q58_2 q58_3 q58_4 q58_5 q58_6 q58_7 q58_8 (by omega) (v58_1) (Nat.lt_succ_self _) hW (lv_sub hl [1, 2, 3, 0] rfl)
              exact L58 ((1023 + 2 : Int).toNat + 1) 1023 s_36 H locs ls (by decide) hF_36 q36_0 q36_1 q36_2 q36_3 q36_4 q36_5 q36_6 q36_7 q36_8 (by omega) (zCs_c v36_1 (fun T T1 T2 => (zMk2_0 ⟨T1, T2⟩).symm)) (Nat.lt_succ_self _) hW (lv_sub hl [1, 2, 0] rfl)
            refine lv_goto (tgt := 123) hx hb dX11_mostAtOnce_51 (by decide) ?_
            refine x_iinc (lv' := [(1, .int (xJ (i1_36 + 1))), (0, .ref (h0 + 268))]) hx hb hl 1 rfl dX11_mostAtOnce_123 (by decide) rfl (fun ls hl => ?_)
            refine lv_goto (tgt := 36) hx hb dX11_mostAtOnce_126 (by decide) ?_
            exact ih36 (i1_36 + 1) s_36 H locs ls (by omega) hF_36 q36_0 q36_1 q36_2 q36_3 q36_4 q36_5 q36_6 q36_7 q36_8 (by omega) (by
                first
                  | exact zCs_c v58_1 (fun T T1 T2 => by rw [show i2_58 = -1 from by omega]; exact zMk2_e (by omega) ⟨T1, T2⟩)
                  | exact zCs_c v36_1 (fun T T1 T2 => ⟨zMb_m, fun q => ((zMb_s (by omega) ⟨T1, T2⟩).mp q).elim id (fun ⟨f, _, y, _⟩ => absurd (by rw [← V47]; omega) y.2.1)⟩)) (by have hm := hm_36 (); omega) hW (lv_sub hl [1, 0] rfl)
        exact L36 ((101 - 0 : Int).toNat + 1) 0 s_6 H locs ls (by decide) hF_6 q6_0 q6_1 q6_2 q6_3 q6_4 q6_5 q6_6 q6_7 q6_8 (by omega) (fun T T1 T2 => by
            rcases v6_1 T T1 (by omega) with ⟨a, b⟩ | ⟨a, b⟩
            · exact Or.inl ⟨a, (zMb_i ⟨T1, T2⟩).mpr b⟩
            · exact Or.inr ⟨a, fun q => b ((zMb_i ⟨T1, T2⟩).mp q)⟩) (Nat.lt_succ_self _) hW (lv_sub hl [1, 0] rfl)
      refine x_aload_n hx hb hl 0 rfl dX11_mostAtOnce_13 rfl ?_
      refine x_get (j := 50) (v := .ref (h0 + 300)) hx hb hown hT hE hW cls_X11 (Or.inl (by decide)) (so_268 h0 g _) (by decide) rfl wq1235 dX11_mostAtOnce_14 ?_
      refine x_iload_n hx hb hl 1 rfl dX11_mostAtOnce_17 rfl ?_
      refine x_iload_n hx hb hl 1 rfl dX11_mostAtOnce_18 rfl ?_
      have J27 : ∀ (t0_27 : Int) (ls : Array Slot), (xR t0_27) → ((t0_27 = 1 ∧ i1_6 = 0) ∨ (t0_27 = 0 ∧ i1_6 ≠ 0)) → lv_has ls 4 [(0, .ref (h0 + 268)), (1, .int (xJ i1_6))] → W p l e { frames := 5, cells := 0, slots := 0, locals := 118 } s m args below meth c H locs 0 0 Q (F0 m 27 ls [.int (xJ t0_27), .int (xJ i1_6), .ref (h0 + 300)]) := by
        intro t0_27 ls rt0_27 v27_0  hl
        refine x_zast hx hb hE hW (by decide) (fun σ => sa_300 h0 g σ) (by omega) (by decide) (by omega) dX11_mostAtOnce_27 (fun H locs s51 es51 hW => ?_)
        have q52 : s51 268 8 = s0 268 8 := (show s51 268 8 = s_6 268 8 from by rw [es51, xU_k _ _ _ (by first | decide | omega)]).trans q6_0
        have q53 : s51 268 58 = s0 268 58 := (show s51 268 58 = s_6 268 58 from by rw [es51, xU_k _ _ _ (by first | decide | omega)]).trans q6_1
        have q54 : s51 268 17 = s0 268 17 := (show s51 268 17 = s_6 268 17 from by rw [es51, xU_k _ _ _ (by first | decide | omega)]).trans q6_2
        have q55 : s51 268 48 = s0 268 48 := (show s51 268 48 = s_6 268 48 from by rw [es51, xU_k _ _ _ (by first | decide | omega)]).trans q6_3
        have q56 : s51 295 = s0 295 := by rw [es51, xU_k _ _ _ (by first | decide | omega)]; exact q6_4
        have q57 : IMn s51 := by rw [es51]; exact IMn_o (by unfold suIMn; first | decide | omega) q6_5
        have q58 : IMk s51 := by rw [es51]; exact IMk_o (by unfold suIMk; first | decide | omega) q6_6
        have q59 : IMo s51 := by rw [es51]; exact IMo_o (by unfold suIMo; first | decide | omega) q6_7
        have q60 : s51 301 = s2 301 := by rw [es51, xU_k _ _ _ (by first | decide | omega)]; exact q6_8
        have hF61 := hF_6.put es51 (by omega)
        have E27 := es51
        refine x_iinc (lv' := [(1, .int (xJ (i1_6 + 1))), (0, .ref (h0 + 268))]) hx hb hl 1 rfl dX11_mostAtOnce_28 (by decide) rfl (fun ls hl => ?_)
        refine lv_goto (tgt := 6) hx hb dX11_mostAtOnce_31 (by decide) ?_
        exact ih6 (i1_6 + 1) s51 H locs ls (by omega) hF61 q52 q53 q54 q55 q56 q57 q58 q59 q60 (by omega) (fun t t1 t2 => by
            rw [E27, xU_xud]
            by_cases h : t = i1_6
            · rw [h, xud_s]; exact v27_0
            · rw [xud_o _ _ h]; exact v6_1 t t1 (by omega)) (by have hm := hm_6 (); omega) hW (lv_sub hl [1, 0] rfl)
      refine x_if_ne (tgt := 26) hx hb ri1_6 dX11_mostAtOnce_19 (by decide) (fun c62 => ?_) (fun c62 => ?_)
      · skip
        refine x_iconst hx hb dX11_mostAtOnce_26 ?_
        exact J27 0 ls (by decide) (by omega)  (lv_sub hl [0, 1] rfl)
      refine x_iconst hx hb dX11_mostAtOnce_22 ?_
      refine lv_goto (tgt := 27) hx hb dX11_mostAtOnce_23 (by decide) ?_
      exact J27 1 ls (by decide) (by omega)  (lv_sub hl [0, 1] rfl)
  exact L6 ((1025 - 0 : Int).toNat + 1) 0 s2 H locs ls (by decide) hF4 q5 q6 q7 q8 q10 hp3.1.1 hp3.1.2.1 hp3.1.2.2.1 q11 (by omega) (fun t t1 t2 => absurd t2 (by omega)) (Nat.lt_succ_self _) hW (lv_sub hl [1, 0] rfl)
set_option maxHeartbeats 4000000 in
set_option maxRecDepth 100000 in
theorem c_X11_atOnceP (l : Launch) (D : va_G) (g : xG) (T : Nat × Nat × Nat) (h0 : Nat) (s0 : xS) (hσ : xRR s0) (n : Int) (rn : xR n) (K9 : Int → Int) (n9 : Int → Int) (w9 : Int → Int → Int) (q9 : zLaw) (l9 : Int → Int) (hok : zLok q9) (hlr : zLR s0 q9) (hK : ∀ t : Int, 0 ≤ t → t < 100 → s0 272 t = K9 t ∧ 0 ≤ K9 t ∧ K9 t ≤ 3) (hlm : ∀ i : Int, 0 ≤ i → i < 4 → s0 273 i = l9 i) (hw : ∀ j : Int, 0 ≤ j → j < 2 → s0 274 j = n9 j ∧ ∀ i : Int, 0 ≤ i → i < n9 j → s0 275 (60 * j + i) = w9 j i) (hY : zYq (zYr s0)) (hB : 0 ≤ s0 269 36 ∧ s0 269 36 < 1024) (hJt : zJt K9 (zY4 (zYr s0))) (p0 : IMn s0) (p1 : IMk s0) (p2 : IMo s0) : Met l yX11_atOnce (xws yX11_atOnce cX11_atOnce 4 (some .int)) { frames := 7, cells := 0, slots := 0, locals := 162 } (xP [.ref (h0 + 268), .int (xJ n)] D g T h0 s0) (xQi D g h0 (fun r τ => xFr (fun k => k = 293 ∨ k = 294 ∨ k = 295 ∨ k = 296 ∨ k = 300 ∨ k = 301) s0 τ ∧ (((IMn τ) ∧ (IMk τ) ∧ (IMo τ) ∧ True) ∧ (((0 ≤ n ∧ n ≤ 2) ∧ (n = 1 → r = zsu (fun t => if zLy K9 q9 l9 ((zYN (s0 269) 0 0 0) 44) (zYN (s0 269) 0 0 0) 1 (zni q9 ((zYN (s0 269) 0 0 0) 44)) t ≠ 0 then 1 else 0) 100) ∧ (n = 2 → r = zsu (fun t => if 1 < zLy K9 q9 l9 ((zYN (s0 269) 0 0 0) 44) (zYN (s0 269) 0 0 0) 1 (zni q9 ((zYN (s0 269) 0 0 0) 44)) t then 1 else 0) 100) ∧ (n = 0 → zIm (zAt K9 q9 (fun t => zLy K9 q9 l9 ((zYN (s0 269) 0 0 0) 44) (zYN (s0 269) 0 0 0) 1 (zni q9 ((zYN (s0 269) 0 0 0) 44)) t) (zYr s0)) r)) ∨ (¬ (0 ≤ n ∧ n ≤ 2) ∧ r = -1))))) 0 0 (xA h0) := by
  refine x_met hσ (by decide) (Nat.le_of_ble_eq_true rfl) ?_
  intro p e s m args below meth c hx hb hr hml hown hT hlk hnm hE hW ls hl
  have hl : lv_has ls 4 [(0, .ref (h0 + 268)), (1, .int (xJ n))] := hl
  obtain ⟨Q, eQ⟩ : ∃ Q, Q = MQ below (xQi D g h0 (fun r τ => xFr (fun k => k = 293 ∨ k = 294 ∨ k = 295 ∨ k = 296 ∨ k = 300 ∨ k = 301) s0 τ ∧ (((IMn τ) ∧ (IMk τ) ∧ (IMo τ) ∧ True) ∧ (((0 ≤ n ∧ n ≤ 2) ∧ (n = 1 → r = zsu (fun t => if zLy K9 q9 l9 ((zYN (s0 269) 0 0 0) 44) (zYN (s0 269) 0 0 0) 1 (zni q9 ((zYN (s0 269) 0 0 0) 44)) t ≠ 0 then 1 else 0) 100) ∧ (n = 2 → r = zsu (fun t => if 1 < zLy K9 q9 l9 ((zYN (s0 269) 0 0 0) 44) (zYN (s0 269) 0 0 0) 1 (zni q9 ((zYN (s0 269) 0 0 0) 44)) t then 1 else 0) 100) ∧ (n = 0 → zIm (zAt K9 q9 (fun t => zLy K9 q9 l9 ((zYN (s0 269) 0 0 0) 44) (zYN (s0 269) 0 0 0) 1 (zni q9 ((zYN (s0 269) 0 0 0) 44)) t) (zYr s0)) r)) ∨ (¬ (0 ≤ n ∧ n ≤ 2) ∧ r = -1))))) args s 0 0 (xA h0) := ⟨_, rfl⟩
  rw [← eQ]
  generalize hHe : ([] : List Loc) = locs at hW ⊢
  obtain ⟨H, eH⟩ : ∃ H, H = s.heap := ⟨_, rfl⟩
  rw [← eH] at hW ⊢
  have hF : xFr (fun k => k = 293 ∨ k = 294 ∨ k = 295 ∨ k = 296 ∨ k = 300 ∨ k = 301) s0 s0 := xFr.rf
  have k268_8 : s0 268 8 = s0 268 8 := rfl
  have k268_58 : s0 268 58 = s0 268 58 := rfl
  have k268_17 : s0 268 17 = s0 268 17 := rfl
  have k268_48 : s0 268 48 = s0 268 48 := rfl
  have hm7 := (IMn.n1 p0).2.2.2.1
  have hgj : ∀ j : Int, 0 ≤ j → j < 2 → xsh (s0 269 34) j % 2 = 1 → K9 (s0 269 j) ≠ 1 := zJg_G hJt (fun j j1 j2 => ((IMn.n1 p0).1 j j1 j2).1)
  have hnj : zrj (s0 269) 0 ≠ zrj (s0 269) 1 ∨ zrj (s0 269) 0 = -1 := zJg_N hJt
  refine x_iload_n hx hb hl 1 rfl dX11_atOnce_0 rfl ?_
  refine x_iconst hx hb dX11_atOnce_1 ?_
  refine x_iconst hx hb dX11_atOnce_2 ?_
  refine x_goi (x_runS (As := [.int (xJ n), .int (xJ 0), .int (xJ 2)]) hx hb hml hown hT hE hW hl.1 cf_X11_in wq1383 wq1382 (c_X11_in l D g T h0 s0 hW.2.1 n rn 0 (by decide) 2 (by decide)) ⟨rfl, rfl, ⟨by decide, by decide⟩, ⟨by decide, by decide⟩⟩ rfl rfl (Nat.le_of_ble_eq_true rfl) dX11_atOnce_3) hW (fun x1 s2 H locs rx1 hp3 hW => ?_)
  obtain ⟨es2, hp3⟩ := hp3
  subst es2
  have ghp3 := hp3
  refine x_if_ne (tgt := 11) hx hb rx1 dX11_atOnce_6 (by decide) (fun c4 => ?_) (fun c4 => ?_)
  · skip
    refine x_aload_n hx hb hl 0 rfl dX11_atOnce_11 rfl ?_
    refine x_aload_n hx hb hl 0 rfl dX11_atOnce_12 rfl ?_
    refine x_get (j := 0) (v := .ref (h0 + 269)) hx hb hown hT hE hW cls_X11 (Or.inl (by decide)) (so_268 h0 g _) (by decide) rfl wq1185 dX11_atOnce_13 ?_
    refine x_bipush hx hb dX11_atOnce_16 (by decide) ?_
    refine x_iald hx hb hE hW (Or.inl (by decide)) (sa_269 h0 g _) ⟨by decide, by decide⟩ (by decide) dX11_atOnce_18 ?_
    refine x_rd hW (fun x5 ex5 rx5 => ?_)
    have bx5 : 0 ≤ x5 ∧ x5 ≤ 9999 := by rw [ex5]; exact (IMn.n1 p0).2.2.2.1
    have V18 : x5 = (zYN (s0 269) 0 0 0) 44 := ex5
    refine x_iconst hx hb dX11_atOnce_19 ?_
    refine x_gov (x_runV (As := [.int (xJ x5), .int (xJ 0)]) hx hb hml hown hT hE hW hl.1 (Or.inl (by decide)) (so_268 h0 g _) rfl cf_X11_laysShades wq1588 wq139 wq1586 (c_X11_laysShadesF l D g T h0 s0 hW.2.1 x5 rx5 0 (by decide) q9 K9 l9 (hok) (by first | exact hlr | exact hlr.f (fun k hk => hF k (by omega)) (by omega)) (by first | exact hK | exact fun t t1 t2 => by rw [hF 272 (by omega)]; exact hK t t1 t2) (by first | exact hlm | exact fun i i1 i2 => by rw [hF 273 (by omega)]; exact hlm i i1 i2) (hgj) (hnj) (by omega) p0 p1 p2) ⟨rfl, rfl, ⟨by decide, by decide⟩, ⟨by decide, by decide⟩⟩ rfl rfl (Nat.le_of_ble_eq_true rfl) dX11_atOnce_20) hW (fun s7 H locs hp8 hW => ?_)
    obtain ⟨fs7, hp8⟩ := hp8
    have hF9 := hF.call fs7 (fun k h => by omega)
    have q10 : s7 268 8 = s0 268 8 := (congrFun (fs7 _ (by omega)) _).trans k268_8
    have q11 : s7 268 58 = s0 268 58 := (congrFun (fs7 _ (by omega)) _).trans k268_58
    have q12 : s7 268 17 = s0 268 17 := (congrFun (fs7 _ (by omega)) _).trans k268_17
    have q13 : s7 268 48 = s0 268 48 := (congrFun (fs7 _ (by omega)) _).trans k268_48
    have ghp8 := hp8.2
    have H20 := ghp8
    have L20 : ∀ t : Int, 0 ≤ t → t < 100 → s7 295 t = zLy K9 q9 l9 ((zYN (s0 269) 0 0 0) 44) (zYN (s0 269) 0 0 0) 1 (zni q9 ((zYN (s0 269) 0 0 0) 44)) t := fun t t1 t2 => by
      rw [H20 t t1 t2, if_pos rfl, ← V18]
      exact zLy_J (J := (zYN (s0 269) 0 0 0)) rfl rfl
    have f20o := fs7
    refine x_iload_n hx hb hl 1 rfl dX11_atOnce_23 rfl ?_
    refine x_if_ne (tgt := 32) hx hb rn dX11_atOnce_24 (by decide) (fun c14 => ?_) (fun c14 => ?_)
    · skip
      refine x_iconst hx hb dX11_atOnce_32 ?_
      refine lv_istore_n (lv' := [(2, .int (xJ 0)), (0, .ref (h0 + 268)), (1, .int (xJ n))]) hx hb dX11_atOnce_33 rfl hl (by decide) rfl (fun ls hl => ?_)
      refine x_iconst hx hb dX11_atOnce_34 ?_
      refine lv_istore_n (lv' := [(3, .int (xJ 0)), (2, .int (xJ 0)), (0, .ref (h0 + 268)), (1, .int (xJ n))]) hx hb dX11_atOnce_35 rfl hl (by decide) rfl (fun ls hl => ?_)
      have L36 : ∀ (fu : Nat) (i2_36 : Int) (i3_36 : Int) (ls : Array Slot), (xR i2_36) → (xR i3_36) → (0 ≤ i3_36 ∧ i3_36 ≤ 100) → (i2_36 = zsu (fun t => if n ≤ zLy K9 q9 l9 ((zYN (s0 269) 0 0 0) 44) (zYN (s0 269) 0 0 0) 1 (zni q9 ((zYN (s0 269) 0 0 0) 44)) t then 1 else 0) (i3_36).toNat) → (0 ≤ i2_36 ∧ i2_36 ≤ i3_36) → (100 - i3_36).toNat < fu → lv_has ls 4 [(0, .ref (h0 + 268)), (1, .int (xJ n)), (2, .int (xJ i2_36)), (3, .int (xJ i3_36))] → W p l e { frames := 7, cells := 0, slots := 0, locals := 162 } s m args below meth c H locs 0 0 Q (F0 m 36 ls []) := by
        intro fu
        induction fu with
        | zero => intro i2_36 i3_36 ls ri2_36 ri3_36 v36_0 v36_1 v36_2 hm; exact absurd hm (Nat.not_lt_zero _)
        | succ fu ih36 =>
          intro i2_36 i3_36 ls ri2_36 ri3_36 v36_0 v36_1 v36_2 hm  hl
          have hm_36 := fun (_ : Unit) => hm
          clear hm
          refine x_iload_n hx hb hl 3 rfl dX11_atOnce_36 rfl ?_
          refine x_bipush hx hb dX11_atOnce_37 (by decide) ?_
          refine x_icmp_ge (tgt := 66) hx hb ri3_36 (by decide) dX11_atOnce_39 (by decide) (fun c15 => ?_) (fun c15 => ?_)
          · skip
            refine x_iload_n hx hb hl 2 rfl dX11_atOnce_66 rfl ?_
            rw [eQ]
            exact x_iret hx hb hr hlk hW ri2_36 ⟨hF9, ⟨hp8.1.1, hp8.1.2.1, hp8.1.2.2.1, trivial⟩, by
                have e : i2_36 = zsu (fun t => if n ≤ zLy K9 q9 l9 ((zYN (s0 269) 0 0 0) 44) (zYN (s0 269) 0 0 0) 1 (zni q9 ((zYN (s0 269) 0 0 0) 44)) t then 1 else 0) 100 := by rw [v36_1, show (i3_36).toNat = 100 from by omega]
                refine Or.inl ⟨by omega, fun z => ?_, fun z => ?_, fun z => absurd z (by omega)⟩
                · rw [e]
                  refine zsu_c (fun t t1 t2 => ?_)
                  have y := zLy_r K9 q9 l9 ((zYN (s0 269) 0 0 0) 44) (zYN (s0 269) 0 0 0) 1 (zni q9 ((zYN (s0 269) 0 0 0) 44)) t
                  show (if n ≤ zLy K9 q9 l9 ((zYN (s0 269) 0 0 0) 44) (zYN (s0 269) 0 0 0) 1 (zni q9 ((zYN (s0 269) 0 0 0) 44)) t then (1 : Int) else 0) = if zLy K9 q9 l9 ((zYN (s0 269) 0 0 0) 44) (zYN (s0 269) 0 0 0) 1 (zni q9 ((zYN (s0 269) 0 0 0) 44)) t ≠ 0 then 1 else 0
                  by_cases c : n ≤ zLy K9 q9 l9 ((zYN (s0 269) 0 0 0) 44) (zYN (s0 269) 0 0 0) 1 (zni q9 ((zYN (s0 269) 0 0 0) 44)) t
                  · rw [if_pos c, if_pos (by omega)]
                  · rw [if_neg c, if_neg (by omega)]
                · rw [e]
                  refine zsu_c (fun t t1 t2 => ?_)
                  show (if n ≤ zLy K9 q9 l9 ((zYN (s0 269) 0 0 0) 44) (zYN (s0 269) 0 0 0) 1 (zni q9 ((zYN (s0 269) 0 0 0) 44)) t then (1 : Int) else 0) = if 1 < zLy K9 q9 l9 ((zYN (s0 269) 0 0 0) 44) (zYN (s0 269) 0 0 0) 1 (zni q9 ((zYN (s0 269) 0 0 0) 44)) t then 1 else 0
                  by_cases c : n ≤ zLy K9 q9 l9 ((zYN (s0 269) 0 0 0) 44) (zYN (s0 269) 0 0 0) 1 (zni q9 ((zYN (s0 269) 0 0 0) 44)) t
                  · rw [if_pos c, if_pos (by omega)]
                  · rw [if_neg c, if_neg (by omega)]⟩ dX11_atOnce_67
          refine x_iload_n hx hb hl 2 rfl dX11_atOnce_42 rfl ?_
          refine x_aload_n hx hb hl 0 rfl dX11_atOnce_43 rfl ?_
          refine x_get (j := 40) (v := .ref (h0 + 295)) hx hb hown hT hE hW cls_X11 (Or.inl (by decide)) (so_268 h0 g _) (by decide) rfl wq1225 dX11_atOnce_44 ?_
          refine x_iload_n hx hb hl 3 rfl dX11_atOnce_47 rfl ?_
          refine x_iald hx hb hE hW (Or.inl (by decide)) (sa_295 h0 g _) (by omega) (by decide) dX11_atOnce_48 ?_
          refine x_rd hW (fun x16 ex16 rx16 => ?_)
          have V48 : x16 = zLy K9 q9 l9 ((zYN (s0 269) 0 0 0) 44) (zYN (s0 269) 0 0 0) 1 (zni q9 ((zYN (s0 269) 0 0 0) 44)) i3_36 := ex16.trans (L20 _ (by omega) (by omega))
          refine x_iload_n hx hb hl 1 rfl dX11_atOnce_49 rfl ?_
          have J58 : ∀ (t0_58 : Int) (ls : Array Slot), (xR t0_58) → (t0_58 = (if n ≤ zLy K9 q9 l9 ((zYN (s0 269) 0 0 0) 44) (zYN (s0 269) 0 0 0) 1 (zni q9 ((zYN (s0 269) 0 0 0) 44)) i3_36 then 1 else 0)) → (0 ≤ t0_58 ∧ t0_58 ≤ 1) → lv_has ls 4 [(0, .ref (h0 + 268)), (1, .int (xJ n)), (3, .int (xJ i3_36))] → W p l e { frames := 7, cells := 0, slots := 0, locals := 162 } s m args below meth c H locs 0 0 Q (F0 m 58 ls [.int (xJ t0_58), .int (xJ i2_36)]) := by
            intro t0_58 ls rt0_58 v58_0 v58_1  hl
            refine x_iadd hx hb dX11_atOnce_58 ?_
            refine x_nm (fun x17 ex17 => ?_)
            refine lv_istore_n (lv' := [(2, .int (xJ x17)), (0, .ref (h0 + 268)), (1, .int (xJ n)), (3, .int (xJ i3_36))]) hx hb dX11_atOnce_59 rfl hl (by decide) rfl (fun ls hl => ?_)
            refine x_iinc (lv' := [(3, .int (xJ (i3_36 + 1))), (2, .int (xJ x17)), (0, .ref (h0 + 268)), (1, .int (xJ n))]) hx hb hl 3 rfl dX11_atOnce_60 (by decide) rfl (fun ls hl => ?_)
            refine lv_goto (tgt := 36) hx hb dX11_atOnce_63 (by decide) ?_
            exact ih36 x17 (i3_36 + 1) ls (by omega) (by omega) (by omega) (by
                rw [show (i3_36 + 1).toNat = i3_36.toNat + 1 from by omega]
                show _ = zsu (fun t => if n ≤ zLy K9 q9 l9 ((zYN (s0 269) 0 0 0) 44) (zYN (s0 269) 0 0 0) 1 (zni q9 ((zYN (s0 269) 0 0 0) 44)) t then 1 else 0) i3_36.toNat + (if n ≤ zLy K9 q9 l9 ((zYN (s0 269) 0 0 0) 44) (zYN (s0 269) 0 0 0) 1 (zni q9 ((zYN (s0 269) 0 0 0) 44)) ((i3_36.toNat : Nat) : Int) then 1 else 0)
                rw [show ((i3_36.toNat : Nat) : Int) = i3_36 from by omega, ← v36_1, ← v58_0]
                omega) (by omega) (by have hm := hm_36 (); omega)  (lv_sub hl [2, 3, 1, 0] rfl)
          refine x_icmp_lt (tgt := 57) hx hb rx16 rn dX11_atOnce_50 (by decide) (fun c18 => ?_) (fun c18 => ?_)
          · skip
            refine x_iconst hx hb dX11_atOnce_57 ?_
            exact J58 0 ls (by decide) (by first | (rw [if_pos (by rw [← V48]; omega)]) | (rw [if_neg (by rw [← V48]; omega)])) (by omega)  (lv_sub hl [0, 1, 3] rfl)
          refine x_iconst hx hb dX11_atOnce_53 ?_
          refine lv_goto (tgt := 58) hx hb dX11_atOnce_54 (by decide) ?_
          exact J58 1 ls (by decide) (by first | (rw [if_pos (by rw [← V48]; omega)]) | (rw [if_neg (by rw [← V48]; omega)])) (by omega)  (lv_sub hl [0, 1, 3] rfl)
      exact L36 ((100 - 0 : Int).toNat + 1) 0 0 ls (by decide) (by decide) (by omega) (rfl) (by omega) (Nat.lt_succ_self _)  (lv_sub hl [2, 3, 1, 0] rfl)
    refine x_aload_n hx hb hl 0 rfl dX11_atOnce_27 rfl ?_
    refine x_goi (x_runV (As := []) hx hb hml hown hT hE hW hl.1 (Or.inl (by decide)) (so_268 h0 g _) rfl cf_X11_mostAtOnce wq1670 wq153 wq1668 (c_X11_mostAtOnceP l D g T h0 s7 hW.2.1 q9 K9 (hok) (by first | exact hlr | exact hlr.f (fun k hk => hF9 k (by omega)) (by omega)) (by first | exact hK | exact fun t t1 t2 => by rw [hF9 272 (by first | decide | omega)]; exact hK t t1 t2) hp8.1.1 hp8.1.2.1 hp8.1.2.2.1) ⟨rfl, rfl, ⟨by decide, by decide⟩, ⟨by decide, by decide⟩⟩ rfl rfl (Nat.le_of_ble_eq_true rfl) dX11_atOnce_28) hW (fun x19 s20 H locs rx19 hp21 hW => ?_)
    obtain ⟨fs20, hp21⟩ := hp21
    have hF22 := hF9.call fs20 (fun k h => by omega)
    have q23 : s20 268 8 = s0 268 8 := (congrFun (fs20 _ (by omega)) _).trans q10
    have q24 : s20 268 58 = s0 268 58 := (congrFun (fs20 _ (by omega)) _).trans q11
    have q25 : s20 268 17 = s0 268 17 := (congrFun (fs20 _ (by omega)) _).trans q12
    have q26 : s20 268 48 = s0 268 48 := (congrFun (fs20 _ (by omega)) _).trans q13
    have ghp21 := hp21.2
    have H28 : zIm (zAt K9 q9 (fun t => zLy K9 q9 l9 ((zYN (s0 269) 0 0 0) 44) (zYN (s0 269) 0 0 0) 1 (zni q9 ((zYN (s0 269) 0 0 0) 44)) t) (zYr s0)) x19 := by
      have e := ghp21
      rw [show zYr s7 = (zYr s0) from zYr_f (f20o 269 (by omega)) (f20o 268 (by omega))] at e
      exact zIm_c (fun f k _ _ k1 k2 => by unfold zAt; rw [L20 k k1 k2]) e
    rw [eQ]
    exact x_iret hx hb hr hlk hW rx19 ⟨hF22, ⟨hp21.1.1, hp21.1.2.1, hp21.1.2.2.1, trivial⟩, Or.inl ⟨by omega, fun z => absurd z (by omega), fun z => absurd z (by omega), fun _ => H28⟩⟩ dX11_atOnce_31
  refine x_iconst hx hb dX11_atOnce_9 ?_
  rw [eQ]
  exact x_iret hx hb hr hlk hW (by decide) ⟨hF, ⟨p0, p1, p2, trivial⟩, Or.inr ⟨by omega, by omega⟩⟩ dX11_atOnce_10

