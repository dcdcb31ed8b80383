/-! ===== how both sides stand to each other, the whole day ===== -/
def zQs (σ : xS) : zLaw := (σ 283, σ 284, σ 285, σ 286, σ 287, σ 268 17)
def zLx (σ : xS) : Prop := zLok (zQs σ) ∧ zLD σ (zQs σ)
def zLm (σ : xS) : Prop := ∀ i : Int, 0 ≤ i → i < 4 → σ 129 i = σ 273 i ∧ (σ 273 i = -1 ∨ (0 ≤ σ 273 i ∧ σ 273 i < 100))
def zBt (N : Int → Int) : Prop := (0 ≤ N 34 ∧ N 34 ≤ 3) ∧ (0 ≤ N 35 ∧ N 35 < 1024) ∧ (0 ≤ N 36 ∧ N 36 < 1024)
def zDd (σ : xS) (d N : Nat) : Prop := zYe (zYc σ d) (zYN (σ N) 0 0 0) ∧ zYq (zYN (σ N) 0 0 0) ∧ zJt (σ 4) (zrt (σ N)) ∧ zBt (σ N)
abbrev zWf (σ : xS) (S : Nat) : Int → Int → Int := fun j i => σ S (60 * j + i)
def zWk (σ : xS) (d M S : Nat) : Prop := zWc σ d (σ M) (zWf σ S)
def zKp (σ : xS) : Prop := σ 0 11 ≠ 0 → zDd σ 146 271 ∧ zWk σ 146 308 309
def zR9 (σ : xS) : Prop := zLx σ ∧ zLm σ ∧ (zDd σ 136 269 ∧ zWk σ 136 274 275 ∧ zB8 σ 275) ∧ (zB8 σ 309 ∧ zKp σ) ∧ IS σ ∧ IQ σ ∧ zSg σ ∧ σ 268 48 = -1
section R9
variable {σ τ : xS} {d N M S : Nat} {K Y Y2 Y3 : Int → Int} {q : zLaw} {a c s j f v : Int}
theorem zYe.tr (h : zYe Y Y2) (h2 : zYe Y2 Y3) : zYe Y Y3 := fun i a b c => (h i a b c).trans (h2 i a b c)
theorem zYe.rf : zYe Y Y := fun _ _ _ _ => rfl
theorem zLR_s (e : ∀ k : Nat, (283 ≤ k ∧ k ≤ 287) → τ k = σ k) (e17 : τ 268 17 = σ 268 17) : zLR τ (zQs σ) := ⟨e 283 (by omega), e 284 (by omega), e 285 (by omega), e 286 (by omega), e 287 (by omega), e17⟩
theorem zLx.ff (h : zLx σ) (e : ∀ k : Nat, ((109 ≤ k ∧ k ≤ 114) ∨ (283 ≤ k ∧ k ≤ 287)) → τ k = σ k) (e17 : τ 268 17 = σ 268 17) : zLx τ := by
  have q : zQs τ = zQs σ := by
    unfold zQs
    rw [e 283 (by omega), e 284 (by omega), e 285 (by omega), e 286 (by omega), e 287 (by omega), e17]
  exact ⟨by rw [q]; exact h.1, by rw [q]; exact h.2.f (fun k hk => e k (Or.inl hk))⟩
theorem zLm.ff (h : zLm σ) (e1 : τ 129 = σ 129) (e2 : τ 273 = σ 273) : zLm τ := by
  unfold zLm
  rw [e1, e2]
  exact h
theorem zDd.ff (h : zDd σ d N) (e : ∀ o : Nat, (o = 0 ∨ o = 1 ∨ (5 ≤ o ∧ o ≤ 9)) → τ (d + o) = σ (d + o)) (e4 : τ 4 = σ 4) (eN : ∀ q : Int, 0 ≤ q → q < 39 → τ N q = σ N q) : zDd τ d N := by
  obtain ⟨h1, h2, h3, h4⟩ := h
  refine ⟨?_, ?_, ?_, ?_⟩
  · rw [zYc_f e, zYN_cg eN]; exact h1
  · rw [zYN_cg eN]; exact h2
  · rw [e4, zrt_f (eN 0 (by decide) (by decide)) (eN 1 (by decide) (by decide)) (eN 2 (by decide) (by decide)) (eN 3 (by decide) (by decide)) (eN 34 (by decide) (by decide))]; exact h3
  · unfold zBt
    rw [eN 34 (by decide) (by decide), eN 35 (by decide) (by decide), eN 36 (by decide) (by decide)]
    exact h4
theorem zWk.ff (h : zWk σ d M S) (e2 : τ (d + 2) = σ (d + 2)) (eR : eRows σ τ) (eM : τ M = σ M) (eS : τ S = σ S) : zWk τ d M S := by
  unfold zWk zWf
  rw [eM, eS]
  exact h.f e2 eR
theorem zDd.qq (h : zDd σ d N) : zYq (zYc σ d) := h.1.yq h.2.1
theorem zDd.p4 (h : zDd σ d N) : zY4 (zYc σ d) = zrt (σ N) := by
  show (zYc σ d 0, zYc σ d 1, zYc σ d 2, zYc σ d 3) = (zYN (σ N) 0 0 0 0, zYN (σ N) 0 0 0 1, zYN (σ N) 0 0 0 2, zYN (σ N) 0 0 0 3)
  rw [h.1 0 (by decide) (by decide) (by decide), h.1 1 (by decide) (by decide) (by decide), h.1 2 (by decide) (by decide) (by decide), h.1 3 (by decide) (by decide) (by decide)]
theorem zDd.ok4 (h : zDd σ d N) (hn : okN σ N) : zok (zY4 (zYc σ d)) := by rw [h.p4]; exact zok_N hn
/-- as p5's word says it -/
theorem zDd.jd (h : zDd σ d N) (hw : zWk σ d M S) (h8 : zB8 σ S) : zJD σ d N M S := ⟨by rw [zt_Y]; exact h.p4, h.2.2.2.1, hw, h8⟩
/-- a day told anew on both sides -/
theorem zDd.up {Z Z2 : Int → Int} (hc : zYc τ d = Z) (hr : zYN (τ N) 0 0 0 = Z2) (he : zYe Z Z2) (hq : zYq Z2) (hg : zJt (τ 4) (zY4 Z2)) (hb : zBt (τ N)) : zDd τ d N := by
  subst hc; subst hr
  exact ⟨he, hq, hg, hb⟩
theorem zDd.mn {lm n : Int → Int} {w : Int → Int → Int} {k : Nat} (h : zDd σ 136 269) (hc : zYc τ 136 = zmn (σ 4) q lm n w (-1) k (zYc σ 136)) (hr : zYN (τ 269) a c s = zmn (σ 4) q lm n w (-1) k (zYN (σ 269) 0 0 0)) (e4 : τ 4 = σ 4) (b34 : τ 269 34 = σ 269 34) (b35 : τ 269 35 = σ 269 35) (b36 : 0 ≤ τ 269 36 ∧ τ 269 36 < 1024) : zDd τ 136 269 := by
  obtain ⟨h1, h2, h3, h4⟩ := h
  have z := h1.mn (K := σ 4) (q := q) (lm := lm) (n := n) (w := w) (ah := -1) k
  have y := zmn_q (K := σ 4) (q := q) (lm := lm) (n := n) (w := w) (ah := -1) h2 k
  have g := zmn_g (K := σ 4) (q := q) (lm := lm) (n := n) (w := w) (ah := -1) (Y := zYN (σ 269) 0 0 0) h3 k
  rw [← hc, ← hr] at z
  rw [← hr] at y g
  exact ⟨z.tr zYN_e0, zYN_q y, by rw [e4]; exact g, by unfold zBt; rw [b34, b35]; exact ⟨h4.1, h4.2.1, b36⟩⟩
theorem zYN_o34 {N : Int → Int} (hj : 0 ≤ j ∧ j < 2) (h34 : 0 ≤ N 34 ∧ N 34 ≤ 3) : zYN (xud (xud N 34 (zor (N 34) j)) j v) a c s = xud (zYN N a c s) j v := by
  have b := zor_b h34 hj
  have t : xsh (zor (N 34) j) j % 2 = 1 := by
    rcases (by omega : j = 0 ∨ j = 1) with rfl | rfl
    · rw [b.2.1]; rfl
    · rw [b.2.2]; rfl
  have e1 : xud N 34 (zor (N 34) j) 34 = zor (N 34) j := xud_s _ _ _
  rw [zYN_uJ hj (by rw [e1]; exact t)]
  funext i
  by_cases e : i = j
  · rw [e, xud_s, xud_s]
  · rw [xud_o _ _ e, xud_o _ _ e]
    by_cases h : 0 ≤ i ∧ i < 2
    · rw [zYN_J h, zYN_J h]
      unfold zrj
      rw [e1, xud_o _ _ (show i ≠ 34 from by omega)]
      rcases (by omega : j = 0 ∨ j = 1) with rfl | rfl
      · have i1 : i = 1 := by omega
        subst i1
        rw [b.2.2]; rfl
      · have i0 : i = 0 := by omega
        subst i0
        rw [b.2.1]; rfl
    · exact zYN_34 (fun i hi => xud_o _ _ hi) (by omega)
theorem zYN_uS {N : Int → Int} (hj : 0 ≤ j ∧ j < 2) : zYN (xud N (2 + j) v) a c s = xud (zYN N a c s) (2 + j) v := zYN_c (fun i hi => zYN_u (by omega) (fun _ => hi) (by omega) (by omega)) (by rw [zYN_S (by omega), xud_s])
theorem zYe.u (h : zYe Y Y2) {i v : Int} : zYe (xud Y i v) (xud Y2 i v) := fun k a b c => zud_c (fun _ => h k a b c)
theorem zYq_f {x w : Int} (h : zYq Y) (hf : 0 ≤ f ∧ f < 10) (hx : 0 ≤ x ∧ x < 100) (hw : 0 ≤ w ∧ w ≤ 999) : zYq (xud (xud (xud (xud Y (4 + f) x) (14 + f) w) (24 + f) 0) (34 + f) 0) := fun g g1 g2 => by
  have z := h g g1 g2
  by_cases e : g = f
  · subst e
    rw [xud_o _ _ (show 4 + g ≠ 34 + g from by omega), xud_o _ _ (show 4 + g ≠ 24 + g from by omega), xud_o _ _ (show 4 + g ≠ 14 + g from by omega), xud_s, xud_o _ _ (show 14 + g ≠ 34 + g from by omega), xud_o _ _ (show 14 + g ≠ 24 + g from by omega), xud_s, xud_o _ _ (show 24 + g ≠ 34 + g from by omega), xud_s, xud_s]
    exact ⟨Or.inr hx, hw, by omega, Or.inl rfl⟩
  · rw [xud_o _ _ (show 4 + g ≠ 34 + f from by omega), xud_o _ _ (show 4 + g ≠ 24 + f from by omega), xud_o _ _ (show 4 + g ≠ 14 + f from by omega), xud_o _ _ (show 4 + g ≠ 4 + f from by omega), xud_o _ _ (show 14 + g ≠ 34 + f from by omega), xud_o _ _ (show 14 + g ≠ 24 + f from by omega), xud_o _ _ (show 14 + g ≠ 14 + f from by omega), xud_o _ _ (show 14 + g ≠ 4 + f from by omega), xud_o _ _ (show 24 + g ≠ 34 + f from by omega), xud_o _ _ (show 24 + g ≠ 24 + f from by omega), xud_o _ _ (show 24 + g ≠ 14 + f from by omega), xud_o _ _ (show 24 + g ≠ 4 + f from by omega), xud_o _ _ (show 34 + g ≠ 34 + f from by omega), xud_o _ _ (show 34 + g ≠ 24 + f from by omega), xud_o _ _ (show 34 + g ≠ 14 + f from by omega), xud_o _ _ (show 34 + g ≠ 4 + f from by omega)]
    exact z
theorem zDd.felon {x w : Int} (h : zDd σ 136 269) (hf : 0 ≤ f ∧ f < 10) (hx : 0 ≤ x ∧ x < 100) (hw : 0 ≤ w ∧ w ≤ 999) (hc : zYc τ 136 = xud (xud (xud (xud (zYc σ 136) (4 + f) x) (14 + f) w) (24 + f) 0) (34 + f) 0) (hr : zYN (τ 269) 0 0 0 = xud (xud (xud (xud (zYN (σ 269) 0 0 0) (4 + f) x) (14 + f) w) (24 + f) 0) (34 + f) 0) (e4 : τ 4 = σ 4) (hb : zBt (τ 269)) : zDd τ 136 269 :=
  zDd.up hc hr h.1.u.u.u.u (zYq_f h.2.1 hf hx hw) (by rw [e4, zY4_x (by omega), zY4_x (by omega), zY4_x (by omega), zY4_x (by omega)]; exact h.2.2.1) hb
theorem zDd.seed {x : Int} (h : zDd σ 136 269) (hc : zYc τ 136 = xud (zYc σ 136) 45 x) (hr : τ 269 = xud (σ 269) 38 x) (e4 : τ 4 = σ 4) : zDd τ 136 269 := by
  refine zDd.up hc (Z2 := xud (zYN (σ 269) 0 0 0) 45 x) (by rw [hr]; exact zYN_u38) h.1.u (zYq_x h.2.1 (by omega)) (by rw [e4, zY4_x (by decide)]; exact h.2.2.1) ?_
  unfold zBt
  rw [hr, xud_o _ _ (by decide), xud_o _ _ (by decide), xud_o _ _ (by decide)]
  exact h.2.2.2
theorem zDd.judge {x : Int} (h : zDd σ 136 269) (hj : 0 ≤ j ∧ j < 2) (hk : σ 4 x ≠ 1 ∧ σ 4 x ≠ 3) (hx : 0 ≤ x) (ho : zrj (σ 269) (1 - j) ≠ x) (hc : zYc τ 136 = xud (zYc σ 136) j x) (hr : τ 269 = xud (xud (σ 269) 34 (zor (σ 269 34) j)) j x) (e4 : τ 4 = σ 4) : zDd τ 136 269 := by
  obtain ⟨h1, h2, h3, h4⟩ := h
  refine zDd.up hc (Z2 := xud (zYN (σ 269) 0 0 0) j x) (by rw [hr]; exact zYN_o34 hj h4.1) h1.u (zYq_x h2 (by omega)) ?_ ?_
  · rw [e4]
    obtain ⟨g1, g2, g3⟩ := h3
    rcases (by omega : j = 0 ∨ j = 1) with rfl | rfl
    · exact ⟨Or.inr hk, g2, Or.inl (fun q => ho q.symm)⟩
    · refine ⟨g1, Or.inr hk, ?_⟩
      show zrj (σ 269) 0 ≠ x ∨ _
      exact Or.inl ho
  · unfold zBt
    rw [hr, xud_o _ _ (show (34 : Int) ≠ j from by omega), xud_s, xud_o _ _ (show (35 : Int) ≠ j from by omega), xud_o _ _ (show (35 : Int) ≠ 34 from by decide), xud_o _ _ (show (36 : Int) ≠ j from by omega), xud_o _ _ (show (36 : Int) ≠ 34 from by decide)]
    exact ⟨(zor_b h4.1 hj).1, h4.2⟩
theorem zYc_w {σ τ : xS} {d : Nat} (e : ∀ o : Nat, (o = 0 ∨ o = 1 ∨ (6 ≤ o ∧ o ≤ 9)) → τ (d + o) = σ (d + o)) (e5 : τ (d + 5) = xud (σ (d + 5)) j v) (hj : 0 ≤ j ∧ j < 2) : zYc τ d = xud (zYc σ d) (2 + j) v := by
  rw [← zYc_uS (σ := σ) (d := d) hj]
  refine zYc_f (fun o ho => ?_)
  by_cases h : o = 5
  · subst h; rw [e5]; exact (xU_xud _ _ _ _).symm
  · rw [e o (by omega), xU_k _ _ _ (by omega)]
theorem zDd.walk (h : zDd σ 136 269) (hj : 0 ≤ j ∧ j < 2) (e : ∀ o : Nat, (o = 0 ∨ o = 1 ∨ (6 ≤ o ∧ o ≤ 9)) → τ (136 + o) = σ (136 + o)) (e5 : τ 141 = xud (σ 141) j 0) (hr : τ 269 = xud (σ 269) (2 + j) 0) (e4 : τ 4 = σ 4) : zDd τ 136 269 := by
  obtain ⟨h1, h2, h3, h4⟩ := h
  refine zDd.up (zYc_w e e5 hj) (Z2 := xud (zYN (σ 269) 0 0 0) (2 + j) 0) (by rw [hr]; exact zYN_uS hj) h1.u (zYq_x h2 (by omega)) ?_ ?_
  · rw [e4]
    obtain ⟨g1, g2, g3⟩ := h3
    rcases (by omega : j = 0 ∨ j = 1) with rfl | rfl
    · exact ⟨g1, g2, g3⟩
    · exact ⟨g1, g2, g3⟩
  · unfold zBt
    rw [hr, xud_o _ _ (by omega), xud_o _ _ (by omega), xud_o _ _ (by omega)]
    exact h4
/-! the market -/
theorem zoq_r {x : Int} (h : x = -1 ∨ (0 ≤ x ∧ x < 100)) : zoq K x = -1 ∨ (0 ≤ zoq K x ∧ zoq K x < 100) := by
  rcases zoq_c (K := K) (s := x) with e | e <;> omega
theorem zoq_g {x : Int} : zoq K x = -1 ∨ (K (zoq K x) ≠ 1 ∧ K (zoq K x) ≠ 3) := by
  by_cases c : 0 ≤ x ∧ x < 100 ∧ K x ≠ 1 ∧ K x ≠ 3
  · rw [zoq_y c]; exact Or.inr c.2.2
  · rw [zoq_n c]; exact Or.inl rfl
theorem zYe.MP (h : zYe Y Y2) : zYe (zMP K Y 2 10) (zMP K Y2 2 10) := fun i h1 h2 h3 => by
  unfold zMP zMx
  have e := h i h1 h2 h3
  have e4 : 4 ≤ i → i < 44 → Y (4 + (i - 4) % 10) = Y2 (4 + (i - 4) % 10) := fun a b => h _ (by omega) (by omega) (by omega)
  by_cases c : 0 ≤ i ∧ i < 2 ∧ i < 2
  · rw [if_pos c, if_pos c, e]
  · rw [if_neg c, if_neg c]
    by_cases c2 : 4 ≤ i ∧ i < 44 ∧ (i - 4) % 10 < 10
    · rw [if_pos c2, if_pos c2, e, e4 c2.1 c2.2.1]
    · rw [if_neg c2, if_neg c2, e]
theorem zMP_q (h : zYq Y) : zYq (zMP K Y 2 10) := fun g g1 g2 => by
  have z := h g g1 g2
  rw [zMP_p (i := 4 + g) (by omega) (by omega), zMP_p (i := 14 + g) (by omega) (by omega), zMP_p (i := 24 + g) (by omega) (by omega), zMP_p (i := 34 + g) (by omega) (by omega), zMx_4 ⟨g1, g2⟩, zMx_k (i := 14 + g) (f := g) (by omega) (by omega), zMx_k (i := 24 + g) (f := g) (by omega) (by omega), zMx_k (i := 34 + g) (f := g) (by omega) (by omega)]
  refine ⟨zoq_r z.1, ?_, ?_, ?_⟩
  · split <;> omega
  · split <;> omega
  · split
    · exact Or.inl rfl
    · exact z.2.2.2
theorem zMP_g (h : Y 0 ≠ Y 1 ∨ Y 0 = -1) : zJt K (zY4 (zMP K Y 2 10)) := by
  have e0 : zMP K Y 2 10 0 = zoq K (Y 0) := if_pos (by decide)
  have e1 : zMP K Y 2 10 1 = zoq K (Y 1) := if_pos (by decide)
  refine ⟨?_, ?_, ?_⟩
  · show zMP K Y 2 10 0 = -1 ∨ (K (zMP K Y 2 10 0) ≠ 1 ∧ K (zMP K Y 2 10 0) ≠ 3)
    rw [e0]; exact zoq_g
  · show zMP K Y 2 10 1 = -1 ∨ (K (zMP K Y 2 10 1) ≠ 1 ∧ K (zMP K Y 2 10 1) ≠ 3)
    rw [e1]; exact zoq_g
  · show zMP K Y 2 10 0 ≠ zMP K Y 2 10 1 ∨ zMP K Y 2 10 0 = -1
    rw [e0, e1]
    rcases zoq_c (K := K) (s := Y 0) with a | a <;> rcases zoq_c (K := K) (s := Y 1) with b | b <;> omega
theorem zDd.market {Z : Int → Int} (h : zDd σ 136 269) (hc : zYc τ 136 = zMP (τ 4) (zYc σ 136) 2 10) (hr : zYN (τ 269) 0 0 0 = zMP (zkg Z) (zYN (σ 269) 0 0 0) 2 10) (hk : ∀ t : Int, 0 ≤ t → t < 100 → τ 4 t = Z t ∧ 0 ≤ Z t ∧ Z t ≤ 3) (hb : zBt (τ 269)) : zDd τ 136 269 := by
  obtain ⟨h1, h2, h3, h4⟩ := h
  have e : zMP (zkg Z) (zYN (σ 269) 0 0 0) 2 10 = zMP (τ 4) (zYN (σ 269) 0 0 0) 2 10 := zMP_K (fun t t1 t2 => by
    have a := zkg_K (K := Z) (fun t t1 t2 => (hk t t1 t2).2) t t1 t2
    rw [(hk t t1 t2).1]
    exact a)
  rw [e] at hr
  exact zDd.up hc hr h1.MP (zMP_q h2) (zMP_g h3.2.2) hb
theorem zLm.market {Z : Int → Int} (h : zLm σ) (hc : ∀ i : Int, 0 ≤ i → i < 4 → τ 129 i = zoq (τ 4) (σ 129 i)) (hr : ∀ i : Int, 0 ≤ i → i < 4 → τ 273 i = zoq (zkg Z) (σ 273 i)) (hk : ∀ t : Int, 0 ≤ t → t < 100 → τ 4 t = Z t ∧ 0 ≤ Z t ∧ Z t ≤ 3) : zLm τ := fun i i1 i2 => by
  have z := h i i1 i2
  have e : zoq (zkg Z) (σ 273 i) = zoq (τ 4) (σ 273 i) := zoq_K (fun t t1 t2 => by
    have a := zkg_K (K := Z) (fun t t1 t2 => (hk t t1 t2).2) t t1 t2
    rw [(hk t t1 t2).1]
    exact a)
  rw [hc i i1 i2, hr i i1 i2, e, z.1]
  exact ⟨rfl, zoq_r z.2⟩
theorem zLm.lamp {i x : Int} (h : zLm σ) (hc : τ 129 = xud (σ 129) i x) (hr : τ 273 = xud (σ 273) i x) (hx : x = -1 ∨ (0 ≤ x ∧ x < 100)) : zLm τ := fun k k1 k2 => by
  rw [hc, hr]
  by_cases e : k = i
  · rw [e, xud_s, xud_s]; exact ⟨rfl, hx⟩
  · rw [xud_o _ _ e, xud_o _ _ e]; exact h k k1 k2
/-! the law -/
theorem zKR.cg {o v2 kd wa ak C L A B T C2 L2 A2 B2 T2 : Int → Int} {M c : Int} (h : zKR o v2 kd wa ak C L A B T M c) (hC : ∀ k : Int, 0 ≤ k → k < c → C2 k = C k) (hq : ∀ q : Int, 0 ≤ q → q < M → L2 q = L q ∧ A2 q = A q ∧ B2 q = B q ∧ T2 q = T q) : zKR o v2 kd wa ak C2 L2 A2 B2 T2 M c := fun q q1 q2 => by
  have z := h q q1 q2
  have e := hq q q1 q2
  rw [e.1, e.2.1, e.2.2.1, e.2.2.2]
  refine ⟨z.1, z.2.1, ⟨fun k k1 k2 => ?_, z.2.2.1.2⟩, fun k k1 k2 => ?_, z.2.2.2.2⟩
  · rw [hC k (by omega) (by omega)]; exact z.2.2.1.1 k k1 k2
  · rw [hC k (by omega) (by omega)]; exact z.2.2.2.1 k k1 k2
theorem zLok_new {f C0 L0 A0 B0 T0 C L A B T C2 L2 A2 B2 T2 : Int → Int} {n M c : Int} (hn : 0 ≤ n ∧ n ≤ 240) (e : zL0 f n C0 L0 A0 B0 T0 = (0, M, c, C, L, A, B, T)) (hC : ∀ k : Int, 0 ≤ k → k < c → C2 k = C k) (hq : ∀ q : Int, 0 ≤ q → q < M → L2 q = L q ∧ A2 q = A q ∧ B2 q = B q ∧ T2 q = T q) : zLok (C2, L2, A2, B2, T2, M) := by
  obtain ⟨hs, hc0, hc1, hM0, hM1⟩ := zL0_wf hn e
  have hb := zL0_bl hn e
  refine ⟨⟨hM0, hM1⟩, fun i i1 i2 => ?_⟩
  have i2 : i < M := i2
  have s := hs i i1 i2
  have b := hb i i1 i2
  have g := hq i i1 i2
  show (L2 i ≠ 110 → ∃ d, zGD C2 (A2 i) (B2 i) false d) ∧ ∃ d, zGD C2 (B2 i) (T2 i) true d
  rw [g.1, g.2.1, g.2.2.1, g.2.2.2]
  refine ⟨fun hl => ?_, ?_⟩
  · have sg := (s.2.1.resolve_left (fun z => hl z.1)).2
    have cC : ∀ k, A i ≤ k → k < B i → C2 k = C k := fun k k1 k2 => hC k (by omega) (by omega)
    have lo : ∀ k, A i ≤ k → k < B i → C2 k < 10485760 := fun k k1 k2 => by rw [cC k k1 k2]; exact b.2.1 k k1 k2
    exact (sg.cp cC).gd ⟨fun k k1 k2 k3 => absurd (lo k k1 k2) (by omega), fun k k1 k2 k3 => absurd (lo k k1 k2) (by omega), fun q => by cases q⟩ (fun k k1 k2 k3 => absurd (lo k k1 k2) (by omega))
  · have cC : ∀ k, B i ≤ k → k < T i → C2 k = C k := fun k k1 k2 => hC k (by omega) (by omega)
    have bc := b.2.2.cp b.1.2 cC
    exact (s.2.2.cp cC).gd bc.1 bc.2
theorem zLx.new {f C0 L0 A0 B0 T0 C L A B T : Int → Int} {n M c : Int} (hn : 0 ≤ n ∧ n ≤ 240) (e : zL0 f n C0 L0 A0 B0 T0 = (0, M, c, C, L, A, B, T)) (h6 : τ 109 6 = M) (h2 : τ 109 2 = c + 2 * M) (hk : zKR (τ 110) (τ 111) (τ 112) (τ 113) (τ 114) C L A B T M c) (h17 : τ 268 17 = M) (hC : ∀ k : Int, 0 ≤ k → k < c → τ 283 k = C k) (hq : ∀ q : Int, 0 ≤ q → q < M → τ 284 q = L q ∧ τ 285 q = A q ∧ τ 286 q = B q ∧ τ 287 q = T q) : zLx τ := by
  unfold zLx zQs
  rw [h17]
  exact ⟨zLok_new hn e hC hq, h6, c, h2, hk.cg hC hq⟩
/-! what is answered -/
theorem zDd.y0 (h : zDd σ d N) : zY0 (zYc σ d) = zYN (σ N) 0 0 0 := funext fun i => by
  unfold zY0
  by_cases e3 : i = 48
  · rw [e3, xud_s]; exact zYN_48.symm
  rw [xud_o _ _ e3]
  by_cases e2 : i = 47
  · rw [e2, xud_s]; exact zYN_47.symm
  rw [xud_o _ _ e2]
  by_cases e1 : i = 46
  · rw [e1, xud_s]; exact zYN_46.symm
  rw [xud_o _ _ e1]
  exact h.1 i e1 e2 e3
theorem zfi_e {l : Int → Int} {w : Int} (h : zYe Y Y2) (hf : 0 ≤ f ∧ f < 10) : zfi K q l Y f w = zfi K q l Y2 f w := by
  unfold zfi
  rw [h (4 + f) (by omega) (by omega) (by omega), h (14 + f) (by omega) (by omega) (by omega), h (24 + f) (by omega) (by omega) (by omega), h (34 + f) (by omega) (by omega) (by omega), h.vF hf, h 44 (by decide) (by decide) (by decide), zLy_J (J2 := Y) (J := Y2) (h 0 (by decide) (by decide) (by decide)) (h 1 (by decide) (by decide) (by decide))]
theorem zcw_e {l n : Int → Int} {tp w : Int} (h : zYe Y Y2) : zcw K l n q Y tp w = zcw K l n q Y2 tp w := by
  have e1 : zbv Y 2 = zbv Y2 2 := zbv_c (fun i i1 i2 => by rw [h i (by omega) (by omega) (by omega)])
  have e2 : zbv (fun i => Y (4 + i)) 10 = zbv (fun i => Y2 (4 + i)) 10 := zbv_c (fun i i1 i2 => by
    show Y (4 + i) ≠ -1 ↔ Y2 (4 + i) ≠ -1
    rw [h (4 + i) (by omega) (by omega) (by omega)])
  unfold zcw
  rw [h 44 (by decide) (by decide) (by decide), h 45 (by decide) (by decide) (by decide), e1, e2, h.sm]
  by_cases c : 10 ≤ w ∧ w ≤ 11
  · rw [h (w - 10) (by omega) (by omega) (by omega)]
    rw [if_neg (show ¬ (20 ≤ w ∧ w ≤ 21) from by omega), if_neg (show ¬ (20 ≤ w ∧ w ≤ 21) from by omega)]
  · rw [if_neg c, if_neg c]
    by_cases c2 : 20 ≤ w ∧ w ≤ 21
    · rw [h (w - 18) (by omega) (by omega) (by omega)]
    · rw [if_neg c2, if_neg c2]
theorem zba_c {S S2 : Int → Int} (hY : ∀ f : Int, 0 ≤ f → f < 10 → (zOw Y f ↔ zOw Y2 f)) (hS : ∀ f : Int, S f = S2 f) : ∀ k : Nat, k ≤ 10 → zba S Y k = zba S2 Y2 k
  | 0, _ => by rw [zba_0, zba_0, hS]
  | k + 1, hk => by
    have ih := zba_c hY hS k (by omega)
    by_cases c : zOw Y (k : Int)
    · by_cases c2 : (zba S Y k).1 < S (k : Int)
      · rw [zba_y rfl c c2, zba_y rfl ((hY _ (by omega) (by omega)).mp c) (by rw [← ih, ← hS]; exact c2), hS]
      · rw [zba_n rfl (Or.inr (by omega)), zba_n rfl (Or.inr (by rw [← ih, ← hS]; omega)), ih]
    · rw [zba_n rfl (Or.inl c), zba_n rfl (Or.inl (fun z => c ((hY _ (by omega) (by omega)).mpr z))), ih]
theorem zck_c {g O O2 : Int → Int} : ∀ {k : Nat}, (∀ i : Int, 0 ≤ i → i < (k : Int) → O i = O2 i) → zck g O k = zck g O2 k
  | 0, _ => rfl
  | k + 1, h => by
    have ih := zck_c (g := g) (k := k) (fun i i1 i2 => h i i1 (by omega))
    unfold zck
    rw [ih, h (k : Int) (by omega) (by omega)]
theorem zDd.tF (h : zDd σ d N) (hn : okN σ N) (hf : 0 ≤ f ∧ f < 10) : zYc σ d (4 + f) ≠ -1 ↔ xsh (σ N 35) f % 2 = 1 := by
  rw [h.1 (4 + f) (by omega) (by omega) (by omega)]
  exact zYN_Fn hf (hn.2.2.1 (4 + f) (by omega) (by omega)).1
theorem zDd.tJ (h : zDd σ d N) (hn : okN σ N) (hj : 0 ≤ j ∧ j < 2) : zYc σ d j ≠ -1 ↔ xsh (σ N 34) j % 2 = 1 := by
  rw [h.1 j (by omega) (by omega) (by omega)]
  exact zYN_Jn hj (hn.1 j hj.1 hj.2).1
end R9
