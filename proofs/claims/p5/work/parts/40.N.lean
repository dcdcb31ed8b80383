/-! ===== a law's code is safe, and never deep ===== -/
def zwf : List Int → Int → Int
  | [] => fun _ => 0
  | v :: r => xud (zwf r) (r.length : Int) v
def zWD (C : Int → Int) (st : List Int) (c a D : Int) : Prop := zDC C (zwf st) c (st.length : Int) a D
theorem zlenc (v : Int) (r : List Int) : (((v :: r).length : Nat) : Int) = (r.length : Int) + 1 := by rw [List.length_cons]; omega
section WD
variable {C C2 : Int → Int} {st r : List Int} {c a D D2 v o c2 : Int}
theorem zWD.push (h : zWD C st c a D) (hv : v < 11534336 ∨ 13631488 ≤ v) : zWD C (v :: st) c a D := by
  unfold zWD
  rw [zlenc]
  exact zDC_push h hv
theorem zWD.pop (h : zWD C (v :: r) c a D) (hv : v < 11534336 ∨ 13631488 ≤ v) : zWD C r c a D := by
  unfold zWD at h
  rw [zlenc] at h
  have e : zwf (v :: r) ((r.length : Int) + 1 - 1) = v := by
    rw [show (r.length : Int) + 1 - 1 = r.length from by omega]
    exact xud_s _ _ _
  have h2 := zDC_pop h (by rw [e]; exact hv)
  rw [show (r.length : Int) + 1 - 1 = r.length from by omega] at h2
  exact zDC_c h2 (fun i i1 i2 => (xud_o (zwf r) v (by omega)).symm) rfl
theorem zWD.note (h : zWD C st c a D) (ha : a ≤ c) (hv : 0 ≤ v) (hD : (v < 1048583 ∧ D2 = D + 1) ∨ ((10485760 ≤ v ∧ v < 11534336) ∧ 1 ≤ D ∧ D2 = D) ∨ ((2097152 ≤ v ∧ v < 10485760) ∧ 2 ≤ D ∧ D2 = D - 1)) : zWD (xud C c v) st (c + 1) a D2 := zDC_note h ha hv hD
theorem zWD.jump (h : zWD C st c a 1) (ha : 0 ≤ a ∧ a ≤ c ∧ c < 1048576) (ho : o = 11534336 ∨ o = 12582912) : zWD (xud C c o) ((o + c) :: st) (c + 1) a 0 := by
  unfold zWD
  rw [zlenc]
  rcases ho with rfl | rfl
  · exact zDC_jump (o := 11) h ha (by omega) (Or.inl rfl)
  · exact zDC_jump (o := 12) h ha (by omega) (Or.inr rfl)
theorem zWD.land (h : zWD C (v :: r) c a 1) (ha : 0 ≤ a ∧ c < 1048576) (hv : 11534336 ≤ v ∧ v < 13631488) : zWD (zland C v c) r c a 1 := by
  unfold zWD at h
  rw [zlenc] at h
  have e0 : (r.length : Int) + 1 - 1 = r.length := by omega
  have e : zwf (v :: r) ((r.length : Int) + 1 - 1) = v := by
    rw [e0]
    exact xud_s _ _ _
  have h2 := zDC_land h ha (by omega) (by rw [e]; exact hv) (k0 := v % 1048576) (by rw [e])
  rw [e0] at h2
  exact zDC_c h2 (fun i i1 i2 => (xud_o (zwf r) v (by omega)).symm) rfl
end WD
theorem zDC_cp {c c2 w : Int → Int} {C W a D : Int} (h : zDC c w C W a D) (hc : ∀ k, a ≤ k → k < C → c2 k = c k) : zDC c2 w C W a D := by
  obtain ⟨d, h1, h2, h3, h4, h5⟩ := h
  refine ⟨d, h1, h2, fun k k1 k2 => zokc_c (h3 k k1 k2) (hc k k1 k2) (fun _ _ => rfl) k2 (Int.le_refl _), h4, fun i i1 i2 i3 i4 => ?_⟩
  have q := h5 i i1 i2 i3 i4
  unfold zokw at q ⊢
  rw [hc _ q.1 q.2.1]
  exact q
/-- how a number of the code changes the depth, and the depth behind so many of them -/
def zdl (v : Int) : Int := if v < 2097152 then 1 else if v < 10485760 then -1 else if v < 11534336 then 0 else -1
def zdp (C : Int → Int) (a : Int) : Nat → Int
  | 0 => 0
  | j + 1 => zdp C a j + zdl (C (a + j))
def zBD (C : Int → Int) (c a : Int) : Prop := ∀ j : Nat, (j : Int) ≤ c - a → zdp C a j ≤ 40
theorem zdp_f {C C2 : Int → Int} {a : Int} : ∀ j : Nat, (∀ i : Int, a ≤ i → i < a + j → zdl (C2 i) = zdl (C i)) → zdp C2 a j = zdp C a j
  | 0, _ => rfl
  | j + 1, h => by
    unfold zdp
    rw [zdp_f j (fun i i1 i2 => h i i1 (by omega)), h (a + j) (by omega) (by omega)]
theorem zdp_d {c w d : Int → Int} {C W a : Int} (h1 : d a = 0) (h3 : ∀ k, a ≤ k → k < C → zokc c w d C W k) : ∀ j : Nat, (j : Int) ≤ C - a → d (a + j) = zdp c a j
  | 0, _ => by
    rw [show a + ((0 : Nat) : Int) = a from by omega]
    exact h1
  | j + 1, hj => by
    have ih := zdp_d h1 h3 j (by omega)
    have z := h3 (a + j) (by omega) (by omega)
    unfold zdp
    rw [← ih, show a + ((j + 1 : Nat) : Int) = a + j + 1 from by omega]
    unfold zokc at z
    unfold zdl
    obtain ⟨z0, z⟩ := z
    rcases z with z | z | z | z | z
    · rw [if_pos (by omega), z.2]
    · rw [if_pos (by omega), z.2]
    · rw [if_neg (by omega), if_neg (by omega), if_pos (by omega), z.2.2]; omega
    · rw [if_neg (by omega), if_neg (by omega), if_neg (by omega), z.2.2.1, z.2.1]; omega
    · by_cases e : c (a + j) < 10485760
      · rw [if_neg (by omega), if_pos e, z.2.2]; omega
      · omega
theorem zWD_dp {C : Int → Int} {st : List Int} {c a D : Int} (h : zWD C st c a D) (ha : a ≤ c) : D = zdp C a (c - a).toNat := by
  obtain ⟨d, h1, h2, h3, h4, h5⟩ := h
  have z := zdp_d h1 h3 (c - a).toNat (by omega)
  rw [← z, ← h2, show a + (((c - a).toNat : Nat) : Int) = c from by omega]
theorem zBD.note {C : Int → Int} {st : List Int} {c a v D2 : Int} (hb : zBD C c a) (h : zWD (xud C c v) st (c + 1) a D2) (ha : a ≤ c) (hD : D2 ≤ 40) : zBD (xud C c v) (c + 1) a := fun j hj => by
  by_cases e : (j : Int) = c + 1 - a
  · have z := zWD_dp h (by omega)
    rw [show (c + 1 - a).toNat = j from by omega] at z
    omega
  · rw [zdp_f j (fun i i1 i2 => by rw [xud_o C v (by omega)])]
    exact hb j (by omega)
theorem zBD.land {C : Int → Int} {c a v : Int} (hb : zBD C c a) (hv : 11534336 ≤ C (v % 1048576) ∧ C (v % 1048576) < 13631488) (hc : 0 ≤ c ∧ c < 1048576) : zBD (zland C v c) c a := fun j hj => by
  rw [zdp_f j (fun i i1 i2 => ?_)]
  · exact hb j hj
  · unfold zland
    by_cases e : i = v % 1048576
    · rw [e, xud_s]
      unfold zdl
      rw [if_neg (by omega), if_neg (by omega), if_neg (by omega), if_neg (by omega), if_neg (by omega), if_neg (by omega)]
    · rw [xud_o C _ e]
theorem zBD_0 (C : Int → Int) (a : Int) : zBD C a a := fun j hj => by
  have : j = 0 := by omega
  subst this
  exact (by decide : (0 : Int) ≤ 40)
theorem zBD_cp {C C2 : Int → Int} {c a : Int} (hb : zBD C c a) (hc : ∀ k, a ≤ k → k < c → C2 k = C k) : zBD C2 c a := fun j hj => by
  rw [zdp_f j (fun i i1 i2 => by rw [hc i i1 (by omega)])]
  exact hb j hj
theorem zdl_n {f : Int → Int} {n p : Int} : 0 ≤ (znr f n 5 p 0).2 ∧ (znr f n 5 p 0).2 < 1048576 := by
  have := znr_5 f n p
  omega
/-- a sum's code -/
theorem zEX.wf {f : Int → Int} {n q W K b0 p2 c2 a D0 : Int} {B0 C2 : Int → Int} {st : List Int} (hD : 0 ≤ D0 ∧ D0 ≤ 1) (ha : 0 ≤ a) (hq : 0 ≤ q) : ∀ (u : Nat) (m : Bool) (p c : Int) (C : Int → Int) (se : List Int), 2 * (n - p) + (se.length : Int) + 1 ≤ (u : Int) → zEX f n q W K b0 B0 (0, p2, c2, C2) m p c C se → q + zop se ≤ 6 → a ≤ c → zWD C st c a (D0 + znp se + (bif m then 0 else 1)) → zBD C c a → (zWD C2 st c2 a (D0 + 1) ∧ zBD C2 c2 a) ∧ (c ≤ c2 ∧ p ≤ p2 ∧ p2 ≤ n ∧ c2 + K ≤ p2 ∧ (m = true → p + 1 ≤ p2)) ∧ ∀ k, k < c → C2 k = C k := by
  intro u
  induction u with
  | zero =>
    intro m p c C se hu h
    have b := h.b
    omega
  | succ u ih =>
    intro m p c C se hu h ho hac hw hb
    have b := h.b
    have hz := zs2_n h.sh
    have hos := zop_n se
    have zc := zsg_cs (zch f n p)
    have hlt : zch f n p ≠ -1 → p < n := zch_lt
    have no : ∀ {x : Int} {y : Int × Int × (Int → Int)}, x < 0 → ((0, p2, c2, C2) : Int × Int × Int × (Int → Int)) ≠ (x, y) := fun hx e => by
      have e2 : (0 : Int) = _ := congrArg Prod.fst e
      omega
    have tru : ∀ v : Int, zEX f n q W K b0 B0 (0, p2, c2, C2) true (p + 1) c C (v :: se) → p < n → (2097152 ≤ v ∧ v < 7340032) → zWD C st c a (D0 + znp se + 1) → (zWD C2 st c2 a (D0 + 1) ∧ zBD C2 c2 a) ∧ (c ≤ c2 ∧ p + 1 ≤ p2 ∧ p2 ≤ n ∧ c2 + K ≤ p2) ∧ ∀ k, k < c → C2 k = C k := fun v h9 hp hv hw9 => by
      have z := ih true (p + 1) c C (v :: se) (by rw [zlenc]; omega) h9 (by rw [zop_z (by omega)]; exact ho) hac (by
        rw [znp_y (by omega)]
        show zWD C st c a (D0 + (znp se + 1) + 0)
        rw [show D0 + (znp se + 1) + 0 = D0 + znp se + 1 from by omega]
        exact hw9) hb
      exact ⟨z.1, ⟨z.2.1.1, z.2.1.2.1, z.2.1.2.2.1, z.2.1.2.2.2.1⟩, z.2.2⟩
    cases m with
    | true =>
      have hw : zWD C st c a (D0 + znp se + 0) := hw
      by_cases c1 : zch f n p = 91
      · by_cases c3 : 6 ≤ q + zop se
        · exact absurd (h.five c1 c3) (no (by omega))
        · have h9 := h.open_ c1 (by omega) rfl rfl
          have z := ih true (p + 1) c C (14680064 :: se) (by rw [zlenc]; omega) h9 (by rw [zop_y (by decide)]; omega) hac (by rw [znp_z (by decide)]; exact hw) hb
          exact ⟨z.1, ⟨z.2.1.1, by omega, z.2.1.2.2.1, z.2.1.2.2.2.1, fun _ => by omega⟩, z.2.2⟩
      by_cases c2' : zdg (zch f n p)
      · have z1 := znr_p (f := f) (n := n) 5 p 0
        have z2 := z1.2.2 c2' (by decide)
        by_cases c3 : zdg (zch f n (znr f n 5 p 0).1)
        · exact absurd (h.two c2' rfl c3) (no (by omega))
        · have h9 := h.num c2' rfl c3 rfl rfl
          have zv := zdl_n (f := f) (n := n) (p := p)
          have hw9 := hw.note (v := (znr f n 5 p 0).2) (D2 := D0 + znp se + 1) hac (by omega) (Or.inl ⟨by omega, by omega⟩)
          have z := ih false _ _ _ se (by omega) h9 ho (by omega) hw9 (hb.note hw9 hac (by omega))
          exact ⟨z.1, ⟨by omega, by omega, z.2.1.2.2.1, z.2.1.2.2.2.1, fun _ => by omega⟩, fun k hk => (z.2.2 k (by omega)).trans (xud_o C _ (by omega))⟩
      by_cases c3 : zlt (zch f n p) = -1
      · exact absurd (h.one c1 c2' c3) (no (by omega))
      · have h9 := h.let_ c3 rfl rfl rfl
        have zl := zlt_cs (zch f n p)
        have hw9 := hw.note (v := 1048576 + zlt (zch f n p)) (D2 := D0 + znp se + 1) hac (by omega) (Or.inl ⟨by omega, by omega⟩)
        have z := ih false _ _ _ se (by omega) h9 ho (by omega) hw9 (hb.note hw9 hac (by omega))
        exact ⟨z.1, ⟨by omega, by omega, z.2.1.2.2.1, z.2.1.2.2.2.1, fun _ => by omega⟩, fun k hk => (z.2.2 k (by omega)).trans (xud_o C _ (by omega))⟩
    | false =>
      have hw : zWD C st c a (D0 + znp se + 1) := hw
      cases se with
      | nil =>
        by_cases c1 : zsg (zch f n p) < 2
        · have e := h.fin c1
          have e1 : p2 = p := congrArg (fun z => z.2.1) e
          have e2 : c2 = c := congrArg (fun z => z.2.2.1) e
          have e3 : C2 = C := congrArg (fun z => z.2.2.2) e
          subst e1; subst e2; subst e3
          have hw : zWD C2 st c2 a (D0 + 0 + 1) := hw
          rw [show D0 + 0 + 1 = D0 + 1 from by omega] at hw
          exact ⟨⟨hw, hb⟩, ⟨Int.le_refl _, Int.le_refl _, by omega, by omega, fun q => by cases q⟩, fun _ _ => rfl⟩
        have h9 : zEX f n q W K b0 B0 (0, p2, c2, C2) true (p + 1) c C [1048576 * zsg (zch f n p)] := by
          by_cases c4 : 4 ≤ zsg (zch f n p)
          · exact h.sgm (Or.inl (by decide)) c4 rfl rfl
          · exact h.sga (Or.inl (by decide)) (by omega) rfl rfl
        have z := tru _ h9 (by omega) (by omega) hw
        exact ⟨z.1, ⟨z.2.1.1, by omega, z.2.1.2.2.1, z.2.1.2.2.2, fun q => by cases q⟩, z.2.2⟩
      | cons v r =>
        have hsh := h.sh
        have hz2 := zs2_n hsh.2
        have hn := znp_n r
        have hor := zop_n r
        rw [zlenc] at hu
        have hv := hsh.1
        have emit : v < 7340032 → (zWD (xud C c v) st (c + 1) a (D0 + znp r + 1) ∧ zBD (xud C c v) (c + 1) a) := fun h7 => by
          rw [znp_y h7] at hw
          rw [zop_z (by omega)] at ho
          have hw9 := hw.note (v := v) (D2 := D0 + znp r + 1) hac (by omega) (Or.inr (Or.inr ⟨by omega, by omega, by omega⟩))
          exact ⟨hw9, hb.note hw9 hac (by omega)⟩
        by_cases c1 : 4194304 ≤ v ∧ v < 7340032
        · have h9 := h.mul c1 rfl rfl
          have w9 := emit c1.2
          have z := ih false p (c + 1) _ r (by omega) h9 (by rw [zop_z (by omega)] at ho; exact ho) (by omega) w9.1 w9.2
          exact ⟨z.1, ⟨by omega, z.2.1.2.1, z.2.1.2.2.1, z.2.1.2.2.2.1, fun q => by cases q⟩, fun k hk => (z.2.2 k (by omega)).trans (xud_o C _ (by omega))⟩
        by_cases c2' : 4 ≤ zsg (zch f n p)
        · have h9 := h.sgm (v := 1048576 * zsg (zch f n p)) (by show v < 4194304 ∨ 7340032 ≤ v; omega) c2' rfl rfl
          have z := tru _ h9 (by omega) (by omega) hw
          exact ⟨z.1, ⟨z.2.1.1, by omega, z.2.1.2.2.1, z.2.1.2.2.2, fun q => by cases q⟩, z.2.2⟩
        by_cases c3 : v < 4194304
        · have h9 := h.add c3 (by omega) rfl rfl
          have w9 := emit (by omega)
          have z := ih false p (c + 1) _ r (by omega) h9 (by rw [zop_z (by omega)] at ho; exact ho) (by omega) w9.1 w9.2
          exact ⟨z.1, ⟨by omega, z.2.1.2.1, z.2.1.2.2.1, z.2.1.2.2.2.1, fun q => by cases q⟩, fun k hk => (z.2.2 k (by omega)).trans (xud_o C _ (by omega))⟩
        by_cases c4 : 2 ≤ zsg (zch f n p)
        · have h9 := h.sga (v := 1048576 * zsg (zch f n p)) (by show v < 0 ∨ 7340032 ≤ v; omega) ⟨c4, by omega⟩ rfl rfl
          have z := tru _ h9 (by omega) (by omega) hw
          exact ⟨z.1, ⟨z.2.1.1, by omega, z.2.1.2.2.1, z.2.1.2.2.2, fun q => by cases q⟩, z.2.2⟩
        by_cases c5 : zch f n p = 93
        · have h9 := h.shut (by omega) c5 rfl
          rw [znp_z (by omega)] at hw
          have z := ih false (p + 1) c C r (by omega) h9 (by rw [zop_y (by omega)] at ho; omega) hac hw hb
          exact ⟨z.1, ⟨z.2.1.1, by omega, z.2.1.2.2.1, z.2.1.2.2.2.1, fun q => by cases q⟩, z.2.2⟩
        · have e := zEX.bad (v :: r) c C h (by rw [zop_y (by omega)]; omega) (by omega) c5
          have e2 : (0 : Int) = -1000 - p := e
          omega
theorem zE0_wf {f : Int → Int} {n q K p c p2 c2 a D0 : Int} {C C2 : Int → Int} {st : List Int} (hD : 0 ≤ D0 ∧ D0 ≤ 1) (ha : 0 ≤ a) (hq : 0 ≤ q ∧ q ≤ 6) (hb : 0 ≤ c ∧ c + K ≤ p ∧ 0 ≤ K ∧ p ≤ n ∧ n ≤ 240) (e : zE0 f n q p c C = (0, p2, c2, C2)) (hac : a ≤ c) (hw : zWD C st c a D0) (hd : zBD C c a) : (zWD C2 st c2 a (D0 + 1) ∧ zBD C2 c2 a) ∧ (c ≤ c2 ∧ p + 1 ≤ p2 ∧ p2 ≤ n ∧ c2 + K ≤ p2) ∧ ∀ k, k < c → C2 k = C k := by
  have h : zEX f n q 0 K c C (0, p2, c2, C2) true p c C [] := by
    rw [← e]
    exact zEX.new ⟨hb.1, hb.2.1, Int.le_refl _, hb.2.2.1, by omega, hb.2.2.2.1, hb.2.2.2.2⟩
  have z := zEX.wf hD ha hq.1 (2 * n + 2).toNat true p c C [] (by show 2 * (n - p) + 0 + 1 ≤ _; omega) h (by show q + 0 ≤ 6; omega) hac (by show zWD C st c a (D0 + 0 + 0); rw [show D0 + 0 + 0 = D0 from by omega]; exact hw) hd
  exact ⟨z.1, ⟨z.2.1.1, z.2.1.2.2.2.2 rfl, z.2.1.2.2.1, z.2.1.2.2.2.1⟩, z.2.2⟩
/-- a condition's code -/
theorem zCX.wf {f : Int → Int} {n a p2 c2 : Int} {C2 : Int → Int} : ∀ (u : Nat) (m : Bool) (p c : Int) (C : Int → Int) (st : List Int), 2 * (n - p) + (st.length : Int) + 1 ≤ (u : Int) → zCX f n a (0, p2, c2, C2) m p c C st → zqn st ≤ 6 → zWD C st c a (bif m then 0 else 1) → zBD C c a → (zWD C2 [] c2 a 1 ∧ zBD C2 c2 a) ∧ (c ≤ c2 ∧ p ≤ p2 ∧ p2 ≤ n ∧ c2 ≤ p2 ∧ (m = true → p + 1 ≤ p2)) ∧ ∀ k, k < a → C2 k = C k := by
  intro u
  induction u with
  | zero =>
    intro m p c C st hu h
    have b := h.b
    omega
  | succ u ih =>
    intro m p c C st hu h ho hw hb
    have b := h.b
    have hlt : zch f n p ≠ -1 → p < n := zch_lt
    have no : ∀ {x : Int} {y : Int × Int × (Int → Int)}, x < 0 → ((0, p2, c2, C2) : Int × Int × Int × (Int → Int)) ≠ (x, y) := fun hx e => by
      have e2 : (0 : Int) = _ := congrArg Prod.fst e
      omega
    have no2 : ∀ {y : Int × Int × Int × (Int → Int)}, y.1 ≠ 0 → ((0, p2, c2, C2) : Int × Int × Int × (Int → Int)) ≠ y := fun hx e => hx (congrArg Prod.fst e).symm
    cases m with
    | true =>
      have hw : zWD C st c a 0 := hw
      by_cases c1 : zch f n p = 33 ∨ zch f n p = 40
      · by_cases c3 : 6 ≤ zqn st
        · exact absurd (h.five c1 c3) (no (by omega))
        · obtain ⟨v, hv⟩ : ∃ v : Int, (zch f n p = 33 ∧ v = 10485760) ∨ (zch f n p = 40 ∧ v = 13631488) := by
            rcases c1 with q | q
            · exact ⟨_, Or.inl ⟨q, rfl⟩⟩
            · exact ⟨_, Or.inr ⟨q, rfl⟩⟩
          have h9 := h.open_ hv (by omega) rfl
          have z := ih true (p + 1) c C (v :: st) (by rw [zlenc]; omega) h9 (by rw [zqn_y (by omega)]; omega) (hw.push (by omega)) hb
          exact ⟨z.1, ⟨z.2.1.1, by omega, z.2.1.2.2.1, z.2.1.2.2.2.1, fun _ => by omega⟩, z.2.2⟩
      obtain ⟨x1, p3, c3, C3, e1⟩ : ∃ x1 p3 c3 C3, zE0 f n (zqn st) p c C = (x1, p3, c3, C3) := ⟨_, _, _, _, rfl⟩
      by_cases z1 : x1 = 0
      · subst z1
        have hqs := zqn_n st
        have w1 := zE0_wf (K := znN st) (st := st) (D0 := 0) ⟨by decide, by decide⟩ b.1 ⟨hqs, ho⟩ ⟨by omega, b.2.2.1, b.2.2.2.1, b.2.2.2.2.2.1, b.2.2.2.2.2.2⟩ e1 b.2.1 hw hb
        by_cases z2 : zcp (zch f n p3) = -1
        · exact absurd (h.one (by omega) e1 z2) (no (by omega))
        obtain ⟨x2, p4, c4, C4, e2⟩ : ∃ x2 p4 c4 C4, zE0 f n (zqn st) (p3 + 1) c3 C3 = (x2, p4, c4, C4) := ⟨_, _, _, _, rfl⟩
        have zc := zcp_cs (zch f n p3)
        have hl3 := zch_lt (f := f) (n := n) (p := p3) (by omega)
        by_cases z3 : x2 = 0
        · subst z3
          have w2 := zE0_wf (K := znN st + 1) (st := st) (D0 := 1) ⟨by decide, by decide⟩ b.1 ⟨hqs, ho⟩ ⟨by omega, by omega, by omega, by omega, b.2.2.2.2.2.2⟩ e2 (by omega) w1.1.1 w1.1.2
          have h9 := h.cmp (by omega) e1 z2 e2 (by omega) (fun k hk => by rw [w2.2.2 k (by omega), w1.2.2 k (by omega)]) rfl rfl
          have hw9 := w2.1.1.note (v := 1048576 * zcp (zch f n p3)) (D2 := 1) (by omega) (by omega) (Or.inr (Or.inr ⟨by omega, by omega, by omega⟩))
          have z := ih false _ _ _ st (by omega) h9 ho hw9 (w2.1.2.note hw9 (by omega) (by omega))
          exact ⟨z.1, ⟨by omega, by omega, z.2.1.2.2.1, z.2.1.2.2.2.1, fun _ => by omega⟩, fun k hk => by
            rw [z.2.2 k hk, xud_o C4 _ (by omega), w2.2.2 k (by omega), w1.2.2 k (by omega)]⟩
        · have e9 := h.e2 (by omega) e1 z2 (by rw [e2]; exact z3)
          exact absurd e9 (no2 (by rw [e2]; exact z3))
      · have e9 := h.e1 (by omega) (by rw [e1]; exact z1)
        exact absurd e9 (no2 (by rw [e1]; exact z1))
    | false =>
      have hw : zWD C st c a 1 := hw
      cases st with
      | nil =>
        have e := h.fin
        have e1 : p2 = p := congrArg (fun z => z.2.1) e
        have e2 : c2 = c := congrArg (fun z => z.2.2.1) e
        have e3 : C2 = C := congrArg (fun z => z.2.2.2) e
        subst e1; subst e2; subst e3
        exact ⟨⟨hw, hb⟩, ⟨Int.le_refl _, Int.le_refl _, by omega, by omega, fun q => by cases q⟩, fun _ _ => rfl⟩
      | cons v r =>
        have hsh := h.sh
        have hv := hsh.1
        have hn := znN_n r
        rw [zlenc] at hu
        have hq1 : zqn r ≤ 6 := by
          by_cases q : v < 11534336 ∨ 13631488 ≤ v
          · rw [zqn_y q] at ho; omega
          · rw [zqn_z (by omega)] at ho; exact ho
        have jmp : 11534336 ≤ v ∧ v < 13631488 → (zWD (zland C v c) r c a 1 ∧ zBD (zland C v c) c a) ∧ ∀ k, k < a → zland C v c k = C k := fun q => by
          have w9 := hw
          unfold zWD at w9
          rw [zlenc] at w9
          have e : zwf (v :: r) ((r.length : Int) + 1 - 1) = v := by
            rw [show (r.length : Int) + 1 - 1 = r.length from by omega]
            exact xud_s _ _ _
          have at9 := zDC_at w9 (by omega) (by rw [e]; exact q)
          rw [e] at at9
          exact ⟨⟨hw.land (by omega) q, hb.land ⟨at9.2.2.1, at9.2.2.2⟩ (by omega)⟩, fun k hk => xud_o C _ (by omega)⟩
        by_cases c1 : v < 11534336
        · have h9 := h.not c1 rfl rfl
          have hw9 := (hw.pop (Or.inl c1)).note (v := 10485760) (D2 := 1) b.2.1 (by decide) (Or.inr (Or.inl ⟨by decide, by decide, rfl⟩))
          have z := ih false _ _ _ r (by omega) h9 hq1 hw9 (hb.note hw9 b.2.1 (by decide))
          exact ⟨z.1, ⟨by omega, z.2.1.2.1, z.2.1.2.2.1, z.2.1.2.2.2.1, fun q => by cases q⟩, fun k hk => by rw [z.2.2 k hk, xud_o C _ (by omega)]⟩
        by_cases c2' : v < 12582912
        · have h9 := h.landA ⟨by omega, c2'⟩ rfl
          have j := jmp (by omega)
          have z := ih false _ _ _ r (by omega) h9 hq1 j.1.1 j.1.2
          exact ⟨z.1, ⟨z.2.1.1, z.2.1.2.1, z.2.1.2.2.1, z.2.1.2.2.2.1, fun q => by cases q⟩, fun k hk => by rw [z.2.2 k hk, j.2 k hk]⟩
        have hz9 : zWD C (v :: r) c a 1 := hw
        by_cases c3 : zch f n p = 38
        · have h9 := h.and_ (by show 12582912 ≤ v; omega) c3 rfl rfl rfl rfl
          have hw9 := hz9.jump (o := 11534336) (by omega) (Or.inl rfl)
          have z := ih true _ _ _ ((11534336 + c) :: v :: r) (by rw [zlenc, zlenc]; omega) h9 (by rw [zqn_z (by omega)]; exact ho) hw9 (hb.note (v := 11534336) (st := (11534336 + c) :: v :: r) hw9 b.2.1 (by decide))
          exact ⟨z.1, ⟨by omega, by omega, z.2.1.2.2.1, z.2.1.2.2.2.1, fun q => by cases q⟩, fun k hk => by rw [z.2.2 k hk, xud_o C _ (by omega)]⟩
        by_cases c4 : v < 13631488
        · have h9 := h.landP ⟨by omega, c4⟩ c3 rfl
          have j := jmp (by omega)
          have z := ih false _ _ _ r (by omega) h9 hq1 j.1.1 j.1.2
          exact ⟨z.1, ⟨z.2.1.1, z.2.1.2.1, z.2.1.2.2.1, z.2.1.2.2.2.1, fun q => by cases q⟩, fun k hk => by rw [z.2.2 k hk, j.2 k hk]⟩
        by_cases c5 : zch f n p = 124
        · have h9 := h.or_ (by show 13631488 ≤ v; omega) c5 rfl rfl rfl rfl
          have hw9 := hz9.jump (o := 12582912) (by omega) (Or.inr rfl)
          have z := ih true _ _ _ ((12582912 + c) :: v :: r) (by rw [zlenc, zlenc]; omega) h9 (by rw [zqn_z (by omega)]; exact ho) hw9 (hb.note (v := 12582912) (st := (12582912 + c) :: v :: r) hw9 b.2.1 (by decide))
          exact ⟨z.1, ⟨by omega, by omega, z.2.1.2.2.1, z.2.1.2.2.2.1, fun q => by cases q⟩, fun k hk => by rw [z.2.2 k hk, xud_o C _ (by omega)]⟩
        by_cases c6 : zch f n p = 41
        · have h9 := h.shut (by omega) c6 rfl
          have z := ih false (p + 1) c C r (by omega) h9 hq1 (hw.pop (Or.inr (by omega))) hb
          exact ⟨z.1, ⟨z.2.1.1, by omega, z.2.1.2.2.1, z.2.1.2.2.2.1, fun q => by cases q⟩, z.2.2⟩
        · have e := zCX.bad (v :: r) c C h (List.cons_ne_nil _ _) c3 c5 c6
          have e2 : (0 : Int) = -1000 - p := e
          omega
theorem zC0_wf {f : Int → Int} {n p c p2 c2 : Int} {C C2 : Int → Int} (hb : 0 ≤ c ∧ c + 1 ≤ p ∧ p ≤ n ∧ n ≤ 240) (e : zC0 f n p c C = (0, p2, c2, C2)) : (zWD C2 [] c2 c 1 ∧ zBD C2 c2 c) ∧ (c ≤ c2 ∧ p + 1 ≤ p2 ∧ p2 ≤ n ∧ c2 ≤ p2) ∧ ∀ k, k < c → C2 k = C k := by
  have h : zCX f n c (0, p2, c2, C2) true p c C [13631488] := by
    rw [← e]
    exact zCX.new hb
  have z := zCX.wf (2 * n + 2).toNat true p c C [13631488] (by show 2 * (n - p) + 1 + 1 ≤ _; omega) h (by decide) (zWD.push (zDC_new _ _ _) (Or.inr (by decide))) (zBD_0 _ _)
  exact ⟨z.1, ⟨z.2.1.1, z.2.1.2.2.2.2 rfl, z.2.1.2.2.1, z.2.1.2.2.2.1⟩, z.2.2⟩
/-- the clauses' code -/
def zSG (C : Int → Int) (a t : Int) : Prop := (0 ≤ a ∧ a ≤ t ∧ t ≤ 240) ∧ zWD C [] t a 1 ∧ zBD C t a
theorem zSG.cp {C C2 : Int → Int} {a t : Int} (h : zSG C a t) (hc : ∀ k, a ≤ k → k < t → C2 k = C k) : zSG C2 a t := ⟨h.1, zDC_cp h.2.1 hc, zBD_cp h.2.2 hc⟩
theorem zSG.ok {C : Int → Int} {a t : Int} (h : zSG C a t) : segOK C a t := zDC_seg h.2.1 h.1
def zSS (C L A B T : Int → Int) (M c : Int) : Prop := ∀ q, 0 ≤ q → q < M → (0 ≤ A q ∧ A q ≤ B q ∧ B q ≤ T q ∧ T q ≤ c) ∧ ((L q = 110 ∧ A q = B q) ∨ (L q ≠ 110 ∧ zSG C (A q) (B q))) ∧ zSG C (B q) (T q)
theorem zc1_wf {f : Int → Int} {n p c p1 c1 : Int} {C C1 : Int → Int} (hb : 0 ≤ c ∧ c ≤ p ∧ p < n ∧ n ≤ 240) (e : zc1 f n p c C = (0, p1, c1, C1)) : ((zch f n p = 110 ∧ c = c1) ∨ (zch f n p ≠ 110 ∧ zSG C1 c c1)) ∧ (c ≤ c1 ∧ p + 1 ≤ p1 ∧ p1 ≤ n ∧ c1 + 1 ≤ p1) ∧ ∀ k, k < c → C1 k = C k := by
  unfold zc1 at e
  split at e
  · rename_i h
    have e1 : p + 1 = p1 := congrArg (fun z => z.2.1) e
    have e2 : c = c1 := congrArg (fun z => z.2.2.1) e
    have e3 : C = C1 := congrArg (fun z => z.2.2.2) e
    subst e3
    exact ⟨Or.inl ⟨h, e2⟩, by omega, fun _ _ => rfl⟩
  · rename_i h
    have z := zE0_wf (K := 1) (st := []) (D0 := 0) (a := c) ⟨by decide, by decide⟩ hb.1 ⟨by decide, by decide⟩ ⟨hb.1, by omega, by decide, by omega, hb.2.2.2⟩ e (Int.le_refl _) (zDC_new _ _ _) (zBD_0 _ _)
    exact ⟨Or.inr ⟨h, ⟨hb.1, z.2.1.1, by omega⟩, z.1⟩, by omega, z.2.2⟩
theorem zc2_wf {f : Int → Int} {n p c p1 c1 : Int} {C C1 : Int → Int} (hb : 0 ≤ c ∧ c ≤ p ∧ p ≤ n ∧ n ≤ 240) (e : zc2 f n p c C = (0, p1, c1, C1)) : zSG C1 c c1 ∧ (c ≤ c1 ∧ p + 1 ≤ p1 ∧ p1 ≤ n ∧ c1 ≤ p1) ∧ ∀ k, k < c → C1 k = C k := by
  unfold zc2 at e
  split at e
  · have e2 : -1000 - p = (0 : Int) := congrArg Prod.fst e
    omega
  · rename_i h
    have hl := zch_lt (f := f) (n := n) (p := p) (by omega)
    have z := zC0_wf ⟨hb.1, by omega, by omega, hb.2.2.2⟩ e
    exact ⟨⟨⟨hb.1, z.2.1.1, by omega⟩, z.1⟩, by omega, z.2.2⟩
theorem zLX.wf {f : Int → Int} {n M2 c2 : Int} {C2 L2 A2 B2 T2 : Int → Int} : ∀ (u : Nat) (m : Bool) (M p c : Int) (C L A B T : Int → Int), 2 * (n - p) + (bif m then 1 else 2) ≤ (u : Int) → zLX f n (0, M2, c2, C2, L2, A2, B2, T2) m M p c C L A B T → zSS C L A B T M c → zSS C2 L2 A2 B2 T2 M2 c2 ∧ 0 ≤ c2 ∧ c2 ≤ 240 ∧ 0 ≤ M2 ∧ M2 ≤ 16 := by
  intro u
  induction u with
  | zero =>
    intro m M p c C L A B T hu h
    have b := h.b
    cases m with
    | true => have hu : 2 * (n - p) + 1 ≤ (0 : Int) := hu; omega
    | false => have hu : 2 * (n - p) + 2 ≤ (0 : Int) := hu; omega
  | succ u ih =>
    intro m M p c C L A B T hu h hs
    have b := h.b
    have hlt : zch f n p ≠ -1 → p < n := zch_lt
    cases m with
    | true =>
      have hu : 2 * (n - p) + 1 ≤ ((u + 1 : Nat) : Int) := hu
      have hk := zkl_cs (zch f n p)
      by_cases k1 : zkl (zch f n p) = 0
      · have e2 : (0 : Int) = -1000 - p := h.one k1
        omega
      by_cases k2 : 16 ≤ M
      · have e2 : (0 : Int) = -4000 - p := h.four k1 k2
        omega
      obtain ⟨x1, p3, c3, C3, e1⟩ : ∃ x1 p3 c3 C3, zc1 f n p c C = (x1, p3, c3, C3) := ⟨_, _, _, _, rfl⟩
      by_cases z1 : x1 = 0
      · subst z1
        have w1 := zc1_wf ⟨b.1, b.2.1, by omega, b.2.2.2.1⟩ e1
        obtain ⟨x2, p4, c4, C4, e2⟩ : ∃ x2 p4 c4 C4, zc2 f n p3 c3 C3 = (x2, p4, c4, C4) := ⟨_, _, _, _, rfl⟩
        by_cases z2 : x2 = 0
        · subst z2
          have w2 := zc2_wf (by omega) e2
          have h9 := h.clause k1 (by omega) e1 e2 (by omega) rfl rfl rfl rfl rfl
          refine ih false _ _ _ _ _ _ _ _ (by show 2 * (n - p4) + 2 ≤ _; omega) h9 (fun q q1 q2 => ?_)
          by_cases e : q = M
          · subst e
            rw [xud_s, xud_s, xud_s, xud_s]
            refine ⟨by omega, ?_, w2.1⟩
            rcases w1.1 with w | w
            · exact Or.inl w
            · exact Or.inr ⟨w.1, w.2.cp (fun k _ k2 => w2.2.2 k k2)⟩
          · rw [xud_o L _ e, xud_o A _ e, xud_o B _ e, xud_o T _ e]
            have z := hs q q1 (by omega)
            have hc : ∀ k, k < c → C4 k = C k := fun k hk => by rw [w2.2.2 k (by omega), w1.2.2 k hk]
            exact ⟨by omega, z.2.1.elim Or.inl (fun w => Or.inr ⟨w.1, w.2.cp (fun k _ k2 => hc k (by omega))⟩), z.2.2.cp (fun k _ k2 => hc k (by omega))⟩
        · have e9 : (0 : Int) = (zc2 f n p3 c3 C3).1 := h.e2 k1 (by omega) e1 (by rw [e2]; exact z2)
          rw [e2] at e9
          exact absurd e9.symm z2
      · have e9 : (0 : Int) = (zc1 f n p c C).1 := h.e1 k1 (by omega) (by rw [e1]; exact z1)
        rw [e1] at e9
        exact absurd e9.symm z1
    | false =>
      have hu : 2 * (n - p) + 2 ≤ ((u + 1 : Nat) : Int) := hu
      by_cases k1 : p < n
      · by_cases k2 : zch f n p = 59
        · exact ih true _ _ _ _ _ _ _ _ (by show 2 * (n - (p + 1)) + 1 ≤ _; omega) (h.semi k2 rfl) hs
        · have e2 : (0 : Int) = -1000 - p := h.bad k1 k2
          omega
      · have e := h.fin (by omega)
        have e1 : M2 = M := congrArg (fun z => z.2.1) e
        have e2 : c2 = c := congrArg (fun z => z.2.2.1) e
        have e3 : C2 = C := congrArg (fun z => z.2.2.2.1) e
        have e4 : L2 = L := congrArg (fun z => z.2.2.2.2.1) e
        have e5 : A2 = A := congrArg (fun z => z.2.2.2.2.2.1) e
        have e6 : B2 = B := congrArg (fun z => z.2.2.2.2.2.2.1) e
        have e7 : T2 = T := congrArg (fun z => z.2.2.2.2.2.2.2) e
        subst e1; subst e2; subst e3; subst e4; subst e5; subst e6; subst e7
        exact ⟨hs, by omega⟩
theorem zL0_wf {f : Int → Int} {n M2 c2 : Int} {C L A B T C2 L2 A2 B2 T2 : Int → Int} (hn : 0 ≤ n ∧ n ≤ 240) (e : zL0 f n C L A B T = (0, M2, c2, C2, L2, A2, B2, T2)) : zSS C2 L2 A2 B2 T2 M2 c2 ∧ 0 ≤ c2 ∧ c2 ≤ 240 ∧ 0 ≤ M2 ∧ M2 ≤ 16 := by
  have h : zLX f n (0, M2, c2, C2, L2, A2, B2, T2) true 0 0 0 C L A B T := by
    rw [← e]
    exact zLX.new hn
  exact zLX.wf (2 * n + 2).toNat true 0 0 0 C L A B T (by show 2 * (n - 0) + 1 ≤ _; omega) h (fun q q1 q2 => by omega)
