section BL
variable {C C2 : Int → Int} {a c c2 v : Int} {m : Bool}
theorem zBL_0 (C : Int → Int) (a : Int) : zBL C a a false := ⟨fun k k1 k2 => by omega, fun k k1 k2 => by omega, fun q => by cases q⟩
/-- numbers that are no ! and no jump behind it -/
theorem zBL.more (h : zBL C a c m) (hc : c ≤ c2) (ho : ∀ k, k < c → C2 k = C k) (hn : ∀ k, c ≤ k → k < c2 → C2 k < 10485760) (hj : ∀ k, a ≤ k → k < c → 11534336 ≤ C k → C k % 1048576 ≤ c) (ha : 0 ≤ a) : zBL C2 a c2 false := by
  refine ⟨fun k k1 k2 k3 => ?_, fun k k1 k2 k3 k4 => ?_, fun q => by cases q⟩
  · by_cases e : k < c
    · rw [ho k e] at k3
      have z := h.1 k k1 e k3
      rw [ho (k - 1) (by omega)]
      exact z
    · have := hn k (by omega) k2
      omega
  · by_cases e : k < c
    · rw [ho k e] at k3 k4 ⊢
      have z := h.2.1 k k1 e k3 k4
      have y := hj k k1 e k3
      rw [ho _ (by omega)]
      exact z
    · have := hn k (by omega) k2
      omega
theorem zBL.cmp (h : zBL C a c false) (ha : 0 ≤ a ∧ a ≤ c) (hv : 7340032 ≤ v ∧ v < 10485760) (hj : ∀ k, a ≤ k → k < c → 11534336 ≤ C k → C k % 1048576 ≤ c) : zBL (xud C c v) a (c + 1) true := by
  have h2 := h.more (c2 := c + 1) (C2 := xud C c v) (by omega) (fun k hk => xud_o C v (by omega)) (fun k k1 k2 => by rw [show k = c from by omega, xud_s]; omega) hj ha.1
  exact ⟨h2.1, h2.2.1, fun _ => ⟨by omega, by rw [show c + 1 - 1 = c from by omega, xud_s]; exact ⟨by omega, by omega⟩⟩⟩
theorem zBL.note (h : zBL C a c true) (ha : 0 ≤ a ∧ a ≤ c) (hv : v = 10485760 ∨ v = 11534336 ∨ v = 12582912) (hj : ∀ k, a ≤ k → k < c → 11534336 ≤ C k → C k % 1048576 ≤ c) : zBL (xud C c v) a (c + 1) (decide (v = 10485760)) := by
  have z := h.2.2 rfl
  have ec : ∀ k, k < c → xud C c v k = C k := fun k hk => xud_o C v (by omega)
  refine ⟨fun k k1 k2 k3 => ?_, fun k k1 k2 k3 k4 => ?_, fun q => ?_⟩
  · by_cases e : k < c
    · rw [ec k e] at k3
      rw [ec (k - 1) (by omega)]
      exact h.1 k k1 e k3
    · rw [show k = c from by omega, ec _ (by omega)]
      exact z
  · by_cases e : k < c
    · rw [ec k e] at k3 k4 ⊢
      have y := hj k k1 e k3
      have w := h.2.1 k k1 e k3 k4
      rw [ec _ (by omega)]
      exact w
    · rw [show k = c from by omega, xud_s] at k4
      rcases hv with rfl | rfl | rfl <;> exact absurd k4 (by decide)
  · have q := of_decide_eq_true q
    rw [show c + 1 - 1 = c from by omega, xud_s, q]
    exact ⟨by omega, by decide, by decide⟩
theorem zBL.land (h : zBL C a c true) (hv : a ≤ v % 1048576 ∧ v % 1048576 < c) (hC : 11534336 ≤ C (v % 1048576) ∧ C (v % 1048576) < 13631488) (hc : c < 1048576) : zBL (zland C v c) a c true := by
  have z := h.2.2 rfl
  have hb : ∀ k, zbc (C k) → zbc (zland C v c k) := fun k hk => by
    unfold zland
    by_cases e : k = v % 1048576
    · rw [e] at hk; unfold zbc at hk; omega
    · rw [xud_o C _ e]; exact hk
  have hg : ∀ k, 10485760 ≤ zland C v c k → 10485760 ≤ C k := fun k hk => by
    by_cases e : k = v % 1048576
    · rw [e]; omega
    · unfold zland at hk
      rw [xud_o C _ e] at hk; exact hk
  refine ⟨fun k k1 k2 k3 => ?_, fun k k1 k2 k3 k4 => ?_, fun _ => ⟨z.1, hb _ z.2⟩⟩
  · have w := h.1 k k1 k2 (hg k k3)
    exact ⟨w.1, hb _ w.2⟩
  · by_cases e : k = v % 1048576
    · have e2 : zland C v c k % 1048576 = c := by
        unfold zland
        rw [e, xud_s]; omega
      rw [e2]
      exact ⟨z.1, hb _ z.2⟩
    · have e2 : zland C v c k = C k := xud_o C _ e
      rw [e2] at k3 k4 ⊢
      have w := h.2.1 k k1 k2 k3 k4
      exact ⟨w.1, hb _ w.2⟩
end BL
theorem zCX.bl {f : Int → Int} {n a p2 c2 : Int} {C2 : Int → Int} : ∀ (u : Nat) (m : Bool) (p c : Int) (C : Int → Int) (st : List Int), 2 * (n - p) + (st.length : Int) + 1 ≤ (u : Int) → zCX f n a (0, p2, c2, C2) m p c C st → zBL C a c (!m) → (∀ k, a ≤ k → k < c → 11534336 ≤ C k → C k < 13631488 ∧ C k % 1048576 ≤ c) → zBL C2 a c2 true ∧ (∀ k, a ≤ k → k < c2 → 11534336 ≤ C2 k → C2 k < 13631488 ∧ C2 k % 1048576 ≤ c2) := by
  intro u
  induction u with
  | zero =>
    intro m p c C st hu h
    have b := h.b
    omega
  | succ u ih =>
    intro m p c C st hu h hw hj
    have b := h.b
    have hj2 : ∀ k, a ≤ k → k < c → 11534336 ≤ C k → C k % 1048576 ≤ c := fun k k1 k2 k3 => (hj k k1 k2 k3).2
    have hlt : zch f n p ≠ -1 → p < n := zch_lt
    have no : ∀ {x : Int} {y : Int × Int × (Int → Int)}, x < 0 → ((0, p2, c2, C2) : Int × Int × Int × (Int → Int)) ≠ (x, y) := fun hx e => by
      have e2 : (0 : Int) = _ := congrArg Prod.fst e
      omega
    have no2 : ∀ {y : Int × Int × Int × (Int → Int)}, y.1 ≠ 0 → ((0, p2, c2, C2) : Int × Int × Int × (Int → Int)) ≠ y := fun hx e => hx (congrArg Prod.fst e).symm
    cases m with
    | true =>
      have hw : zBL C a c false := hw
      by_cases c1 : zch f n p = 33 ∨ zch f n p = 40
      · by_cases c3 : 6 ≤ zqn st
        · exact absurd (h.five c1 c3) (no (by omega))
        · obtain ⟨v, hv⟩ : ∃ v : Int, (zch f n p = 33 ∧ v = 10485760) ∨ (zch f n p = 40 ∧ v = 13631488) := by
            rcases c1 with q | q
            · exact ⟨_, Or.inl ⟨q, rfl⟩⟩
            · exact ⟨_, Or.inr ⟨q, rfl⟩⟩
          exact ih true (p + 1) c C (v :: st) (by rw [zlenc]; omega) (h.open_ hv (by omega) rfl) hw hj
      obtain ⟨x1, p3, c3, C3, e1⟩ : ∃ x1 p3 c3 C3, zE0 f n (zqn st) p c C = (x1, p3, c3, C3) := ⟨_, _, _, _, rfl⟩
      by_cases z1 : x1 = 0
      · subst z1
        have hqs := zqn_n st
        have w1 := zE0_bl (K := znN st) ⟨by omega, b.2.2.1, b.2.2.2.1, b.2.2.2.2.2.1, b.2.2.2.2.2.2⟩ e1
        have h1x : zEX f n (zqn st) 0 (znN st) c C (0, p3, c3, C3) true p c C [] := by
          rw [← e1]
          exact zEX.new ⟨by omega, b.2.2.1, Int.le_refl _, b.2.2.2.1, by omega, b.2.2.2.2.2.1, b.2.2.2.2.2.2⟩
        have b1 := zEX.pr (2 * n + 2).toNat true p c C [] (by show 2 * (n - p) + 0 + 1 ≤ _; omega) h1x
        by_cases z2 : zcp (zch f n p3) = -1
        · exact absurd (h.one (by omega) e1 z2) (no (by omega))
        obtain ⟨x2, p4, c4, C4, e2⟩ : ∃ x2 p4 c4 C4, zE0 f n (zqn st) (p3 + 1) c3 C3 = (x2, p4, c4, C4) := ⟨_, _, _, _, rfl⟩
        have zc := zcp_cs (zch f n p3)
        have hl3 := zch_lt (f := f) (n := n) (p := p3) (by omega)
        by_cases z3 : x2 = 0
        · subst z3
          have w2 := zE0_bl (K := znN st + 1) ⟨by omega, by omega, by omega, by omega, b.2.2.2.2.2.2⟩ e2
          have h2x : zEX f n (zqn st) 0 (znN st + 1) c3 C3 (0, p4, c4, C4) true (p3 + 1) c3 C3 [] := by
            rw [← e2]
            exact zEX.new ⟨by omega, by omega, Int.le_refl _, by omega, by omega, by omega, b.2.2.2.2.2.2⟩
          have b2 := zEX.pr (2 * n + 2).toNat true (p3 + 1) c3 C3 [] (by show 2 * (n - (p3 + 1)) + 0 + 1 ≤ _; omega) h2x
          have ho : ∀ k, k < c → C4 k = C k := fun k hk => by rw [w2.1 k (by omega), w1.1 k hk]
          have hn4 : ∀ k, c ≤ k → k < c4 → C4 k < 10485760 := fun k k1 k2 => by
            by_cases e : k < c3
            · rw [w2.1 k e]; exact w1.2.2 k k1 e
            · exact w2.2.2 k (by omega) k2
          have hb4 := hw.more (c2 := c4) (by omega) ho hn4 hj2 b.1
          have hj4 : ∀ k, a ≤ k → k < c4 → 11534336 ≤ C4 k → C4 k < 13631488 ∧ C4 k % 1048576 ≤ c4 := fun k k1 k2 k3 => by
            by_cases e : k < c
            · rw [ho k e] at k3 ⊢
              have := hj k k1 e k3
              omega
            · have := hn4 k (by omega) k2
              omega
          have hb5 := hb4.cmp (v := 1048576 * zcp (zch f n p3)) ⟨b.1, by omega⟩ (by omega) (fun k k1 k2 k3 => (hj4 k k1 k2 k3).2)
          have h9 := h.cmp (by omega) e1 z2 e2 (by omega) ho rfl rfl
          refine ih false _ _ _ st (by omega) h9 hb5 (fun k k1 k2 k3 => ?_)
          by_cases e : k = c4
          · rw [e, xud_s] at k3; omega
          · rw [xud_o C4 _ e] at k3 ⊢
            have := hj4 k k1 (by omega) k3
            omega
        · have e9 := h.e2 (by omega) e1 z2 (by rw [e2]; exact z3)
          exact absurd e9 (no2 (by rw [e2]; exact z3))
      · have e9 := h.e1 (by omega) (by rw [e1]; exact z1)
        exact absurd e9 (no2 (by rw [e1]; exact z1))
    | false =>
      have hw : zBL C a c true := hw
      cases st with
      | nil =>
        have e := h.fin
        have e2 : c2 = c := congrArg (fun z => z.2.2.1) e
        have e3 : C2 = C := congrArg (fun z => z.2.2.2) e
        subst e2; subst e3
        exact ⟨hw, hj⟩
      | cons v r =>
        have hsh := h.sh
        have hv := hsh.1
        rw [zlenc] at hu
        have nt : ∀ x : Int, (x = 10485760 ∨ x = 11534336 ∨ x = 12582912) → ∀ k, a ≤ k → k < c + 1 → 11534336 ≤ xud C c x k → xud C c x k < 13631488 ∧ xud C c x k % 1048576 ≤ c + 1 := fun x hx k k1 k2 k3 => by
          by_cases e : k = c
          · rw [e, xud_s] at k3 ⊢; omega
          · rw [xud_o C _ e] at k3 ⊢
            have := hj k k1 (by omega) k3
            omega
        have lnd : 11534336 ≤ v ∧ v < 13631488 → zBL (zland C v c) a c true ∧ ∀ k, a ≤ k → k < c → 11534336 ≤ zland C v c k → zland C v c k < 13631488 ∧ zland C v c k % 1048576 ≤ c := fun q => by
          have q2 : a ≤ v % 1048576 ∧ v % 1048576 < c ∧ C (v % 1048576) / 1048576 = v / 1048576 := by
            rcases hv with e | e | e
            · omega
            · omega
            · exact ⟨e.2.2.1, e.2.2.2.1, e.2.2.2.2.1⟩
          refine ⟨hw.land ⟨q2.1, q2.2.1⟩ (by omega) (by omega), fun k k1 k2 k3 => ?_⟩
          by_cases e : k = v % 1048576
          · have e2 : zland C v c k = 1048576 * (C (v % 1048576) / 1048576) + c := by
              unfold zland
              rw [e, xud_s]
            rw [e2]; omega
          · have e2 : zland C v c k = C k := xud_o C _ e
            rw [e2] at k3 ⊢
            exact hj k k1 k2 k3
        by_cases c1 : v < 11534336
        · exact ih false _ _ _ r (by omega) (h.not c1 rfl rfl) (hw.note ⟨b.1, b.2.1⟩ (Or.inl rfl) hj2) (nt _ (Or.inl rfl))
        by_cases c2' : v < 12582912
        · have j := lnd (by omega)
          exact ih false _ _ _ r (by omega) (h.landA ⟨by omega, c2'⟩ rfl) j.1 j.2
        by_cases c3 : zch f n p = 38
        · exact ih true _ _ _ ((11534336 + c) :: v :: r) (by rw [zlenc, zlenc]; omega) (h.and_ (by show 12582912 ≤ v; omega) c3 rfl rfl rfl rfl) (hw.note ⟨b.1, b.2.1⟩ (Or.inr (Or.inl rfl)) hj2) (nt _ (Or.inr (Or.inl rfl)))
        by_cases c4 : v < 13631488
        · have j := lnd (by omega)
          exact ih false _ _ _ r (by omega) (h.landP ⟨by omega, c4⟩ c3 rfl) j.1 j.2
        by_cases c5 : zch f n p = 124
        · exact ih true _ _ _ ((12582912 + c) :: v :: r) (by rw [zlenc, zlenc]; omega) (h.or_ (by show 13631488 ≤ v; omega) c5 rfl rfl rfl rfl) (hw.note ⟨b.1, b.2.1⟩ (Or.inr (Or.inr rfl)) hj2) (nt _ (Or.inr (Or.inr rfl)))
        by_cases c6 : zch f n p = 41
        · exact ih false (p + 1) c C r (by omega) (h.shut (by omega) c6 rfl) hw hj
        · have e := zCX.bad (v :: r) c C h (List.cons_ne_nil _ _) c3 c5 c6
          have e2 : (0 : Int) = -1000 - p := e
          omega
theorem zC0_bl {f : Int → Int} {n p c p2 c2 : Int} {C C2 : Int → Int} (hb : 0 ≤ c ∧ c + 1 ≤ p ∧ p ≤ n ∧ n ≤ 240) (e : zC0 f n p c C = (0, p2, c2, C2)) : zBL C2 c c2 true ∧ (∀ k, c ≤ k → k < c2 → 11534336 ≤ C2 k → C2 k < 13631488 ∧ C2 k % 1048576 ≤ c2) := by
  have h : zCX f n c (0, p2, c2, C2) true p c C [13631488] := by
    rw [← e]
    exact zCX.new hb
  exact zCX.bl (2 * n + 2).toNat true p c C [13631488] (by show 2 * (n - p) + 1 + 1 ≤ _; omega) h (zBL_0 _ _) (fun k k1 k2 => by omega)
def zBC (C : Int → Int) (a t : Int) : Prop := zBL C a t true ∧ (∀ k, a ≤ k → k < t → 11534336 ≤ C k → C k < 13631488 ∧ C k % 1048576 ≤ t)
theorem zBC.cp {C C2 : Int → Int} {a t : Int} (h : zBC C a t) (ha : 0 ≤ a) (hc : ∀ k, a ≤ k → k < t → C2 k = C k) : zBC C2 a t := ⟨h.1.cp ha hc (fun k k1 k2 k3 => (h.2 k k1 k2 k3).2), fun k k1 k2 k3 => by
  rw [hc k k1 k2] at k3 ⊢
  exact h.2 k k1 k2 k3⟩
def zSB (C L A B T : Int → Int) (M : Int) : Prop := ∀ q, 0 ≤ q → q < M → (0 ≤ A q ∧ 0 ≤ B q) ∧ (∀ k, A q ≤ k → k < B q → C k < 10485760) ∧ zBC C (B q) (T q)
theorem zLX.bl {f : Int → Int} {n M2 c2 : Int} {C2 L2 A2 B2 T2 : Int → Int} : ∀ (u : Nat) (m : Bool) (M p c : Int) (C L A B T : Int → Int), 2 * (n - p) + (bif m then 1 else 2) ≤ (u : Int) → zLX f n (0, M2, c2, C2, L2, A2, B2, T2) m M p c C L A B T → zSB C L A B T M → (∀ q, 0 ≤ q → q < M → B q ≤ c ∧ T q ≤ c) → zSB C2 L2 A2 B2 T2 M2 := by
  intro u
  induction u with
  | zero =>
    intro m M p c C L A B T hu h
    have b := h.b
    cases m with
    | true => have hu : 2 * (n - p) + 1 ≤ (0 : Int) := hu; omega
    | false => have hu : 2 * (n - p) + 2 ≤ (0 : Int) := hu; omega
  | succ u ih =>
    intro m M p c C L A B T hu h hs ht
    have b := h.b
    have hlt : zch f n p ≠ -1 → p < n := zch_lt
    cases m with
    | true =>
      have hu : 2 * (n - p) + 1 ≤ ((u + 1 : Nat) : Int) := hu
      have hk := zkl_cs (zch f n p)
      by_cases k1 : zkl (zch f n p) = 0
      · have e2 : (0 : Int) = -1000 - p := h.one k1
        omega
      by_cases k2 : 16 ≤ M
      · have e2 : (0 : Int) = -4000 - p := h.four k1 k2
        omega
      obtain ⟨x1, p3, c3, C3, e1⟩ : ∃ x1 p3 c3 C3, zc1 f n p c C = (x1, p3, c3, C3) := ⟨_, _, _, _, rfl⟩
      by_cases z1 : x1 = 0
      · subst z1
        have w1 := zc1_wf ⟨b.1, b.2.1, by omega, b.2.2.2.1⟩ e1
        have v1 : ∀ k, c ≤ k → k < c3 → C3 k < 10485760 := by
          have e9 := e1
          unfold zc1 at e9
          split at e9
          · have e2 : c = c3 := congrArg (fun z => z.2.2.1) e9
            exact fun k a1 a2 => by omega
          · exact (zE0_bl (K := 1) ⟨b.1, by omega, by decide, by omega, b.2.2.2.1⟩ e9).2.2
        obtain ⟨x2, p4, c4, C4, e2⟩ : ∃ x2 p4 c4 C4, zc2 f n p3 c3 C3 = (x2, p4, c4, C4) := ⟨_, _, _, _, rfl⟩
        by_cases z2 : x2 = 0
        · subst z2
          have w2 := zc2_wf (by omega) e2
          have v2 : zBC C4 c3 c4 := by
            have e9 := e2
            unfold zc2 at e9
            split at e9
            · have e3 : -1000 - p3 = (0 : Int) := congrArg Prod.fst e9
              omega
            · rename_i hh
              have hl := zch_lt (f := f) (n := n) (p := p3) (by omega)
              exact zC0_bl ⟨by omega, by omega, by omega, b.2.2.2.1⟩ e9
          have h9 := h.clause k1 (by omega) e1 e2 (by omega) rfl rfl rfl rfl rfl
          have hc : ∀ k, k < c → C4 k = C k := fun k hk => by rw [w2.2.2 k (by omega), w1.2.2 k hk]
          refine ih false _ _ _ _ _ _ _ _ (by show 2 * (n - p4) + 2 ≤ _; omega) h9 (fun q q1 q2 => ?_) (fun q q1 q2 => ?_)
          · by_cases e : q = M
            · subst e
              rw [xud_s, xud_s, xud_s]
              exact ⟨by omega, fun k a1 a2 => by rw [w2.2.2 k a2]; exact v1 k a1 a2, v2⟩
            · rw [xud_o A _ e, xud_o B _ e, xud_o T _ e]
              have z := hs q q1 (by omega)
              have y := ht q q1 (by omega)
              exact ⟨z.1, fun k a1 a2 => by rw [hc k (by omega)]; exact z.2.1 k a1 a2, z.2.2.cp z.1.2 (fun k _ a2 => hc k (by omega))⟩
          · by_cases e : q = M
            · subst e
              rw [xud_s, xud_s]
              omega
            · rw [xud_o B _ e, xud_o T _ e]
              have y := ht q q1 (by omega)
              omega
        · have e9 : (0 : Int) = (zc2 f n p3 c3 C3).1 := h.e2 k1 (by omega) e1 (by rw [e2]; exact z2)
          rw [e2] at e9
          exact absurd e9.symm z2
      · have e9 : (0 : Int) = (zc1 f n p c C).1 := h.e1 k1 (by omega) (by rw [e1]; exact z1)
        rw [e1] at e9
        exact absurd e9.symm z1
    | false =>
      have hu : 2 * (n - p) + 2 ≤ ((u + 1 : Nat) : Int) := hu
      by_cases k1 : p < n
      · by_cases k2 : zch f n p = 59
        · exact ih true _ _ _ _ _ _ _ _ (by show 2 * (n - (p + 1)) + 1 ≤ _; omega) (h.semi k2 rfl) hs ht
        · have e2 : (0 : Int) = -1000 - p := h.bad k1 k2
          omega
      · have e := h.fin (by omega)
        have e1 : M2 = M := congrArg (fun z => z.2.1) e
        have e3 : C2 = C := congrArg (fun z => z.2.2.2.1) e
        have e4 : L2 = L := congrArg (fun z => z.2.2.2.2.1) e
        have e5 : A2 = A := congrArg (fun z => z.2.2.2.2.2.1) e
        have e6 : B2 = B := congrArg (fun z => z.2.2.2.2.2.2.1) e
        have e7 : T2 = T := congrArg (fun z => z.2.2.2.2.2.2.2) e
        subst e1; subst e3; subst e4; subst e5; subst e6; subst e7
        exact hs
theorem zL0_bl {f : Int → Int} {n M2 c2 : Int} {C L A B T C2 L2 A2 B2 T2 : Int → Int} (hn : 0 ≤ n ∧ n ≤ 240) (e : zL0 f n C L A B T = (0, M2, c2, C2, L2, A2, B2, T2)) : zSB C2 L2 A2 B2 T2 M2 := by
  have h : zLX f n (0, M2, c2, C2, L2, A2, B2, T2) true 0 0 0 C L A B T := by
    rw [← e]
    exact zLX.new hn
  exact zLX.bl (2 * n + 2).toNat true 0 0 0 C L A B T (by show 2 * (n - 0) + 1 ≤ _; omega) h (fun q q1 q2 => by omega) (fun q q1 q2 => by omega)
