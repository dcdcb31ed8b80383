/-! ===== a law as the class writes it ===== -/
def zom (v : Int) : Int := if v < 1048576 then 1 else if v < 2097152 then 2 else if v < 3145728 then 43 else if v < 4194304 then 45 else if v < 5242880 then 42 else if v < 6291456 then 47 else if v < 7340032 then 37 else if v < 8388608 then 60 else if v < 9437184 then 62 else if v < 10485760 then 61 else if v < 11534336 then 3 else if v < 12582912 then 4 else 5
def zwm (s v : Int) : Int := if v < 1048576 then v else if v < 2097152 then v - 1048576 else if v < 11534336 then 0 else if v % 1048576 = 0 then 0 else v % 1048576 + s
theorem zom_sg {x v : Int} (h : v = 1048576 * zsg x) (h2 : 2 ≤ zsg x) : x = zom v ∧ ∀ s, 0 = zwm s v := by
  have z := zsg_cs x
  refine ⟨?_, fun s => ?_⟩
  · unfold zom
    (repeat' split) <;> omega
  · unfold zwm
    (repeat' split) <;> omega
theorem zom_cp {x v : Int} (h : v = 1048576 * zcp x) (h2 : zcp x ≠ -1) : x = zom v ∧ ∀ s, 0 = zwm s v := by
  have z := zcp_cs x
  refine ⟨?_, fun s => ?_⟩
  · unfold zom
    (repeat' split) <;> omega
  · unfold zwm
    (repeat' split) <;> omega
theorem zom_n {v : Int} (h : 0 ≤ v ∧ v < 1048576) : 1 = zom v ∧ ∀ s, v = zwm s v := by
  refine ⟨?_, fun s => ?_⟩
  · unfold zom
    rw [if_pos h.2]
  · unfold zwm
    rw [if_pos h.2]
theorem zom_l {x v : Int} (h : v = 1048576 + x) (hx : 0 ≤ x ∧ x < 7) : 2 = zom v ∧ ∀ s, x = zwm s v := by
  refine ⟨?_, fun s => ?_⟩
  · unfold zom
    rw [if_neg (by omega), if_pos (by omega)]
  · unfold zwm
    rw [if_neg (by omega), if_pos (by omega)]; omega
theorem zwm_0 (s : Int) : 0 = zwm s 10485760 ∧ 0 = zwm s 11534336 ∧ 0 = zwm s 12582912 := by
  unfold zwm
  refine ⟨?_, ?_, ?_⟩
  · (repeat' split) <;> omega
  · (repeat' split) <;> omega
  · (repeat' split) <;> omega
theorem zom_h {x : Int} (h : 11534336 ≤ x) : zom x = if x < 12582912 then 4 else 5 := by
  unfold zom
  rw [if_neg (by omega), if_neg (by omega), if_neg (by omega), if_neg (by omega), if_neg (by omega), if_neg (by omega), if_neg (by omega), if_neg (by omega), if_neg (by omega), if_neg (by omega), if_neg (by omega)]
theorem zom_j {x y : Int} (h : x / 1048576 = y / 1048576) (hx : x / 1048576 = 11 ∨ x / 1048576 = 12) : zom x = zom y := by
  rw [zom_h (by omega), zom_h (by omega)]
  rcases hx with e | e
  · rw [if_pos (by omega), if_pos (by omega)]
  · rw [if_neg (by omega), if_neg (by omega)]
theorem zwm_j {x s c : Int} (h : x = 1048576 * 11 + c ∨ x = 1048576 * 12 + c) (hc : 0 < c ∧ c < 1048576) : zwm s x = c + s := by
  unfold zwm
  rw [if_neg (by omega), if_neg (by omega), if_neg (by omega), if_neg (by omega)]
  omega
/-- the part of the class's code that is being written: from a on, s places behind the other side's -/
def zRD (σ : xS) (s a c : Int) (C O V : Int → Int) : Prop := (σ 118 2 = c + s ∧ (0 ≤ s ∧ s ≤ 31) ∧ 0 ≤ a ∧ a ≤ c) ∧ (∀ k, a ≤ k → k < c → σ 119 (k + s) = zom (C k) ∧ σ 120 (k + s) = zwm s (C k)) ∧ ∀ k, k < a + s → σ 119 k = O k ∧ σ 120 k = V k
section RD
variable {σ τ : xS} {s a c x o w c2 v p : Int} {C C2 O V : Int → Int} {k : Nat} {j y : Int}
theorem zRD.b (h : zRD σ s a c C O V) : σ 118 2 = c + s ∧ (0 ≤ s ∧ s ≤ 31) ∧ 0 ≤ a ∧ a ≤ c := h.1
theorem zRD.f (h : zRD σ s a c C O V) (e2 : τ 118 2 = σ 118 2) (eo : τ 119 = σ 119) (ew : τ 120 = σ 120) : zRD τ s a c C O V := by
  unfold zRD
  rw [e2, eo, ew]
  exact h
theorem zRD.u (h : zRD σ s a c C O V) (e : τ = xU σ k j y) (hk : k ≠ 118 ∧ k ≠ 119 ∧ k ≠ 120) : zRD τ s a c C O V := by
  subst e
  exact h.f (by rw [xU_k _ _ _ (Ne.symm hk.1)]) (xU_k _ _ _ (Ne.symm hk.2.1)) (xU_k _ _ _ (Ne.symm hk.2.2))
theorem zRD.put (h : zRD σ s a c C O V) (e2 : τ 118 2 = σ 118 2 + 1) (eo : τ 119 = xud (σ 119) (σ 118 2) o) (ew : τ 120 = xud (σ 120) (σ 118 2) w) (ho : o = zom x) (hw : w = zwm s x) (hc : c2 = c + 1) (hC : C2 = xud C c x) : zRD τ s a c2 C2 O V := by
  subst hc; subst hC
  have b := h.1
  refine ⟨⟨by omega, b.2.1, b.2.2.1, by omega⟩, fun k k1 k2 => ?_, fun k k1 => ?_⟩
  · rw [eo, ew, b.1]
    by_cases e : k = c
    · subst e
      rw [xud_s, xud_s, xud_s]
      exact ⟨ho, hw⟩
    · rw [xud_o C x e, xud_o _ _ (by omega), xud_o _ _ (by omega)]
      exact h.2.1 k k1 (by omega)
  · rw [eo, ew, xud_o _ _ (by omega), xud_o _ _ (by omega)]
    exact h.2.2 k k1
theorem zRD.land (h : zRD σ s a c C O V) (e2 : τ 118 2 = σ 118 2) (eo : τ 119 = σ 119) (ew : τ 120 = xud (σ 120) p (σ 118 2)) (hp : p = v % 1048576 + s) (hv : 11534336 ≤ v ∧ v < 13631488) (hr : a ≤ v % 1048576 ∧ v % 1048576 < c) (hC : C (v % 1048576) / 1048576 = v / 1048576) (hc : c < 1048576) : zRD τ s a c (zland C v c) O V := by
  subst hp
  have b := h.1
  refine ⟨⟨by rw [e2]; exact b.1, b.2.1, b.2.2.1, b.2.2.2⟩, fun k k1 k2 => ?_, fun k k1 => ?_⟩
  · rw [eo, ew, b.1]
    have z := h.2.1 k k1 k2
    unfold zland
    by_cases e : k = v % 1048576
    · subst e
      rw [xud_s, xud_s]
      refine ⟨z.1.trans (zom_j (by omega) (by omega)), (zwm_j (c := c) (by omega) (by omega)).symm⟩
    · rw [xud_o C _ e, xud_o _ _ (by omega)]
      exact z
  · rw [eo, ew, xud_o _ _ (by omega)]
    exact h.2.2 k k1
end RD
/-- a law's code on both sides: orders o, words v, kinds, where the E and the C begin -/
def zKR (o v kd wa ak C L A B T : Int → Int) (M c : Int) : Prop := ∀ q, 0 ≤ q → q < M → (kd q = L q ∧ wa q = A q + 2 * q ∧ ak q = B q + 2 * q + 1) ∧ (0 ≤ A q ∧ A q ≤ B q ∧ B q ≤ T q ∧ T q ≤ c) ∧
  ((∀ k, A q ≤ k → k < B q → o (k + 2 * q) = zom (C k) ∧ v (k + 2 * q) = zwm (2 * q) (C k)) ∧ o (B q + 2 * q) = 0) ∧
  (∀ k, B q ≤ k → k < T q → o (k + (2 * q + 1)) = zom (C k) ∧ v (k + (2 * q + 1)) = zwm (2 * q + 1) (C k)) ∧ o (T q + (2 * q + 1)) = 0
theorem zKR_0 {o v kd wa ak C L A B T : Int → Int} {M c : Int} (h : M = 0) : zKR o v kd wa ak C L A B T M c := fun q q1 q2 => by omega
theorem zKR.cp {o v kd wa ak C L A B T o2 v2 kd2 wa2 ak2 C2 : Int → Int} {M c c2 : Int} (h : zKR o v kd wa ak C L A B T M c) (ho : ∀ k, k < c + 2 * M → o2 k = o k ∧ v2 k = v k) (hC : ∀ k, k < c → C2 k = C k) (hk : ∀ q, 0 ≤ q → q < M → kd2 q = kd q ∧ wa2 q = wa q ∧ ak2 q = ak q) (hc : c ≤ c2) : zKR o2 v2 kd2 wa2 ak2 C2 L A B T M c2 := fun q q1 q2 => by
  have z := h q q1 q2
  have zk := hk q q1 q2
  refine ⟨⟨zk.1.trans z.1.1, zk.2.1.trans z.1.2.1, zk.2.2.trans z.1.2.2⟩, by omega, ⟨fun k k1 k2 => ?_, ?_⟩, fun k k1 k2 => ?_, ?_⟩
  · rw [(ho _ (by omega)).1, (ho _ (by omega)).2, hC k (by omega)]
    exact z.2.2.1.1 k k1 k2
  · rw [(ho _ (by omega)).1]
    exact z.2.2.1.2
  · rw [(ho _ (by omega)).1, (ho _ (by omega)).2, hC k (by omega)]
    exact z.2.2.2.1 k k1 k2
  · rw [(ho _ (by omega)).1]
    exact z.2.2.2.2
theorem zKR.cp2 {o v kd wa ak C L A B T o2 v2 kd2 wa2 ak2 : Int → Int} {M c : Int} (h : zKR o v kd wa ak C L A B T M c) (ho : ∀ k, 0 ≤ k → k < c + 2 * M → o2 k = o k ∧ v2 k = v k) (hk : ∀ q, 0 ≤ q → q < M → kd2 q = kd q ∧ wa2 q = wa q ∧ ak2 q = ak q) : zKR o2 v2 kd2 wa2 ak2 C L A B T M c := fun q q1 q2 => by
  have z := h q q1 q2
  have zk := hk q q1 q2
  refine ⟨⟨zk.1.trans z.1.1, zk.2.1.trans z.1.2.1, zk.2.2.trans z.1.2.2⟩, by omega, ⟨fun k k1 k2 => ?_, ?_⟩, fun k k1 k2 => ?_, ?_⟩
  · rw [(ho _ (by omega) (by omega)).1, (ho _ (by omega) (by omega)).2]
    exact z.2.2.1.1 k k1 k2
  · rw [(ho _ (by omega) (by omega)).1]
    exact z.2.2.1.2
  · rw [(ho _ (by omega) (by omega)).1, (ho _ (by omega) (by omega)).2]
    exact z.2.2.2.1 k k1 k2
  · rw [(ho _ (by omega) (by omega)).1]
    exact z.2.2.2.2
theorem zKR.snoc {o v kd wa ak C L A B T L2 A2 B2 T2 : Int → Int} {M M2 c c1 c2 x : Int} (h : zKR o v kd wa ak C L A B T M c2) (hM : 0 ≤ M) (hb : 0 ≤ c ∧ c ≤ c1 ∧ c1 ≤ c2) (hM2 : M2 = M + 1) (hL : L2 = xud L M x) (hA : A2 = xud A M c) (hB : B2 = xud B M c1) (hT : T2 = xud T M c2)
    (h1 : kd M = x ∧ wa M = c + 2 * M ∧ ak M = c1 + 2 * M + 1) (h2 : (∀ k, c ≤ k → k < c1 → o (k + 2 * M) = zom (C k) ∧ v (k + 2 * M) = zwm (2 * M) (C k)) ∧ o (c1 + 2 * M) = 0) (h3 : (∀ k, c1 ≤ k → k < c2 → o (k + (2 * M + 1)) = zom (C k) ∧ v (k + (2 * M + 1)) = zwm (2 * M + 1) (C k)) ∧ o (c2 + (2 * M + 1)) = 0) : zKR o v kd wa ak C L2 A2 B2 T2 M2 c2 := by
  subst hM2; subst hL; subst hA; subst hB; subst hT
  intro q q1 q2
  by_cases e : q = M
  · subst e
    rw [xud_s, xud_s, xud_s, xud_s]
    exact ⟨h1, by omega, h2, h3.1, h3.2⟩
  · rw [xud_o L _ e, xud_o A _ e, xud_o B _ e, xud_o T _ e]
    exact h q q1 (by omega)
theorem zRD.new {σ : xS} {s a : Int} {C O V : Int → Int} (h : σ 118 2 = a + s) (hs : 0 ≤ s ∧ s ≤ 31) (ha : 0 ≤ a) (eo : σ 119 = O) (ew : σ 120 = V) : zRD σ s a a C O V := ⟨⟨h, hs, ha, Int.le_refl _⟩, fun k k1 k2 => by omega, fun k _ => by rw [eo, ew]; exact ⟨rfl, rfl⟩⟩
/-- a clause is written -/
theorem zLK {f : Int → Int} {n M p c p1 p2 c1 c2 : Int} {C L A B T C1 C2 o0 v0 kd0 wa0 ak0 o1 v1 o2 v2 o3 v3 o4 v4 kd4 wa4 ak4 : Int → Int} {Z : zLT} (h : zLX f n Z true M p c C L A B T) (hc : zkl (zch f n p) ≠ 0) (hM : M < 16) (e1 : zc1 f n p c C = (0, p1, c1, C1)) (e2 : zc2 f n p1 c1 C1 = (0, p2, c2, C2))
    (k0 : zKR o0 v0 kd0 wa0 ak0 C L A B T M c) (r1 : ∀ k, c ≤ k → k < c1 → o1 (k + 2 * M) = zom (C1 k) ∧ v1 (k + 2 * M) = zwm (2 * M) (C1 k)) (q1 : ∀ k, k < c + 2 * M → o1 k = o0 k ∧ v1 k = v0 k) (eo2 : o2 = xud o1 (c1 + 2 * M) 0) (ev2 : v2 = xud v1 (c1 + 2 * M) 0)
    (r3 : ∀ k, c1 ≤ k → k < c2 → o3 (k + (2 * M + 1)) = zom (C2 k) ∧ v3 (k + (2 * M + 1)) = zwm (2 * M + 1) (C2 k)) (q3 : ∀ k, k < c1 + (2 * M + 1) → o3 k = o2 k ∧ v3 k = v2 k) (eo4 : o4 = xud o3 (c2 + (2 * M + 1)) 0) (ev4 : v4 = xud v3 (c2 + (2 * M + 1)) 0)
    (ekd : kd4 = xud kd0 M (zch f n p)) (ewa : wa4 = xud wa0 M (c + 2 * M)) (eak : ak4 = xud ak0 M (c1 + 2 * M + 1)) :
    zLX f n Z false (M + 1) p2 c2 C2 (xud L M (zch f n p)) (xud A M c) (xud B M c1) (xud T M c2) ∧ zKR o4 v4 kd4 wa4 ak4 C2 (xud L M (zch f n p)) (xud A M c) (xud B M c1) (xud T M c2) (M + 1) c2 := by
  have b := h.b
  have zk := zkl_cs (zch f n p)
  have hl := zch_lt (f := f) (n := n) (p := p) (by omega)
  have w1 := zc1_wf ⟨b.1, b.2.1, hl, b.2.2.2.1⟩ e1
  have w2 := zc2_wf ⟨by omega, by omega, by omega, b.2.2.2.1⟩ e2
  have x4 : ∀ k, k < c2 + (2 * M + 1) → o4 k = o3 k ∧ v4 k = v3 k := fun k hk => by rw [eo4, ev4, xud_o _ _ (by omega), xud_o _ _ (by omega)]; exact ⟨rfl, rfl⟩
  have x2 : ∀ k, k < c1 + 2 * M → o2 k = o1 k ∧ v2 k = v1 k := fun k hk => by rw [eo2, ev2, xud_o _ _ (by omega), xud_o _ _ (by omega)]; exact ⟨rfl, rfl⟩
  have y : ∀ k, k < c1 + 2 * M → o4 k = o1 k ∧ v4 k = v1 k := fun k hk => by
    rw [(x4 k (by omega)).1, (x4 k (by omega)).2, (q3 k (by omega)).1, (q3 k (by omega)).2]
    exact x2 k hk
  refine ⟨h.clause hc hM e1 e2 (by omega) rfl rfl rfl rfl rfl, ?_⟩
  refine zKR.snoc (x := zch f n p) (k0.cp (fun k hk => ?_) (fun k hk => ?_) (fun q a1 a2 => ?_) (by omega)) b.2.2.2.2.1 ⟨b.1, by omega, by omega⟩ rfl rfl rfl rfl rfl ⟨by rw [ekd, xud_s], by rw [ewa, xud_s], by rw [eak, xud_s]⟩ ⟨fun k k1 k2 => ?_, ?_⟩ ⟨fun k k1 k2 => ?_, by rw [eo4, xud_s]⟩
  · rw [(y k (by omega)).1, (y k (by omega)).2]
    exact q1 k hk
  · rw [w2.2.2 k (by omega), w1.2.2 k hk]
  · rw [ekd, ewa, eak, xud_o _ _ (by omega), xud_o _ _ (by omega), xud_o _ _ (by omega)]
    exact ⟨rfl, rfl, rfl⟩
  · rw [(y _ (by omega)).1, (y _ (by omega)).2, w2.2.2 k k2]
    exact r1 k k1 k2
  · rw [(x4 _ (by omega)).1, (q3 _ (by omega)).1, eo2, xud_s]
  · rw [(x4 _ (by omega)).1, (x4 _ (by omega)).2]
    exact r3 k k1 k2
