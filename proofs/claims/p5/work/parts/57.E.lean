/-! ===== the machine's own arithmetic, with its value ===== -/
def zwp (z : Int) : Int := (xJ z).toInt
def zdv (a b : Int) : Int := (xJ a / xJ b).toInt
def zrm (a b : Int) : Int := (xJ a - xJ a / xJ b * xJ b).toInt
theorem zwp_id {z : Int} (h : xR z) : zwp z = z := xJ_toInt h
section X10
variable {p : Program} {l : Launch} {e : Env} {R : Room} {s : State} {m : MethodId} {args : Array Value} {below : List Frame} {meth : Method} {c : Code} {H : Heap} {locs : List Loc} {cells slots : Nat} {Q : State → Prop}
variable {cc : ByteArray} {pc : Nat} {ls : Array Slot} {rest : List Value}
theorem x_wv {z : Int} (kk : ∀ v : Int, v = zwp z → xR v → W p l e R s m args below meth c H locs cells slots Q (F0 m pc ls (.int (xJ v) :: rest))) : W p l e R s m args below meth c H locs cells slots Q (F0 m pc ls (.int (xJ z) :: rest)) := by
  have h := kk (zwp z) rfl (xR_of _)
  unfold zwp at h
  rw [xJ_of] at h
  exact h
theorem x_idivE (hx : p.tables.exec = Jvm.exec) (hb : c.code = cc) {a b : Int} (hb2 : xR b) (h1 : b ≠ 0) (hdg : decode cc pc = .ok (.idiv, 1)) (k : ∀ v : Int, v = zdv a b → xR v → W p l e R s m args below meth c H locs cells slots Q (F0 m (pc + 1) ls (.int (xJ v) :: rest))) : W p l e R s m args below meth c H locs cells slots Q (F0 m pc ls (.int (xJ b) :: .int (xJ a) :: rest)) := lv_idiv hx hb hdg (xJ_ne0 hb2 h1) (by
  have h := k (zdv a b) rfl (xR_of _)
  unfold zdv at h
  rw [xJ_of] at h
  exact h)
theorem x_iremE (hx : p.tables.exec = Jvm.exec) (hb : c.code = cc) {a b : Int} (hb2 : xR b) (h1 : b ≠ 0) (hdg : decode cc pc = .ok (.irem, 1)) (k : ∀ v : Int, v = zrm a b → xR v → W p l e R s m args below meth c H locs cells slots Q (F0 m (pc + 1) ls (.int (xJ v) :: rest))) : W p l e R s m args below meth c H locs cells slots Q (F0 m pc ls (.int (xJ b) :: .int (xJ a) :: rest)) := lv_irem hx hb hdg (xJ_ne0 hb2 h1) (by
  have h := k (zrm a b) rfl (xR_of _)
  unfold zrm at h
  rw [xJ_of] at h
  exact h)
end X10
/-! ===== what a law's code comes to ===== -/
def zrk (o x y : Int) : Int := if o = 2 then zwp (x + y) else if o = 3 then zwp (x - y) else if o = 4 then zwp (x * y) else if o = 5 then zdv x y else if o = 6 then zrm x y else if o = 7 then (if x < y then 1 else 0) else if o = 8 then (if y < x then 1 else 0) else (if x = y then 1 else 0)
theorem zrk_b (o x y : Int) (h : 7 ≤ o) : zrk o x y = 0 ∨ zrk o x y = 1 := by
  unfold zrk
  rw [if_neg (by omega), if_neg (by omega), if_neg (by omega), if_neg (by omega), if_neg (by omega)]
  (repeat' split) <;> simp
def zhd : List Int → Int
  | [] => 0
  | v :: _ => v
def ztl : List Int → List Int
  | [] => []
  | _ :: r => r
def zev (C F : Int → Int) (t : Int) : Nat → Int → List Int → Int
  | 0, _, st => zhd st
  | k + 1, p, st => if t ≤ p then zhd st else
    if C p < 1048576 then zev C F t k (p + 1) (C p :: st) else
    if C p < 2097152 then zev C F t k (p + 1) (F (C p - 1048576) :: st) else
    if C p / 1048576 = 10 then zev C F t k (p + 1) ((1 - zhd st) :: ztl st) else
    if C p / 1048576 = 11 then (if zhd st = 0 then zev C F t k (C p % 1048576) st else zev C F t k (p + 1) (ztl st)) else
    if C p / 1048576 = 12 then (if zhd st = 1 then zev C F t k (C p % 1048576) st else zev C F t k (p + 1) (ztl st)) else
    if (C p / 1048576 = 5 ∨ C p / 1048576 = 6) ∧ zhd st = 0 then 0 else
    zev C F t k (p + 1) (zrk (C p / 1048576) (zhd (ztl st)) (zhd st) :: ztl (ztl st))
def zEV (C F : Int → Int) (a t : Int) : Int := zev C F t (t - a).toNat a []
/-- which numbers of the code leave 0 or 1 -/
def zbc (v : Int) : Prop := 7340032 ≤ v ∧ v < 11534336
/-- ! and jumps follow such a one; jumps lead behind such a one; the last is such a one, if m -/
def zBL (C : Int → Int) (a c : Int) (m : Bool) : Prop := (∀ k, a ≤ k → k < c → 10485760 ≤ C k → (a < k ∧ zbc (C (k - 1)))) ∧ (∀ k, a ≤ k → k < c → 11534336 ≤ C k → C k % 1048576 ≠ 0 → (a < C k % 1048576 ∧ zbc (C (C k % 1048576 - 1)))) ∧ (m = true → (a < c ∧ zbc (C (c - 1))))
theorem zBL.cp {C C2 : Int → Int} {a c : Int} {m : Bool} (h : zBL C a c m) (ha : 0 ≤ a) (hc : ∀ k, a ≤ k → k < c → C2 k = C k) (hj : ∀ k, a ≤ k → k < c → 11534336 ≤ C k → C k % 1048576 ≤ c) : zBL C2 a c m := by
  refine ⟨fun k k1 k2 k3 => ?_, fun k k1 k2 k3 k4 => ?_, fun q => ?_⟩
  · rw [hc k k1 k2] at k3
    have z := h.1 k k1 k2 k3
    rw [hc (k - 1) (by omega) (by omega)]
    exact z
  · rw [hc k k1 k2] at k3 k4 ⊢
    have z := h.2.1 k k1 k2 k3 k4
    have y := hj k k1 k2 k3
    rw [hc _ (by omega) (by omega)]
    exact z
  · have z := h.2.2 q
    rw [hc _ (by omega) (by omega)]
    exact z
/-- a sum's code holds no ! and no jump -/
theorem zEX.bl {f : Int → Int} {n q W K b0 p2 c2 : Int} {B0 C2 : Int → Int} : ∀ (u : Nat) (m : Bool) (p c : Int) (C : Int → Int) (se : List Int), 2 * (n - p) + (se.length : Int) + 1 ≤ (u : Int) → zEX f n q W K b0 B0 (0, p2, c2, C2) m p c C se → (∀ k, k < c → C2 k = C k) ∧ c ≤ c2 ∧ ∀ k, c ≤ k → k < c2 → C2 k < 10485760 := by
  intro u
  induction u with
  | zero =>
    intro m p c C se hu h
    have b := h.b
    omega
  | succ u ih =>
    intro m p c C se hu h
    have b := h.b
    have zc := zsg_cs (zch f n p)
    have hlt : zch f n p ≠ -1 → p < n := zch_lt
    have no : ∀ {x : Int} {y : Int × Int × (Int → Int)}, x < 0 → ((0, p2, c2, C2) : Int × Int × Int × (Int → Int)) ≠ (x, y) := fun hx e => by
      have e2 : (0 : Int) = _ := congrArg Prod.fst e
      omega
    have em : ∀ v : Int, v < 10485760 → ((∀ k, k < c + 1 → C2 k = xud C c v k) ∧ c + 1 ≤ c2 ∧ ∀ k, c + 1 ≤ k → k < c2 → C2 k < 10485760) → ((∀ k, k < c → C2 k = C k) ∧ c ≤ c2 ∧ ∀ k, c ≤ k → k < c2 → C2 k < 10485760) := fun v hv z => ⟨fun k hk => (z.1 k (by omega)).trans (xud_o C v (by omega)), by omega, fun k k1 k2 => by
      by_cases e : k = c
      · rw [z.1 k (by omega), e, xud_s]; exact hv
      · exact z.2.2 k (by omega) k2⟩
    cases m with
    | true =>
      by_cases c1 : zch f n p = 91
      · by_cases c3 : 6 ≤ q + zop se
        · exact absurd (h.five c1 c3) (no (by omega))
        · exact ih true (p + 1) c C (14680064 :: se) (by rw [zlenc]; omega) (h.open_ c1 (by omega) rfl rfl)
      by_cases c2' : zdg (zch f n p)
      · have z1 := znr_p (f := f) (n := n) 5 p 0
        have z2 := z1.2.2 c2' (by decide)
        by_cases c3 : zdg (zch f n (znr f n 5 p 0).1)
        · exact absurd (h.two c2' rfl c3) (no (by omega))
        · have zv := zdl_n (f := f) (n := n) (p := p)
          exact em _ (by omega) (ih false _ _ _ se (by omega) (h.num c2' rfl c3 rfl rfl))
      by_cases c3 : zlt (zch f n p) = -1
      · exact absurd (h.one c1 c2' c3) (no (by omega))
      · have zl := zlt_cs (zch f n p)
        exact em _ (by omega) (ih false _ _ _ se (by omega) (h.let_ c3 rfl rfl rfl))
    | false =>
      cases se with
      | nil =>
        by_cases c1 : zsg (zch f n p) < 2
        · have e := h.fin c1
          have e2 : c2 = c := congrArg (fun z => z.2.2.1) e
          have e3 : C2 = C := congrArg (fun z => z.2.2.2) e
          subst e2; subst e3
          exact ⟨fun _ _ => rfl, Int.le_refl _, fun k k1 k2 => by omega⟩
        have h9 : zEX f n q W K b0 B0 (0, p2, c2, C2) true (p + 1) c C [1048576 * zsg (zch f n p)] := by
          by_cases c4 : 4 ≤ zsg (zch f n p)
          · exact h.sgm (Or.inl (by decide)) c4 rfl rfl
          · exact h.sga (Or.inl (by decide)) (by omega) rfl rfl
        have hu : 2 * (n - p) + 0 + 1 ≤ ((u + 1 : Nat) : Int) := hu
        exact ih true (p + 1) c C _ (by rw [zlenc]; show 2 * (n - (p + 1)) + (0 + 1) + 1 ≤ _; omega) h9
      | cons v r =>
        have hv := h.sh.1
        rw [zlenc] at hu
        by_cases c1 : 4194304 ≤ v ∧ v < 7340032
        · exact em _ (by omega) (ih false _ _ _ r (by omega) (h.mul c1 rfl rfl))
        by_cases c2' : 4 ≤ zsg (zch f n p)
        · exact ih true (p + 1) c C _ (by rw [zlenc, zlenc]; omega) (h.sgm (v := 1048576 * zsg (zch f n p)) (by show v < 4194304 ∨ 7340032 ≤ v; omega) c2' rfl rfl)
        by_cases c3 : v < 4194304
        · exact em _ (by omega) (ih false _ _ _ r (by omega) (h.add c3 (by omega) rfl rfl))
        by_cases c4 : 2 ≤ zsg (zch f n p)
        · exact ih true (p + 1) c C _ (by rw [zlenc, zlenc]; omega) (h.sga (v := 1048576 * zsg (zch f n p)) (by show v < 0 ∨ 7340032 ≤ v; omega) ⟨c4, by omega⟩ rfl rfl)
        by_cases c5 : zch f n p = 93
        · exact ih false (p + 1) c C r (by omega) (h.shut (by omega) c5 rfl)
        · have e := zEX.bad (v :: r) c C h (by rw [zop_y (by omega)]; have := zop_n r; omega) (by omega) c5
          have e2 : (0 : Int) = -1000 - p := e
          omega
theorem zEX.pr {f : Int → Int} {n q W K b0 p2 c2 : Int} {B0 C2 : Int → Int} : ∀ (u : Nat) (m : Bool) (p c : Int) (C : Int → Int) (se : List Int), 2 * (n - p) + (se.length : Int) + 1 ≤ (u : Int) → zEX f n q W K b0 B0 (0, p2, c2, C2) m p c C se → p ≤ p2 ∧ p2 ≤ n ∧ c2 + K ≤ p2 ∧ (m = true → p + 1 ≤ p2) := by
  intro u
  induction u with
  | zero =>
    intro m p c C se hu h
    have b := h.b
    omega
  | succ u ih =>
    intro m p c C se hu h
    have b := h.b
    have zc := zsg_cs (zch f n p)
    have hlt : zch f n p ≠ -1 → p < n := zch_lt
    have no : ∀ {x : Int} {y : Int × Int × (Int → Int)}, x < 0 → ((0, p2, c2, C2) : Int × Int × Int × (Int → Int)) ≠ (x, y) := fun hx e => by
      have e2 : (0 : Int) = _ := congrArg Prod.fst e
      omega
    cases m with
    | true =>
      by_cases c1 : zch f n p = 91
      · by_cases c3 : 6 ≤ q + zop se
        · exact absurd (h.five c1 c3) (no (by omega))
        · have z := ih true (p + 1) c C (14680064 :: se) (by rw [zlenc]; omega) (h.open_ c1 (by omega) rfl rfl)
          exact ⟨by omega, z.2.1, z.2.2.1, fun _ => by omega⟩
      by_cases c2' : zdg (zch f n p)
      · have z1 := znr_p (f := f) (n := n) 5 p 0
        have z2 := z1.2.2 c2' (by decide)
        by_cases c3 : zdg (zch f n (znr f n 5 p 0).1)
        · exact absurd (h.two c2' rfl c3) (no (by omega))
        · have z := ih false _ _ _ se (by omega) (h.num c2' rfl c3 rfl rfl)
          exact ⟨by omega, z.2.1, z.2.2.1, fun _ => by omega⟩
      by_cases c3 : zlt (zch f n p) = -1
      · exact absurd (h.one c1 c2' c3) (no (by omega))
      · have zl := zlt_cs (zch f n p)
        have z := ih false _ _ _ se (by omega) (h.let_ c3 rfl rfl rfl)
        exact ⟨by omega, z.2.1, z.2.2.1, fun _ => by omega⟩
    | false =>
      cases se with
      | nil =>
        by_cases c1 : zsg (zch f n p) < 2
        · have e := h.fin c1
          have e1 : p2 = p := congrArg (fun z => z.2.1) e
          have e2 : c2 = c := congrArg (fun z => z.2.2.1) e
          exact ⟨by omega, by omega, by omega, fun q => by cases q⟩
        have h9 : zEX f n q W K b0 B0 (0, p2, c2, C2) true (p + 1) c C [1048576 * zsg (zch f n p)] := by
          by_cases c4 : 4 ≤ zsg (zch f n p)
          · exact h.sgm (Or.inl (by decide)) c4 rfl rfl
          · exact h.sga (Or.inl (by decide)) (by omega) rfl rfl
        have hu : 2 * (n - p) + 0 + 1 ≤ ((u + 1 : Nat) : Int) := hu
        have z := ih true (p + 1) c C _ (by rw [zlenc]; show 2 * (n - (p + 1)) + (0 + 1) + 1 ≤ _; omega) h9
        exact ⟨by omega, z.2.1, z.2.2.1, fun q => by cases q⟩
      | cons v r =>
        have hv := h.sh.1
        rw [zlenc] at hu
        by_cases c1 : 4194304 ≤ v ∧ v < 7340032
        · have z := ih false _ _ _ r (by omega) (h.mul c1 rfl rfl)
          exact ⟨z.1, z.2.1, z.2.2.1, fun q => by cases q⟩
        by_cases c2' : 4 ≤ zsg (zch f n p)
        · have z := ih true (p + 1) c C _ (by rw [zlenc, zlenc]; omega) (h.sgm (v := 1048576 * zsg (zch f n p)) (by show v < 4194304 ∨ 7340032 ≤ v; omega) c2' rfl rfl)
          exact ⟨by omega, z.2.1, z.2.2.1, fun q => by cases q⟩
        by_cases c3 : v < 4194304
        · have z := ih false _ _ _ r (by omega) (h.add c3 (by omega) rfl rfl)
          exact ⟨z.1, z.2.1, z.2.2.1, fun q => by cases q⟩
        by_cases c4 : 2 ≤ zsg (zch f n p)
        · have z := ih true (p + 1) c C _ (by rw [zlenc, zlenc]; omega) (h.sga (v := 1048576 * zsg (zch f n p)) (by show v < 0 ∨ 7340032 ≤ v; omega) ⟨c4, by omega⟩ rfl rfl)
          exact ⟨by omega, z.2.1, z.2.2.1, fun q => by cases q⟩
        by_cases c5 : zch f n p = 93
        · have z := ih false (p + 1) c C r (by omega) (h.shut (by omega) c5 rfl)
          exact ⟨by omega, z.2.1, z.2.2.1, fun q => by cases q⟩
        · have e := zEX.bad (v :: r) c C h (by rw [zop_y (by omega)]; have := zop_n r; omega) (by omega) c5
          have e2 : (0 : Int) = -1000 - p := e
          omega
theorem zE0_bl {f : Int → Int} {n q K p c p2 c2 : Int} {C C2 : Int → Int} (hb : 0 ≤ c ∧ c + K ≤ p ∧ 0 ≤ K ∧ p ≤ n ∧ n ≤ 240) (e : zE0 f n q p c C = (0, p2, c2, C2)) : (∀ k, k < c → C2 k = C k) ∧ c ≤ c2 ∧ ∀ k, c ≤ k → k < c2 → C2 k < 10485760 := by
  have h : zEX f n q 0 K c C (0, p2, c2, C2) true p c C [] := by
    rw [← e]
    exact zEX.new ⟨hb.1, hb.2.1, Int.le_refl _, hb.2.2.1, by omega, hb.2.2.2.1, hb.2.2.2.2⟩
  exact zEX.bl (2 * n + 2).toNat true p c C [] (by show 2 * (n - p) + 0 + 1 ≤ _; omega) h
