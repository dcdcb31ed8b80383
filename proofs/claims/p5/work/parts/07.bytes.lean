/-! ===== numbers as bytes on the tape ===== -/
theorem xR_shr {v : Int} (hv : xR v) (n : Nat) : xR (v / ((2 ^ n : Nat) : Int)) := by
  have h2 : 1 ≤ ((2 ^ n : Nat) : Int) := by have := Nat.two_pow_pos n; omega
  obtain ⟨d, hd⟩ : ∃ d : Int, d = ((2 ^ n : Nat) : Int) := ⟨_, rfl⟩
  rw [← hd] at h2 ⊢
  by_cases h0 : 0 ≤ v
  · have h3 := Int.ediv_le_self d h0
    have h4 := Int.ediv_nonneg h0 (by omega : 0 ≤ d)
    omega
  · have h5 : -2147483648 * d ≤ v := by
      have h6 : 2147483648 * d ≥ 2147483648 * 1 := Int.mul_le_mul_of_nonneg_left h2 (by decide)
      omega
    have h3 := (Int.le_ediv_iff_mul_le (by omega : 0 < d)).mpr h5
    have h4 := (Int.ediv_lt_iff_lt_mul (a := v) (b := 1) (by omega : 0 < d)).mpr (by omega)
    omega
theorem xJ_shr' {v : Int} (hv : xR v) {c : Int32} {n : Nat} (hc : (c.toBitVec.smod 32).toNat = n) : xJ v >>> c = xJ (v / ((2 ^ n : Nat) : Int)) := by
  refine Int32.toInt_inj.mp ?_
  rw [xJ_toInt (xR_shr hv n), ← Int.shiftRight_eq_div_pow]
  have h1 : (xJ v >>> c).toInt = ((xJ v).toBitVec.sshiftRight' (c.toBitVec.smod 32)).toInt := rfl
  have h2 : (xJ v).toBitVec.toInt = v := xJ_toInt hv
  rw [h1, BitVec.toInt_sshiftRight', hc, h2]
/-- v's part from bit k on -/
def xsh (v k : Int) : Int := v / ((2 ^ k.toNat : Nat) : Int)
theorem xJ_shr {v k : Int} (hv : xR v) (hk : 0 ≤ k ∧ k ≤ 24) : xJ v >>> (xJ k &&& 31) = xJ (xsh v k) := by
  have h : ((xJ k &&& 31).toBitVec.smod 32).toNat = k.toNat := by
    rcases (by omega : k = 0 ∨ k = 1 ∨ k = 2 ∨ k = 3 ∨ k = 4 ∨ k = 5 ∨ k = 6 ∨ k = 7 ∨ k = 8 ∨ k = 9 ∨ k = 10 ∨ k = 11 ∨ k = 12 ∨ k = 13 ∨ k = 14 ∨ k = 15 ∨ k = 16 ∨ k = 17 ∨ k = 18 ∨ k = 19 ∨ k = 20 ∨ k = 21 ∨ k = 22 ∨ k = 23 ∨ k = 24) with rfl | rfl | rfl | rfl | rfl | rfl | rfl | rfl | rfl | rfl | rfl | rfl | rfl | rfl | rfl | rfl | rfl | rfl | rfl | rfl | rfl | rfl | rfl | rfl | rfl <;> decide
  exact xJ_shr' hv h
theorem xsh_R {v k : Int} (hv : xR v) : xR (xsh v k) := xR_shr hv _
theorem xJ_mask8 {a : Int} (ha : xR a) : xJ a &&& xJ 255 = xJ (a % 256) := by
  refine Int32.toBitVec_inj.mp (BitVec.eq_of_toNat_eq ?_)
  rw [Int32.toBitVec_and, BitVec.toNat_and]
  have h1 : (xJ 255).toBitVec.toNat = 2 ^ 8 - 1 := by decide
  have h2 : (xJ a).toBitVec.toNat = (a % 4294967296).toNat := by
    show (BitVec.ofInt 32 a).toNat = _
    rw [BitVec.toNat_ofInt]
    rfl
  have h3 : (xJ (a % 256)).toBitVec.toNat = (a % 256).toNat := by
    show (BitVec.ofInt 32 (a % 256)).toNat = _
    rw [BitVec.toNat_ofInt]
    omega
  rw [h1, h2, Nat.and_two_pow_sub_one_eq_mod, h3]
  omega
theorem xi2b {v : Int} (hv : xR v) : ∃ y : Int, (xJ v).toInt8.toInt32 = xJ y ∧ xR y ∧ y % 256 = v % 256 ∧ (-128 ≤ y ∧ y ≤ 127) := by
  refine ⟨((xJ v).toInt8.toInt32).toInt, (xJ_of _).symm, xR_of _, ?_, ?_⟩
  · rw [Int8.toInt_toInt32, Int32.toInt_toInt8, xJ_toInt hv]
    exact Int.bmod_emod
  · rw [Int8.toInt_toInt32]
    have h1 := Int8.toInt_lt (xJ v).toInt8
    have h2 := Int8.le_toInt (xJ v).toInt8
    omega
theorem xnbm {v : Int} (hv : xR v) : ∃ y : Int, narrow .byte (.int (xJ v)) = .int (xJ y) ∧ xR y ∧ y % 256 = v % 256 ∧ (-128 ≤ y ∧ y ≤ 127) := by
  obtain ⟨y, h1, h2, h3, h4⟩ := xi2b hv
  exact ⟨y, congrArg Value.int h1, h2, h3, h4⟩
section XB
variable {p : Program} {l : Launch} {e : Env} {R : Room} {s : State} {m : MethodId} {args : Array Value} {below : List Frame} {meth : Method} {c : Code} {H : Heap} {locs : List Loc} {cells slots : Nat} {Q : State → Prop}
variable {cc : ByteArray} {pc : Nat} {ls : Array Slot} {rest st0 : List Value}
theorem x_shr (hx : p.tables.exec = Jvm.exec) (hb : c.code = cc) {v k : Int} (hv : xR v) (hk : 0 ≤ k ∧ k ≤ 24) (hdg : decode cc pc = .ok (.ishr, 1)) (kk : ∀ x : Int, x = xsh v k → xR x → W p l e R s m args below meth c H locs cells slots Q (F0 m (pc + 1) ls (.int (xJ x) :: rest))) : W p l e R s m args below meth c H locs cells slots Q (F0 m pc ls (.int (xJ k) :: .int (xJ v) :: rest)) :=
  lv_ishr hx hb hdg (by rw [xJ_shr hv hk]; exact kk _ rfl (xsh_R hv))
theorem x_and8 (hx : p.tables.exec = Jvm.exec) (hb : c.code = cc) {a : Int} (ha : xR a) (hdg : decode cc pc = .ok (.iand, 1)) (k : W p l e R s m args below meth c H locs cells slots Q (F0 m (pc + 1) ls (.int (xJ (a % 256)) :: rest))) : W p l e R s m args below meth c H locs cells slots Q (F0 m pc ls (.int (xJ 255) :: .int (xJ a) :: rest)) :=
  lv_iand hx hb hdg (by rw [xJ_mask8 ha]; exact k)
theorem x_i2bm (hx : p.tables.exec = Jvm.exec) (hb : c.code = cc) {a : Int} (ha : xR a) (hdg : decode cc pc = .ok (.i2b, 1)) (k : ∀ y : Int, xR y → y % 256 = a % 256 → (-128 ≤ y ∧ y ≤ 127) → W p l e R s m args below meth c H locs cells slots Q (F0 m (pc + 1) ls (.int (xJ y) :: rest))) : W p l e R s m args below meth c H locs cells slots Q (F0 m pc ls (.int (xJ a) :: rest)) := by
  obtain ⟨y, h1, h2, h3, h4⟩ := xi2b ha
  exact lv_i2b hx hb hdg h1 (k y h2 h3 h4)
end XB
def xud (f : Int → Int) (i v : Int) : Int → Int := fun j => if j = i then v else f j
theorem xud_s (f : Int → Int) (i v : Int) : xud f i v i = v := if_pos rfl
theorem xud_o (f : Int → Int) {i j : Int} (v : Int) (h : j ≠ i) : xud f i v j = f j := if_neg h
theorem xU_xud (σ : xS) (k : Nat) (a v : Int) : xU σ k a v k = xud (σ k) a v := funext fun j => xU_i σ k a v j
/-- n bytes of v from place a on -/
def xputn (f : Int → Int) (a v n : Int) : Int → Int := fun j => if a ≤ j ∧ j < a + n then xsh v (24 - 8 * (j - a)) % 256 else f j
theorem xputn_0 (f : Int → Int) (a v : Int) : xputn f a v 0 = f := funext fun j => if_neg (by omega)
theorem xputn_c {f : Int → Int} {a v n m : Int} (h : n = m) : xputn f a v n = xputn f a v m := by rw [h]
theorem xput_step {f f1 : Int → Int} {a v i l w : Int} (h : f1 = xputn f a v (i - a)) (hi : a ≤ i) (hl : l = 24 - 8 * (i - a)) (hw : w = xsh v l % 256) : xud f1 i w = xputn f a v (i - a + 1) := by
  funext j
  unfold xud
  rw [h]
  unfold xputn
  by_cases e : j = i
  · subst e
    rw [if_pos rfl, if_pos (by omega), hw, hl]
  · rw [if_neg e]
    by_cases q : a ≤ j ∧ j < a + (i - a)
    · rw [if_pos q, if_pos (by omega)]
    · rw [if_neg q, if_neg (by omega)]
def xm8 (f : Int → Int) : Int → Int := fun j => f j % 256
theorem xm8_ud (f : Int → Int) (i v : Int) : xm8 (xud f i v) = xud (xm8 f) i (v % 256) := by
  funext j
  unfold xm8 xud
  split <;> rfl
def xfeed (f : Int → Int) (a v1 v2 v3 v4 v5 : Int) : Int → Int := xputn (xputn (xputn (xputn (xputn f a v1 4) (a + 4) v2 4) (a + 4 + 4) v3 4) (a + 4 + 4 + 4) v4 4) (a + 4 + 4 + 4 + 4) v5 4
/-! ===== which minutes were cloudy ===== -/
def zand (a b : Int) : Int := (xJ a &&& xJ b).toInt
theorem xJ_and1 {a : Int} (ha : xR a) : xJ a &&& xJ 1 = xJ (a % 2) := by
  refine Int32.toBitVec_inj.mp (BitVec.eq_of_toNat_eq ?_)
  rw [Int32.toBitVec_and, BitVec.toNat_and]
  have h1 : (xJ 1).toBitVec.toNat = 2 ^ 1 - 1 := by decide
  have h2 : (xJ a).toBitVec.toNat = (a % 4294967296).toNat := by
    show (BitVec.ofInt 32 a).toNat = _
    rw [BitVec.toNat_ofInt]
    rfl
  have h3 : (xJ (a % 2)).toBitVec.toNat = (a % 2).toNat := by
    show (BitVec.ofInt 32 (a % 2)).toNat = _
    rw [BitVec.toNat_ofInt]
    omega
  rw [h1, h2, Nat.and_two_pow_sub_one_eq_mod, h3]
  omega
theorem zand_m1 {k : Int} (hk : xR k) : zand (-1) k = k := by
  unfold zand
  have h : xJ (-1) &&& xJ k = xJ k := by
    refine Int32.toBitVec_inj.mp (BitVec.eq_of_toNat_eq ?_)
    rw [Int32.toBitVec_and, BitVec.toNat_and]
    have h1 : (xJ (-1)).toBitVec.toNat = 2 ^ 32 - 1 := by decide
    rw [h1, Nat.and_comm, Nat.and_two_pow_sub_one_eq_mod]
    exact Nat.mod_eq_of_lt (xJ k).toBitVec.isLt
  rw [h, xJ_toInt hk]
theorem zand_1023 {k : Int} (hk : 0 ≤ k ∧ k < 1024) : zand 1023 k = k := by
  unfold zand
  have h : xJ 1023 &&& xJ k = xJ k := by
    refine Int32.toBitVec_inj.mp (BitVec.eq_of_toNat_eq ?_)
    rw [Int32.toBitVec_and, BitVec.toNat_and]
    have h1 : (xJ 1023).toBitVec.toNat = 2 ^ 10 - 1 := by decide
    have h2 : (xJ k).toBitVec.toNat = k.toNat := by
      show (BitVec.ofInt 32 k).toNat = _
      rw [BitVec.toNat_ofInt]
      omega
    rw [h1, Nat.and_comm, Nat.and_two_pow_sub_one_eq_mod, h2]
    omega
  rw [h, xJ_toInt (by omega)]
section XZ
variable {p : Program} {l : Launch} {e : Env} {R : Room} {s : State} {m : MethodId} {args : Array Value} {below : List Frame} {meth : Method} {c : Code} {H : Heap} {locs : List Loc} {cells slots : Nat} {Q : State → Prop}
variable {cc : ByteArray} {pc : Nat} {ls : Array Slot} {rest st0 : List Value}
theorem x_zand (hx : p.tables.exec = Jvm.exec) (hb : c.code = cc) {a b : Int} (hdg : decode cc pc = .ok (.iand, 1)) (kk : ∀ x : Int, x = zand a b → xR x → W p l e R s m args below meth c H locs cells slots Q (F0 m (pc + 1) ls (.int (xJ x) :: rest))) : W p l e R s m args below meth c H locs cells slots Q (F0 m pc ls (.int (xJ b) :: .int (xJ a) :: rest)) :=
  lv_iand hx hb hdg (by rw [← xJ_of (xJ a &&& xJ b)]; exact kk _ rfl (xR_of _))
theorem x_and1 (hx : p.tables.exec = Jvm.exec) (hb : c.code = cc) {a : Int} (ha : xR a) (hdg : decode cc pc = .ok (.iand, 1)) (k : W p l e R s m args below meth c H locs cells slots Q (F0 m (pc + 1) ls (.int (xJ (a % 2)) :: rest))) : W p l e R s m args below meth c H locs cells slots Q (F0 m pc ls (.int (xJ 1) :: .int (xJ a) :: rest)) :=
  lv_iand hx hb hdg (by rw [xJ_and1 ha]; exact k)
theorem x_shrQ (hx : p.tables.exec = Jvm.exec) (hb : c.code = cc) {v k : Int} (hv : xR v) (hdg : decode cc pc = .ok (.ishr, 1)) (kk : ∀ x : Int, (0 ≤ k ∧ k ≤ 24 → x = xsh v k) → xR x → W p l e R s m args below meth c H locs cells slots Q (F0 m (pc + 1) ls (.int (xJ x) :: rest))) : W p l e R s m args below meth c H locs cells slots Q (F0 m pc ls (.int (xJ k) :: .int (xJ v) :: rest)) := by
  refine lv_ishr hx hb hdg ?_
  rw [← xJ_of (xJ v >>> (xJ k &&& 31))]
  exact kk _ (fun hk => by rw [xJ_shr hv hk, xJ_toInt (xsh_R hv)]) (xR_of _)
end XZ
def zpw (n : Int) : Int := (2 : Int) ^ n.toNat
theorem zpw_le {n : Int} (h : 0 ≤ n ∧ n ≤ 10) : 1 ≤ zpw n ∧ zpw n ≤ 1024 := by
  unfold zpw
  rcases (by omega : n = 0 ∨ n = 1 ∨ n = 2 ∨ n = 3 ∨ n = 4 ∨ n = 5 ∨ n = 6 ∨ n = 7 ∨ n = 8 ∨ n = 9 ∨ n = 10) with rfl | rfl | rfl | rfl | rfl | rfl | rfl | rfl | rfl | rfl | rfl <;> decide
def zbad (f : Int → Int) (n lo hi : Int) : Prop := ∃ i, 0 ≤ i ∧ i < n ∧ (f i < lo ∨ hi < f i)
def zsum (f : Int → Int) (set : Int) : Nat → Int
  | 0 => 0
  | k + 1 => zsum f set k + (if xsh set k % 2 = 0 then f k else 0)
theorem zsum_y {f : Int → Int} {set i : Int} (hi : 0 ≤ i) (h : xsh set i % 2 = 0) : zsum f set (i + 1).toNat = zsum f set i.toNat + f i := by
  rw [show (i + 1).toNat = i.toNat + 1 from by omega]
  show zsum f set i.toNat + (if xsh set (i.toNat : Int) % 2 = 0 then f (i.toNat : Int) else 0) = _
  rw [Int.toNat_of_nonneg hi, if_pos h]
theorem zsum_n {f : Int → Int} {set i : Int} (hi : 0 ≤ i) (h : xsh set i % 2 ≠ 0) : zsum f set (i + 1).toNat = zsum f set i.toNat := by
  rw [show (i + 1).toNat = i.toNat + 1 from by omega]
  show zsum f set i.toNat + (if xsh set (i.toNat : Int) % 2 = 0 then f (i.toNat : Int) else 0) = _
  rw [Int.toNat_of_nonneg hi, if_neg h, Int.add_zero]
theorem zsum_0 {f : Int → Int} {set : Int} : zsum f set (0 : Int).toNat = 0 := rfl
theorem zsum_g {f g : Int → Int} {set : Int} : ∀ k : Nat, (∀ i : Int, 0 ≤ i → i < k → f i = g i) → zsum f set k = zsum g set k
  | 0, _ => rfl
  | k + 1, h => by
    show zsum f set k + _ = zsum g set k + _
    rw [zsum_g k (fun i a b => h i a (by omega)), h k (by omega) (by omega)]
def zcm (f : Int → Int) (n w : Int) : Nat → Int
  | 0 => 0
  | k + 1 => if zsum f k n.toNat = w then zcm f n w k + 1 else zcm f n w k
def zcf (f : Int → Int) (n w : Int) : Nat → Int
  | 0 => -2
  | k + 1 => if zsum f k n.toNat = w ∧ zcm f n w k = 0 then k else zcf f n w k
def zca (f : Int → Int) (n w a0 : Int) : Nat → Int
  | 0 => a0
  | k + 1 => if zsum f k n.toNat = w then zand (zca f n w a0 k) k else zca f n w a0 k
section ZC
variable {f g : Int → Int} {n w a0 i : Int}
theorem zcs_y (hi : 0 ≤ i) (h : zsum f i n.toNat = w) : zcm f n w (i + 1).toNat = zcm f n w i.toNat + 1 ∧ (zcm f n w i.toNat = 0 → zcf f n w (i + 1).toNat = i) ∧ (zcm f n w i.toNat ≠ 0 → zcf f n w (i + 1).toNat = zcf f n w i.toNat) ∧ zca f n w a0 (i + 1).toNat = zand (zca f n w a0 i.toNat) i := by
  obtain ⟨k, rfl⟩ : ∃ k : Nat, i = k := ⟨i.toNat, by omega⟩
  rw [show ((k : Int) + 1).toNat = k + 1 from by omega, show ((k : Int)).toNat = k from by omega]
  refine ⟨if_pos h, fun q => if_pos ⟨h, q⟩, fun q => if_neg (fun z => q z.2), if_pos h⟩
theorem zcs_n (hi : 0 ≤ i) (h : zsum f i n.toNat ≠ w) : zcm f n w (i + 1).toNat = zcm f n w i.toNat ∧ zcf f n w (i + 1).toNat = zcf f n w i.toNat ∧ zca f n w a0 (i + 1).toNat = zca f n w a0 i.toNat := by
  obtain ⟨k, rfl⟩ : ∃ k : Nat, i = k := ⟨i.toNat, by omega⟩
  rw [show ((k : Int) + 1).toNat = k + 1 from by omega, show ((k : Int)).toNat = k from by omega]
  exact ⟨if_neg h, if_neg (fun q => h q.1), if_neg h⟩
theorem zcm_le : ∀ k : Nat, 0 ≤ zcm f n w k ∧ zcm f n w k ≤ k
  | 0 => ⟨Int.le_refl _, Int.le_refl _⟩
  | k + 1 => by
    have h := zcm_le k
    show 0 ≤ (if zsum f k n.toNat = w then zcm f n w k + 1 else zcm f n w k) ∧ (if zsum f k n.toNat = w then zcm f n w k + 1 else zcm f n w k) ≤ _
    split <;> omega
theorem zca_s : ∀ k : Nat, k ≤ 1024 → (zcm f n w k = 0 → ∀ a0, zca f n w a0 k = a0) ∧ (zcm f n w k ≠ 0 → zca f n w (-1) k = zca f n w 1023 k)
  | 0, _ => ⟨fun _ _ => rfl, fun h => absurd rfl h⟩
  | k + 1, hk => by
    obtain ⟨h1, h2⟩ := zca_s k (by omega)
    have h0 := (zcm_le (f := f) (n := n) (w := w) k).1
    by_cases h : zsum f k n.toNat = w
    · have e : zcm f n w (k + 1) = zcm f n w k + 1 := if_pos h
      refine ⟨fun q => by omega, fun _ => ?_⟩
      have e1 : zca f n w (-1) (k + 1) = zand (zca f n w (-1) k) k := if_pos h
      have e2 : zca f n w 1023 (k + 1) = zand (zca f n w 1023 k) k := if_pos h
      rw [e1, e2]
      by_cases z : zcm f n w k = 0
      · rw [h1 z, h1 z, zand_m1 (by omega), zand_1023 (by omega)]
      · rw [h2 z]
    · have e : zcm f n w (k + 1) = zcm f n w k := if_neg h
      rw [e]
      refine ⟨fun q a0 => (if_neg h : zca f n w a0 (k + 1) = zca f n w a0 k).trans (h1 q a0), fun q => ?_⟩
      exact (if_neg h : zca f n w (-1) (k + 1) = zca f n w (-1) k).trans ((h2 q).trans (if_neg h : zca f n w 1023 (k + 1) = zca f n w 1023 k).symm)
theorem zcm_g (h : ∀ i : Int, 0 ≤ i → i < n → f i = g i) : ∀ k : Nat, zcm f n w k = zcm g n w k ∧ zcf f n w k = zcf g n w k ∧ zca f n w a0 k = zca g n w a0 k
  | 0 => ⟨rfl, rfl, rfl⟩
  | k + 1 => by
    obtain ⟨h1, h2, h3⟩ := zcm_g h k
    have e : zsum f k n.toNat = zsum g k n.toNat := zsum_g n.toNat (fun i a b => h i a (by omega))
    show (if zsum f k n.toNat = w then zcm f n w k + 1 else zcm f n w k) = (if zsum g k n.toNat = w then zcm g n w k + 1 else zcm g n w k) ∧ (if zsum f k n.toNat = w ∧ zcm f n w k = 0 then (k : Int) else zcf f n w k) = (if zsum g k n.toNat = w ∧ zcm g n w k = 0 then (k : Int) else zcf g n w k) ∧ (if zsum f k n.toNat = w then zand (zca f n w a0 k) k else zca f n w a0 k) = (if zsum g k n.toNat = w then zand (zca g n w a0 k) k else zca g n w a0 k)
    rw [e, h1, h2, h3]
    exact ⟨rfl, rfl, rfl⟩
end ZC
def zans (f : Int → Int) (n w x a0 : Int) : Int := if x = 0 then zcm f n w (zpw n).toNat else if x = 1 ∨ zcm f n w (zpw n).toNat = 0 then zcf f n w (zpw n).toNat else zca f n w a0 (zpw n).toNat
theorem zans_i {f : Int → Int} {n w x a0 i c d e r : Int} (hi : i = zpw n) (hc : c = zcm f n w i.toNat) (hd : d = zcf f n w i.toNat) (he : e = zca f n w a0 i.toNat) (hr : (x = 0 ∧ r = c) ∨ (x ≠ 0 ∧ (x = 1 ∨ c = 0) ∧ r = d) ∨ (x ≠ 0 ∧ x ≠ 1 ∧ c ≠ 0 ∧ r = e)) : r = zans f n w x a0 := by
  unfold zans
  rw [← hi, ← hc, ← hd, ← he]
  rcases hr with ⟨h1, h2⟩ | ⟨h1, h2, h3⟩ | ⟨h1, h2, h3, h4⟩
  · rw [if_pos h1, h2]
  · rw [if_neg h1, if_pos h2, h3]
  · rw [if_neg h1, if_neg (by omega), h4]
def xb8 (f : Int → Int) : Prop := ∀ j, -128 ≤ f j ∧ f j ≤ 127
theorem xb8_ud {f : Int → Int} {i v : Int} (h : xb8 f) (hv : -128 ≤ v ∧ v ≤ 127) : xb8 (xud f i v) := fun j => by
  unfold xud
  split
  · exact hv
  · exact h j
theorem zbad_8 {g : Int → Int} {n : Int} (hb : xb8 g) : zbad (xm8 g) n 1 9 ↔ zbad g n 1 9 := by
  refine ⟨fun ⟨i, a, b, d⟩ => ⟨i, a, b, ?_⟩, fun ⟨i, a, b, d⟩ => ⟨i, a, b, ?_⟩⟩ <;> have := hb i <;> unfold xm8 at * <;> omega
theorem zans_8 {g : Int → Int} {n w x : Int} (hb : xb8 g) (hg : ¬ zbad g n 1 9) (hn : 0 ≤ n ∧ n ≤ 10) : zans (xm8 g) n w x (-1) = zans g n w x 1023 := by
  have h : ∀ i : Int, 0 ≤ i → i < n → xm8 g i = g i := fun i a b => by
    have h1 : ¬ (g i < 1 ∨ 9 < g i) := fun q => hg ⟨i, a, b, q⟩
    unfold xm8
    omega
  have hp := zpw_le hn
  obtain ⟨c1, c2, c3⟩ := zcm_g (w := w) (a0 := -1) h (zpw n).toNat
  obtain ⟨d1, d2⟩ := zca_s (f := g) (n := n) (w := w) (zpw n).toNat (by omega)
  unfold zans
  rw [c1, c2, c3]
  by_cases h0 : x = 0
  · rw [if_pos h0, if_pos h0]
  · rw [if_neg h0, if_neg h0]
    by_cases h1 : x = 1 ∨ zcm g n w (zpw n).toNat = 0
    · rw [if_pos h1, if_pos h1]
    · rw [if_neg h1, if_neg h1]
      exact d2 (fun q => h1 (Or.inr q))
