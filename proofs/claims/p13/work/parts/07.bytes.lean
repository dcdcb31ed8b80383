/-! ===== numbers as bytes on the tape ===== -/
theorem xR_shr {v : Int} (hv : xR v) (n : Nat) : xR (v / ((2 ^ n : Nat) : Int)) := by
  have h2 : 1 ≤ ((2 ^ n : Nat) : Int) := by have := Nat.two_pow_pos n; omega
  obtain ⟨d, hd⟩ : ∃ d : Int, d = ((2 ^ n : Nat) : Int) := ⟨_, rfl⟩
  rw [← hd] at h2 ⊢
  by_cases h0 : 0 ≤ v
  · have h3 := Int.ediv_le_self d h0
    have h4 := Int.ediv_nonneg h0 (by omega : 0 ≤ d)
    omega
  · have h5 : -2147483648 * d ≤ v := by
      have h6 : 2147483648 * d ≥ 2147483648 * 1 := Int.mul_le_mul_of_nonneg_left h2 (by decide)
      omega
    have h3 := (Int.le_ediv_iff_mul_le (by omega : 0 < d)).mpr h5
    have h4 := (Int.ediv_lt_iff_lt_mul (a := v) (b := 1) (by omega : 0 < d)).mpr (by omega)
    omega
theorem xJ_shr' {v : Int} (hv : xR v) {c : Int32} {n : Nat} (hc : (c.toBitVec.smod 32).toNat = n) : xJ v >>> c = xJ (v / ((2 ^ n : Nat) : Int)) := by
  refine Int32.toInt_inj.mp ?_
  rw [xJ_toInt (xR_shr hv n), ← Int.shiftRight_eq_div_pow]
  have h1 : (xJ v >>> c).toInt = ((xJ v).toBitVec.sshiftRight' (c.toBitVec.smod 32)).toInt := rfl
  have h2 : (xJ v).toBitVec.toInt = v := xJ_toInt hv
  rw [h1, BitVec.toInt_sshiftRight', hc, h2]
/-- v's part from bit k on -/
def xsh (v k : Int) : Int := v / ((2 ^ k.toNat : Nat) : Int)
theorem xJ_shr {v k : Int} (hv : xR v) (hk : 0 ≤ k ∧ k ≤ 24) : xJ v >>> (xJ k &&& 31) = xJ (xsh v k) := by
  have h : ((xJ k &&& 31).toBitVec.smod 32).toNat = k.toNat := by
    rcases (by omega : k = 0 ∨ k = 1 ∨ k = 2 ∨ k = 3 ∨ k = 4 ∨ k = 5 ∨ k = 6 ∨ k = 7 ∨ k = 8 ∨ k = 9 ∨ k = 10 ∨ k = 11 ∨ k = 12 ∨ k = 13 ∨ k = 14 ∨ k = 15 ∨ k = 16 ∨ k = 17 ∨ k = 18 ∨ k = 19 ∨ k = 20 ∨ k = 21 ∨ k = 22 ∨ k = 23 ∨ k = 24) with rfl | rfl | rfl | rfl | rfl | rfl | rfl | rfl | rfl | rfl | rfl | rfl | rfl | rfl | rfl | rfl | rfl | rfl | rfl | rfl | rfl | rfl | rfl | rfl | rfl <;> decide
  exact xJ_shr' hv h
theorem xsh_R {v k : Int} (hv : xR v) : xR (xsh v k) := xR_shr hv _
theorem xJ_mask8 {a : Int} (ha : xR a) : xJ a &&& xJ 255 = xJ (a % 256) := by
  refine Int32.toBitVec_inj.mp (BitVec.eq_of_toNat_eq ?_)
  rw [Int32.toBitVec_and, BitVec.toNat_and]
  have h1 : (xJ 255).toBitVec.toNat = 2 ^ 8 - 1 := by decide
  have h2 : (xJ a).toBitVec.toNat = (a % 4294967296).toNat := by
    show (BitVec.ofInt 32 a).toNat = _
    rw [BitVec.toNat_ofInt]
    rfl
  have h3 : (xJ (a % 256)).toBitVec.toNat = (a % 256).toNat := by
    show (BitVec.ofInt 32 (a % 256)).toNat = _
    rw [BitVec.toNat_ofInt]
    omega
  rw [h1, h2, Nat.and_two_pow_sub_one_eq_mod, h3]
  omega
theorem xi2b {v : Int} (hv : xR v) : ∃ y : Int, (xJ v).toInt8.toInt32 = xJ y ∧ xR y ∧ y % 256 = v % 256 ∧ (-128 ≤ y ∧ y ≤ 127) := by
  refine ⟨((xJ v).toInt8.toInt32).toInt, (xJ_of _).symm, xR_of _, ?_, ?_⟩
  · rw [Int8.toInt_toInt32, Int32.toInt_toInt8, xJ_toInt hv]
    exact Int.bmod_emod
  · rw [Int8.toInt_toInt32]
    have h1 := Int8.toInt_lt (xJ v).toInt8
    have h2 := Int8.le_toInt (xJ v).toInt8
    omega
theorem xnbm {v : Int} (hv : xR v) : ∃ y : Int, narrow .byte (.int (xJ v)) = .int (xJ y) ∧ xR y ∧ y % 256 = v % 256 ∧ (-128 ≤ y ∧ y ≤ 127) := by
  obtain ⟨y, h1, h2, h3, h4⟩ := xi2b hv
  exact ⟨y, congrArg Value.int h1, h2, h3, h4⟩
section XB
variable {p : Program} {l : Launch} {e : Env} {R : Room} {s : State} {m : MethodId} {args : Array Value} {below : List Frame} {meth : Method} {c : Code} {H : Heap} {locs : List Loc} {cells slots : Nat} {Q : State → Prop}
variable {cc : ByteArray} {pc : Nat} {ls : Array Slot} {rest st0 : List Value}
theorem x_shr (hx : p.tables.exec = Jvm.exec) (hb : c.code = cc) {v k : Int} (hv : xR v) (hk : 0 ≤ k ∧ k ≤ 24) (hdg : decode cc pc = .ok (.ishr, 1)) (kk : ∀ x : Int, x = xsh v k → xR x → W p l e R s m args below meth c H locs cells slots Q (F0 m (pc + 1) ls (.int (xJ x) :: rest))) : W p l e R s m args below meth c H locs cells slots Q (F0 m pc ls (.int (xJ k) :: .int (xJ v) :: rest)) :=
  lv_ishr hx hb hdg (by rw [xJ_shr hv hk]; exact kk _ rfl (xsh_R hv))
theorem x_and8 (hx : p.tables.exec = Jvm.exec) (hb : c.code = cc) {a : Int} (ha : xR a) (hdg : decode cc pc = .ok (.iand, 1)) (k : W p l e R s m args below meth c H locs cells slots Q (F0 m (pc + 1) ls (.int (xJ (a % 256)) :: rest))) : W p l e R s m args below meth c H locs cells slots Q (F0 m pc ls (.int (xJ 255) :: .int (xJ a) :: rest)) :=
  lv_iand hx hb hdg (by rw [xJ_mask8 ha]; exact k)
theorem x_i2bm (hx : p.tables.exec = Jvm.exec) (hb : c.code = cc) {a : Int} (ha : xR a) (hdg : decode cc pc = .ok (.i2b, 1)) (k : ∀ y : Int, xR y → y % 256 = a % 256 → (-128 ≤ y ∧ y ≤ 127) → W p l e R s m args below meth c H locs cells slots Q (F0 m (pc + 1) ls (.int (xJ y) :: rest))) : W p l e R s m args below meth c H locs cells slots Q (F0 m pc ls (.int (xJ a) :: rest)) := by
  obtain ⟨y, h1, h2, h3, h4⟩ := xi2b ha
  exact lv_i2b hx hb hdg h1 (k y h2 h3 h4)
end XB
def xud (f : Int → Int) (i v : Int) : Int → Int := fun j => if j = i then v else f j
theorem xud_s (f : Int → Int) (i v : Int) : xud f i v i = v := if_pos rfl
theorem xud_o (f : Int → Int) {i j : Int} (v : Int) (h : j ≠ i) : xud f i v j = f j := if_neg h
theorem xU_xud (σ : xS) (k : Nat) (a v : Int) : xU σ k a v k = xud (σ k) a v := funext fun j => xU_i σ k a v j
/-- n bytes of v from place a on -/
def xputn (f : Int → Int) (a v n : Int) : Int → Int := fun j => if a ≤ j ∧ j < a + n then xsh v (24 - 8 * (j - a)) % 256 else f j
theorem xputn_0 (f : Int → Int) (a v : Int) : xputn f a v 0 = f := funext fun j => if_neg (by omega)
theorem xputn_c {f : Int → Int} {a v n m : Int} (h : n = m) : xputn f a v n = xputn f a v m := by rw [h]
theorem xput_step {f f1 : Int → Int} {a v i l w : Int} (h : f1 = xputn f a v (i - a)) (hi : a ≤ i) (hl : l = 24 - 8 * (i - a)) (hw : w = xsh v l % 256) : xud f1 i w = xputn f a v (i - a + 1) := by
  funext j
  unfold xud
  rw [h]
  unfold xputn
  by_cases e : j = i
  · subst e
    rw [if_pos rfl, if_pos (by omega), hw, hl]
  · rw [if_neg e]
    by_cases q : a ≤ j ∧ j < a + (i - a)
    · rw [if_pos q, if_pos (by omega)]
    · rw [if_neg q, if_neg (by omega)]
def xm8 (f : Int → Int) : Int → Int := fun j => f j % 256
theorem xm8_ud (f : Int → Int) (i v : Int) : xm8 (xud f i v) = xud (xm8 f) i (v % 256) := by
  funext j
  unfold xm8 xud
  split <;> rfl
def xfeed (f : Int → Int) (a v1 v2 v3 v4 v5 : Int) : Int → Int := xputn (xputn (xputn (xputn (xputn f a v1 4) (a + 4) v2 4) (a + 4 + 4) v3 4) (a + 4 + 4 + 4) v4 4) (a + 4 + 4 + 4 + 4) v5 4
/-! ===== which minutes were cloudy ===== -/
def zand (a b : Int) : Int := (xJ a &&& xJ b).toInt
theorem xJ_and1 {a : Int} (ha : xR a) : xJ a &&& xJ 1 = xJ (a % 2) := by
  refine Int32.toBitVec_inj.mp (BitVec.eq_of_toNat_eq ?_)
  rw [Int32.toBitVec_and, BitVec.toNat_and]
  have h1 : (xJ 1).toBitVec.toNat = 2 ^ 1 - 1 := by decide
  have h2 : (xJ a).toBitVec.toNat = (a % 4294967296).toNat := by
    show (BitVec.ofInt 32 a).toNat = _
    rw [BitVec.toNat_ofInt]
    rfl
  have h3 : (xJ (a % 2)).toBitVec.toNat = (a % 2).toNat := by
    show (BitVec.ofInt 32 (a % 2)).toNat = _
    rw [BitVec.toNat_ofInt]
    omega
  rw [h1, h2, Nat.and_two_pow_sub_one_eq_mod, h3]
  omega
section XZ
variable {p : Program} {l : Launch} {e : Env} {R : Room} {s : State} {m : MethodId} {args : Array Value} {below : List Frame} {meth : Method} {c : Code} {H : Heap} {locs : List Loc} {cells slots : Nat} {Q : State → Prop}
variable {cc : ByteArray} {pc : Nat} {ls : Array Slot} {rest st0 : List Value}
theorem x_zand (hx : p.tables.exec = Jvm.exec) (hb : c.code = cc) {a b : Int} (hdg : decode cc pc = .ok (.iand, 1)) (kk : ∀ x : Int, x = zand a b → xR x → W p l e R s m args below meth c H locs cells slots Q (F0 m (pc + 1) ls (.int (xJ x) :: rest))) : W p l e R s m args below meth c H locs cells slots Q (F0 m pc ls (.int (xJ b) :: .int (xJ a) :: rest)) :=
  lv_iand hx hb hdg (by rw [← xJ_of (xJ a &&& xJ b)]; exact kk _ rfl (xR_of _))
theorem x_and1 (hx : p.tables.exec = Jvm.exec) (hb : c.code = cc) {a : Int} (ha : xR a) (hdg : decode cc pc = .ok (.iand, 1)) (k : W p l e R s m args below meth c H locs cells slots Q (F0 m (pc + 1) ls (.int (xJ (a % 2)) :: rest))) : W p l e R s m args below meth c H locs cells slots Q (F0 m pc ls (.int (xJ 1) :: .int (xJ a) :: rest)) :=
  lv_iand hx hb hdg (by rw [xJ_and1 ha]; exact k)
theorem x_shrQ (hx : p.tables.exec = Jvm.exec) (hb : c.code = cc) {v k : Int} (hv : xR v) (hdg : decode cc pc = .ok (.ishr, 1)) (kk : ∀ x : Int, (0 ≤ k ∧ k ≤ 24 → x = xsh v k) → xR x → W p l e R s m args below meth c H locs cells slots Q (F0 m (pc + 1) ls (.int (xJ x) :: rest))) : W p l e R s m args below meth c H locs cells slots Q (F0 m pc ls (.int (xJ k) :: .int (xJ v) :: rest)) := by
  refine lv_ishr hx hb hdg ?_
  rw [← xJ_of (xJ v >>> (xJ k &&& 31))]
  exact kk _ (fun hk => by rw [xJ_shr hv hk, xJ_toInt (xsh_R hv)]) (xR_of _)
end XZ
def zpw (n : Int) : Int := (2 : Int) ^ n.toNat
theorem zpw_le {n : Int} (h : 0 ≤ n ∧ n ≤ 10) : 1 ≤ zpw n ∧ zpw n ≤ 1024 := by
  unfold zpw
  rcases (by omega : n = 0 ∨ n = 1 ∨ n = 2 ∨ n = 3 ∨ n = 4 ∨ n = 5 ∨ n = 6 ∨ n = 7 ∨ n = 8 ∨ n = 9 ∨ n = 10) with rfl | rfl | rfl | rfl | rfl | rfl | rfl | rfl | rfl | rfl | rfl <;> decide
def zbad (f : Int → Int) (n lo hi : Int) : Prop := ∃ i, 0 ≤ i ∧ i < n ∧ (f i < lo ∨ hi < f i)
def zsum (f : Int → Int) (set : Int) : Nat → Int
  | 0 => 0
  | k + 1 => zsum f set k + (if xsh set k % 2 = 0 then f k else 0)
theorem zsum_y {f : Int → Int} {set i : Int} (hi : 0 ≤ i) (h : xsh set i % 2 = 0) : zsum f set (i + 1).toNat = zsum f set i.toNat + f i := by
  rw [show (i + 1).toNat = i.toNat + 1 from by omega]
  show zsum f set i.toNat + (if xsh set (i.toNat : Int) % 2 = 0 then f (i.toNat : Int) else 0) = _
  rw [Int.toNat_of_nonneg hi, if_pos h]
theorem zsum_n {f : Int → Int} {set i : Int} (hi : 0 ≤ i) (h : xsh set i % 2 ≠ 0) : zsum f set (i + 1).toNat = zsum f set i.toNat := by
  rw [show (i + 1).toNat = i.toNat + 1 from by omega]
  show zsum f set i.toNat + (if xsh set (i.toNat : Int) % 2 = 0 then f (i.toNat : Int) else 0) = _
  rw [Int.toNat_of_nonneg hi, if_neg h, Int.add_zero]
def zcm (f : Int → Int) (n w : Int) : Nat → Int
  | 0 => 0
  | k + 1 => if zsum f k n.toNat = w then zcm f n w k + 1 else zcm f n w k
def zcf (f : Int → Int) (n w : Int) : Nat → Int
  | 0 => -2
  | k + 1 => if zsum f k n.toNat = w ∧ zcm f n w k = 0 then k else zcf f n w k
def zca (f : Int → Int) (n w a0 : Int) : Nat → Int
  | 0 => a0
  | k + 1 => if zsum f k n.toNat = w then zand (zca f n w a0 k) k else zca f n w a0 k
section ZC
variable {f g : Int → Int} {n w a0 i : Int}
theorem zcs_y (hi : 0 ≤ i) (h : zsum f i n.toNat = w) : zcm f n w (i + 1).toNat = zcm f n w i.toNat + 1 ∧ (zcm f n w i.toNat = 0 → zcf f n w (i + 1).toNat = i) ∧ (zcm f n w i.toNat ≠ 0 → zcf f n w (i + 1).toNat = zcf f n w i.toNat) ∧ zca f n w a0 (i + 1).toNat = zand (zca f n w a0 i.toNat) i := by
  obtain ⟨k, rfl⟩ : ∃ k : Nat, i = k := ⟨i.toNat, by omega⟩
  rw [show ((k : Int) + 1).toNat = k + 1 from by omega, show ((k : Int)).toNat = k from by omega]
  refine ⟨if_pos h, fun q => if_pos ⟨h, q⟩, fun q => if_neg (fun z => q z.2), if_pos h⟩
theorem zcs_n (hi : 0 ≤ i) (h : zsum f i n.toNat ≠ w) : zcm f n w (i + 1).toNat = zcm f n w i.toNat ∧ zcf f n w (i + 1).toNat = zcf f n w i.toNat ∧ zca f n w a0 (i + 1).toNat = zca f n w a0 i.toNat := by
  obtain ⟨k, rfl⟩ : ∃ k : Nat, i = k := ⟨i.toNat, by omega⟩
  rw [show ((k : Int) + 1).toNat = k + 1 from by omega, show ((k : Int)).toNat = k from by omega]
  exact ⟨if_neg h, if_neg (fun q => h q.1), if_neg h⟩
end ZC
def zans (f : Int → Int) (n w x a0 : Int) : Int := if x = 0 then zcm f n w (zpw n).toNat else if x = 1 ∨ zcm f n w (zpw n).toNat = 0 then zcf f n w (zpw n).toNat else zca f n w a0 (zpw n).toNat
theorem zans_i {f : Int → Int} {n w x a0 i c d e r : Int} (hi : i = zpw n) (hc : c = zcm f n w i.toNat) (hd : d = zcf f n w i.toNat) (he : e = zca f n w a0 i.toNat) (hr : (x = 0 ∧ r = c) ∨ (x ≠ 0 ∧ (x = 1 ∨ c = 0) ∧ r = d) ∨ (x ≠ 0 ∧ x ≠ 1 ∧ c ≠ 0 ∧ r = e)) : r = zans f n w x a0 := by
  unfold zans
  rw [← hi, ← hc, ← hd, ← he]
  rcases hr with ⟨h1, h2⟩ | ⟨h1, h2, h3⟩ | ⟨h1, h2, h3, h4⟩
  · rw [if_pos h1, h2]
  · rw [if_neg h1, if_pos h2, h3]
  · rw [if_neg h1, if_neg (by omega), h4]
def xb8 (f : Int → Int) : Prop := ∀ j, -128 ≤ f j ∧ f j ≤ 127
theorem xb8_ud {f : Int → Int} {i v : Int} (h : xb8 f) (hv : -128 ≤ v ∧ v ≤ 127) : xb8 (xud f i v) := fun j => by
  unfold xud
  split
  · exact hv
  · exact h j
theorem xin {ws : List Cond} (ps : List Nat) (h : ws.map some = ps.map (fun i => lw_tbl[i]?)) (hg : ws.all goodWord = true) : ∀ w ∈ ws, w ∈ xTB := fun w hw => by
  have h1 : some w ∈ ps.map (fun i => lw_tbl[i]?) := by rw [← h]; exact List.mem_map.mpr ⟨w, hw, rfl⟩
  obtain ⟨i, -, hi⟩ := List.mem_map.mp h1
  exact List.mem_filter.mpr ⟨List.mem_of_getElem? hi, List.all_eq_true.mp hg w hw⟩
theorem cls_X6 : xCls RX6 TX6 5 6 tyX6 := ⟨xin [231, 233, 235, 237, 239] (by decide +kernel) (by decide +kernel), rfl, tyX6_ok, nmX6⟩
theorem cf_X6_beside : xCF yX6_beside cX6_beside 4 (some .int) 2 := ⟨xq 785 (by decide +kernel) rfl, xq 170 (by decide +kernel) rfl, by decide +kernel⟩
theorem cf_X6_isOpen : xCF yX6_isOpen cX6_isOpen 3 (some .boolean) 1 := ⟨xq 616 (by decide +kernel) rfl, xq 170 (by decide +kernel) rfl, by decide +kernel⟩
theorem cf_X6_isSpot : xCF yX6_isSpot cX6_isSpot 1 (some .boolean) 1 := ⟨xq 832 (by decide +kernel) rfl, xq 170 (by decide +kernel) rfl, by decide +kernel⟩
theorem cf_X6_kindAt : xCF yX6_kindAt cX6_kindAt 2 (some .int) 1 := ⟨xq 620 (by decide +kernel) rfl, xq 170 (by decide +kernel) rfl, by decide +kernel⟩
theorem cf_X6_reckonRow : xCF yX6_reckonRow cX6_reckonRow 9 none 3 := ⟨xq 894 (by decide +kernel) rfl, xq 170 (by decide +kernel) rfl, by decide +kernel⟩
theorem cf_X6_spotAt : xCF yX6_spotAt cX6_spotAt 2 (some .int) 2 := ⟨xq 709 (by decide +kernel) rfl, xq 170 (by decide +kernel) rfl, by decide +kernel⟩
theorem wq9 : Cond.selects yX6_isOpen.cls yX6_isOpen yX6_isOpen ∈ xTB := xq 9 (by decide +kernel) rfl
theorem wq10 : Cond.selects yX6_kindAt.cls yX6_kindAt yX6_kindAt ∈ xTB := xq 10 (by decide +kernel) rfl
theorem wq60 : Cond.selects yX6_reckonRow.cls yX6_reckonRow yX6_reckonRow ∈ xTB := xq 60 (by decide +kernel) rfl
theorem wq226 : Cond.fieldLink "ShadowCourt$Market" (9) "ShadowCourt$Market" "kinds" "[I" ∈ xTB := xq 226 (by decide +kernel) rfl
theorem wq228 : Cond.fieldLink "ShadowCourt$Market" (20) "ShadowCourt$Market" "steps" "[[I" ∈ xTB := xq 228 (by decide +kernel) rfl
theorem wq229 : Cond.fieldLink "ShadowCourt$Market" (23) "ShadowCourt$Market" "isReckoned" "[Z" ∈ xTB := xq 229 (by decide +kernel) rfl
theorem wq230 : Cond.fieldLink "ShadowCourt$Market" (27) "ShadowCourt$Market" "drySteps" "[I" ∈ xTB := xq 230 (by decide +kernel) rfl
theorem wq615 : Cond.instanceMethod yX6_isOpen ∈ xTB := xq 615 (by decide +kernel) rfl
theorem wq617 : Cond.methodLink "ShadowCourt$Market" (36) yX6_kindAt ∈ xTB := xq 617 (by decide +kernel) rfl
theorem wq619 : Cond.instanceMethod yX6_kindAt ∈ xTB := xq 619 (by decide +kernel) rfl
theorem wq707 : Cond.methodLink "ShadowCourt$Market" (40) yX6_spotAt ∈ xTB := xq 707 (by decide +kernel) rfl
theorem wq708 : Cond.static yX6_spotAt ∈ xTB := xq 708 (by decide +kernel) rfl
theorem wq710 : Cond.methodLink "ShadowCourt$Market" (44) yX6_isOpen ∈ xTB := xq 710 (by decide +kernel) rfl
theorem wq784 : Cond.static yX6_beside ∈ xTB := xq 784 (by decide +kernel) rfl
theorem wq831 : Cond.static yX6_isSpot ∈ xTB := xq 831 (by decide +kernel) rfl
theorem wq890 : Cond.methodLink "ShadowCourt$Market" (90) yX6_isSpot ∈ xTB := xq 890 (by decide +kernel) rfl
theorem wq891 : Cond.methodLink "ShadowCourt$Market" (86) yX6_reckonRow ∈ xTB := xq 891 (by decide +kernel) rfl
theorem wq893 : Cond.instanceMethod yX6_reckonRow ∈ xTB := xq 893 (by decide +kernel) rfl
theorem wq895 : Cond.methodLink "ShadowCourt$Market" (93) yX6_beside ∈ xTB := xq 895 (by decide +kernel) rfl
theorem wn786 : Cond.fieldLinkNest "ShadowCourt$Market" (30) "ShadowCourt" "WAY_X" "[I" "ShadowCourt" ∈ xNL := xn 786 (by decide +kernel) rfl
theorem wn788 : Cond.fieldLinkNest "ShadowCourt$Market" (33) "ShadowCourt" "WAY_Y" "[I" "ShadowCourt" ∈ xNL := xn 788 (by decide +kernel) rfl
theorem dX6_beside_0 : decode cX6_beside 0 = .ok (.iload_n 0, 1) := by decide +kernel
theorem dX6_beside_1 : decode cX6_beside 1 = .ok (.ifCond .lt 19, 3) := by decide +kernel
theorem dX6_beside_4 : decode cX6_beside 4 = .ok (.iload_n 0, 1) := by decide +kernel
theorem dX6_beside_5 : decode cX6_beside 5 = .ok (.bipush 100, 2) := by decide +kernel
theorem dX6_beside_7 : decode cX6_beside 7 = .ok (.if_icmp .ge 13, 3) := by decide +kernel
theorem dX6_beside_10 : decode cX6_beside 10 = .ok (.iload_n 1, 1) := by decide +kernel
theorem dX6_beside_11 : decode cX6_beside 11 = .ok (.ifCond .lt 9, 3) := by decide +kernel
theorem dX6_beside_14 : decode cX6_beside 14 = .ok (.iload_n 1, 1) := by decide +kernel
theorem dX6_beside_15 : decode cX6_beside 15 = .ok (.bipush 8, 2) := by decide +kernel
theorem dX6_beside_17 : decode cX6_beside 17 = .ok (.if_icmp .lt 5, 3) := by decide +kernel
theorem dX6_beside_20 : decode cX6_beside 20 = .ok (.iconst (-1), 1) := by decide +kernel
theorem dX6_beside_21 : decode cX6_beside 21 = .ok (.ireturn, 1) := by decide +kernel
theorem dX6_beside_22 : decode cX6_beside 22 = .ok (.iload_n 0, 1) := by decide +kernel
theorem dX6_beside_23 : decode cX6_beside 23 = .ok (.bipush 10, 2) := by decide +kernel
theorem dX6_beside_25 : decode cX6_beside 25 = .ok (.irem, 1) := by decide +kernel
theorem dX6_beside_26 : decode cX6_beside 26 = .ok (.getstatic 30, 3) := by decide +kernel
theorem dX6_beside_29 : decode cX6_beside 29 = .ok (.iload_n 1, 1) := by decide +kernel
theorem dX6_beside_30 : decode cX6_beside 30 = .ok (.iaload, 1) := by decide +kernel
theorem dX6_beside_31 : decode cX6_beside 31 = .ok (.iadd, 1) := by decide +kernel
theorem dX6_beside_32 : decode cX6_beside 32 = .ok (.istore_n 2, 1) := by decide +kernel
theorem dX6_beside_33 : decode cX6_beside 33 = .ok (.iload_n 0, 1) := by decide +kernel
theorem dX6_beside_34 : decode cX6_beside 34 = .ok (.bipush 10, 2) := by decide +kernel
theorem dX6_beside_36 : decode cX6_beside 36 = .ok (.idiv, 1) := by decide +kernel
theorem dX6_beside_37 : decode cX6_beside 37 = .ok (.getstatic 33, 3) := by decide +kernel
theorem dX6_beside_40 : decode cX6_beside 40 = .ok (.iload_n 1, 1) := by decide +kernel
theorem dX6_beside_41 : decode cX6_beside 41 = .ok (.iaload, 1) := by decide +kernel
theorem dX6_beside_42 : decode cX6_beside 42 = .ok (.iadd, 1) := by decide +kernel
theorem dX6_beside_43 : decode cX6_beside 43 = .ok (.istore_n 3, 1) := by decide +kernel
theorem dX6_beside_44 : decode cX6_beside 44 = .ok (.iload_n 2, 1) := by decide +kernel
theorem dX6_beside_45 : decode cX6_beside 45 = .ok (.ifCond .lt 28, 3) := by decide +kernel
theorem dX6_beside_48 : decode cX6_beside 48 = .ok (.iload_n 2, 1) := by decide +kernel
theorem dX6_beside_49 : decode cX6_beside 49 = .ok (.bipush 10, 2) := by decide +kernel
theorem dX6_beside_51 : decode cX6_beside 51 = .ok (.if_icmp .ge 22, 3) := by decide +kernel
theorem dX6_beside_54 : decode cX6_beside 54 = .ok (.iload_n 3, 1) := by decide +kernel
theorem dX6_beside_55 : decode cX6_beside 55 = .ok (.ifCond .lt 18, 3) := by decide +kernel
theorem dX6_beside_58 : decode cX6_beside 58 = .ok (.iload_n 3, 1) := by decide +kernel
theorem dX6_beside_59 : decode cX6_beside 59 = .ok (.bipush 10, 2) := by decide +kernel
theorem dX6_beside_61 : decode cX6_beside 61 = .ok (.if_icmp .ge 12, 3) := by decide +kernel
theorem dX6_beside_64 : decode cX6_beside 64 = .ok (.bipush 10, 2) := by decide +kernel
theorem dX6_beside_66 : decode cX6_beside 66 = .ok (.iload_n 3, 1) := by decide +kernel
theorem dX6_beside_67 : decode cX6_beside 67 = .ok (.imul, 1) := by decide +kernel
theorem dX6_beside_68 : decode cX6_beside 68 = .ok (.iload_n 2, 1) := by decide +kernel
theorem dX6_beside_69 : decode cX6_beside 69 = .ok (.iadd, 1) := by decide +kernel
theorem dX6_beside_70 : decode cX6_beside 70 = .ok (.goto 4, 3) := by decide +kernel
theorem dX6_beside_73 : decode cX6_beside 73 = .ok (.iconst (-1), 1) := by decide +kernel
theorem dX6_beside_74 : decode cX6_beside 74 = .ok (.ireturn, 1) := by decide +kernel
theorem dX6_howMany_0 : decode cX6_howMany 0 = .ok (.iconst 0, 1) := by decide +kernel
theorem dX6_howMany_1 : decode cX6_howMany 1 = .ok (.istore_n 2, 1) := by decide +kernel
theorem dX6_howMany_2 : decode cX6_howMany 2 = .ok (.iconst 0, 1) := by decide +kernel
theorem dX6_howMany_3 : decode cX6_howMany 3 = .ok (.istore_n 3, 1) := by decide +kernel
theorem dX6_howMany_4 : decode cX6_howMany 4 = .ok (.iload_n 3, 1) := by decide +kernel
theorem dX6_howMany_5 : decode cX6_howMany 5 = .ok (.bipush 100, 2) := by decide +kernel
theorem dX6_howMany_7 : decode cX6_howMany 7 = .ok (.if_icmp .ge 22, 3) := by decide +kernel
theorem dX6_howMany_10 : decode cX6_howMany 10 = .ok (.aload_n 0, 1) := by decide +kernel
theorem dX6_howMany_11 : decode cX6_howMany 11 = .ok (.getfield 9, 3) := by decide +kernel
theorem dX6_howMany_14 : decode cX6_howMany 14 = .ok (.iload_n 3, 1) := by decide +kernel
theorem dX6_howMany_15 : decode cX6_howMany 15 = .ok (.iaload, 1) := by decide +kernel
theorem dX6_howMany_16 : decode cX6_howMany 16 = .ok (.iload_n 1, 1) := by decide +kernel
theorem dX6_howMany_17 : decode cX6_howMany 17 = .ok (.if_icmp .ne 6, 3) := by decide +kernel
theorem dX6_howMany_20 : decode cX6_howMany 20 = .ok (.iinc 2 1, 3) := by decide +kernel
theorem dX6_howMany_23 : decode cX6_howMany 23 = .ok (.iinc 3 1, 3) := by decide +kernel
theorem dX6_howMany_26 : decode cX6_howMany 26 = .ok (.goto (-22), 3) := by decide +kernel
theorem dX6_howMany_29 : decode cX6_howMany 29 = .ok (.iload_n 2, 1) := by decide +kernel
theorem dX6_howMany_30 : decode cX6_howMany 30 = .ok (.ireturn, 1) := by decide +kernel
theorem dX6_isDryWalk_0 : decode cX6_isDryWalk 0 = .ok (.aload_n 0, 1) := by decide +kernel
theorem dX6_isDryWalk_1 : decode cX6_isDryWalk 1 = .ok (.aload_n 0, 1) := by decide +kernel
theorem dX6_isDryWalk_2 : decode cX6_isDryWalk 2 = .ok (.getfield 27, 3) := by decide +kernel
theorem dX6_isDryWalk_5 : decode cX6_isDryWalk 5 = .ok (.iload_n 1, 1) := by decide +kernel
theorem dX6_isDryWalk_6 : decode cX6_isDryWalk 6 = .ok (.iconst 1, 1) := by decide +kernel
theorem dX6_isDryWalk_7 : decode cX6_isDryWalk 7 = .ok (.invokevirtual 86, 3) := by decide +kernel
theorem dX6_isDryWalk_10 : decode cX6_isDryWalk 10 = .ok (.iload_n 2, 1) := by decide +kernel
theorem dX6_isDryWalk_11 : decode cX6_isDryWalk 11 = .ok (.invokestatic 90, 3) := by decide +kernel
theorem dX6_isDryWalk_14 : decode cX6_isDryWalk 14 = .ok (.ifCond .eq 18, 3) := by decide +kernel
theorem dX6_isDryWalk_17 : decode cX6_isDryWalk 17 = .ok (.aload_n 0, 1) := by decide +kernel
theorem dX6_isDryWalk_18 : decode cX6_isDryWalk 18 = .ok (.getfield 27, 3) := by decide +kernel
theorem dX6_isDryWalk_21 : decode cX6_isDryWalk 21 = .ok (.iload_n 2, 1) := by decide +kernel
theorem dX6_isDryWalk_22 : decode cX6_isDryWalk 22 = .ok (.iaload, 1) := by decide +kernel
theorem dX6_isDryWalk_23 : decode cX6_isDryWalk 23 = .ok (.bipush 9, 2) := by decide +kernel
theorem dX6_isDryWalk_25 : decode cX6_isDryWalk 25 = .ok (.if_icmp .ge 7, 3) := by decide +kernel
theorem dX6_isDryWalk_28 : decode cX6_isDryWalk 28 = .ok (.iconst 1, 1) := by decide +kernel
theorem dX6_isDryWalk_29 : decode cX6_isDryWalk 29 = .ok (.goto 4, 3) := by decide +kernel
theorem dX6_isDryWalk_32 : decode cX6_isDryWalk 32 = .ok (.iconst 0, 1) := by decide +kernel
theorem dX6_isDryWalk_33 : decode cX6_isDryWalk 33 = .ok (.ireturn, 1) := by decide +kernel
theorem dX6_isOpen_0 : decode cX6_isOpen 0 = .ok (.aload_n 0, 1) := by decide +kernel
theorem dX6_isOpen_1 : decode cX6_isOpen 1 = .ok (.iload_n 1, 1) := by decide +kernel
theorem dX6_isOpen_2 : decode cX6_isOpen 2 = .ok (.invokevirtual 36, 3) := by decide +kernel
theorem dX6_isOpen_5 : decode cX6_isOpen 5 = .ok (.istore_n 2, 1) := by decide +kernel
theorem dX6_isOpen_6 : decode cX6_isOpen 6 = .ok (.iload_n 2, 1) := by decide +kernel
theorem dX6_isOpen_7 : decode cX6_isOpen 7 = .ok (.iconst 1, 1) := by decide +kernel
theorem dX6_isOpen_8 : decode cX6_isOpen 8 = .ok (.if_icmp .eq 12, 3) := by decide +kernel
theorem dX6_isOpen_11 : decode cX6_isOpen 11 = .ok (.iload_n 2, 1) := by decide +kernel
theorem dX6_isOpen_12 : decode cX6_isOpen 12 = .ok (.iconst 3, 1) := by decide +kernel
theorem dX6_isOpen_13 : decode cX6_isOpen 13 = .ok (.if_icmp .eq 7, 3) := by decide +kernel
theorem dX6_isOpen_16 : decode cX6_isOpen 16 = .ok (.iconst 1, 1) := by decide +kernel
theorem dX6_isOpen_17 : decode cX6_isOpen 17 = .ok (.goto 4, 3) := by decide +kernel
theorem dX6_isOpen_20 : decode cX6_isOpen 20 = .ok (.iconst 0, 1) := by decide +kernel
theorem dX6_isOpen_21 : decode cX6_isOpen 21 = .ok (.ireturn, 1) := by decide +kernel
theorem dX6_isSpot_0 : decode cX6_isSpot 0 = .ok (.iload_n 0, 1) := by decide +kernel
theorem dX6_isSpot_1 : decode cX6_isSpot 1 = .ok (.ifCond .lt 13, 3) := by decide +kernel
theorem dX6_isSpot_4 : decode cX6_isSpot 4 = .ok (.iload_n 0, 1) := by decide +kernel
theorem dX6_isSpot_5 : decode cX6_isSpot 5 = .ok (.bipush 100, 2) := by decide +kernel
theorem dX6_isSpot_7 : decode cX6_isSpot 7 = .ok (.if_icmp .ge 7, 3) := by decide +kernel
theorem dX6_isSpot_10 : decode cX6_isSpot 10 = .ok (.iconst 1, 1) := by decide +kernel
theorem dX6_isSpot_11 : decode cX6_isSpot 11 = .ok (.goto 4, 3) := by decide +kernel
theorem dX6_isSpot_14 : decode cX6_isSpot 14 = .ok (.iconst 0, 1) := by decide +kernel
theorem dX6_isSpot_15 : decode cX6_isSpot 15 = .ok (.ireturn, 1) := by decide +kernel
theorem dX6_kindAt_0 : decode cX6_kindAt 0 = .ok (.iload_n 1, 1) := by decide +kernel
theorem dX6_kindAt_1 : decode cX6_kindAt 1 = .ok (.ifCond .lt 18, 3) := by decide +kernel
theorem dX6_kindAt_4 : decode cX6_kindAt 4 = .ok (.iload_n 1, 1) := by decide +kernel
theorem dX6_kindAt_5 : decode cX6_kindAt 5 = .ok (.bipush 100, 2) := by decide +kernel
theorem dX6_kindAt_7 : decode cX6_kindAt 7 = .ok (.if_icmp .ge 12, 3) := by decide +kernel
theorem dX6_kindAt_10 : decode cX6_kindAt 10 = .ok (.aload_n 0, 1) := by decide +kernel
theorem dX6_kindAt_11 : decode cX6_kindAt 11 = .ok (.getfield 9, 3) := by decide +kernel
theorem dX6_kindAt_14 : decode cX6_kindAt 14 = .ok (.iload_n 1, 1) := by decide +kernel
theorem dX6_kindAt_15 : decode cX6_kindAt 15 = .ok (.iaload, 1) := by decide +kernel
theorem dX6_kindAt_16 : decode cX6_kindAt 16 = .ok (.goto 4, 3) := by decide +kernel
theorem dX6_kindAt_19 : decode cX6_kindAt 19 = .ok (.iconst 1, 1) := by decide +kernel
theorem dX6_kindAt_20 : decode cX6_kindAt 20 = .ok (.ireturn, 1) := by decide +kernel
theorem dX6_kindOf_0 : decode cX6_kindOf 0 = .ok (.iload_n 0, 1) := by decide +kernel
theorem dX6_kindOf_1 : decode cX6_kindOf 1 = .ok (.lookupswitch 51 #[(35, 45), (46, 43), (114, 49), (115, 47)], 43) := by decide +kernel
theorem dX6_kindOf_44 : decode cX6_kindOf 44 = .ok (.iconst 0, 1) := by decide +kernel
theorem dX6_kindOf_45 : decode cX6_kindOf 45 = .ok (.ireturn, 1) := by decide +kernel
theorem dX6_kindOf_46 : decode cX6_kindOf 46 = .ok (.iconst 1, 1) := by decide +kernel
theorem dX6_kindOf_47 : decode cX6_kindOf 47 = .ok (.ireturn, 1) := by decide +kernel
theorem dX6_kindOf_48 : decode cX6_kindOf 48 = .ok (.iconst 2, 1) := by decide +kernel
theorem dX6_kindOf_49 : decode cX6_kindOf 49 = .ok (.ireturn, 1) := by decide +kernel
theorem dX6_kindOf_50 : decode cX6_kindOf 50 = .ok (.iconst 3, 1) := by decide +kernel
theorem dX6_kindOf_51 : decode cX6_kindOf 51 = .ok (.ireturn, 1) := by decide +kernel
theorem dX6_kindOf_52 : decode cX6_kindOf 52 = .ok (.iconst (-1), 1) := by decide +kernel
theorem dX6_kindOf_53 : decode cX6_kindOf 53 = .ok (.ireturn, 1) := by decide +kernel
theorem dX6_openSpot_0 : decode cX6_openSpot 0 = .ok (.iload_n 1, 1) := by decide +kernel
theorem dX6_openSpot_1 : decode cX6_openSpot 1 = .ok (.iload_n 2, 1) := by decide +kernel
theorem dX6_openSpot_2 : decode cX6_openSpot 2 = .ok (.invokestatic 40, 3) := by decide +kernel
theorem dX6_openSpot_5 : decode cX6_openSpot 5 = .ok (.istore_n 3, 1) := by decide +kernel
theorem dX6_openSpot_6 : decode cX6_openSpot 6 = .ok (.aload_n 0, 1) := by decide +kernel
theorem dX6_openSpot_7 : decode cX6_openSpot 7 = .ok (.iload_n 3, 1) := by decide +kernel
theorem dX6_openSpot_8 : decode cX6_openSpot 8 = .ok (.invokevirtual 44, 3) := by decide +kernel
theorem dX6_openSpot_11 : decode cX6_openSpot 11 = .ok (.ifCond .eq 7, 3) := by decide +kernel
theorem dX6_openSpot_14 : decode cX6_openSpot 14 = .ok (.iload_n 3, 1) := by decide +kernel
theorem dX6_openSpot_15 : decode cX6_openSpot 15 = .ok (.goto 4, 3) := by decide +kernel
theorem dX6_openSpot_18 : decode cX6_openSpot 18 = .ok (.iconst (-1), 1) := by decide +kernel
theorem dX6_openSpot_19 : decode cX6_openSpot 19 = .ok (.ireturn, 1) := by decide +kernel
theorem dX6_reckonRow_0 : decode cX6_reckonRow 0 = .ok (.iconst 0, 1) := by decide +kernel
theorem dX6_reckonRow_1 : decode cX6_reckonRow 1 = .ok (.istore 4, 2) := by decide +kernel
theorem dX6_reckonRow_3 : decode cX6_reckonRow 3 = .ok (.iload 4, 2) := by decide +kernel
theorem dX6_reckonRow_5 : decode cX6_reckonRow 5 = .ok (.aload_n 1, 1) := by decide +kernel
theorem dX6_reckonRow_6 : decode cX6_reckonRow 6 = .ok (.arraylength, 1) := by decide +kernel
theorem dX6_reckonRow_7 : decode cX6_reckonRow 7 = .ok (.if_icmp .ge 25, 3) := by decide +kernel
theorem dX6_reckonRow_10 : decode cX6_reckonRow 10 = .ok (.aload_n 1, 1) := by decide +kernel
theorem dX6_reckonRow_11 : decode cX6_reckonRow 11 = .ok (.iload 4, 2) := by decide +kernel
theorem dX6_reckonRow_13 : decode cX6_reckonRow 13 = .ok (.iload 4, 2) := by decide +kernel
theorem dX6_reckonRow_15 : decode cX6_reckonRow 15 = .ok (.iload_n 2, 1) := by decide +kernel
theorem dX6_reckonRow_16 : decode cX6_reckonRow 16 = .ok (.if_icmp .ne 7, 3) := by decide +kernel
theorem dX6_reckonRow_19 : decode cX6_reckonRow 19 = .ok (.iconst 0, 1) := by decide +kernel
theorem dX6_reckonRow_20 : decode cX6_reckonRow 20 = .ok (.goto 5, 3) := by decide +kernel
theorem dX6_reckonRow_23 : decode cX6_reckonRow 23 = .ok (.bipush 9, 2) := by decide +kernel
theorem dX6_reckonRow_25 : decode cX6_reckonRow 25 = .ok (.iastore, 1) := by decide +kernel
theorem dX6_reckonRow_26 : decode cX6_reckonRow 26 = .ok (.iinc 4 1, 3) := by decide +kernel
theorem dX6_reckonRow_29 : decode cX6_reckonRow 29 = .ok (.goto (-26), 3) := by decide +kernel
theorem dX6_reckonRow_32 : decode cX6_reckonRow 32 = .ok (.iconst 0, 1) := by decide +kernel
theorem dX6_reckonRow_33 : decode cX6_reckonRow 33 = .ok (.istore 4, 2) := by decide +kernel
theorem dX6_reckonRow_35 : decode cX6_reckonRow 35 = .ok (.iload 4, 2) := by decide +kernel
theorem dX6_reckonRow_37 : decode cX6_reckonRow 37 = .ok (.iconst 3, 1) := by decide +kernel
theorem dX6_reckonRow_38 : decode cX6_reckonRow 38 = .ok (.if_icmp .ge 115, 3) := by decide +kernel
theorem dX6_reckonRow_41 : decode cX6_reckonRow 41 = .ok (.iconst 0, 1) := by decide +kernel
theorem dX6_reckonRow_42 : decode cX6_reckonRow 42 = .ok (.istore 5, 2) := by decide +kernel
theorem dX6_reckonRow_44 : decode cX6_reckonRow 44 = .ok (.iload 5, 2) := by decide +kernel
theorem dX6_reckonRow_46 : decode cX6_reckonRow 46 = .ok (.iconst 4, 1) := by decide +kernel
theorem dX6_reckonRow_47 : decode cX6_reckonRow 47 = .ok (.aload_n 1, 1) := by decide +kernel
theorem dX6_reckonRow_48 : decode cX6_reckonRow 48 = .ok (.arraylength, 1) := by decide +kernel
theorem dX6_reckonRow_49 : decode cX6_reckonRow 49 = .ok (.imul, 1) := by decide +kernel
theorem dX6_reckonRow_50 : decode cX6_reckonRow 50 = .ok (.if_icmp .ge 97, 3) := by decide +kernel
theorem dX6_reckonRow_53 : decode cX6_reckonRow 53 = .ok (.iload 5, 2) := by decide +kernel
theorem dX6_reckonRow_55 : decode cX6_reckonRow 55 = .ok (.iconst 4, 1) := by decide +kernel
theorem dX6_reckonRow_56 : decode cX6_reckonRow 56 = .ok (.idiv, 1) := by decide +kernel
theorem dX6_reckonRow_57 : decode cX6_reckonRow 57 = .ok (.istore 6, 2) := by decide +kernel
theorem dX6_reckonRow_59 : decode cX6_reckonRow 59 = .ok (.aload_n 1, 1) := by decide +kernel
theorem dX6_reckonRow_60 : decode cX6_reckonRow 60 = .ok (.iload 6, 2) := by decide +kernel
theorem dX6_reckonRow_62 : decode cX6_reckonRow 62 = .ok (.iaload, 1) := by decide +kernel
theorem dX6_reckonRow_63 : decode cX6_reckonRow 63 = .ok (.iload 4, 2) := by decide +kernel
theorem dX6_reckonRow_65 : decode cX6_reckonRow 65 = .ok (.if_icmp .ne 17, 3) := by decide +kernel
theorem dX6_reckonRow_68 : decode cX6_reckonRow 68 = .ok (.iload 6, 2) := by decide +kernel
theorem dX6_reckonRow_70 : decode cX6_reckonRow 70 = .ok (.iconst 2, 1) := by decide +kernel
theorem dX6_reckonRow_71 : decode cX6_reckonRow 71 = .ok (.iload 5, 2) := by decide +kernel
theorem dX6_reckonRow_73 : decode cX6_reckonRow 73 = .ok (.iconst 4, 1) := by decide +kernel
theorem dX6_reckonRow_74 : decode cX6_reckonRow 74 = .ok (.irem, 1) := by decide +kernel
theorem dX6_reckonRow_75 : decode cX6_reckonRow 75 = .ok (.imul, 1) := by decide +kernel
theorem dX6_reckonRow_76 : decode cX6_reckonRow 76 = .ok (.invokestatic 93, 3) := by decide +kernel
theorem dX6_reckonRow_79 : decode cX6_reckonRow 79 = .ok (.goto 4, 3) := by decide +kernel
theorem dX6_reckonRow_82 : decode cX6_reckonRow 82 = .ok (.iconst (-1), 1) := by decide +kernel
theorem dX6_reckonRow_83 : decode cX6_reckonRow 83 = .ok (.istore 7, 2) := by decide +kernel
theorem dX6_reckonRow_85 : decode cX6_reckonRow 85 = .ok (.iload 7, 2) := by decide +kernel
theorem dX6_reckonRow_87 : decode cX6_reckonRow 87 = .ok (.ifCond .lt 54, 3) := by decide +kernel
theorem dX6_reckonRow_90 : decode cX6_reckonRow 90 = .ok (.iload 7, 2) := by decide +kernel
theorem dX6_reckonRow_92 : decode cX6_reckonRow 92 = .ok (.aload_n 1, 1) := by decide +kernel
theorem dX6_reckonRow_93 : decode cX6_reckonRow 93 = .ok (.arraylength, 1) := by decide +kernel
theorem dX6_reckonRow_94 : decode cX6_reckonRow 94 = .ok (.if_icmp .ge 47, 3) := by decide +kernel
theorem dX6_reckonRow_97 : decode cX6_reckonRow 97 = .ok (.aload_n 1, 1) := by decide +kernel
theorem dX6_reckonRow_98 : decode cX6_reckonRow 98 = .ok (.iload 7, 2) := by decide +kernel
theorem dX6_reckonRow_100 : decode cX6_reckonRow 100 = .ok (.iaload, 1) := by decide +kernel
theorem dX6_reckonRow_101 : decode cX6_reckonRow 101 = .ok (.bipush 9, 2) := by decide +kernel
theorem dX6_reckonRow_103 : decode cX6_reckonRow 103 = .ok (.if_icmp .eq 6, 3) := by decide +kernel
theorem dX6_reckonRow_106 : decode cX6_reckonRow 106 = .ok (.goto 35, 3) := by decide +kernel
theorem dX6_reckonRow_109 : decode cX6_reckonRow 109 = .ok (.aload_n 0, 1) := by decide +kernel
theorem dX6_reckonRow_110 : decode cX6_reckonRow 110 = .ok (.iload 7, 2) := by decide +kernel
theorem dX6_reckonRow_112 : decode cX6_reckonRow 112 = .ok (.invokevirtual 36, 3) := by decide +kernel
theorem dX6_reckonRow_115 : decode cX6_reckonRow 115 = .ok (.istore 8, 2) := by decide +kernel
theorem dX6_reckonRow_117 : decode cX6_reckonRow 117 = .ok (.iload 8, 2) := by decide +kernel
theorem dX6_reckonRow_119 : decode cX6_reckonRow 119 = .ok (.iconst 1, 1) := by decide +kernel
theorem dX6_reckonRow_120 : decode cX6_reckonRow 120 = .ok (.if_icmp .eq 21, 3) := by decide +kernel
theorem dX6_reckonRow_123 : decode cX6_reckonRow 123 = .ok (.iload_n 3, 1) := by decide +kernel
theorem dX6_reckonRow_124 : decode cX6_reckonRow 124 = .ok (.ifCond .eq 9, 3) := by decide +kernel
theorem dX6_reckonRow_127 : decode cX6_reckonRow 127 = .ok (.iload 8, 2) := by decide +kernel
theorem dX6_reckonRow_129 : decode cX6_reckonRow 129 = .ok (.iconst 3, 1) := by decide +kernel
theorem dX6_reckonRow_130 : decode cX6_reckonRow 130 = .ok (.if_icmp .eq 11, 3) := by decide +kernel
theorem dX6_reckonRow_133 : decode cX6_reckonRow 133 = .ok (.aload_n 1, 1) := by decide +kernel
theorem dX6_reckonRow_134 : decode cX6_reckonRow 134 = .ok (.iload 7, 2) := by decide +kernel
theorem dX6_reckonRow_136 : decode cX6_reckonRow 136 = .ok (.iload 4, 2) := by decide +kernel
theorem dX6_reckonRow_138 : decode cX6_reckonRow 138 = .ok (.iconst 1, 1) := by decide +kernel
theorem dX6_reckonRow_139 : decode cX6_reckonRow 139 = .ok (.iadd, 1) := by decide +kernel
theorem dX6_reckonRow_140 : decode cX6_reckonRow 140 = .ok (.iastore, 1) := by decide +kernel
theorem dX6_reckonRow_141 : decode cX6_reckonRow 141 = .ok (.iinc 5 1, 3) := by decide +kernel
theorem dX6_reckonRow_144 : decode cX6_reckonRow 144 = .ok (.goto (-100), 3) := by decide +kernel
theorem dX6_reckonRow_147 : decode cX6_reckonRow 147 = .ok (.iinc 4 1, 3) := by decide +kernel
theorem dX6_reckonRow_150 : decode cX6_reckonRow 150 = .ok (.goto (-115), 3) := by decide +kernel
theorem dX6_reckonRow_153 : decode cX6_reckonRow 153 = .ok (.return_, 1) := by decide +kernel
theorem dX6_spotAt_0 : decode cX6_spotAt 0 = .ok (.iload_n 0, 1) := by decide +kernel
theorem dX6_spotAt_1 : decode cX6_spotAt 1 = .ok (.ifCond .lt 28, 3) := by decide +kernel
theorem dX6_spotAt_4 : decode cX6_spotAt 4 = .ok (.iload_n 0, 1) := by decide +kernel
theorem dX6_spotAt_5 : decode cX6_spotAt 5 = .ok (.bipush 10, 2) := by decide +kernel
theorem dX6_spotAt_7 : decode cX6_spotAt 7 = .ok (.if_icmp .ge 22, 3) := by decide +kernel
theorem dX6_spotAt_10 : decode cX6_spotAt 10 = .ok (.iload_n 1, 1) := by decide +kernel
theorem dX6_spotAt_11 : decode cX6_spotAt 11 = .ok (.ifCond .lt 18, 3) := by decide +kernel
theorem dX6_spotAt_14 : decode cX6_spotAt 14 = .ok (.iload_n 1, 1) := by decide +kernel
theorem dX6_spotAt_15 : decode cX6_spotAt 15 = .ok (.bipush 10, 2) := by decide +kernel
theorem dX6_spotAt_17 : decode cX6_spotAt 17 = .ok (.if_icmp .ge 12, 3) := by decide +kernel
theorem dX6_spotAt_20 : decode cX6_spotAt 20 = .ok (.bipush 10, 2) := by decide +kernel
theorem dX6_spotAt_22 : decode cX6_spotAt 22 = .ok (.iload_n 1, 1) := by decide +kernel
theorem dX6_spotAt_23 : decode cX6_spotAt 23 = .ok (.imul, 1) := by decide +kernel
theorem dX6_spotAt_24 : decode cX6_spotAt 24 = .ok (.iload_n 0, 1) := by decide +kernel
theorem dX6_spotAt_25 : decode cX6_spotAt 25 = .ok (.iadd, 1) := by decide +kernel
theorem dX6_spotAt_26 : decode cX6_spotAt 26 = .ok (.goto 4, 3) := by decide +kernel
theorem dX6_spotAt_29 : decode cX6_spotAt 29 = .ok (.iconst (-1), 1) := by decide +kernel
theorem dX6_spotAt_30 : decode cX6_spotAt 30 = .ok (.ireturn, 1) := by decide +kernel
theorem dX6_stepsBetween_0 : decode cX6_stepsBetween 0 = .ok (.iload_n 1, 1) := by decide +kernel
theorem dX6_stepsBetween_1 : decode cX6_stepsBetween 1 = .ok (.invokestatic 90, 3) := by decide +kernel
theorem dX6_stepsBetween_4 : decode cX6_stepsBetween 4 = .ok (.ifCond .eq 10, 3) := by decide +kernel
theorem dX6_stepsBetween_7 : decode cX6_stepsBetween 7 = .ok (.iload_n 2, 1) := by decide +kernel
theorem dX6_stepsBetween_8 : decode cX6_stepsBetween 8 = .ok (.invokestatic 90, 3) := by decide +kernel
theorem dX6_stepsBetween_11 : decode cX6_stepsBetween 11 = .ok (.ifCond .ne 6, 3) := by decide +kernel
theorem dX6_stepsBetween_14 : decode cX6_stepsBetween 14 = .ok (.bipush 9, 2) := by decide +kernel
theorem dX6_stepsBetween_16 : decode cX6_stepsBetween 16 = .ok (.ireturn, 1) := by decide +kernel
theorem dX6_stepsBetween_17 : decode cX6_stepsBetween 17 = .ok (.aload_n 0, 1) := by decide +kernel
theorem dX6_stepsBetween_18 : decode cX6_stepsBetween 18 = .ok (.getfield 23, 3) := by decide +kernel
theorem dX6_stepsBetween_21 : decode cX6_stepsBetween 21 = .ok (.iload_n 1, 1) := by decide +kernel
theorem dX6_stepsBetween_22 : decode cX6_stepsBetween 22 = .ok (.baload, 1) := by decide +kernel
theorem dX6_stepsBetween_23 : decode cX6_stepsBetween 23 = .ok (.ifCond .ne 22, 3) := by decide +kernel
theorem dX6_stepsBetween_26 : decode cX6_stepsBetween 26 = .ok (.aload_n 0, 1) := by decide +kernel
theorem dX6_stepsBetween_27 : decode cX6_stepsBetween 27 = .ok (.aload_n 0, 1) := by decide +kernel
theorem dX6_stepsBetween_28 : decode cX6_stepsBetween 28 = .ok (.getfield 20, 3) := by decide +kernel
theorem dX6_stepsBetween_31 : decode cX6_stepsBetween 31 = .ok (.iload_n 1, 1) := by decide +kernel
theorem dX6_stepsBetween_32 : decode cX6_stepsBetween 32 = .ok (.aaload, 1) := by decide +kernel
theorem dX6_stepsBetween_33 : decode cX6_stepsBetween 33 = .ok (.iload_n 1, 1) := by decide +kernel
theorem dX6_stepsBetween_34 : decode cX6_stepsBetween 34 = .ok (.iconst 0, 1) := by decide +kernel
theorem dX6_stepsBetween_35 : decode cX6_stepsBetween 35 = .ok (.invokevirtual 86, 3) := by decide +kernel
theorem dX6_stepsBetween_38 : decode cX6_stepsBetween 38 = .ok (.aload_n 0, 1) := by decide +kernel
theorem dX6_stepsBetween_39 : decode cX6_stepsBetween 39 = .ok (.getfield 23, 3) := by decide +kernel
theorem dX6_stepsBetween_42 : decode cX6_stepsBetween 42 = .ok (.iload_n 1, 1) := by decide +kernel
theorem dX6_stepsBetween_43 : decode cX6_stepsBetween 43 = .ok (.iconst 1, 1) := by decide +kernel
theorem dX6_stepsBetween_44 : decode cX6_stepsBetween 44 = .ok (.bastore, 1) := by decide +kernel
theorem dX6_stepsBetween_45 : decode cX6_stepsBetween 45 = .ok (.aload_n 0, 1) := by decide +kernel
theorem dX6_stepsBetween_46 : decode cX6_stepsBetween 46 = .ok (.getfield 20, 3) := by decide +kernel
theorem dX6_stepsBetween_49 : decode cX6_stepsBetween 49 = .ok (.iload_n 1, 1) := by decide +kernel
theorem dX6_stepsBetween_50 : decode cX6_stepsBetween 50 = .ok (.aaload, 1) := by decide +kernel
theorem dX6_stepsBetween_51 : decode cX6_stepsBetween 51 = .ok (.iload_n 2, 1) := by decide +kernel
theorem dX6_stepsBetween_52 : decode cX6_stepsBetween 52 = .ok (.iaload, 1) := by decide +kernel
theorem dX6_stepsBetween_53 : decode cX6_stepsBetween 53 = .ok (.ireturn, 1) := by decide +kernel
theorem dX6_timesOf_0 : decode cX6_timesOf 0 = .ok (.iload_n 0, 1) := by decide +kernel
theorem dX6_timesOf_1 : decode cX6_timesOf 1 = .ok (.bipush 48, 2) := by decide +kernel
theorem dX6_timesOf_3 : decode cX6_timesOf 3 = .ok (.if_icmp .ne 6, 3) := by decide +kernel
theorem dX6_timesOf_6 : decode cX6_timesOf 6 = .ok (.bipush 10, 2) := by decide +kernel
theorem dX6_timesOf_8 : decode cX6_timesOf 8 = .ok (.ireturn, 1) := by decide +kernel
theorem dX6_timesOf_9 : decode cX6_timesOf 9 = .ok (.iload_n 0, 1) := by decide +kernel
theorem dX6_timesOf_10 : decode cX6_timesOf 10 = .ok (.bipush 50, 2) := by decide +kernel
theorem dX6_timesOf_12 : decode cX6_timesOf 12 = .ok (.if_icmp .lt 16, 3) := by decide +kernel
theorem dX6_timesOf_15 : decode cX6_timesOf 15 = .ok (.iload_n 0, 1) := by decide +kernel
theorem dX6_timesOf_16 : decode cX6_timesOf 16 = .ok (.bipush 57, 2) := by decide +kernel
theorem dX6_timesOf_18 : decode cX6_timesOf 18 = .ok (.if_icmp .gt 10, 3) := by decide +kernel
theorem dX6_timesOf_21 : decode cX6_timesOf 21 = .ok (.iload_n 0, 1) := by decide +kernel
theorem dX6_timesOf_22 : decode cX6_timesOf 22 = .ok (.bipush 48, 2) := by decide +kernel
theorem dX6_timesOf_24 : decode cX6_timesOf 24 = .ok (.isub, 1) := by decide +kernel
theorem dX6_timesOf_25 : decode cX6_timesOf 25 = .ok (.goto 4, 3) := by decide +kernel
theorem dX6_timesOf_28 : decode cX6_timesOf 28 = .ok (.iconst 0, 1) := by decide +kernel
theorem dX6_timesOf_29 : decode cX6_timesOf 29 = .ok (.ireturn, 1) := by decide +kernel


set_option maxHeartbeats 4000000 in
set_option maxRecDepth 100000 in
theorem c_X6_spotAt (l : Launch) (D : va_G) (g : xG) (T : Nat × Nat × Nat) (h0 : Nat) (s0 : xS) (hσ : xRR s0) (x : Int) (rx : xR x) (y : Int) (ry : xR y) : Met l yX6_spotAt (xws yX6_spotAt cX6_spotAt 2 (some .int)) { frames := 0, cells := 0, slots := 0, locals := 0 } (xP [.int (xJ x), .int (xJ y)] D g T h0 s0) (xQi D g h0 (fun r τ => s0 = τ ∧ ((0 ≤ x ∧ x < 10 ∧ 0 ≤ y ∧ y < 10 ∧ r = 10 * y + x) ∨ ((x < 0 ∨ 10 ≤ x ∨ y < 0 ∨ 10 ≤ y) ∧ r = -1)))) 0 0 (xA h0) := by
  refine x_met hσ (by decide) (Nat.le_of_ble_eq_true rfl) ?_
  intro p e s m args below meth c hx hb hr hml hown hT hlk hnm hE hW ls hl
  have hl : lv_has ls 2 [(0, .int (xJ x)), (1, .int (xJ y))] := hl
  obtain ⟨Q, eQ⟩ : ∃ Q, Q = MQ below (xQi D g h0 (fun r τ => s0 = τ ∧ ((0 ≤ x ∧ x < 10 ∧ 0 ≤ y ∧ y < 10 ∧ r = 10 * y + x) ∨ ((x < 0 ∨ 10 ≤ x ∨ y < 0 ∨ 10 ≤ y) ∧ r = -1)))) args s 0 0 (xA h0) := ⟨_, rfl⟩
  rw [← eQ]
  generalize hHe : ([] : List Loc) = locs at hW ⊢
  obtain ⟨H, eH⟩ : ∃ H, H = s.heap := ⟨_, rfl⟩
  rw [← eH] at hW ⊢
  refine x_iload_n hx hb hl 0 rfl dX6_spotAt_0 rfl ?_
  refine x_if_lt (tgt := 29) hx hb rx dX6_spotAt_1 (by decide) (fun c1 => ?_) (fun c1 => ?_)
  · skip
    refine x_iconst hx hb dX6_spotAt_29 ?_
    rw [eQ]
    exact x_iret hx hb hr hlk hW (by decide) ⟨rfl, by omega⟩ dX6_spotAt_30
  refine x_iload_n hx hb hl 0 rfl dX6_spotAt_4 rfl ?_
  refine x_bipush hx hb dX6_spotAt_5 (by decide) ?_
  refine x_icmp_ge (tgt := 29) hx hb rx (by decide) dX6_spotAt_7 (by decide) (fun c2 => ?_) (fun c2 => ?_)
  · skip
    refine x_iconst hx hb dX6_spotAt_29 ?_
    rw [eQ]
    exact x_iret hx hb hr hlk hW (by decide) ⟨rfl, by omega⟩ dX6_spotAt_30
  refine x_iload_n hx hb hl 1 rfl dX6_spotAt_10 rfl ?_
  refine x_if_lt (tgt := 29) hx hb ry dX6_spotAt_11 (by decide) (fun c3 => ?_) (fun c3 => ?_)
  · skip
    refine x_iconst hx hb dX6_spotAt_29 ?_
    rw [eQ]
    exact x_iret hx hb hr hlk hW (by decide) ⟨rfl, by omega⟩ dX6_spotAt_30
  refine x_iload_n hx hb hl 1 rfl dX6_spotAt_14 rfl ?_
  refine x_bipush hx hb dX6_spotAt_15 (by decide) ?_
  refine x_icmp_ge (tgt := 29) hx hb ry (by decide) dX6_spotAt_17 (by decide) (fun c4 => ?_) (fun c4 => ?_)
  · skip
    refine x_iconst hx hb dX6_spotAt_29 ?_
    rw [eQ]
    exact x_iret hx hb hr hlk hW (by decide) ⟨rfl, by omega⟩ dX6_spotAt_30
  refine x_bipush hx hb dX6_spotAt_20 (by decide) ?_
  refine x_iload_n hx hb hl 1 rfl dX6_spotAt_22 rfl ?_
  refine x_imul hx hb dX6_spotAt_23 ?_
  refine x_iload_n hx hb hl 0 rfl dX6_spotAt_24 rfl ?_
  refine x_iadd hx hb dX6_spotAt_25 ?_
  refine lv_goto (tgt := 30) hx hb dX6_spotAt_26 (by decide) ?_
  rw [eQ]
  exact x_iret hx hb hr hlk hW (by omega) ⟨rfl, by omega⟩ dX6_spotAt_30
set_option maxHeartbeats 4000000 in
set_option maxRecDepth 100000 in
theorem c_X6_isSpot (l : Launch) (D : va_G) (g : xG) (T : Nat × Nat × Nat) (h0 : Nat) (s0 : xS) (hσ : xRR s0) (x : Int) (rx : xR x) : Met l yX6_isSpot (xws yX6_isSpot cX6_isSpot 1 (some .boolean)) { frames := 0, cells := 0, slots := 0, locals := 0 } (xP [.int (xJ x)] D g T h0 s0) (xQi D g h0 (fun r τ => s0 = τ ∧ ((r = 1 ∧ 0 ≤ x ∧ x < 100) ∨ (r = 0 ∧ (x < 0 ∨ 100 ≤ x))))) 0 0 (xA h0) := by
  refine x_met hσ (by decide) (Nat.le_of_ble_eq_true rfl) ?_
  intro p e s m args below meth c hx hb hr hml hown hT hlk hnm hE hW ls hl
  have hl : lv_has ls 1 [(0, .int (xJ x))] := hl
  obtain ⟨Q, eQ⟩ : ∃ Q, Q = MQ below (xQi D g h0 (fun r τ => s0 = τ ∧ ((r = 1 ∧ 0 ≤ x ∧ x < 100) ∨ (r = 0 ∧ (x < 0 ∨ 100 ≤ x))))) args s 0 0 (xA h0) := ⟨_, rfl⟩
  rw [← eQ]
  generalize hHe : ([] : List Loc) = locs at hW ⊢
  obtain ⟨H, eH⟩ : ∃ H, H = s.heap := ⟨_, rfl⟩
  rw [← eH] at hW ⊢
  refine x_iload_n hx hb hl 0 rfl dX6_isSpot_0 rfl ?_
  refine x_if_lt (tgt := 14) hx hb rx dX6_isSpot_1 (by decide) (fun c1 => ?_) (fun c1 => ?_)
  · skip
    refine x_iconst hx hb dX6_isSpot_14 ?_
    rw [eQ]
    exact x_zret hx hb hr hlk hW (by omega) ⟨rfl, by omega⟩ dX6_isSpot_15
  refine x_iload_n hx hb hl 0 rfl dX6_isSpot_4 rfl ?_
  refine x_bipush hx hb dX6_isSpot_5 (by decide) ?_
  refine x_icmp_ge (tgt := 14) hx hb rx (by decide) dX6_isSpot_7 (by decide) (fun c2 => ?_) (fun c2 => ?_)
  · skip
    refine x_iconst hx hb dX6_isSpot_14 ?_
    rw [eQ]
    exact x_zret hx hb hr hlk hW (by omega) ⟨rfl, by omega⟩ dX6_isSpot_15
  refine x_iconst hx hb dX6_isSpot_10 ?_
  refine lv_goto (tgt := 15) hx hb dX6_isSpot_11 (by decide) ?_
  rw [eQ]
  exact x_zret hx hb hr hlk hW (by omega) ⟨rfl, by omega⟩ dX6_isSpot_15
set_option maxHeartbeats 4000000 in
set_option maxRecDepth 100000 in
theorem c_X6_beside (l : Launch) (D : va_G) (g : xG) (T : Nat × Nat × Nat) (h0 : Nat) (s0 : xS) (hσ : xRR s0) (x : Int) (rx : xR x) (w : Int) (rw : xR w) : Met l yX6_beside (xws yX6_beside cX6_beside 4 (some .int)) { frames := 0, cells := 0, slots := 0, locals := 0 } (xP [.int (xJ x), .int (xJ w)] D g T h0 s0) (xQi D g h0 (fun r τ => s0 = τ ∧ (r = -1 ∨ (0 ≤ r ∧ r < 100)))) 0 0 (xA h0) := by
  refine x_met hσ (by decide) (Nat.le_of_ble_eq_true rfl) ?_
  intro p e s m args below meth c hx hb hr hml hown hT hlk hnm hE hW ls hl
  have hl : lv_has ls 4 [(0, .int (xJ x)), (1, .int (xJ w))] := hl
  obtain ⟨Q, eQ⟩ : ∃ Q, Q = MQ below (xQi D g h0 (fun r τ => s0 = τ ∧ (r = -1 ∨ (0 ≤ r ∧ r < 100)))) args s 0 0 (xA h0) := ⟨_, rfl⟩
  rw [← eQ]
  generalize hHe : ([] : List Loc) = locs at hW ⊢
  obtain ⟨H, eH⟩ : ∃ H, H = s.heap := ⟨_, rfl⟩
  rw [← eH] at hW ⊢
  refine x_iload_n hx hb hl 0 rfl dX6_beside_0 rfl ?_
  refine x_if_lt (tgt := 20) hx hb rx dX6_beside_1 (by decide) (fun c1 => ?_) (fun c1 => ?_)
  · skip
    refine x_iconst hx hb dX6_beside_20 ?_
    rw [eQ]
    exact x_iret hx hb hr hlk hW (by decide) ⟨rfl, by omega⟩ dX6_beside_21
  refine x_iload_n hx hb hl 0 rfl dX6_beside_4 rfl ?_
  refine x_bipush hx hb dX6_beside_5 (by decide) ?_
  refine x_icmp_ge (tgt := 20) hx hb rx (by decide) dX6_beside_7 (by decide) (fun c2 => ?_) (fun c2 => ?_)
  · skip
    refine x_iconst hx hb dX6_beside_20 ?_
    rw [eQ]
    exact x_iret hx hb hr hlk hW (by decide) ⟨rfl, by omega⟩ dX6_beside_21
  refine x_iload_n hx hb hl 1 rfl dX6_beside_10 rfl ?_
  refine x_if_lt (tgt := 20) hx hb rw dX6_beside_11 (by decide) (fun c3 => ?_) (fun c3 => ?_)
  · skip
    refine x_iconst hx hb dX6_beside_20 ?_
    rw [eQ]
    exact x_iret hx hb hr hlk hW (by decide) ⟨rfl, by omega⟩ dX6_beside_21
  refine x_iload_n hx hb hl 1 rfl dX6_beside_14 rfl ?_
  refine x_bipush hx hb dX6_beside_15 (by decide) ?_
  refine x_icmp_lt (tgt := 22) hx hb rw (by decide) dX6_beside_17 (by decide) (fun c4 => ?_) (fun c4 => ?_)
  · skip
    refine x_iload_n hx hb hl 0 rfl dX6_beside_22 rfl ?_
    refine x_bipush hx hb dX6_beside_23 (by decide) ?_
    refine x_irem hx hb rx (by decide) (by omega) (by decide) dX6_beside_25 ?_
    refine va_getsN hx hb hE.2.2.1.1 hW.2.2 hown (xE_N hE wn786 rfl) (fun _ h9 => h9) dX6_beside_26 ?_
    refine x_iload_n hx hb hl 1 rfl dX6_beside_29 rfl ?_
    refine x_wx hx hb hE hW (by omega) dX6_beside_30 ?_
    refine x_nm (fun x5 ex5 => ?_)
    have rx5 : -1 ≤ x5 ∧ x5 ≤ 1 := by rw [ex5]; exact xwx_in _
    refine x_iadd hx hb dX6_beside_31 ?_
    refine x_nm (fun x6 ex6 => ?_)
    refine lv_istore_n (lv' := [(2, .int (xJ x6)), (0, .int (xJ x)), (1, .int (xJ w))]) hx hb dX6_beside_32 rfl hl (by decide) rfl (fun ls hl => ?_)
    refine x_iload_n hx hb hl 1 rfl dX6_beside_33 rfl ?_
    refine x_bipush hx hb dX6_beside_34 (by decide) ?_
    refine x_idiv hx hb rx (by decide) (by omega) (by decide) dX6_beside_36 ?_
    refine va_getsN hx hb hE.2.2.2.1.1 hW.2.2 hown (xE_N hE wn788 rfl) (fun _ h9 => h9) dX6_beside_37 ?_
    refine x_iload_n hx hb hl 2 rfl dX6_beside_40 rfl ?_
    refine x_wy hx hb hE hW (by omega) dX6_beside_41 ?_
    refine x_nm (fun x7 ex7 => ?_)
    have rx7 : -1 ≤ x7 ∧ x7 ≤ 1 := by rw [ex7]; exact xwy_in _
    refine x_iadd hx hb dX6_beside_42 ?_
    refine x_nm (fun x8 ex8 => ?_)
    refine lv_istore_n (lv' := [(3, .int (xJ x8)), (2, .int (xJ x6)), (0, .int (xJ x)), (1, .int (xJ w))]) hx hb dX6_beside_43 rfl hl (by decide) rfl (fun ls hl => ?_)
    refine x_iload_n hx hb hl 1 rfl dX6_beside_44 rfl ?_
    refine x_if_lt (tgt := 73) hx hb (by omega) dX6_beside_45 (by decide) (fun c9 => ?_) (fun c9 => ?_)
    · skip
      refine x_iconst hx hb dX6_beside_73 ?_
      rw [eQ]
      exact x_iret hx hb hr hlk hW (by decide) ⟨rfl, by omega⟩ dX6_beside_74
    refine x_iload_n hx hb hl 1 rfl dX6_beside_48 rfl ?_
    refine x_bipush hx hb dX6_beside_49 (by decide) ?_
    refine x_icmp_ge (tgt := 73) hx hb (by omega) (by decide) dX6_beside_51 (by decide) (fun c10 => ?_) (fun c10 => ?_)
    · skip
      refine x_iconst hx hb dX6_beside_73 ?_
      rw [eQ]
      exact x_iret hx hb hr hlk hW (by decide) ⟨rfl, by omega⟩ dX6_beside_74
    refine x_iload_n hx hb hl 0 rfl dX6_beside_54 rfl ?_
    refine x_if_lt (tgt := 73) hx hb (by omega) dX6_beside_55 (by decide) (fun c11 => ?_) (fun c11 => ?_)
    · skip
      refine x_iconst hx hb dX6_beside_73 ?_
      rw [eQ]
      exact x_iret hx hb hr hlk hW (by decide) ⟨rfl, by omega⟩ dX6_beside_74
    refine x_iload_n hx hb hl 0 rfl dX6_beside_58 rfl ?_
    refine x_bipush hx hb dX6_beside_59 (by decide) ?_
    refine x_icmp_ge (tgt := 73) hx hb (by omega) (by decide) dX6_beside_61 (by decide) (fun c12 => ?_) (fun c12 => ?_)
    · skip
      refine x_iconst hx hb dX6_beside_73 ?_
      rw [eQ]
      exact x_iret hx hb hr hlk hW (by decide) ⟨rfl, by omega⟩ dX6_beside_74
    refine x_bipush hx hb dX6_beside_64 (by decide) ?_
    refine x_iload_n hx hb hl 0 rfl dX6_beside_66 rfl ?_
    refine x_imul hx hb dX6_beside_67 ?_
    refine x_iload_n hx hb hl 1 rfl dX6_beside_68 rfl ?_
    refine x_iadd hx hb dX6_beside_69 ?_
    refine lv_goto (tgt := 74) hx hb dX6_beside_70 (by decide) ?_
    rw [eQ]
    exact x_iret hx hb hr hlk hW (by omega) ⟨rfl, by omega⟩ dX6_beside_74
  refine x_iconst hx hb dX6_beside_20 ?_
  rw [eQ]
  exact x_iret hx hb hr hlk hW (by decide) ⟨rfl, by omega⟩ dX6_beside_21
set_option maxHeartbeats 4000000 in
set_option maxRecDepth 100000 in
theorem c_X6_kindAt (l : Launch) (D : va_G) (g : xG) (T : Nat × Nat × Nat) (h0 : Nat) (s0 : xS) (hσ : xRR s0) (x : Int) (rx : xR x) (p0 : IC s0) : Met l yX6_kindAt (xws yX6_kindAt cX6_kindAt 2 (some .int)) { frames := 0, cells := 0, slots := 0, locals := 0 } (xP [.ref (h0 + 3), .int (xJ x)] D g T h0 s0) (xQi D g h0 (fun r τ => s0 = τ ∧ ((0 ≤ x ∧ x < 100 ∧ r = s0 4 x) ∨ ((x < 0 ∨ 100 ≤ x) ∧ r = 1)))) 0 0 (xA h0) := by
  refine x_met hσ (by decide) (Nat.le_of_ble_eq_true rfl) ?_
  intro p e s m args below meth c hx hb hr hml hown hT hlk hnm hE hW ls hl
  have hl : lv_has ls 2 [(0, .ref (h0 + 3)), (1, .int (xJ x))] := hl
  obtain ⟨Q, eQ⟩ : ∃ Q, Q = MQ below (xQi D g h0 (fun r τ => s0 = τ ∧ ((0 ≤ x ∧ x < 100 ∧ r = s0 4 x) ∨ ((x < 0 ∨ 100 ≤ x) ∧ r = 1)))) args s 0 0 (xA h0) := ⟨_, rfl⟩
  rw [← eQ]
  generalize hHe : ([] : List Loc) = locs at hW ⊢
  obtain ⟨H, eH⟩ : ∃ H, H = s.heap := ⟨_, rfl⟩
  rw [← eH] at hW ⊢
  have k1_1 : s0 1 1 = s0 1 1 := rfl
  refine x_iload_n hx hb hl 1 rfl dX6_kindAt_0 rfl ?_
  refine x_if_lt (tgt := 19) hx hb rx dX6_kindAt_1 (by decide) (fun c1 => ?_) (fun c1 => ?_)
  · skip
    refine x_iconst hx hb dX6_kindAt_19 ?_
    rw [eQ]
    exact x_iret hx hb hr hlk hW (by decide) ⟨rfl, by omega⟩ dX6_kindAt_20
  refine x_iload_n hx hb hl 1 rfl dX6_kindAt_4 rfl ?_
  refine x_bipush hx hb dX6_kindAt_5 (by decide) ?_
  refine x_icmp_ge (tgt := 19) hx hb rx (by decide) dX6_kindAt_7 (by decide) (fun c2 => ?_) (fun c2 => ?_)
  · skip
    refine x_iconst hx hb dX6_kindAt_19 ?_
    rw [eQ]
    exact x_iret hx hb hr hlk hW (by decide) ⟨rfl, by omega⟩ dX6_kindAt_20
  refine x_aload_n hx hb hl 0 rfl dX6_kindAt_10 rfl ?_
  refine x_get (j := 0) (v := .ref (h0 + 4)) hx hb hown hT hE hW cls_X6 (Or.inl (by decide)) (so_3 h0 g _) (by decide) rfl wq226 dX6_kindAt_11 ?_
  refine x_iload_n hx hb hl 1 rfl dX6_kindAt_14 rfl ?_
  refine x_iald hx hb hE hW (Or.inl (by decide)) (sa_4 h0 g _) (by omega) (by decide) dX6_kindAt_15 ?_
  refine x_rd hW (fun x3 ex3 rx3 => ?_)
  refine lv_goto (tgt := 20) hx hb dX6_kindAt_16 (by decide) ?_
  rw [eQ]
  exact x_iret hx hb hr hlk hW rx3 ⟨rfl, by omega⟩ dX6_kindAt_20
set_option maxHeartbeats 4000000 in
set_option maxRecDepth 100000 in
theorem c_X6_isOpen (l : Launch) (D : va_G) (g : xG) (T : Nat × Nat × Nat) (h0 : Nat) (s0 : xS) (hσ : xRR s0) (x : Int) (rx : xR x) (p0 : IC s0) : Met l yX6_isOpen (xws yX6_isOpen cX6_isOpen 3 (some .boolean)) { frames := 1, cells := 0, slots := 0, locals := 21 } (xP [.ref (h0 + 3), .int (xJ x)] D g T h0 s0) (xQi D g h0 (fun r τ => s0 = τ ∧ (r = 0 ∨ (r = 1 ∧ 0 ≤ x ∧ x < 100)))) 0 0 (xA h0) := by
  refine x_met hσ (by decide) (Nat.le_of_ble_eq_true rfl) ?_
  intro p e s m args below meth c hx hb hr hml hown hT hlk hnm hE hW ls hl
  have hl : lv_has ls 3 [(0, .ref (h0 + 3)), (1, .int (xJ x))] := hl
  obtain ⟨Q, eQ⟩ : ∃ Q, Q = MQ below (xQi D g h0 (fun r τ => s0 = τ ∧ (r = 0 ∨ (r = 1 ∧ 0 ≤ x ∧ x < 100)))) args s 0 0 (xA h0) := ⟨_, rfl⟩
  rw [← eQ]
  generalize hHe : ([] : List Loc) = locs at hW ⊢
  obtain ⟨H, eH⟩ : ∃ H, H = s.heap := ⟨_, rfl⟩
  rw [← eH] at hW ⊢
  have k1_1 : s0 1 1 = s0 1 1 := rfl
  refine x_aload_n hx hb hl 0 rfl dX6_isOpen_0 rfl ?_
  refine x_iload_n hx hb hl 1 rfl dX6_isOpen_1 rfl ?_
  refine x_goi (x_runV (As := [.int (xJ x)]) hx hb hml hown hT hE hW hl.1 (Or.inl (by decide)) (so_3 h0 g _) rfl cf_X6_kindAt wq619 wq10 wq617 (c_X6_kindAt l D g T h0 s0 hW.2.1 x rx p0) ⟨rfl, rfl, ⟨by decide, by decide⟩, ⟨by decide, by decide⟩⟩ rfl rfl (Nat.le_of_ble_eq_true rfl) dX6_isOpen_2) hW (fun x1 s2 H locs rx1 hp3 hW => ?_)
  obtain ⟨es2, hp3⟩ := hp3
  subst es2
  have ghp3 := hp3
  refine lv_istore_n (lv' := [(2, .int (xJ x1)), (0, .ref (h0 + 3)), (1, .int (xJ x))]) hx hb dX6_isOpen_5 rfl hl (by decide) rfl (fun ls hl => ?_)
  refine x_iload_n hx hb hl 0 rfl dX6_isOpen_6 rfl ?_
  refine x_iconst hx hb dX6_isOpen_7 ?_
  refine x_icmp_eq (tgt := 20) hx hb rx1 (by decide) dX6_isOpen_8 (by decide) (fun c4 => ?_) (fun c4 => ?_)
  · skip
    refine x_iconst hx hb dX6_isOpen_20 ?_
    rw [eQ]
    exact x_zret hx hb hr hlk hW (by omega) ⟨rfl, by omega⟩ dX6_isOpen_21
  refine x_iload_n hx hb hl 0 rfl dX6_isOpen_11 rfl ?_
  refine x_iconst hx hb dX6_isOpen_12 ?_
  refine x_icmp_eq (tgt := 20) hx hb rx1 (by decide) dX6_isOpen_13 (by decide) (fun c5 => ?_) (fun c5 => ?_)
  · skip
    refine x_iconst hx hb dX6_isOpen_20 ?_
    rw [eQ]
    exact x_zret hx hb hr hlk hW (by omega) ⟨rfl, by omega⟩ dX6_isOpen_21
  refine x_iconst hx hb dX6_isOpen_16 ?_
  refine lv_goto (tgt := 21) hx hb dX6_isOpen_17 (by decide) ?_
  rw [eQ]
  exact x_zret hx hb hr hlk hW (by omega) ⟨rfl, by omega⟩ dX6_isOpen_21
set_option maxHeartbeats 4000000 in
set_option maxRecDepth 100000 in
theorem c_X6_kindOf (l : Launch) (D : va_G) (g : xG) (T : Nat × Nat × Nat) (h0 : Nat) (s0 : xS) (hσ : xRR s0) (x : Int) (rx : xR x) : Met l yX6_kindOf (xws yX6_kindOf cX6_kindOf 1 (some .int)) { frames := 0, cells := 0, slots := 0, locals := 0 } (xP [.int (xJ x)] D g T h0 s0) (xQi D g h0 (fun r τ => s0 = τ ∧ ((x = 46 ∧ r = 0) ∨ (x = 35 ∧ r = 1) ∨ (x = 115 ∧ r = 2) ∨ (x = 114 ∧ r = 3) ∨ (x ≠ 46 ∧ x ≠ 35 ∧ x ≠ 115 ∧ x ≠ 114 ∧ r = -1)))) 0 0 (xA h0) := by
  refine x_met hσ (by decide) (Nat.le_of_ble_eq_true rfl) ?_
  intro p e s m args below meth c hx hb hr hml hown hT hlk hnm hE hW ls hl
  have hl : lv_has ls 1 [(0, .int (xJ x))] := hl
  obtain ⟨Q, eQ⟩ : ∃ Q, Q = MQ below (xQi D g h0 (fun r τ => s0 = τ ∧ ((x = 46 ∧ r = 0) ∨ (x = 35 ∧ r = 1) ∨ (x = 115 ∧ r = 2) ∨ (x = 114 ∧ r = 3) ∨ (x ≠ 46 ∧ x ≠ 35 ∧ x ≠ 115 ∧ x ≠ 114 ∧ r = -1)))) args s 0 0 (xA h0) := ⟨_, rfl⟩
  rw [← eQ]
  generalize hHe : ([] : List Loc) = locs at hW ⊢
  obtain ⟨H, eH⟩ : ∃ H, H = s.heap := ⟨_, rfl⟩
  rw [← eH] at hW ⊢
  refine x_iload_n hx hb hl 0 rfl dX6_kindOf_0 rfl ?_
  rcases (show (x ≠ 35 ∧ x ≠ 46 ∧ x ≠ 114 ∧ x ≠ 115) ∨ x = 35 ∨ x = 46 ∨ x = 114 ∨ x = 115 from by omega) with c1 | c1 | c1 | c1 | c1
  · refine x_look (tgt := 52) (off := 51) hx hb rx dX6_kindOf_1 rfl (xlk_n (by simp; omega)) (by decide) ?_
    refine x_iconst hx hb dX6_kindOf_52 ?_
    rw [eQ]
    exact x_iret hx hb hr hlk hW (by decide) ⟨rfl, by omega⟩ dX6_kindOf_53
  · refine x_look (tgt := 46) (off := 45) hx hb rx dX6_kindOf_1 rfl (by rw [c1]; rfl) (by decide) ?_
    refine x_iconst hx hb dX6_kindOf_46 ?_
    rw [eQ]
    exact x_iret hx hb hr hlk hW (by decide) ⟨rfl, by omega⟩ dX6_kindOf_47
  · refine x_look (tgt := 44) (off := 43) hx hb rx dX6_kindOf_1 rfl (by rw [c1]; rfl) (by decide) ?_
    refine x_iconst hx hb dX6_kindOf_44 ?_
    rw [eQ]
    exact x_iret hx hb hr hlk hW (by decide) ⟨rfl, by omega⟩ dX6_kindOf_45
  · refine x_look (tgt := 50) (off := 49) hx hb rx dX6_kindOf_1 rfl (by rw [c1]; rfl) (by decide) ?_
    refine x_iconst hx hb dX6_kindOf_50 ?_
    rw [eQ]
    exact x_iret hx hb hr hlk hW (by decide) ⟨rfl, by omega⟩ dX6_kindOf_51
  · refine x_look (tgt := 48) (off := 47) hx hb rx dX6_kindOf_1 rfl (by rw [c1]; rfl) (by decide) ?_
    refine x_iconst hx hb dX6_kindOf_48 ?_
    rw [eQ]
    exact x_iret hx hb hr hlk hW (by decide) ⟨rfl, by omega⟩ dX6_kindOf_49
set_option maxHeartbeats 4000000 in
set_option maxRecDepth 100000 in
theorem c_X6_timesOf (l : Launch) (D : va_G) (g : xG) (T : Nat × Nat × Nat) (h0 : Nat) (s0 : xS) (hσ : xRR s0) (x : Int) (rx : xR x) : Met l yX6_timesOf (xws yX6_timesOf cX6_timesOf 1 (some .int)) { frames := 0, cells := 0, slots := 0, locals := 0 } (xP [.int (xJ x)] D g T h0 s0) (xQi D g h0 (fun r τ => s0 = τ ∧ ((x = 48 ∧ r = 10) ∨ (50 ≤ x ∧ x ≤ 57 ∧ r = x - 48) ∨ (x ≠ 48 ∧ (x < 50 ∨ 57 < x) ∧ r = 0)))) 0 0 (xA h0) := by
  refine x_met hσ (by decide) (Nat.le_of_ble_eq_true rfl) ?_
  intro p e s m args below meth c hx hb hr hml hown hT hlk hnm hE hW ls hl
  have hl : lv_has ls 1 [(0, .int (xJ x))] := hl
  obtain ⟨Q, eQ⟩ : ∃ Q, Q = MQ below (xQi D g h0 (fun r τ => s0 = τ ∧ ((x = 48 ∧ r = 10) ∨ (50 ≤ x ∧ x ≤ 57 ∧ r = x - 48) ∨ (x ≠ 48 ∧ (x < 50 ∨ 57 < x) ∧ r = 0)))) args s 0 0 (xA h0) := ⟨_, rfl⟩
  rw [← eQ]
  generalize hHe : ([] : List Loc) = locs at hW ⊢
  obtain ⟨H, eH⟩ : ∃ H, H = s.heap := ⟨_, rfl⟩
  rw [← eH] at hW ⊢
  refine x_iload_n hx hb hl 0 rfl dX6_timesOf_0 rfl ?_
  refine x_bipush hx hb dX6_timesOf_1 (by decide) ?_
  refine x_icmp_ne (tgt := 9) hx hb rx (by decide) dX6_timesOf_3 (by decide) (fun c1 => ?_) (fun c1 => ?_)
  · skip
    refine x_iload_n hx hb hl 0 rfl dX6_timesOf_9 rfl ?_
    refine x_bipush hx hb dX6_timesOf_10 (by decide) ?_
    refine x_icmp_lt (tgt := 28) hx hb rx (by decide) dX6_timesOf_12 (by decide) (fun c2 => ?_) (fun c2 => ?_)
    · skip
      refine x_iconst hx hb dX6_timesOf_28 ?_
      rw [eQ]
      exact x_iret hx hb hr hlk hW (by decide) ⟨rfl, by omega⟩ dX6_timesOf_29
    refine x_iload_n hx hb hl 0 rfl dX6_timesOf_15 rfl ?_
    refine x_bipush hx hb dX6_timesOf_16 (by decide) ?_
    refine x_icmp_gt (tgt := 28) hx hb rx (by decide) dX6_timesOf_18 (by decide) (fun c3 => ?_) (fun c3 => ?_)
    · skip
      refine x_iconst hx hb dX6_timesOf_28 ?_
      rw [eQ]
      exact x_iret hx hb hr hlk hW (by decide) ⟨rfl, by omega⟩ dX6_timesOf_29
    refine x_iload_n hx hb hl 0 rfl dX6_timesOf_21 rfl ?_
    refine x_bipush hx hb dX6_timesOf_22 (by decide) ?_
    refine x_isub hx hb dX6_timesOf_24 ?_
    refine lv_goto (tgt := 29) hx hb dX6_timesOf_25 (by decide) ?_
    rw [eQ]
    exact x_iret hx hb hr hlk hW (by omega) ⟨rfl, by omega⟩ dX6_timesOf_29
  refine x_bipush hx hb dX6_timesOf_6 (by decide) ?_
  rw [eQ]
  exact x_iret hx hb hr hlk hW (by decide) ⟨rfl, by omega⟩ dX6_timesOf_8
set_option maxHeartbeats 4000000 in
set_option maxRecDepth 100000 in
theorem c_X6_reckonRow (l : Launch) (D : va_G) (g : xG) (T : Nat × Nat × Nat) (h0 : Nat) (s0 : xS) (hσ : xRR s0) (ka : Nat) (hka : ka < 310) (hns : nsC ka) (hca : ∀ σ : xS, xcel h0 g σ ka = .inl (g.1, 100, .inl (fun j => xJ (σ ka j)))) (a : Int) (ra : xR a) (b : Int) (rb : xR b) (p0 : IC s0) : Met l yX6_reckonRow (xws yX6_reckonRow cX6_reckonRow 9 none) { frames := 1, cells := 0, slots := 0, locals := 23 } (xP [.ref (h0 + 3), .ref (h0 + ka), .int (xJ a), .int (xJ b)] D g T h0 s0) (xQv D g h0 (fun τ => xFr (fun k => k = ka) s0 τ ∧ (((IC τ) ∧ True) ∧ (True)))) 0 0 (xA h0) := by
  refine x_met hσ (by decide) (Nat.le_of_ble_eq_true rfl) ?_
  intro p e s m args below meth c hx hb hr hml hown hT hlk hnm hE hW ls hl
  have hl : lv_has ls 9 [(0, .ref (h0 + 3)), (1, .ref (h0 + ka)), (2, .int (xJ a)), (3, .int (xJ b))] := hl
  obtain ⟨Q, eQ⟩ : ∃ Q, Q = MQ below (xQv D g h0 (fun τ => xFr (fun k => k = ka) s0 τ ∧ (((IC τ) ∧ True) ∧ (True)))) args s 0 0 (xA h0) := ⟨_, rfl⟩
  rw [← eQ]
  generalize hHe : ([] : List Loc) = locs at hW ⊢
  obtain ⟨H, eH⟩ : ∃ H, H = s.heap := ⟨_, rfl⟩
  rw [← eH] at hW ⊢
  have hF : xFr (fun k => k = ka) s0 s0 := xFr.rf
  have k1_1 : s0 1 1 = s0 1 1 := rfl
  refine x_iconst hx hb dX6_reckonRow_0 ?_
  refine lv_istore (lv' := [(4, .int (xJ 0)), (0, .ref (h0 + 3)), (1, .ref (h0 + ka)), (2, .int (xJ a)), (3, .int (xJ b))]) hx hb dX6_reckonRow_1 hl (by decide) rfl (fun ls hl => ?_)
  have L3 : ∀ (fu : Nat) (i4_3 : Int) (s_3 : xS) (H : Heap) (locs : List Loc) (ls : Array Slot), (xR i4_3) → (xFr (fun k => k = ka) s0 s_3) → (IC s_3) → (s_3 1 1 = s0 1 1) → (0 ≤ i4_3) → (100 - i4_3).toNat < fu → xW D g h0 s H locs s_3 → lv_has ls 9 [(0, .ref (h0 + 3)), (1, .ref (h0 + ka)), (2, .int (xJ a)), (3, .int (xJ b)), (4, .int (xJ i4_3))] → W p l e { frames := 1, cells := 0, slots := 0, locals := 23 } s m args below meth c H locs 0 0 Q (F0 m 3 ls []) := by
    intro fu
    induction fu with
    | zero => intro i4_3 s_3 H locs ls ri4_3 hF_3 q3_0 q3_1 v3_0 hm; exact absurd hm (Nat.not_lt_zero _)
    | succ fu ih3 =>
      intro i4_3 s_3 H locs ls ri4_3 hF_3 q3_0 q3_1 v3_0 hm hW hl
      refine x_iload hx hb hl 4 rfl dX6_reckonRow_3 ?_
      refine x_aload_n hx hb hl 1 rfl dX6_reckonRow_5 rfl ?_
      refine x_alen (n := 100) (t0 := 0) hx hb hE hW (Or.inl hka) (hca _) rfl rfl dX6_reckonRow_6 ?_
      refine x_icmp_ge (tgt := 32) hx hb ri4_3 (by decide) dX6_reckonRow_7 (by decide) (fun c1 => ?_) (fun c1 => ?_)
      · skip
        refine x_iconst hx hb dX6_reckonRow_32 ?_
        refine lv_istore (lv' := [(4, .int (xJ 0)), (0, .ref (h0 + 3)), (1, .ref (h0 + ka)), (2, .int (xJ a)), (3, .int (xJ b))]) hx hb dX6_reckonRow_33 hl (by decide) rfl (fun ls hl => ?_)
        have L35 : ∀ (fu : Nat) (i4_35 : Int) (s_35 : xS) (H : Heap) (locs : List Loc) (ls : Array Slot), (xR i4_35) → (xFr (fun k => k = ka) s0 s_35) → (IC s_35) → (s_35 1 1 = s0 1 1) → (0 ≤ i4_35) → (i4_35 ≤ 3) → (3 + 1 - i4_35).toNat < fu → xW D g h0 s H locs s_35 → lv_has ls 9 [(0, .ref (h0 + 3)), (1, .ref (h0 + ka)), (3, .int (xJ b)), (4, .int (xJ i4_35))] → W p l e { frames := 1, cells := 0, slots := 0, locals := 23 } s m args below meth c H locs 0 0 Q (F0 m 35 ls []) := by
          intro fu
          induction fu with
          | zero => intro i4_35 s_35 H locs ls ri4_35 hF_35 q35_0 q35_1 v35_0 v35_1 hm; exact absurd hm (Nat.not_lt_zero _)
          | succ fu ih35 =>
            intro i4_35 s_35 H locs ls ri4_35 hF_35 q35_0 q35_1 v35_0 v35_1 hm hW hl
            refine x_iload hx hb hl 3 rfl dX6_reckonRow_35 ?_
            refine x_iconst hx hb dX6_reckonRow_37 ?_
            refine x_icmp_ge (tgt := 153) hx hb ri4_35 (by decide) dX6_reckonRow_38 (by decide) (fun c2 => ?_) (fun c2 => ?_)
            · skip
              rw [eQ]
              exact x_vret hx hb hr hlk hW ⟨hF_35, ⟨q35_0, trivial⟩, trivial⟩ dX6_reckonRow_153
            refine x_iconst hx hb dX6_reckonRow_41 ?_
            refine lv_istore (lv' := [(5, .int (xJ 0)), (0, .ref (h0 + 3)), (1, .ref (h0 + ka)), (3, .int (xJ b)), (4, .int (xJ i4_35))]) hx hb dX6_reckonRow_42 hl (by decide) rfl (fun ls hl => ?_)
            have L44 : ∀ (fu : Nat) (i5_44 : Int) (s_44 : xS) (H : Heap) (locs : List Loc) (ls : Array Slot), (xR i5_44) → (xFr (fun k => k = ka) s0 s_44) → (IC s_44) → (s_44 1 1 = s0 1 1) → (0 ≤ i5_44) → (400 - i5_44).toNat < fu → xW D g h0 s H locs s_44 → lv_has ls 9 [(0, .ref (h0 + 3)), (1, .ref (h0 + ka)), (3, .int (xJ b)), (4, .int (xJ i4_35)), (5, .int (xJ i5_44))] → W p l e { frames := 1, cells := 0, slots := 0, locals := 23 } s m args below meth c H locs 0 0 Q (F0 m 44 ls []) := by
              intro fu
              induction fu with
              | zero => intro i5_44 s_44 H locs ls ri5_44 hF_44 q44_0 q44_1 v44_0 hm; exact absurd hm (Nat.not_lt_zero _)
              | succ fu ih44 =>
                intro i5_44 s_44 H locs ls ri5_44 hF_44 q44_0 q44_1 v44_0 hm hW hl
                refine x_iload hx hb hl 4 rfl dX6_reckonRow_44 ?_
                refine x_iconst hx hb dX6_reckonRow_46 ?_
                refine x_aload_n hx hb hl 1 rfl dX6_reckonRow_47 rfl ?_
                refine x_alen (n := 100) (t0 := 0) hx hb hE hW (Or.inl hka) (hca _) rfl rfl dX6_reckonRow_48 ?_
                refine x_imul hx hb dX6_reckonRow_49 ?_
                refine x_icmp_ge (tgt := 147) hx hb ri5_44 (by omega) dX6_reckonRow_50 (by decide) (fun c3 => ?_) (fun c3 => ?_)
                · skip
                  refine x_iinc (lv' := [(4, .int (xJ (i4_35 + 1))), (0, .ref (h0 + 3)), (1, .ref (h0 + ka)), (3, .int (xJ b)), (5, .int (xJ i5_44))]) hx hb hl 3 rfl dX6_reckonRow_147 (by decide) rfl (fun ls hl => ?_)
                  refine lv_goto (tgt := 35) hx hb dX6_reckonRow_150 (by decide) ?_
                  exact ih35 (i4_35 + 1) s_44 H locs ls (by omega) hF_44 q44_0 q44_1 (by omega) (by omega) (by omega) hW (lv_sub hl [1, 2, 3, 0] rfl)
                refine x_iload hx hb hl 4 rfl dX6_reckonRow_53 ?_
                refine x_iconst hx hb dX6_reckonRow_55 ?_
                refine x_idiv hx hb ri5_44 (by decide) (by omega) (by decide) dX6_reckonRow_56 ?_
                refine x_nm (fun x4 ex4 => ?_)
                refine lv_istore (lv' := [(6, .int (xJ x4)), (0, .ref (h0 + 3)), (1, .ref (h0 + ka)), (3, .int (xJ b)), (4, .int (xJ i4_35)), (5, .int (xJ i5_44))]) hx hb dX6_reckonRow_57 hl (by decide) rfl (fun ls hl => ?_)
                refine x_aload_n hx hb hl 2 rfl dX6_reckonRow_59 rfl ?_
                refine x_iload hx hb hl 0 rfl dX6_reckonRow_60 ?_
                refine x_iald hx hb hE hW (Or.inl hka) (hca _) (by omega) (by decide) dX6_reckonRow_62 ?_
                refine x_rd hW (fun x5 ex5 rx5 => ?_)
                refine x_iload hx hb hl 4 rfl dX6_reckonRow_63 ?_
                have J83 : ∀ (t0_83 : Int) (H : Heap) (locs : List Loc) (ls : Array Slot), (xR t0_83) → xW D g h0 s H locs s_44 → lv_has ls 9 [(0, .ref (h0 + 3)), (1, .ref (h0 + ka)), (3, .int (xJ b)), (4, .int (xJ i4_35)), (5, .int (xJ i5_44))] → W p l e { frames := 1, cells := 0, slots := 0, locals := 23 } s m args below meth c H locs 0 0 Q (F0 m 83 ls [.int (xJ t0_83)]) := by
                  intro t0_83 H locs ls rt0_83 hW hl
                  refine lv_istore (lv' := [(7, .int (xJ t0_83)), (0, .ref (h0 + 3)), (1, .ref (h0 + ka)), (3, .int (xJ b)), (4, .int (xJ i4_35)), (5, .int (xJ i5_44))]) hx hb dX6_reckonRow_83 hl (by decide) rfl (fun ls hl => ?_)
                  refine x_iload hx hb hl 0 rfl dX6_reckonRow_85 ?_
                  refine x_if_lt (tgt := 141) hx hb rt0_83 dX6_reckonRow_87 (by decide) (fun c6 => ?_) (fun c6 => ?_)
                  · skip
                    refine x_iinc (lv' := [(5, .int (xJ (i5_44 + 1))), (7, .int (xJ t0_83)), (0, .ref (h0 + 3)), (1, .ref (h0 + ka)), (3, .int (xJ b)), (4, .int (xJ i4_35))]) hx hb hl 5 rfl dX6_reckonRow_141 (by decide) rfl (fun ls hl => ?_)
                    refine lv_goto (tgt := 44) hx hb dX6_reckonRow_144 (by decide) ?_
                    exact ih44 (i5_44 + 1) s_44 H locs ls (by omega) hF_44 q44_0 q44_1 (by omega) (by omega) hW (lv_sub hl [2, 3, 4, 5, 0] rfl)
                  refine x_iload hx hb hl 0 rfl dX6_reckonRow_90 ?_
                  refine x_aload_n hx hb hl 2 rfl dX6_reckonRow_92 rfl ?_
                  refine x_alen (n := 100) (t0 := 0) hx hb hE hW (Or.inl hka) (hca _) rfl rfl dX6_reckonRow_93 ?_
                  refine x_icmp_ge (tgt := 141) hx hb rt0_83 (by decide) dX6_reckonRow_94 (by decide) (fun c7 => ?_) (fun c7 => ?_)
                  · skip
                    refine x_iinc (lv' := [(5, .int (xJ (i5_44 + 1))), (7, .int (xJ t0_83)), (0, .ref (h0 + 3)), (1, .ref (h0 + ka)), (3, .int (xJ b)), (4, .int (xJ i4_35))]) hx hb hl 5 rfl dX6_reckonRow_141 (by decide) rfl (fun ls hl => ?_)
                    refine lv_goto (tgt := 44) hx hb dX6_reckonRow_144 (by decide) ?_
                    exact ih44 (i5_44 + 1) s_44 H locs ls (by omega) hF_44 q44_0 q44_1 (by omega) (by omega) hW (lv_sub hl [2, 3, 4, 5, 0] rfl)
                  refine x_aload_n hx hb hl 2 rfl dX6_reckonRow_97 rfl ?_
                  refine x_iload hx hb hl 0 rfl dX6_reckonRow_98 ?_
                  refine x_iald hx hb hE hW (Or.inl hka) (hca _) (by omega) (by decide) dX6_reckonRow_100 ?_
                  refine x_rd hW (fun x8 ex8 rx8 => ?_)
                  refine x_bipush hx hb dX6_reckonRow_101 (by decide) ?_
                  refine x_icmp_eq (tgt := 109) hx hb rx8 (by decide) dX6_reckonRow_103 (by decide) (fun c9 => ?_) (fun c9 => ?_)
                  · skip
                    refine x_aload_n hx hb hl 1 rfl dX6_reckonRow_109 rfl ?_
                    refine x_iload hx hb hl 0 rfl dX6_reckonRow_110 ?_
                    refine x_goi (x_runV (As := [.int (xJ t0_83)]) hx hb hml hown hT hE hW hl.1 (Or.inl (by decide)) (so_3 h0 g _) rfl cf_X6_kindAt wq619 wq10 wq617 (c_X6_kindAt l D g T h0 s_44 hW.2.1 t0_83 rt0_83 q44_0) ⟨rfl, rfl, ⟨by decide, by decide⟩, ⟨by decide, by decide⟩⟩ rfl rfl (Nat.le_of_ble_eq_true rfl) dX6_reckonRow_112) hW (fun x10 s11 H locs rx10 hp12 hW => ?_)
                    obtain ⟨es11, hp12⟩ := hp12
                    subst es11
                    have ghp12 := hp12
                    refine lv_istore (lv' := [(8, .int (xJ x10)), (7, .int (xJ t0_83)), (0, .ref (h0 + 3)), (1, .ref (h0 + ka)), (3, .int (xJ b)), (4, .int (xJ i4_35)), (5, .int (xJ i5_44))]) hx hb dX6_reckonRow_115 hl (by decide) rfl (fun ls hl => ?_)
                    refine x_iload hx hb hl 0 rfl dX6_reckonRow_117 ?_
                    refine x_iconst hx hb dX6_reckonRow_119 ?_
                    refine x_icmp_eq (tgt := 141) hx hb rx10 (by decide) dX6_reckonRow_120 (by decide) (fun c13 => ?_) (fun c13 => ?_)
                    · skip
                      refine x_iinc (lv' := [(5, .int (xJ (i5_44 + 1))), (8, .int (xJ x10)), (7, .int (xJ t0_83)), (0, .ref (h0 + 3)), (1, .ref (h0 + ka)), (3, .int (xJ b)), (4, .int (xJ i4_35))]) hx hb hl 6 rfl dX6_reckonRow_141 (by decide) rfl (fun ls hl => ?_)
                      refine lv_goto (tgt := 44) hx hb dX6_reckonRow_144 (by decide) ?_
                      exact ih44 (i5_44 + 1) s_44 H locs ls (by omega) hF_44 q44_0 q44_1 (by omega) (by omega) hW (lv_sub hl [3, 4, 5, 6, 0] rfl)
                    refine x_iload_n hx hb hl 4 rfl dX6_reckonRow_123 rfl ?_
                    refine x_if_eq (tgt := 133) hx hb rb dX6_reckonRow_124 (by decide) (fun c14 => ?_) (fun c14 => ?_)
                    · skip
                      refine x_aload_n hx hb hl 3 rfl dX6_reckonRow_133 rfl ?_
                      refine x_iload hx hb hl 1 rfl dX6_reckonRow_134 ?_
                      refine x_iload hx hb hl 5 rfl dX6_reckonRow_136 ?_
                      refine x_iconst hx hb dX6_reckonRow_138 ?_
                      refine x_iadd hx hb dX6_reckonRow_139 ?_
                      refine x_iast hx hb hE hW hka (fun σ => hca σ) (by omega) (by decide) (by omega) dX6_reckonRow_140 (fun H locs s15 es15 hW => ?_)
                      have q16 : IC s15 := by rw [es15]; exact IC_o hns q44_0
                      have q17 : s15 1 1 = s0 1 1 := (show s15 1 1 = s_44 1 1 from by rw [es15, xU_k _ _ _ (by omega)]).trans q44_1
                      have hF18 := hF_44.put es15 (by omega)
                      refine x_iinc (lv' := [(5, .int (xJ (i5_44 + 1))), (8, .int (xJ x10)), (7, .int (xJ t0_83)), (0, .ref (h0 + 3)), (1, .ref (h0 + ka)), (3, .int (xJ b)), (4, .int (xJ i4_35))]) hx hb hl 6 rfl dX6_reckonRow_141 (by decide) rfl (fun ls hl => ?_)
                      refine lv_goto (tgt := 44) hx hb dX6_reckonRow_144 (by decide) ?_
                      exact ih44 (i5_44 + 1) s15 H locs ls (by omega) hF18 q16 q17 (by omega) (by omega) hW (lv_sub hl [3, 4, 5, 6, 0] rfl)
                    refine x_iload hx hb hl 0 rfl dX6_reckonRow_127 ?_
                    refine x_iconst hx hb dX6_reckonRow_129 ?_
                    refine x_icmp_eq (tgt := 141) hx hb rx10 (by decide) dX6_reckonRow_130 (by decide) (fun c19 => ?_) (fun c19 => ?_)
                    · skip
                      refine x_iinc (lv' := [(5, .int (xJ (i5_44 + 1))), (8, .int (xJ x10)), (7, .int (xJ t0_83)), (0, .ref (h0 + 3)), (1, .ref (h0 + ka)), (3, .int (xJ b)), (4, .int (xJ i4_35))]) hx hb hl 6 rfl dX6_reckonRow_141 (by decide) rfl (fun ls hl => ?_)
                      refine lv_goto (tgt := 44) hx hb dX6_reckonRow_144 (by decide) ?_
                      exact ih44 (i5_44 + 1) s_44 H locs ls (by omega) hF_44 q44_0 q44_1 (by omega) (by omega) hW (lv_sub hl [3, 4, 5, 6, 0] rfl)
                    refine x_aload_n hx hb hl 3 rfl dX6_reckonRow_133 rfl ?_
                    refine x_iload hx hb hl 1 rfl dX6_reckonRow_134 ?_
                    refine x_iload hx hb hl 5 rfl dX6_reckonRow_136 ?_
                    refine x_iconst hx hb dX6_reckonRow_138 ?_
                    refine x_iadd hx hb dX6_reckonRow_139 ?_
                    refine x_iast hx hb hE hW hka (fun σ => hca σ) (by omega) (by decide) (by omega) dX6_reckonRow_140 (fun H locs s20 es20 hW => ?_)
                    have q21 : IC s20 := by rw [es20]; exact IC_o hns q44_0
                    have q22 : s20 1 1 = s0 1 1 := (show s20 1 1 = s_44 1 1 from by rw [es20, xU_k _ _ _ (by omega)]).trans q44_1
                    have hF23 := hF_44.put es20 (by omega)
                    refine x_iinc (lv' := [(5, .int (xJ (i5_44 + 1))), (8, .int (xJ x10)), (7, .int (xJ t0_83)), (0, .ref (h0 + 3)), (1, .ref (h0 + ka)), (3, .int (xJ b)), (4, .int (xJ i4_35))]) hx hb hl 6 rfl dX6_reckonRow_141 (by decide) rfl (fun ls hl => ?_)
                    refine lv_goto (tgt := 44) hx hb dX6_reckonRow_144 (by decide) ?_
                    exact ih44 (i5_44 + 1) s20 H locs ls (by omega) hF23 q21 q22 (by omega) (by omega) hW (lv_sub hl [3, 4, 5, 6, 0] rfl)
                  refine lv_goto (tgt := 141) hx hb dX6_reckonRow_106 (by decide) ?_
                  refine x_iinc (lv' := [(5, .int (xJ (i5_44 + 1))), (7, .int (xJ t0_83)), (0, .ref (h0 + 3)), (1, .ref (h0 + ka)), (3, .int (xJ b)), (4, .int (xJ i4_35))]) hx hb hl 5 rfl dX6_reckonRow_141 (by decide) rfl (fun ls hl => ?_)
                  refine lv_goto (tgt := 44) hx hb dX6_reckonRow_144 (by decide) ?_
                  exact ih44 (i5_44 + 1) s_44 H locs ls (by omega) hF_44 q44_0 q44_1 (by omega) (by omega) hW (lv_sub hl [2, 3, 4, 5, 0] rfl)
                refine x_icmp_ne (tgt := 82) hx hb rx5 ri4_35 dX6_reckonRow_65 (by decide) (fun c24 => ?_) (fun c24 => ?_)
                · skip
                  refine x_iconst hx hb dX6_reckonRow_82 ?_
                  exact J83 (-1) H locs ls (by decide) hW (lv_sub hl [1, 2, 3, 4, 5] rfl)
                refine x_iload hx hb hl 0 rfl dX6_reckonRow_68 ?_
                refine x_iconst hx hb dX6_reckonRow_70 ?_
                refine x_iload hx hb hl 5 rfl dX6_reckonRow_71 ?_
                refine x_iconst hx hb dX6_reckonRow_73 ?_
                refine x_irem hx hb ri5_44 (by decide) (by omega) (by decide) dX6_reckonRow_74 ?_
                refine x_imul hx hb dX6_reckonRow_75 ?_
                refine x_goi (x_runS (As := [.int (xJ x4), .int (xJ (2 * (i5_44 % 4)))]) hx hb hml hown hT hE hW hl.1 cf_X6_beside wq784 wq895 (c_X6_beside l D g T h0 s_44 hW.2.1 x4 (by omega) (2 * (i5_44 % 4)) (by omega)) ⟨rfl, rfl, ⟨by decide, by decide⟩, ⟨by decide, by decide⟩⟩ rfl rfl (Nat.le_of_ble_eq_true rfl) dX6_reckonRow_76) hW (fun x25 s26 H locs rx25 hp27 hW => ?_)
                obtain ⟨es26, hp27⟩ := hp27
                subst es26
                have ghp27 := hp27
                refine lv_goto (tgt := 83) hx hb dX6_reckonRow_79 (by decide) ?_
                exact J83 x25 H locs ls rx25 hW (lv_sub hl [1, 2, 3, 4, 5] rfl)
            exact L44 ((400 - 0 : Int).toNat + 1) 0 s_35 H locs ls (by decide) hF_35 q35_0 q35_1 (by omega) (Nat.lt_succ_self _) hW (lv_sub hl [1, 2, 3, 4, 0] rfl)
        exact L35 ((3 + 1 - 0 : Int).toNat + 1) 0 s_3 H locs ls (by decide) hF_3 q3_0 q3_1 (by omega) (by omega) (Nat.lt_succ_self _) hW (lv_sub hl [1, 2, 4, 0] rfl)
      refine x_aload_n hx hb hl 1 rfl dX6_reckonRow_10 rfl ?_
      refine x_iload hx hb hl 4 rfl dX6_reckonRow_11 ?_
      refine x_iload hx hb hl 4 rfl dX6_reckonRow_13 ?_
      refine x_iload_n hx hb hl 2 rfl dX6_reckonRow_15 rfl ?_
      refine x_icmp_ne (tgt := 23) hx hb ri4_3 ra dX6_reckonRow_16 (by decide) (fun c28 => ?_) (fun c28 => ?_)
      · skip
        refine x_bipush hx hb dX6_reckonRow_23 (by decide) ?_
        refine x_iast hx hb hE hW hka (fun σ => hca σ) (by omega) (by decide) (by decide) dX6_reckonRow_25 (fun H locs s29 es29 hW => ?_)
        have q30 : IC s29 := by rw [es29]; exact IC_o hns q3_0
        have q31 : s29 1 1 = s0 1 1 := (show s29 1 1 = s_3 1 1 from by rw [es29, xU_k _ _ _ (by omega)]).trans q3_1
        have hF32 := hF_3.put es29 (by omega)
        refine x_iinc (lv' := [(4, .int (xJ (i4_3 + 1))), (0, .ref (h0 + 3)), (1, .ref (h0 + ka)), (2, .int (xJ a)), (3, .int (xJ b))]) hx hb hl 4 rfl dX6_reckonRow_26 (by decide) rfl (fun ls hl => ?_)
        refine lv_goto (tgt := 3) hx hb dX6_reckonRow_29 (by decide) ?_
        exact ih3 (i4_3 + 1) s29 H locs ls (by omega) hF32 q30 q31 (by omega) (by omega) hW (lv_sub hl [1, 2, 3, 4, 0] rfl)
      refine x_iconst hx hb dX6_reckonRow_19 ?_
      refine lv_goto (tgt := 25) hx hb dX6_reckonRow_20 (by decide) ?_
      refine x_iast hx hb hE hW hka (fun σ => hca σ) (by omega) (by decide) (by decide) dX6_reckonRow_25 (fun H locs s33 es33 hW => ?_)
      have q34 : IC s33 := by rw [es33]; exact IC_o hns q3_0
      have q35 : s33 1 1 = s0 1 1 := (show s33 1 1 = s_3 1 1 from by rw [es33, xU_k _ _ _ (by omega)]).trans q3_1
      have hF36 := hF_3.put es33 (by omega)
      refine x_iinc (lv' := [(4, .int (xJ (i4_3 + 1))), (0, .ref (h0 + 3)), (1, .ref (h0 + ka)), (2, .int (xJ a)), (3, .int (xJ b))]) hx hb hl 4 rfl dX6_reckonRow_26 (by decide) rfl (fun ls hl => ?_)
      refine lv_goto (tgt := 3) hx hb dX6_reckonRow_29 (by decide) ?_
      exact ih3 (i4_3 + 1) s33 H locs ls (by omega) hF36 q34 q35 (by omega) (by omega) hW (lv_sub hl [1, 2, 3, 4, 0] rfl)
  exact L3 ((100 - 0 : Int).toNat + 1) 0 s0 H locs ls (by decide) hF p0 k1_1 (by omega) (Nat.lt_succ_self _) hW (lv_sub hl [1, 2, 3, 4, 0] rfl)
set_option maxHeartbeats 4000000 in
set_option maxRecDepth 100000 in
theorem c_X6_isDryWalk (l : Launch) (D : va_G) (g : xG) (T : Nat × Nat × Nat) (h0 : Nat) (s0 : xS) (hσ : xRR s0) (a : Int) (ra : xR a) (b : Int) (rb : xR b) (p0 : IC s0) : Met l yX6_isDryWalk (xws yX6_isDryWalk cX6_isDryWalk 3 (some .boolean)) { frames := 2, cells := 0, slots := 0, locals := 51 } (xP [.ref (h0 + 3), .int (xJ a), .int (xJ b)] D g T h0 s0) (xQi D g h0 (fun r τ => xFr (fun k => k = 108) s0 τ ∧ (((IC τ) ∧ True) ∧ (r = 0 ∨ r = 1)))) 0 0 (xA h0) := by
  refine x_met hσ (by decide) (Nat.le_of_ble_eq_true rfl) ?_
  intro p e s m args below meth c hx hb hr hml hown hT hlk hnm hE hW ls hl
  have hl : lv_has ls 3 [(0, .ref (h0 + 3)), (1, .int (xJ a)), (2, .int (xJ b))] := hl
  obtain ⟨Q, eQ⟩ : ∃ Q, Q = MQ below (xQi D g h0 (fun r τ => xFr (fun k => k = 108) s0 τ ∧ (((IC τ) ∧ True) ∧ (r = 0 ∨ r = 1)))) args s 0 0 (xA h0) := ⟨_, rfl⟩
  rw [← eQ]
  generalize hHe : ([] : List Loc) = locs at hW ⊢
  obtain ⟨H, eH⟩ : ∃ H, H = s.heap := ⟨_, rfl⟩
  rw [← eH] at hW ⊢
  have hF : xFr (fun k => k = 108) s0 s0 := xFr.rf
  have k1_1 : s0 1 1 = s0 1 1 := rfl
  refine x_aload_n hx hb hl 0 rfl dX6_isDryWalk_0 rfl ?_
  refine x_aload_n hx hb hl 0 rfl dX6_isDryWalk_1 rfl ?_
  refine x_get (j := 4) (v := .ref (h0 + 108)) hx hb hown hT hE hW cls_X6 (Or.inl (by decide)) (so_3 h0 g _) (by decide) rfl wq230 dX6_isDryWalk_2 ?_
  refine x_iload_n hx hb hl 1 rfl dX6_isDryWalk_5 rfl ?_
  refine x_iconst hx hb dX6_isDryWalk_6 ?_
  refine x_gov (x_runV (As := [.ref (h0 + 108), .int (xJ a), .int (xJ 1)]) hx hb hml hown hT hE hW hl.1 (Or.inl (by decide)) (so_3 h0 g _) rfl cf_X6_reckonRow wq893 wq60 wq891 (c_X6_reckonRow l D g T h0 s0 hW.2.1 108 (by decide) (by decide) (fun σ => sa_108 h0 g σ) a ra 1 (by decide) p0) ⟨rfl, rfl, ⟨by decide, by decide⟩, ⟨by decide, by decide⟩⟩ rfl rfl (Nat.le_of_ble_eq_true rfl) dX6_isDryWalk_7) hW (fun s2 H locs hp3 hW => ?_)
  obtain ⟨fs2, hp3⟩ := hp3
  have hF4 := hF.call fs2 (fun k h => by omega)
  have q5 : s2 1 1 = s0 1 1 := (congrFun (fs2 _ (by omega)) _).trans k1_1
  have ghp3 := hp3.2
  refine x_iload_n hx hb hl 2 rfl dX6_isDryWalk_10 rfl ?_
  refine x_goi (x_runS (As := [.int (xJ b)]) hx hb hml hown hT hE hW hl.1 cf_X6_isSpot wq831 wq890 (c_X6_isSpot l D g T h0 s2 hW.2.1 b rb) ⟨rfl, rfl, ⟨by decide, by decide⟩, ⟨by decide, by decide⟩⟩ rfl rfl (Nat.le_of_ble_eq_true rfl) dX6_isDryWalk_11) hW (fun x6 s7 H locs rx6 hp8 hW => ?_)
  obtain ⟨es7, hp8⟩ := hp8
  subst es7
  have ghp8 := hp8
  refine x_if_eq (tgt := 32) hx hb rx6 dX6_isDryWalk_14 (by decide) (fun c9 => ?_) (fun c9 => ?_)
  · skip
    refine x_iconst hx hb dX6_isDryWalk_32 ?_
    rw [eQ]
    exact x_zret hx hb hr hlk hW (by omega) ⟨hF4, ⟨hp3.1.1, trivial⟩, by omega⟩ dX6_isDryWalk_33
  refine x_aload_n hx hb hl 0 rfl dX6_isDryWalk_17 rfl ?_
  refine x_get (j := 4) (v := .ref (h0 + 108)) hx hb hown hT hE hW cls_X6 (Or.inl (by decide)) (so_3 h0 g _) (by decide) rfl wq230 dX6_isDryWalk_18 ?_
  refine x_iload_n hx hb hl 2 rfl dX6_isDryWalk_21 rfl ?_
  refine x_iald hx hb hE hW (Or.inl (by decide)) (sa_108 h0 g _) (by omega) (by decide) dX6_isDryWalk_22 ?_
  refine x_rd hW (fun x10 ex10 rx10 => ?_)
  refine x_bipush hx hb dX6_isDryWalk_23 (by decide) ?_
  refine x_icmp_ge (tgt := 32) hx hb rx10 (by decide) dX6_isDryWalk_25 (by decide) (fun c11 => ?_) (fun c11 => ?_)
  · skip
    refine x_iconst hx hb dX6_isDryWalk_32 ?_
    rw [eQ]
    exact x_zret hx hb hr hlk hW (by omega) ⟨hF4, ⟨hp3.1.1, trivial⟩, by omega⟩ dX6_isDryWalk_33
  refine x_iconst hx hb dX6_isDryWalk_28 ?_
  refine lv_goto (tgt := 33) hx hb dX6_isDryWalk_29 (by decide) ?_
  rw [eQ]
  exact x_zret hx hb hr hlk hW (by omega) ⟨hF4, ⟨hp3.1.1, trivial⟩, by omega⟩ dX6_isDryWalk_33

theorem cls_X8 : xCls RX8 TX8 5 8 tyX8 := ⟨xin [206, 208, 210, 212, 214] (by decide +kernel) (by decide +kernel), rfl, tyX8_ok, nmX8⟩
theorem st_X8_1 (h0 : Nat) (σ : xS) (k : Nat) (a : Int) : xobj h0 (xU σ k 1 a) k 8 = (xobj h0 σ k 8).set 1 (.int (xJ a)) := by simp [xobj, xU]
theorem ln_X8_1 (h0 : Nat) (σ : xS) (k : Nat) : 1 < (xobj h0 σ k 8).length := by simp [xobj]
theorem st_X8_2 (h0 : Nat) (σ : xS) (k : Nat) (a : Int) : xobj h0 (xU σ k 2 a) k 8 = (xobj h0 σ k 8).set 2 (.int (xJ a)) := by simp [xobj, xU]
theorem ln_X8_2 (h0 : Nat) (σ : xS) (k : Nat) : 2 < (xobj h0 σ k 8).length := by simp [xobj]
theorem st_X8_3 (h0 : Nat) (σ : xS) (k : Nat) (a : Int) : xobj h0 (xU σ k 3 a) k 8 = (xobj h0 σ k 8).set 3 (.int (xJ a)) := by simp [xobj, xU]
theorem ln_X8_3 (h0 : Nat) (σ : xS) (k : Nat) : 3 < (xobj h0 σ k 8).length := by simp [xobj]
theorem st_X8_4 (h0 : Nat) (σ : xS) (k : Nat) (a : Int) : xobj h0 (xU σ k 4 a) k 8 = (xobj h0 σ k 8).set 4 (.int (xJ a)) := by simp [xobj, xU]
theorem ln_X8_4 (h0 : Nat) (σ : xS) (k : Nat) : 4 < (xobj h0 σ k 8).length := by simp [xobj]
theorem cf_X8_byteAt : xCF yX8_byteAt cX8_byteAt 2 (some .int) 1 := ⟨xq 1085 (by decide +kernel) rfl, xq 169 (by decide +kernel) rfl, by decide +kernel⟩
theorem cf_X8_fails : xCF yX8_fails cX8_fails 3 (some .boolean) 2 := ⟨xq 589 (by decide +kernel) rfl, xq 169 (by decide +kernel) rfl, by decide +kernel⟩
theorem cf_X8_sign : xCF yX8_sign cX8_sign 1 (some .int) 0 := ⟨xq 582 (by decide +kernel) rfl, xq 169 (by decide +kernel) rfl, by decide +kernel⟩
theorem wq4 : Cond.selects yX8_sign.cls yX8_sign yX8_sign ∈ xTB := xq 4 (by decide +kernel) rfl
theorem wq5 : Cond.selects yX8_fails.cls yX8_fails yX8_fails ∈ xTB := xq 5 (by decide +kernel) rfl
theorem wq90 : Cond.selects yX8_byteAt.cls yX8_byteAt yX8_byteAt ∈ xTB := xq 90 (by decide +kernel) rfl
theorem wq180 : Cond.initialized "java/lang/Math" ∈ xTB := xq 180 (by decide +kernel) rfl
theorem wq196 : Cond.fieldLink "ShadowCourt$Tape" (11) "ShadowCourt$Tape" "bytes" "[I" ∈ xTB := xq 196 (by decide +kernel) rfl
theorem wq197 : Cond.fieldLink "ShadowCourt$Tape" (15) "ShadowCourt$Tape" "length" "I" ∈ xTB := xq 197 (by decide +kernel) rfl
theorem wq199 : Cond.fieldLink "ShadowCourt$Tape" (19) "ShadowCourt$Tape" "end" "I" ∈ xTB := xq 199 (by decide +kernel) rfl
theorem wq200 : Cond.fieldLink "ShadowCourt$Tape" (22) "ShadowCourt$Tape" "at" "I" ∈ xTB := xq 200 (by decide +kernel) rfl
theorem wq204 : Cond.fieldLink "ShadowCourt$Tape" (25) "ShadowCourt$Tape" "fault" "I" ∈ xTB := xq 204 (by decide +kernel) rfl
theorem wq568 : Cond.methodLink "ShadowCourt$Tape" (32) (⟨"java/lang/Math", "min", "(II)I"⟩ : MethodName) ∈ xTB := xq 568 (by decide +kernel) rfl
theorem wq569 : Cond.static (⟨"java/lang/Math", "min", "(II)I"⟩ : MethodName) ∈ xTB := xq 569 (by decide +kernel) rfl
theorem wq570 : Cond.code (⟨"java/lang/Math", "min", "(II)I"⟩ : MethodName) prog_14_method_69_code (2) (Option.some FieldType.int) ∈ xTB := xq 570 (by decide +kernel) rfl
theorem wq581 : Cond.instanceMethod yX8_sign ∈ xTB := xq 581 (by decide +kernel) rfl
theorem wq588 : Cond.instanceMethod yX8_fails ∈ xTB := xq 588 (by decide +kernel) rfl
theorem wq600 : Cond.methodLink "ShadowCourt$Tape" (38) yX8_sign ∈ xTB := xq 600 (by decide +kernel) rfl
theorem wq601 : Cond.methodLink "ShadowCourt$Tape" (42) yX8_fails ∈ xTB := xq 601 (by decide +kernel) rfl
theorem wq1084 : Cond.instanceMethod yX8_byteAt ∈ xTB := xq 1084 (by decide +kernel) rfl
theorem wq1171 : Cond.methodLink "ShadowCourt$Tape" (28) yX8_byteAt ∈ xTB := xq 1171 (by decide +kernel) rfl
theorem dX8_byteAt_0 : decode cX8_byteAt 0 = .ok (.iload_n 1, 1) := by decide +kernel
theorem dX8_byteAt_1 : decode cX8_byteAt 1 = .ok (.ifCond .lt 20, 3) := by decide +kernel
theorem dX8_byteAt_4 : decode cX8_byteAt 4 = .ok (.iload_n 1, 1) := by decide +kernel
theorem dX8_byteAt_5 : decode cX8_byteAt 5 = .ok (.aload_n 0, 1) := by decide +kernel
theorem dX8_byteAt_6 : decode cX8_byteAt 6 = .ok (.getfield 15, 3) := by decide +kernel
theorem dX8_byteAt_9 : decode cX8_byteAt 9 = .ok (.if_icmp .ge 12, 3) := by decide +kernel
theorem dX8_byteAt_12 : decode cX8_byteAt 12 = .ok (.aload_n 0, 1) := by decide +kernel
theorem dX8_byteAt_13 : decode cX8_byteAt 13 = .ok (.getfield 11, 3) := by decide +kernel
theorem dX8_byteAt_16 : decode cX8_byteAt 16 = .ok (.iload_n 1, 1) := by decide +kernel
theorem dX8_byteAt_17 : decode cX8_byteAt 17 = .ok (.iaload, 1) := by decide +kernel
theorem dX8_byteAt_18 : decode cX8_byteAt 18 = .ok (.goto 4, 3) := by decide +kernel
theorem dX8_byteAt_21 : decode cX8_byteAt 21 = .ok (.iconst (-1), 1) := by decide +kernel
theorem dX8_byteAt_22 : decode cX8_byteAt 22 = .ok (.ireturn, 1) := by decide +kernel
theorem dX8_drop_0 : decode cX8_drop 0 = .ok (.aload_n 0, 1) := by decide +kernel
theorem dX8_drop_1 : decode cX8_drop 1 = .ok (.iconst 0, 1) := by decide +kernel
theorem dX8_drop_2 : decode cX8_drop 2 = .ok (.putfield 15, 3) := by decide +kernel
theorem dX8_drop_5 : decode cX8_drop 5 = .ok (.return_, 1) := by decide +kernel
theorem dX8_fails_0 : decode cX8_fails 0 = .ok (.aload_n 0, 1) := by decide +kernel
theorem dX8_fails_1 : decode cX8_fails 1 = .ok (.sipush (-1000), 3) := by decide +kernel
theorem dX8_fails_4 : decode cX8_fails 4 = .ok (.iload_n 1, 1) := by decide +kernel
theorem dX8_fails_5 : decode cX8_fails 5 = .ok (.imul, 1) := by decide +kernel
theorem dX8_fails_6 : decode cX8_fails 6 = .ok (.iload_n 2, 1) := by decide +kernel
theorem dX8_fails_7 : decode cX8_fails 7 = .ok (.isub, 1) := by decide +kernel
theorem dX8_fails_8 : decode cX8_fails 8 = .ok (.putfield 25, 3) := by decide +kernel
theorem dX8_fails_11 : decode cX8_fails 11 = .ok (.iconst 0, 1) := by decide +kernel
theorem dX8_fails_12 : decode cX8_fails 12 = .ok (.ireturn, 1) := by decide +kernel
theorem dX8_isDigit_0 : decode cX8_isDigit 0 = .ok (.aload_n 0, 1) := by decide +kernel
theorem dX8_isDigit_1 : decode cX8_isDigit 1 = .ok (.invokevirtual 38, 3) := by decide +kernel
theorem dX8_isDigit_4 : decode cX8_isDigit 4 = .ok (.bipush 48, 2) := by decide +kernel
theorem dX8_isDigit_6 : decode cX8_isDigit 6 = .ok (.if_icmp .lt 16, 3) := by decide +kernel
theorem dX8_isDigit_9 : decode cX8_isDigit 9 = .ok (.aload_n 0, 1) := by decide +kernel
theorem dX8_isDigit_10 : decode cX8_isDigit 10 = .ok (.invokevirtual 38, 3) := by decide +kernel
theorem dX8_isDigit_13 : decode cX8_isDigit 13 = .ok (.bipush 57, 2) := by decide +kernel
theorem dX8_isDigit_15 : decode cX8_isDigit 15 = .ok (.if_icmp .gt 7, 3) := by decide +kernel
theorem dX8_isDigit_18 : decode cX8_isDigit 18 = .ok (.iconst 1, 1) := by decide +kernel
theorem dX8_isDigit_19 : decode cX8_isDigit 19 = .ok (.goto 4, 3) := by decide +kernel
theorem dX8_isDigit_22 : decode cX8_isDigit 22 = .ok (.iconst 0, 1) := by decide +kernel
theorem dX8_isDigit_23 : decode cX8_isDigit 23 = .ok (.ireturn, 1) := by decide +kernel
theorem dX8_numberAt_0 : decode cX8_numberAt 0 = .ok (.iconst 0, 1) := by decide +kernel
theorem dX8_numberAt_1 : decode cX8_numberAt 1 = .ok (.istore_n 2, 1) := by decide +kernel
theorem dX8_numberAt_2 : decode cX8_numberAt 2 = .ok (.iconst 0, 1) := by decide +kernel
theorem dX8_numberAt_3 : decode cX8_numberAt 3 = .ok (.istore_n 3, 1) := by decide +kernel
theorem dX8_numberAt_4 : decode cX8_numberAt 4 = .ok (.iload_n 3, 1) := by decide +kernel
theorem dX8_numberAt_5 : decode cX8_numberAt 5 = .ok (.iconst 4, 1) := by decide +kernel
theorem dX8_numberAt_6 : decode cX8_numberAt 6 = .ok (.if_icmp .ge 26, 3) := by decide +kernel
theorem dX8_numberAt_9 : decode cX8_numberAt 9 = .ok (.iload_n 2, 1) := by decide +kernel
theorem dX8_numberAt_10 : decode cX8_numberAt 10 = .ok (.bipush 8, 2) := by decide +kernel
theorem dX8_numberAt_12 : decode cX8_numberAt 12 = .ok (.ishl, 1) := by decide +kernel
theorem dX8_numberAt_13 : decode cX8_numberAt 13 = .ok (.aload_n 0, 1) := by decide +kernel
theorem dX8_numberAt_14 : decode cX8_numberAt 14 = .ok (.iload_n 1, 1) := by decide +kernel
theorem dX8_numberAt_15 : decode cX8_numberAt 15 = .ok (.iload_n 3, 1) := by decide +kernel
theorem dX8_numberAt_16 : decode cX8_numberAt 16 = .ok (.iadd, 1) := by decide +kernel
theorem dX8_numberAt_17 : decode cX8_numberAt 17 = .ok (.invokevirtual 28, 3) := by decide +kernel
theorem dX8_numberAt_20 : decode cX8_numberAt 20 = .ok (.sipush 255, 3) := by decide +kernel
theorem dX8_numberAt_23 : decode cX8_numberAt 23 = .ok (.iand, 1) := by decide +kernel
theorem dX8_numberAt_24 : decode cX8_numberAt 24 = .ok (.ior, 1) := by decide +kernel
theorem dX8_numberAt_25 : decode cX8_numberAt 25 = .ok (.istore_n 2, 1) := by decide +kernel
theorem dX8_numberAt_26 : decode cX8_numberAt 26 = .ok (.iinc 3 1, 3) := by decide +kernel
theorem dX8_numberAt_29 : decode cX8_numberAt 29 = .ok (.goto (-25), 3) := by decide +kernel
theorem dX8_numberAt_32 : decode cX8_numberAt 32 = .ok (.iload_n 2, 1) := by decide +kernel
theorem dX8_numberAt_33 : decode cX8_numberAt 33 = .ok (.ireturn, 1) := by decide +kernel
theorem dX8_open_0 : decode cX8_open 0 = .ok (.aload_n 0, 1) := by decide +kernel
theorem dX8_open_1 : decode cX8_open 1 = .ok (.iload_n 1, 1) := by decide +kernel
theorem dX8_open_2 : decode cX8_open 2 = .ok (.aload_n 0, 1) := by decide +kernel
theorem dX8_open_3 : decode cX8_open 3 = .ok (.getfield 15, 3) := by decide +kernel
theorem dX8_open_6 : decode cX8_open 6 = .ok (.invokestatic 32, 3) := by decide +kernel
theorem dX8_open_9 : decode cX8_open 9 = .ok (.putfield 19, 3) := by decide +kernel
theorem dX8_open_12 : decode cX8_open 12 = .ok (.aload_n 0, 1) := by decide +kernel
theorem dX8_open_13 : decode cX8_open 13 = .ok (.iconst 0, 1) := by decide +kernel
theorem dX8_open_14 : decode cX8_open 14 = .ok (.putfield 22, 3) := by decide +kernel
theorem dX8_open_17 : decode cX8_open 17 = .ok (.aload_n 0, 1) := by decide +kernel
theorem dX8_open_18 : decode cX8_open 18 = .ok (.iconst 0, 1) := by decide +kernel
theorem dX8_open_19 : decode cX8_open 19 = .ok (.putfield 25, 3) := by decide +kernel
theorem dX8_open_22 : decode cX8_open 22 = .ok (.return_, 1) := by decide +kernel
theorem dX8_passes_0 : decode cX8_passes 0 = .ok (.aload_n 0, 1) := by decide +kernel
theorem dX8_passes_1 : decode cX8_passes 1 = .ok (.invokevirtual 38, 3) := by decide +kernel
theorem dX8_passes_4 : decode cX8_passes 4 = .ok (.iload_n 1, 1) := by decide +kernel
theorem dX8_passes_5 : decode cX8_passes 5 = .ok (.if_icmp .eq 13, 3) := by decide +kernel
theorem dX8_passes_8 : decode cX8_passes 8 = .ok (.aload_n 0, 1) := by decide +kernel
theorem dX8_passes_9 : decode cX8_passes 9 = .ok (.iconst 1, 1) := by decide +kernel
theorem dX8_passes_10 : decode cX8_passes 10 = .ok (.aload_n 0, 1) := by decide +kernel
theorem dX8_passes_11 : decode cX8_passes 11 = .ok (.getfield 22, 3) := by decide +kernel
theorem dX8_passes_14 : decode cX8_passes 14 = .ok (.invokevirtual 42, 3) := by decide +kernel
theorem dX8_passes_17 : decode cX8_passes 17 = .ok (.ireturn, 1) := by decide +kernel
theorem dX8_passes_18 : decode cX8_passes 18 = .ok (.aload_n 0, 1) := by decide +kernel
theorem dX8_passes_19 : decode cX8_passes 19 = .ok (.dup, 1) := by decide +kernel
theorem dX8_passes_20 : decode cX8_passes 20 = .ok (.getfield 22, 3) := by decide +kernel
theorem dX8_passes_23 : decode cX8_passes 23 = .ok (.iconst 1, 1) := by decide +kernel
theorem dX8_passes_24 : decode cX8_passes 24 = .ok (.iadd, 1) := by decide +kernel
theorem dX8_passes_25 : decode cX8_passes 25 = .ok (.putfield 22, 3) := by decide +kernel
theorem dX8_passes_28 : decode cX8_passes 28 = .ok (.iconst 1, 1) := by decide +kernel
theorem dX8_passes_29 : decode cX8_passes 29 = .ok (.ireturn, 1) := by decide +kernel
theorem dX8_putNumber_0 : decode cX8_putNumber 0 = .ok (.bipush 24, 2) := by decide +kernel
theorem dX8_putNumber_2 : decode cX8_putNumber 2 = .ok (.istore_n 2, 1) := by decide +kernel
theorem dX8_putNumber_3 : decode cX8_putNumber 3 = .ok (.iload_n 2, 1) := by decide +kernel
theorem dX8_putNumber_4 : decode cX8_putNumber 4 = .ok (.ifCond .lt 52, 3) := by decide +kernel
theorem dX8_putNumber_7 : decode cX8_putNumber 7 = .ok (.aload_n 0, 1) := by decide +kernel
theorem dX8_putNumber_8 : decode cX8_putNumber 8 = .ok (.getfield 15, 3) := by decide +kernel
theorem dX8_putNumber_11 : decode cX8_putNumber 11 = .ok (.ifCond .lt 39, 3) := by decide +kernel
theorem dX8_putNumber_14 : decode cX8_putNumber 14 = .ok (.aload_n 0, 1) := by decide +kernel
theorem dX8_putNumber_15 : decode cX8_putNumber 15 = .ok (.getfield 15, 3) := by decide +kernel
theorem dX8_putNumber_18 : decode cX8_putNumber 18 = .ok (.sipush 260, 3) := by decide +kernel
theorem dX8_putNumber_21 : decode cX8_putNumber 21 = .ok (.if_icmp .ge 29, 3) := by decide +kernel
theorem dX8_putNumber_24 : decode cX8_putNumber 24 = .ok (.aload_n 0, 1) := by decide +kernel
theorem dX8_putNumber_25 : decode cX8_putNumber 25 = .ok (.getfield 11, 3) := by decide +kernel
theorem dX8_putNumber_28 : decode cX8_putNumber 28 = .ok (.aload_n 0, 1) := by decide +kernel
theorem dX8_putNumber_29 : decode cX8_putNumber 29 = .ok (.getfield 15, 3) := by decide +kernel
theorem dX8_putNumber_32 : decode cX8_putNumber 32 = .ok (.iload_n 1, 1) := by decide +kernel
theorem dX8_putNumber_33 : decode cX8_putNumber 33 = .ok (.iload_n 2, 1) := by decide +kernel
theorem dX8_putNumber_34 : decode cX8_putNumber 34 = .ok (.ishr, 1) := by decide +kernel
theorem dX8_putNumber_35 : decode cX8_putNumber 35 = .ok (.sipush 255, 3) := by decide +kernel
theorem dX8_putNumber_38 : decode cX8_putNumber 38 = .ok (.iand, 1) := by decide +kernel
theorem dX8_putNumber_39 : decode cX8_putNumber 39 = .ok (.iastore, 1) := by decide +kernel
theorem dX8_putNumber_40 : decode cX8_putNumber 40 = .ok (.aload_n 0, 1) := by decide +kernel
theorem dX8_putNumber_41 : decode cX8_putNumber 41 = .ok (.dup, 1) := by decide +kernel
theorem dX8_putNumber_42 : decode cX8_putNumber 42 = .ok (.getfield 15, 3) := by decide +kernel
theorem dX8_putNumber_45 : decode cX8_putNumber 45 = .ok (.iconst 1, 1) := by decide +kernel
theorem dX8_putNumber_46 : decode cX8_putNumber 46 = .ok (.iadd, 1) := by decide +kernel
theorem dX8_putNumber_47 : decode cX8_putNumber 47 = .ok (.putfield 15, 3) := by decide +kernel
theorem dX8_putNumber_50 : decode cX8_putNumber 50 = .ok (.iinc 2 (-8), 3) := by decide +kernel
theorem dX8_putNumber_53 : decode cX8_putNumber 53 = .ok (.goto (-50), 3) := by decide +kernel
theorem dX8_putNumber_56 : decode cX8_putNumber 56 = .ok (.return_, 1) := by decide +kernel
theorem dX8_sign_0 : decode cX8_sign 0 = .ok (.aload_n 0, 1) := by decide +kernel
theorem dX8_sign_1 : decode cX8_sign 1 = .ok (.getfield 22, 3) := by decide +kernel
theorem dX8_sign_4 : decode cX8_sign 4 = .ok (.ifCond .lt 36, 3) := by decide +kernel
theorem dX8_sign_7 : decode cX8_sign 7 = .ok (.aload_n 0, 1) := by decide +kernel
theorem dX8_sign_8 : decode cX8_sign 8 = .ok (.getfield 22, 3) := by decide +kernel
theorem dX8_sign_11 : decode cX8_sign 11 = .ok (.aload_n 0, 1) := by decide +kernel
theorem dX8_sign_12 : decode cX8_sign 12 = .ok (.getfield 19, 3) := by decide +kernel
theorem dX8_sign_15 : decode cX8_sign 15 = .ok (.if_icmp .ge 25, 3) := by decide +kernel
theorem dX8_sign_18 : decode cX8_sign 18 = .ok (.aload_n 0, 1) := by decide +kernel
theorem dX8_sign_19 : decode cX8_sign 19 = .ok (.getfield 22, 3) := by decide +kernel
theorem dX8_sign_22 : decode cX8_sign 22 = .ok (.sipush 260, 3) := by decide +kernel
theorem dX8_sign_25 : decode cX8_sign 25 = .ok (.if_icmp .ge 15, 3) := by decide +kernel
theorem dX8_sign_28 : decode cX8_sign 28 = .ok (.aload_n 0, 1) := by decide +kernel
theorem dX8_sign_29 : decode cX8_sign 29 = .ok (.getfield 11, 3) := by decide +kernel
theorem dX8_sign_32 : decode cX8_sign 32 = .ok (.aload_n 0, 1) := by decide +kernel
theorem dX8_sign_33 : decode cX8_sign 33 = .ok (.getfield 22, 3) := by decide +kernel
theorem dX8_sign_36 : decode cX8_sign 36 = .ok (.iaload, 1) := by decide +kernel
theorem dX8_sign_37 : decode cX8_sign 37 = .ok (.goto 4, 3) := by decide +kernel
theorem dX8_sign_40 : decode cX8_sign 40 = .ok (.iconst (-1), 1) := by decide +kernel
theorem dX8_sign_41 : decode cX8_sign 41 = .ok (.ireturn, 1) := by decide +kernel


set_option maxHeartbeats 4000000 in
set_option maxRecDepth 100000 in
theorem c_X8_sign (l : Launch) (D : va_G) (g : xG) (T : Nat × Nat × Nat) (h0 : Nat) (s0 : xS) (hσ : xRR s0) (p0 : IC s0) : Met l yX8_sign (xws yX8_sign cX8_sign 1 (some .int)) { frames := 0, cells := 0, slots := 0, locals := 0 } (xP [.ref (h0 + 1)] D g T h0 s0) (xQi D g h0 (fun r τ => s0 = τ ∧ ((0 ≤ s0 1 3 ∧ s0 1 3 < s0 1 2 ∧ s0 1 3 < 260 ∧ r = s0 2 (s0 1 3)) ∨ (r = -1 ∧ (s0 1 3 < 0 ∨ s0 1 2 ≤ s0 1 3 ∨ 260 ≤ s0 1 3))))) 0 0 (xA h0) := by
  refine x_met hσ (by decide) (Nat.le_of_ble_eq_true rfl) ?_
  intro p e s m args below meth c hx hb hr hml hown hT hlk hnm hE hW ls hl
  have hl : lv_has ls 1 [(0, .ref (h0 + 1))] := hl
  obtain ⟨Q, eQ⟩ : ∃ Q, Q = MQ below (xQi D g h0 (fun r τ => s0 = τ ∧ ((0 ≤ s0 1 3 ∧ s0 1 3 < s0 1 2 ∧ s0 1 3 < 260 ∧ r = s0 2 (s0 1 3)) ∨ (r = -1 ∧ (s0 1 3 < 0 ∨ s0 1 2 ≤ s0 1 3 ∨ 260 ≤ s0 1 3))))) args s 0 0 (xA h0) := ⟨_, rfl⟩
  rw [← eQ]
  generalize hHe : ([] : List Loc) = locs at hW ⊢
  obtain ⟨H, eH⟩ : ∃ H, H = s.heap := ⟨_, rfl⟩
  rw [← eH] at hW ⊢
  have k1_1 : s0 1 1 = s0 1 1 := rfl
  refine x_aload_n hx hb hl 0 rfl dX8_sign_0 rfl ?_
  refine x_get (j := 3) (v := .int (xJ (s0 1 3))) hx hb hown hT hE hW cls_X8 (Or.inl (by decide)) (so_1 h0 g _) (by decide) rfl wq200 dX8_sign_1 ?_
  refine x_rd hW (fun x1 ex1 rx1 => ?_)
  refine x_if_lt (tgt := 40) hx hb rx1 dX8_sign_4 (by decide) (fun c2 => ?_) (fun c2 => ?_)
  · skip
    refine x_iconst hx hb dX8_sign_40 ?_
    rw [eQ]
    exact x_iret hx hb hr hlk hW (by decide) ⟨rfl, by omega⟩ dX8_sign_41
  refine x_aload_n hx hb hl 0 rfl dX8_sign_7 rfl ?_
  refine x_get (j := 3) (v := .int (xJ (s0 1 3))) hx hb hown hT hE hW cls_X8 (Or.inl (by decide)) (so_1 h0 g _) (by decide) rfl wq200 dX8_sign_8 ?_
  refine x_rd hW (fun x3 ex3 rx3 => ?_)
  refine x_aload_n hx hb hl 0 rfl dX8_sign_11 rfl ?_
  refine x_get (j := 2) (v := .int (xJ (s0 1 2))) hx hb hown hT hE hW cls_X8 (Or.inl (by decide)) (so_1 h0 g _) (by decide) rfl wq199 dX8_sign_12 ?_
  refine x_rd hW (fun x4 ex4 rx4 => ?_)
  refine x_icmp_ge (tgt := 40) hx hb rx3 rx4 dX8_sign_15 (by decide) (fun c5 => ?_) (fun c5 => ?_)
  · skip
    refine x_iconst hx hb dX8_sign_40 ?_
    rw [eQ]
    exact x_iret hx hb hr hlk hW (by decide) ⟨rfl, by omega⟩ dX8_sign_41
  refine x_aload_n hx hb hl 0 rfl dX8_sign_18 rfl ?_
  refine x_get (j := 3) (v := .int (xJ (s0 1 3))) hx hb hown hT hE hW cls_X8 (Or.inl (by decide)) (so_1 h0 g _) (by decide) rfl wq200 dX8_sign_19 ?_
  refine x_rd hW (fun x6 ex6 rx6 => ?_)
  refine x_sipush hx hb dX8_sign_22 (by decide) ?_
  refine x_icmp_ge (tgt := 40) hx hb rx6 (by decide) dX8_sign_25 (by decide) (fun c7 => ?_) (fun c7 => ?_)
  · skip
    refine x_iconst hx hb dX8_sign_40 ?_
    rw [eQ]
    exact x_iret hx hb hr hlk hW (by decide) ⟨rfl, by omega⟩ dX8_sign_41
  refine x_aload_n hx hb hl 0 rfl dX8_sign_28 rfl ?_
  refine x_get (j := 0) (v := .ref (h0 + 2)) hx hb hown hT hE hW cls_X8 (Or.inl (by decide)) (so_1 h0 g _) (by decide) rfl wq196 dX8_sign_29 ?_
  refine x_aload_n hx hb hl 0 rfl dX8_sign_32 rfl ?_
  refine x_get (j := 3) (v := .int (xJ (s0 1 3))) hx hb hown hT hE hW cls_X8 (Or.inl (by decide)) (so_1 h0 g _) (by decide) rfl wq200 dX8_sign_33 ?_
  refine x_rd hW (fun x8 ex8 rx8 => ?_)
  refine x_iald hx hb hE hW (Or.inl (by decide)) (sa_2 h0 g _) (by omega) (by decide) dX8_sign_36 ?_
  refine x_rd hW (fun x9 ex9 rx9 => ?_)
  have bx9 : 0 ≤ x9 ∧ x9 ≤ 255 := by rw [ex9]; exact IC.by_ p0 _ (by omega) (by omega)
  have zx9 : s0 2 x8 = s0 2 (s0 1 3) := congrArg (s0 2) ex8
  refine lv_goto (tgt := 41) hx hb dX8_sign_37 (by decide) ?_
  rw [eQ]
  exact x_iret hx hb hr hlk hW rx9 ⟨rfl, by omega⟩ dX8_sign_41
set_option maxHeartbeats 4000000 in
set_option maxRecDepth 100000 in
theorem c_X8_byteAt (l : Launch) (D : va_G) (g : xG) (T : Nat × Nat × Nat) (h0 : Nat) (s0 : xS) (hσ : xRR s0) (x : Int) (rx : xR x) (p0 : IC s0) : Met l yX8_byteAt (xws yX8_byteAt cX8_byteAt 2 (some .int)) { frames := 0, cells := 0, slots := 0, locals := 0 } (xP [.ref (h0 + 1), .int (xJ x)] D g T h0 s0) (xQi D g h0 (fun r τ => s0 = τ ∧ ((0 ≤ x ∧ x < s0 1 1 ∧ r = s0 2 x ∧ 0 ≤ r ∧ r ≤ 255) ∨ ((x < 0 ∨ s0 1 1 ≤ x) ∧ r = -1)))) 0 0 (xA h0) := by
  refine x_met hσ (by decide) (Nat.le_of_ble_eq_true rfl) ?_
  intro p e s m args below meth c hx hb hr hml hown hT hlk hnm hE hW ls hl
  have hl : lv_has ls 2 [(0, .ref (h0 + 1)), (1, .int (xJ x))] := hl
  obtain ⟨Q, eQ⟩ : ∃ Q, Q = MQ below (xQi D g h0 (fun r τ => s0 = τ ∧ ((0 ≤ x ∧ x < s0 1 1 ∧ r = s0 2 x ∧ 0 ≤ r ∧ r ≤ 255) ∨ ((x < 0 ∨ s0 1 1 ≤ x) ∧ r = -1)))) args s 0 0 (xA h0) := ⟨_, rfl⟩
  rw [← eQ]
  generalize hHe : ([] : List Loc) = locs at hW ⊢
  obtain ⟨H, eH⟩ : ∃ H, H = s.heap := ⟨_, rfl⟩
  rw [← eH] at hW ⊢
  have k1_1 : s0 1 1 = s0 1 1 := rfl
  refine x_iload_n hx hb hl 1 rfl dX8_byteAt_0 rfl ?_
  refine x_if_lt (tgt := 21) hx hb rx dX8_byteAt_1 (by decide) (fun c1 => ?_) (fun c1 => ?_)
  · skip
    refine x_iconst hx hb dX8_byteAt_21 ?_
    rw [eQ]
    exact x_iret hx hb hr hlk hW (by decide) ⟨rfl, by omega⟩ dX8_byteAt_22
  refine x_iload_n hx hb hl 1 rfl dX8_byteAt_4 rfl ?_
  refine x_aload_n hx hb hl 0 rfl dX8_byteAt_5 rfl ?_
  refine x_get (j := 1) (v := .int (xJ (s0 1 1))) hx hb hown hT hE hW cls_X8 (Or.inl (by decide)) (so_1 h0 g _) (by decide) rfl wq197 dX8_byteAt_6 ?_
  refine x_rd hW (fun x2 ex2 rx2 => ?_)
  have bx2 : 0 ≤ x2 ∧ x2 ≤ 260 := by rw [ex2]; exact IC.t p0
  have fx2 : x2 = s0 1 1 := ex2.trans k1_1
  refine x_icmp_ge (tgt := 21) hx hb rx rx2 dX8_byteAt_9 (by decide) (fun c3 => ?_) (fun c3 => ?_)
  · skip
    refine x_iconst hx hb dX8_byteAt_21 ?_
    rw [eQ]
    exact x_iret hx hb hr hlk hW (by decide) ⟨rfl, by omega⟩ dX8_byteAt_22
  refine x_aload_n hx hb hl 0 rfl dX8_byteAt_12 rfl ?_
  refine x_get (j := 0) (v := .ref (h0 + 2)) hx hb hown hT hE hW cls_X8 (Or.inl (by decide)) (so_1 h0 g _) (by decide) rfl wq196 dX8_byteAt_13 ?_
  refine x_iload_n hx hb hl 1 rfl dX8_byteAt_16 rfl ?_
  refine x_iald hx hb hE hW (Or.inl (by decide)) (sa_2 h0 g _) (by omega) (by decide) dX8_byteAt_17 ?_
  refine x_rd hW (fun x4 ex4 rx4 => ?_)
  have bx4 : 0 ≤ x4 ∧ x4 ≤ 255 := by rw [ex4]; exact IC.by_ p0 _ (by omega) (by omega)
  refine lv_goto (tgt := 22) hx hb dX8_byteAt_18 (by decide) ?_
  rw [eQ]
  exact x_iret hx hb hr hlk hW rx4 ⟨rfl, by omega⟩ dX8_byteAt_22
set_option maxHeartbeats 4000000 in
set_option maxRecDepth 100000 in
theorem c_X8_drop (l : Launch) (D : va_G) (g : xG) (T : Nat × Nat × Nat) (h0 : Nat) (s0 : xS) (hσ : xRR s0) (p0 : IC s0) : Met l yX8_drop (xws yX8_drop cX8_drop 1 none) { frames := 0, cells := 0, slots := 0, locals := 0 } (xP [.ref (h0 + 1)] D g T h0 s0) (xQv D g h0 (fun τ => xFr (fun k => k = 1) s0 τ ∧ (((IC τ) ∧ (τ 1 1 = 0) ∧ True) ∧ (True)))) 0 0 (xA h0) := by
  refine x_met hσ (by decide) (Nat.le_of_ble_eq_true rfl) ?_
  intro p e s m args below meth c hx hb hr hml hown hT hlk hnm hE hW ls hl
  have hl : lv_has ls 1 [(0, .ref (h0 + 1))] := hl
  obtain ⟨Q, eQ⟩ : ∃ Q, Q = MQ below (xQv D g h0 (fun τ => xFr (fun k => k = 1) s0 τ ∧ (((IC τ) ∧ (τ 1 1 = 0) ∧ True) ∧ (True)))) args s 0 0 (xA h0) := ⟨_, rfl⟩
  rw [← eQ]
  generalize hHe : ([] : List Loc) = locs at hW ⊢
  obtain ⟨H, eH⟩ : ∃ H, H = s.heap := ⟨_, rfl⟩
  rw [← eH] at hW ⊢
  have hF : xFr (fun k => k = 1) s0 s0 := xFr.rf
  refine x_aload_n hx hb hl 0 rfl dX8_drop_0 rfl ?_
  refine x_iconst hx hb dX8_drop_1 ?_
  refine x_put (j := 1) hx hb hown hT hE hW cls_X8 (by decide) (fun σ => so_1 h0 g σ) (by decide) (st_X8_1 h0 s0 1 0) (ln_X8_1 h0 _ _) wq197 rfl rfl rfl (by decide) dX8_drop_2 (fun H locs s1 es1 hW => ?_)
  have q2 : IC s1 := by rw [es1]; exact IC_1 p0 (by omega)
  have q3 : s1 1 1 = 0 := by rw [es1, xU_s]
  have hF4 := hF.put es1 (by omega)
  rw [eQ]
  exact x_vret hx hb hr hlk hW ⟨hF4, ⟨q2, q3, trivial⟩, trivial⟩ dX8_drop_5
set_option maxHeartbeats 4000000 in
set_option maxRecDepth 100000 in
theorem c_X8_putNumber (l : Launch) (D : va_G) (g : xG) (T : Nat × Nat × Nat) (h0 : Nat) (s0 : xS) (hσ : xRR s0) (v : Int) (rv : xR v) (zl : Int) (hz : 0 ≤ zl ∧ zl ≤ 256) (p0 : IC s0) (p1 : s0 1 1 = zl) : Met l yX8_putNumber (xws yX8_putNumber cX8_putNumber 3 none) { frames := 0, cells := 0, slots := 0, locals := 0 } (xP [.ref (h0 + 1), .int (xJ v)] D g T h0 s0) (xQv D g h0 (fun τ => xFr (fun k => k = 1 ∨ k = 2) s0 τ ∧ (((IC τ) ∧ (τ 1 1 = zl + 4) ∧ True) ∧ (τ 2 = xputn (s0 2) zl v 4)))) 0 0 (xA h0) := by
  refine x_met hσ (by decide) (Nat.le_of_ble_eq_true rfl) ?_
  intro p e s m args below meth c hx hb hr hml hown hT hlk hnm hE hW ls hl
  have hl : lv_has ls 3 [(0, .ref (h0 + 1)), (1, .int (xJ v))] := hl
  obtain ⟨Q, eQ⟩ : ∃ Q, Q = MQ below (xQv D g h0 (fun τ => xFr (fun k => k = 1 ∨ k = 2) s0 τ ∧ (((IC τ) ∧ (τ 1 1 = zl + 4) ∧ True) ∧ (τ 2 = xputn (s0 2) zl v 4)))) args s 0 0 (xA h0) := ⟨_, rfl⟩
  rw [← eQ]
  generalize hHe : ([] : List Loc) = locs at hW ⊢
  obtain ⟨H, eH⟩ : ∃ H, H = s.heap := ⟨_, rfl⟩
  rw [← eH] at hW ⊢
  have hF : xFr (fun k => k = 1 ∨ k = 2) s0 s0 := xFr.rf
  refine x_bipush hx hb dX8_putNumber_0 (by decide) ?_
  refine lv_istore_n (lv' := [(2, .int (xJ 24)), (0, .ref (h0 + 1)), (1, .int (xJ v))]) hx hb dX8_putNumber_2 rfl hl (by decide) rfl (fun ls hl => ?_)
  have L3 : ∀ (fu : Nat) (i2_3 : Int) (s_3 : xS) (H : Heap) (locs : List Loc) (ls : Array Slot), (xR i2_3) → (xFr (fun k => k = 1 ∨ k = 2) s0 s_3) → (IC s_3) → (i2_3 % 8 = 0) → (-8 ≤ i2_3 ∧ i2_3 ≤ 24) → (s_3 1 1 = zl + 3 - i2_3 / 8) → (s_3 2 = xputn (s0 2) zl v (s_3 1 1 - zl)) → (i2_3 + 8).toNat < fu → xW D g h0 s H locs s_3 → lv_has ls 3 [(0, .ref (h0 + 1)), (1, .int (xJ v)), (2, .int (xJ i2_3))] → W p l e { frames := 0, cells := 0, slots := 0, locals := 0 } s m args below meth c H locs 0 0 Q (F0 m 3 ls []) := by
    intro fu
    induction fu with
    | zero => intro i2_3 s_3 H locs ls ri2_3 hF_3 q3_0 v3_0 v3_1 v3_2 v3_3 hm; exact absurd hm (Nat.not_lt_zero _)
    | succ fu ih3 =>
      intro i2_3 s_3 H locs ls ri2_3 hF_3 q3_0 v3_0 v3_1 v3_2 v3_3 hm hW hl
      refine x_iload_n hx hb hl 2 rfl dX8_putNumber_3 rfl ?_
      refine x_if_lt (tgt := 56) hx hb ri2_3 dX8_putNumber_4 (by decide) (fun c1 => ?_) (fun c1 => ?_)
      · skip
        rw [eQ]
        exact x_vret hx hb hr hlk hW ⟨hF_3, ⟨q3_0, (by omega), trivial⟩, v3_3.trans (xputn_c (by omega))⟩ dX8_putNumber_56
      refine x_aload_n hx hb hl 0 rfl dX8_putNumber_7 rfl ?_
      refine x_get (j := 1) (v := .int (xJ (s_3 1 1))) hx hb hown hT hE hW cls_X8 (Or.inl (by decide)) (so_1 h0 g _) (by decide) rfl wq197 dX8_putNumber_8 ?_
      refine x_rd hW (fun x2 ex2 rx2 => ?_)
      have bx2 : 0 ≤ x2 ∧ x2 ≤ 260 := by rw [ex2]; exact IC.t q3_0
      have q3 : s_3 1 1 = x2 := ex2.symm
      refine x_if_lt (tgt := 50) hx hb rx2 dX8_putNumber_11 (by decide) (fun c4 => False.elim (by omega)) (fun c4 => ?_)
      refine x_aload_n hx hb hl 0 rfl dX8_putNumber_14 rfl ?_
      refine x_get (j := 1) (v := .int (xJ (s_3 1 1))) hx hb hown hT hE hW cls_X8 (Or.inl (by decide)) (so_1 h0 g _) (by decide) rfl wq197 dX8_putNumber_15 ?_
      refine x_rd hW (fun x5 ex5 rx5 => ?_)
      have bx5 : 0 ≤ x5 ∧ x5 ≤ 260 := by rw [ex5]; exact IC.t q3_0
      have fx5 : x5 = x2 := ex5.trans q3
      refine x_sipush hx hb dX8_putNumber_18 (by decide) ?_
      refine x_icmp_ge (tgt := 50) hx hb rx5 (by decide) dX8_putNumber_21 (by decide) (fun c6 => False.elim (by omega)) (fun c6 => ?_)
      refine x_aload_n hx hb hl 0 rfl dX8_putNumber_24 rfl ?_
      refine x_get (j := 0) (v := .ref (h0 + 2)) hx hb hown hT hE hW cls_X8 (Or.inl (by decide)) (so_1 h0 g _) (by decide) rfl wq196 dX8_putNumber_25 ?_
      refine x_aload_n hx hb hl 0 rfl dX8_putNumber_28 rfl ?_
      refine x_get (j := 1) (v := .int (xJ (s_3 1 1))) hx hb hown hT hE hW cls_X8 (Or.inl (by decide)) (so_1 h0 g _) (by decide) rfl wq197 dX8_putNumber_29 ?_
      refine x_rd hW (fun x7 ex7 rx7 => ?_)
      have bx7 : 0 ≤ x7 ∧ x7 ≤ 260 := by rw [ex7]; exact IC.t q3_0
      have fx7 : x7 = x2 := ex7.trans q3
      refine x_iload_n hx hb hl 1 rfl dX8_putNumber_32 rfl ?_
      refine x_iload_n hx hb hl 2 rfl dX8_putNumber_33 rfl ?_
      refine x_shr hx hb rv (by omega) dX8_putNumber_34 (fun x8 ex8 rx8 => ?_)
      refine x_sipush hx hb dX8_putNumber_35 (by decide) ?_
      refine x_and8 hx hb rx8 dX8_putNumber_38 ?_
      refine x_nm (fun x9 ex9 => ?_)
      refine x_iast hx hb hE hW (by decide) (fun σ => sa_2 h0 g σ) (by omega) (by decide) (by omega) dX8_putNumber_39 (fun H locs s10 es10 hW => ?_)
      have q11 : IC s10 := by rw [es10]; exact IC_2 q3_0 (by omega)
      have q12 : s10 1 1 = x2 := (show s10 1 1 = s_3 1 1 from by rw [es10, xU_k _ _ _ (by omega)]).trans q3
      have hF13 := hF_3.put es10 (by omega)
      have A39 : s10 2 = xputn (s0 2) zl v (x7 - zl + 1) := by rw [es10, xU_xud]; exact xput_step (l := i2_3) (v3_3.trans (xputn_c (by omega))) (by omega) (by omega) (by omega)
      refine x_aload_n hx hb hl 0 rfl dX8_putNumber_40 rfl ?_
      refine lv_dup hx hb dX8_putNumber_41 rfl ?_
      refine x_get (j := 1) (v := .int (xJ (s10 1 1))) hx hb hown hT hE hW cls_X8 (Or.inl (by decide)) (so_1 h0 g _) (by decide) rfl wq197 dX8_putNumber_42 ?_
      refine x_rd hW (fun x14 ex14 rx14 => ?_)
      have bx14 : 0 ≤ x14 ∧ x14 ≤ 260 := by rw [ex14]; exact IC.t q11
      have fx14 : x14 = x2 := ex14.trans q12
      refine x_iconst hx hb dX8_putNumber_45 ?_
      refine x_iadd hx hb dX8_putNumber_46 ?_
      refine x_put (j := 1) hx hb hown hT hE hW cls_X8 (by decide) (fun σ => so_1 h0 g σ) (by decide) (st_X8_1 h0 s10 1 (x14 + 1)) (ln_X8_1 h0 _ _) wq197 rfl rfl rfl (by omega) dX8_putNumber_47 (fun H locs s15 es15 hW => ?_)
      have q16 : IC s15 := by rw [es15]; exact IC_1 q11 (by omega)
      have q17 : s15 1 1 = (x14 + 1) := by rw [es15, xU_s]
      have hF18 := hF13.put es15 (by omega)
      refine x_iinc (lv' := [(2, .int (xJ (i2_3 + (-8)))), (0, .ref (h0 + 1)), (1, .int (xJ v))]) hx hb hl 2 rfl dX8_putNumber_50 (by decide) rfl (fun ls hl => ?_)
      refine lv_goto (tgt := 3) hx hb dX8_putNumber_53 (by decide) ?_
      exact ih3 (i2_3 + (-8)) s15 H locs ls (by omega) hF18 q16 (by omega) (by omega) (by rw [q17]; omega) (by rw [es15, xU_k _ _ _ (by omega), xU_s, A39]; exact xputn_c (by omega)) (by omega) hW (lv_sub hl [1, 2, 0] rfl)
  exact L3 ((24 + 8 : Int).toNat + 1) 24 s0 H locs ls (by decide) hF p0 (by omega) (by omega) (by rw [p1]; omega) (((xputn_c (by omega)).trans (xputn_0 _ _ _)).symm) (Nat.lt_succ_self _) hW (lv_sub hl [1, 2, 0] rfl)


theorem cls_X4 : xCls RX4 TX4 9 4 tyX4 := ⟨xin [266, 268, 270, 272, 274, 276, 278, 280, 282] (by decide +kernel) (by decide +kernel), rfl, tyX4_ok, nmX4⟩
theorem st_X4_2 (h0 : Nat) (σ : xS) (k : Nat) (a : Int) : xobj h0 (xU σ k 2 a) k 4 = (xobj h0 σ k 4).set 2 (.int (xJ a)) := by simp [xobj, xU]
theorem ln_X4_2 (h0 : Nat) (σ : xS) (k : Nat) : 2 < (xobj h0 σ k 4).length := by simp [xobj]
theorem st_X4_6 (h0 : Nat) (σ : xS) (k : Nat) (a : Int) : xobj h0 (xU σ k 6 a) k 4 = (xobj h0 σ k 4).set 6 (.int (xJ a)) := by simp [xobj, xU]
theorem ln_X4_6 (h0 : Nat) (σ : xS) (k : Nat) : 6 < (xobj h0 σ k 4).length := by simp [xobj]
theorem cf_X4_joined : xCF yX4_joined cX4_joined 3 (some .int) 3 := ⟨xq 814 (by decide +kernel) rfl, xq 171 (by decide +kernel) rfl, by decide +kernel⟩
theorem cf_X4_reckon : xCF yX4_reckon cX4_reckon 9 (some .int) 1 := ⟨xq 807 (by decide +kernel) rfl, xq 171 (by decide +kernel) rfl, by decide +kernel⟩
theorem cf_X4_tellMinute : xCF yX4_tellMinute cX4_tellMinute 3 none 1 := ⟨xq 794 (by decide +kernel) rfl, xq 171 (by decide +kernel) rfl, by decide +kernel⟩
theorem cf_X4_toldAt : xCF yX4_toldAt cX4_toldAt 2 (some .int) 1 := ⟨xq 811 (by decide +kernel) rfl, xq 171 (by decide +kernel) rfl, by decide +kernel⟩
theorem wq40 : Cond.selects yX4_tellMinute.cls yX4_tellMinute yX4_tellMinute ∈ xTB := xq 40 (by decide +kernel) rfl
theorem wq43 : Cond.selects yX4_reckon.cls yX4_reckon yX4_reckon ∈ xTB := xq 43 (by decide +kernel) rfl
theorem wq44 : Cond.selects yX4_toldAt.cls yX4_toldAt yX4_toldAt ∈ xTB := xq 44 (by decide +kernel) rfl
theorem wq181 : Cond.initialized "java/lang/System" ∈ xTB := xq 181 (by decide +kernel) rfl
theorem wq249 : Cond.fieldLink "ShadowCourt$Law" (34) "ShadowCourt$Law" "LETTERS" "[I" ∈ xTB := xq 249 (by decide +kernel) rfl
theorem wq251 : Cond.fieldLink "ShadowCourt$Law" (11) "ShadowCourt$Law" "orders" "[I" ∈ xTB := xq 251 (by decide +kernel) rfl
theorem wq252 : Cond.fieldLink "ShadowCourt$Law" (15) "ShadowCourt$Law" "words" "[I" ∈ xTB := xq 252 (by decide +kernel) rfl
theorem wq253 : Cond.fieldLink "ShadowCourt$Law" (18) "ShadowCourt$Law" "used" "I" ∈ xTB := xq 253 (by decide +kernel) rfl
theorem wq255 : Cond.fieldLink "ShadowCourt$Law" (22) "ShadowCourt$Law" "kindOfClause" "[I" ∈ xTB := xq 255 (by decide +kernel) rfl
theorem wq257 : Cond.fieldLink "ShadowCourt$Law" (25) "ShadowCourt$Law" "worthAt" "[I" ∈ xTB := xq 257 (by decide +kernel) rfl
theorem wq259 : Cond.fieldLink "ShadowCourt$Law" (28) "ShadowCourt$Law" "askedAt" "[I" ∈ xTB := xq 259 (by decide +kernel) rfl
theorem wq261 : Cond.fieldLink "ShadowCourt$Law" (31) "ShadowCourt$Law" "clauses" "I" ∈ xTB := xq 261 (by decide +kernel) rfl
theorem wq264 : Cond.fieldLink "ShadowCourt$Law" (37) "ShadowCourt$Law" "told" "[I" ∈ xTB := xq 264 (by decide +kernel) rfl
theorem wq265 : Cond.fieldLink "ShadowCourt$Law" (40) "ShadowCourt$Law" "stack" "[I" ∈ xTB := xq 265 (by decide +kernel) rfl
theorem wq594 : Cond.static (⟨"java/lang/Math", "max", "(II)I"⟩ : MethodName) ∈ xTB := xq 594 (by decide +kernel) rfl
theorem wq595 : Cond.code (⟨"java/lang/Math", "max", "(II)I"⟩ : MethodName) prog_14_method_65_code (2) (Option.some FieldType.int) ∈ xTB := xq 595 (by decide +kernel) rfl
theorem wq603 : Cond.static (⟨"java/lang/System", "arraycopy", "(Ljava/lang/Object;ILjava/lang/Object;II)V"⟩ : MethodName) ∈ xTB := xq 603 (by decide +kernel) rfl
theorem wq604 : Cond.native (⟨"java/lang/System", "arraycopy", "(Ljava/lang/Object;ILjava/lang/Object;II)V"⟩ : MethodName) ∈ xTB := xq 604 (by decide +kernel) rfl
theorem wq698 : Cond.methodLink "ShadowCourt$Law" (43) (⟨"java/lang/System", "arraycopy", "(Ljava/lang/Object;ILjava/lang/Object;II)V"⟩ : MethodName) ∈ xTB := xq 698 (by decide +kernel) rfl
theorem wq793 : Cond.instanceMethod yX4_tellMinute ∈ xTB := xq 793 (by decide +kernel) rfl
theorem wq804 : Cond.methodLink "ShadowCourt$Law" (53) yX4_reckon ∈ xTB := xq 804 (by decide +kernel) rfl
theorem wq806 : Cond.instanceMethod yX4_reckon ∈ xTB := xq 806 (by decide +kernel) rfl
theorem wq808 : Cond.methodLink "ShadowCourt$Law" (66) yX4_toldAt ∈ xTB := xq 808 (by decide +kernel) rfl
theorem wq810 : Cond.instanceMethod yX4_toldAt ∈ xTB := xq 810 (by decide +kernel) rfl
theorem wq812 : Cond.methodLink "ShadowCourt$Law" (69) yX4_joined ∈ xTB := xq 812 (by decide +kernel) rfl
theorem wq813 : Cond.static yX4_joined ∈ xTB := xq 813 (by decide +kernel) rfl
theorem wq815 : Cond.methodLink "ShadowCourt$Law" (57) (⟨"java/lang/Math", "min", "(II)I"⟩ : MethodName) ∈ xTB := xq 815 (by decide +kernel) rfl
theorem wq816 : Cond.methodLink "ShadowCourt$Law" (63) (⟨"java/lang/Math", "max", "(II)I"⟩ : MethodName) ∈ xTB := xq 816 (by decide +kernel) rfl
theorem wq821 : Cond.methodLink "ShadowCourt$Law" (49) yX4_tellMinute ∈ xTB := xq 821 (by decide +kernel) rfl
theorem dX4_copyFrom_0 : decode cX4_copyFrom 0 = .ok (.aload_n 1, 1) := by decide +kernel
theorem dX4_copyFrom_1 : decode cX4_copyFrom 1 = .ok (.getfield 11, 3) := by decide +kernel
theorem dX4_copyFrom_4 : decode cX4_copyFrom 4 = .ok (.iconst 0, 1) := by decide +kernel
theorem dX4_copyFrom_5 : decode cX4_copyFrom 5 = .ok (.aload_n 0, 1) := by decide +kernel
theorem dX4_copyFrom_6 : decode cX4_copyFrom 6 = .ok (.getfield 11, 3) := by decide +kernel
theorem dX4_copyFrom_9 : decode cX4_copyFrom 9 = .ok (.iconst 0, 1) := by decide +kernel
theorem dX4_copyFrom_10 : decode cX4_copyFrom 10 = .ok (.sipush 300, 3) := by decide +kernel
theorem dX4_copyFrom_13 : decode cX4_copyFrom 13 = .ok (.invokestatic 43, 3) := by decide +kernel
theorem dX4_copyFrom_16 : decode cX4_copyFrom 16 = .ok (.aload_n 1, 1) := by decide +kernel
theorem dX4_copyFrom_17 : decode cX4_copyFrom 17 = .ok (.getfield 15, 3) := by decide +kernel
theorem dX4_copyFrom_20 : decode cX4_copyFrom 20 = .ok (.iconst 0, 1) := by decide +kernel
theorem dX4_copyFrom_21 : decode cX4_copyFrom 21 = .ok (.aload_n 0, 1) := by decide +kernel
theorem dX4_copyFrom_22 : decode cX4_copyFrom 22 = .ok (.getfield 15, 3) := by decide +kernel
theorem dX4_copyFrom_25 : decode cX4_copyFrom 25 = .ok (.iconst 0, 1) := by decide +kernel
theorem dX4_copyFrom_26 : decode cX4_copyFrom 26 = .ok (.sipush 300, 3) := by decide +kernel
theorem dX4_copyFrom_29 : decode cX4_copyFrom 29 = .ok (.invokestatic 43, 3) := by decide +kernel
theorem dX4_copyFrom_32 : decode cX4_copyFrom 32 = .ok (.aload_n 0, 1) := by decide +kernel
theorem dX4_copyFrom_33 : decode cX4_copyFrom 33 = .ok (.aload_n 1, 1) := by decide +kernel
theorem dX4_copyFrom_34 : decode cX4_copyFrom 34 = .ok (.getfield 18, 3) := by decide +kernel
theorem dX4_copyFrom_37 : decode cX4_copyFrom 37 = .ok (.putfield 18, 3) := by decide +kernel
theorem dX4_copyFrom_40 : decode cX4_copyFrom 40 = .ok (.aload_n 1, 1) := by decide +kernel
theorem dX4_copyFrom_41 : decode cX4_copyFrom 41 = .ok (.getfield 22, 3) := by decide +kernel
theorem dX4_copyFrom_44 : decode cX4_copyFrom 44 = .ok (.iconst 0, 1) := by decide +kernel
theorem dX4_copyFrom_45 : decode cX4_copyFrom 45 = .ok (.aload_n 0, 1) := by decide +kernel
theorem dX4_copyFrom_46 : decode cX4_copyFrom 46 = .ok (.getfield 22, 3) := by decide +kernel
theorem dX4_copyFrom_49 : decode cX4_copyFrom 49 = .ok (.iconst 0, 1) := by decide +kernel
theorem dX4_copyFrom_50 : decode cX4_copyFrom 50 = .ok (.bipush 16, 2) := by decide +kernel
theorem dX4_copyFrom_52 : decode cX4_copyFrom 52 = .ok (.invokestatic 43, 3) := by decide +kernel
theorem dX4_copyFrom_55 : decode cX4_copyFrom 55 = .ok (.aload_n 1, 1) := by decide +kernel
theorem dX4_copyFrom_56 : decode cX4_copyFrom 56 = .ok (.getfield 25, 3) := by decide +kernel
theorem dX4_copyFrom_59 : decode cX4_copyFrom 59 = .ok (.iconst 0, 1) := by decide +kernel
theorem dX4_copyFrom_60 : decode cX4_copyFrom 60 = .ok (.aload_n 0, 1) := by decide +kernel
theorem dX4_copyFrom_61 : decode cX4_copyFrom 61 = .ok (.getfield 25, 3) := by decide +kernel
theorem dX4_copyFrom_64 : decode cX4_copyFrom 64 = .ok (.iconst 0, 1) := by decide +kernel
theorem dX4_copyFrom_65 : decode cX4_copyFrom 65 = .ok (.bipush 16, 2) := by decide +kernel
theorem dX4_copyFrom_67 : decode cX4_copyFrom 67 = .ok (.invokestatic 43, 3) := by decide +kernel
theorem dX4_copyFrom_70 : decode cX4_copyFrom 70 = .ok (.aload_n 1, 1) := by decide +kernel
theorem dX4_copyFrom_71 : decode cX4_copyFrom 71 = .ok (.getfield 28, 3) := by decide +kernel
theorem dX4_copyFrom_74 : decode cX4_copyFrom 74 = .ok (.iconst 0, 1) := by decide +kernel
theorem dX4_copyFrom_75 : decode cX4_copyFrom 75 = .ok (.aload_n 0, 1) := by decide +kernel
theorem dX4_copyFrom_76 : decode cX4_copyFrom 76 = .ok (.getfield 28, 3) := by decide +kernel
theorem dX4_copyFrom_79 : decode cX4_copyFrom 79 = .ok (.iconst 0, 1) := by decide +kernel
theorem dX4_copyFrom_80 : decode cX4_copyFrom 80 = .ok (.bipush 16, 2) := by decide +kernel
theorem dX4_copyFrom_82 : decode cX4_copyFrom 82 = .ok (.invokestatic 43, 3) := by decide +kernel
theorem dX4_copyFrom_85 : decode cX4_copyFrom 85 = .ok (.aload_n 0, 1) := by decide +kernel
theorem dX4_copyFrom_86 : decode cX4_copyFrom 86 = .ok (.aload_n 1, 1) := by decide +kernel
theorem dX4_copyFrom_87 : decode cX4_copyFrom 87 = .ok (.getfield 31, 3) := by decide +kernel
theorem dX4_copyFrom_90 : decode cX4_copyFrom 90 = .ok (.putfield 31, 3) := by decide +kernel
theorem dX4_copyFrom_93 : decode cX4_copyFrom 93 = .ok (.return_, 1) := by decide +kernel
theorem dX4_empty_0 : decode cX4_empty 0 = .ok (.aload_n 0, 1) := by decide +kernel
theorem dX4_empty_1 : decode cX4_empty 1 = .ok (.iconst 0, 1) := by decide +kernel
theorem dX4_empty_2 : decode cX4_empty 2 = .ok (.putfield 18, 3) := by decide +kernel
theorem dX4_empty_5 : decode cX4_empty 5 = .ok (.aload_n 0, 1) := by decide +kernel
theorem dX4_empty_6 : decode cX4_empty 6 = .ok (.iconst 0, 1) := by decide +kernel
theorem dX4_empty_7 : decode cX4_empty 7 = .ok (.putfield 31, 3) := by decide +kernel
theorem dX4_empty_10 : decode cX4_empty 10 = .ok (.return_, 1) := by decide +kernel
theorem dX4_isNight_0 : decode cX4_isNight 0 = .ok (.aload_n 0, 1) := by decide +kernel
theorem dX4_isNight_1 : decode cX4_isNight 1 = .ok (.iload_n 1, 1) := by decide +kernel
theorem dX4_isNight_2 : decode cX4_isNight 2 = .ok (.invokevirtual 49, 3) := by decide +kernel
theorem dX4_isNight_5 : decode cX4_isNight 5 = .ok (.iconst 0, 1) := by decide +kernel
theorem dX4_isNight_6 : decode cX4_isNight 6 = .ok (.istore_n 2, 1) := by decide +kernel
theorem dX4_isNight_7 : decode cX4_isNight 7 = .ok (.iload_n 2, 1) := by decide +kernel
theorem dX4_isNight_8 : decode cX4_isNight 8 = .ok (.aload_n 0, 1) := by decide +kernel
theorem dX4_isNight_9 : decode cX4_isNight 9 = .ok (.getfield 31, 3) := by decide +kernel
theorem dX4_isNight_12 : decode cX4_isNight 12 = .ok (.if_icmp .ge 35, 3) := by decide +kernel
theorem dX4_isNight_15 : decode cX4_isNight 15 = .ok (.aload_n 0, 1) := by decide +kernel
theorem dX4_isNight_16 : decode cX4_isNight 16 = .ok (.getfield 22, 3) := by decide +kernel
theorem dX4_isNight_19 : decode cX4_isNight 19 = .ok (.iload_n 2, 1) := by decide +kernel
theorem dX4_isNight_20 : decode cX4_isNight 20 = .ok (.iaload, 1) := by decide +kernel
theorem dX4_isNight_21 : decode cX4_isNight 21 = .ok (.bipush 110, 2) := by decide +kernel
theorem dX4_isNight_23 : decode cX4_isNight 23 = .ok (.if_icmp .ne 18, 3) := by decide +kernel
theorem dX4_isNight_26 : decode cX4_isNight 26 = .ok (.aload_n 0, 1) := by decide +kernel
theorem dX4_isNight_27 : decode cX4_isNight 27 = .ok (.aload_n 0, 1) := by decide +kernel
theorem dX4_isNight_28 : decode cX4_isNight 28 = .ok (.getfield 28, 3) := by decide +kernel
theorem dX4_isNight_31 : decode cX4_isNight 31 = .ok (.iload_n 2, 1) := by decide +kernel
theorem dX4_isNight_32 : decode cX4_isNight 32 = .ok (.iaload, 1) := by decide +kernel
theorem dX4_isNight_33 : decode cX4_isNight 33 = .ok (.invokevirtual 53, 3) := by decide +kernel
theorem dX4_isNight_36 : decode cX4_isNight 36 = .ok (.ifCond .eq 5, 3) := by decide +kernel
theorem dX4_isNight_39 : decode cX4_isNight 39 = .ok (.iconst 1, 1) := by decide +kernel
theorem dX4_isNight_40 : decode cX4_isNight 40 = .ok (.ireturn, 1) := by decide +kernel
theorem dX4_isNight_41 : decode cX4_isNight 41 = .ok (.iinc 2 1, 3) := by decide +kernel
theorem dX4_isNight_44 : decode cX4_isNight 44 = .ok (.goto (-37), 3) := by decide +kernel
theorem dX4_isNight_47 : decode cX4_isNight 47 = .ok (.iconst 0, 1) := by decide +kernel
theorem dX4_isNight_48 : decode cX4_isNight 48 = .ok (.ireturn, 1) := by decide +kernel
theorem dX4_joined_0 : decode cX4_joined 0 = .ok (.iload_n 0, 1) := by decide +kernel
theorem dX4_joined_1 : decode cX4_joined 1 = .ok (.lookupswitch 125 #[(37, 91), (42, 75), (43, 67), (45, 71), (47, 79), (60, 103), (62, 114)], 67) := by decide +kernel
theorem dX4_joined_68 : decode cX4_joined 68 = .ok (.iload_n 1, 1) := by decide +kernel
theorem dX4_joined_69 : decode cX4_joined 69 = .ok (.iload_n 2, 1) := by decide +kernel
theorem dX4_joined_70 : decode cX4_joined 70 = .ok (.iadd, 1) := by decide +kernel
theorem dX4_joined_71 : decode cX4_joined 71 = .ok (.ireturn, 1) := by decide +kernel
theorem dX4_joined_72 : decode cX4_joined 72 = .ok (.iload_n 1, 1) := by decide +kernel
theorem dX4_joined_73 : decode cX4_joined 73 = .ok (.iload_n 2, 1) := by decide +kernel
theorem dX4_joined_74 : decode cX4_joined 74 = .ok (.isub, 1) := by decide +kernel
theorem dX4_joined_75 : decode cX4_joined 75 = .ok (.ireturn, 1) := by decide +kernel
theorem dX4_joined_76 : decode cX4_joined 76 = .ok (.iload_n 1, 1) := by decide +kernel
theorem dX4_joined_77 : decode cX4_joined 77 = .ok (.iload_n 2, 1) := by decide +kernel
theorem dX4_joined_78 : decode cX4_joined 78 = .ok (.imul, 1) := by decide +kernel
theorem dX4_joined_79 : decode cX4_joined 79 = .ok (.ireturn, 1) := by decide +kernel
theorem dX4_joined_80 : decode cX4_joined 80 = .ok (.iload_n 2, 1) := by decide +kernel
theorem dX4_joined_81 : decode cX4_joined 81 = .ok (.ifCond .ne 7, 3) := by decide +kernel
theorem dX4_joined_84 : decode cX4_joined 84 = .ok (.iconst 0, 1) := by decide +kernel
theorem dX4_joined_85 : decode cX4_joined 85 = .ok (.goto 6, 3) := by decide +kernel
theorem dX4_joined_88 : decode cX4_joined 88 = .ok (.iload_n 1, 1) := by decide +kernel
theorem dX4_joined_89 : decode cX4_joined 89 = .ok (.iload_n 2, 1) := by decide +kernel
theorem dX4_joined_90 : decode cX4_joined 90 = .ok (.idiv, 1) := by decide +kernel
theorem dX4_joined_91 : decode cX4_joined 91 = .ok (.ireturn, 1) := by decide +kernel
theorem dX4_joined_92 : decode cX4_joined 92 = .ok (.iload_n 2, 1) := by decide +kernel
theorem dX4_joined_93 : decode cX4_joined 93 = .ok (.ifCond .ne 7, 3) := by decide +kernel
theorem dX4_joined_96 : decode cX4_joined 96 = .ok (.iconst 0, 1) := by decide +kernel
theorem dX4_joined_97 : decode cX4_joined 97 = .ok (.goto 6, 3) := by decide +kernel
theorem dX4_joined_100 : decode cX4_joined 100 = .ok (.iload_n 1, 1) := by decide +kernel
theorem dX4_joined_101 : decode cX4_joined 101 = .ok (.iload_n 2, 1) := by decide +kernel
theorem dX4_joined_102 : decode cX4_joined 102 = .ok (.irem, 1) := by decide +kernel
theorem dX4_joined_103 : decode cX4_joined 103 = .ok (.ireturn, 1) := by decide +kernel
theorem dX4_joined_104 : decode cX4_joined 104 = .ok (.iload_n 1, 1) := by decide +kernel
theorem dX4_joined_105 : decode cX4_joined 105 = .ok (.iload_n 2, 1) := by decide +kernel
theorem dX4_joined_106 : decode cX4_joined 106 = .ok (.if_icmp .ge 7, 3) := by decide +kernel
theorem dX4_joined_109 : decode cX4_joined 109 = .ok (.iconst 1, 1) := by decide +kernel
theorem dX4_joined_110 : decode cX4_joined 110 = .ok (.goto 4, 3) := by decide +kernel
theorem dX4_joined_113 : decode cX4_joined 113 = .ok (.iconst 0, 1) := by decide +kernel
theorem dX4_joined_114 : decode cX4_joined 114 = .ok (.ireturn, 1) := by decide +kernel
theorem dX4_joined_115 : decode cX4_joined 115 = .ok (.iload_n 1, 1) := by decide +kernel
theorem dX4_joined_116 : decode cX4_joined 116 = .ok (.iload_n 2, 1) := by decide +kernel
theorem dX4_joined_117 : decode cX4_joined 117 = .ok (.if_icmp .le 7, 3) := by decide +kernel
theorem dX4_joined_120 : decode cX4_joined 120 = .ok (.iconst 1, 1) := by decide +kernel
theorem dX4_joined_121 : decode cX4_joined 121 = .ok (.goto 4, 3) := by decide +kernel
theorem dX4_joined_124 : decode cX4_joined 124 = .ok (.iconst 0, 1) := by decide +kernel
theorem dX4_joined_125 : decode cX4_joined 125 = .ok (.ireturn, 1) := by decide +kernel
theorem dX4_joined_126 : decode cX4_joined 126 = .ok (.iload_n 1, 1) := by decide +kernel
theorem dX4_joined_127 : decode cX4_joined 127 = .ok (.iload_n 2, 1) := by decide +kernel
theorem dX4_joined_128 : decode cX4_joined 128 = .ok (.if_icmp .ne 7, 3) := by decide +kernel
theorem dX4_joined_131 : decode cX4_joined 131 = .ok (.iconst 1, 1) := by decide +kernel
theorem dX4_joined_132 : decode cX4_joined 132 = .ok (.goto 4, 3) := by decide +kernel
theorem dX4_joined_135 : decode cX4_joined 135 = .ok (.iconst 0, 1) := by decide +kernel
theorem dX4_joined_136 : decode cX4_joined 136 = .ok (.ireturn, 1) := by decide +kernel
theorem dX4_landSkip_0 : decode cX4_landSkip 0 = .ok (.iload_n 1, 1) := by decide +kernel
theorem dX4_landSkip_1 : decode cX4_landSkip 1 = .ok (.ifCond .lt 20, 3) := by decide +kernel
theorem dX4_landSkip_4 : decode cX4_landSkip 4 = .ok (.iload_n 1, 1) := by decide +kernel
theorem dX4_landSkip_5 : decode cX4_landSkip 5 = .ok (.sipush 300, 3) := by decide +kernel
theorem dX4_landSkip_8 : decode cX4_landSkip 8 = .ok (.if_icmp .ge 13, 3) := by decide +kernel
theorem dX4_landSkip_11 : decode cX4_landSkip 11 = .ok (.aload_n 0, 1) := by decide +kernel
theorem dX4_landSkip_12 : decode cX4_landSkip 12 = .ok (.getfield 15, 3) := by decide +kernel
theorem dX4_landSkip_15 : decode cX4_landSkip 15 = .ok (.iload_n 1, 1) := by decide +kernel
theorem dX4_landSkip_16 : decode cX4_landSkip 16 = .ok (.aload_n 0, 1) := by decide +kernel
theorem dX4_landSkip_17 : decode cX4_landSkip 17 = .ok (.getfield 18, 3) := by decide +kernel
theorem dX4_landSkip_20 : decode cX4_landSkip 20 = .ok (.iastore, 1) := by decide +kernel
theorem dX4_landSkip_21 : decode cX4_landSkip 21 = .ok (.return_, 1) := by decide +kernel
theorem dX4_placeOfLetter_0 : decode cX4_placeOfLetter 0 = .ok (.iconst 0, 1) := by decide +kernel
theorem dX4_placeOfLetter_1 : decode cX4_placeOfLetter 1 = .ok (.istore_n 1, 1) := by decide +kernel
theorem dX4_placeOfLetter_2 : decode cX4_placeOfLetter 2 = .ok (.iload_n 1, 1) := by decide +kernel
theorem dX4_placeOfLetter_3 : decode cX4_placeOfLetter 3 = .ok (.getstatic 34, 3) := by decide +kernel
theorem dX4_placeOfLetter_6 : decode cX4_placeOfLetter 6 = .ok (.arraylength, 1) := by decide +kernel
theorem dX4_placeOfLetter_7 : decode cX4_placeOfLetter 7 = .ok (.if_icmp .ge 20, 3) := by decide +kernel
theorem dX4_placeOfLetter_10 : decode cX4_placeOfLetter 10 = .ok (.getstatic 34, 3) := by decide +kernel
theorem dX4_placeOfLetter_13 : decode cX4_placeOfLetter 13 = .ok (.iload_n 1, 1) := by decide +kernel
theorem dX4_placeOfLetter_14 : decode cX4_placeOfLetter 14 = .ok (.iaload, 1) := by decide +kernel
theorem dX4_placeOfLetter_15 : decode cX4_placeOfLetter 15 = .ok (.iload_n 0, 1) := by decide +kernel
theorem dX4_placeOfLetter_16 : decode cX4_placeOfLetter 16 = .ok (.if_icmp .ne 5, 3) := by decide +kernel
theorem dX4_placeOfLetter_19 : decode cX4_placeOfLetter 19 = .ok (.iload_n 1, 1) := by decide +kernel
theorem dX4_placeOfLetter_20 : decode cX4_placeOfLetter 20 = .ok (.ireturn, 1) := by decide +kernel
theorem dX4_placeOfLetter_21 : decode cX4_placeOfLetter 21 = .ok (.iinc 1 1, 3) := by decide +kernel
theorem dX4_placeOfLetter_24 : decode cX4_placeOfLetter 24 = .ok (.goto (-22), 3) := by decide +kernel
theorem dX4_placeOfLetter_27 : decode cX4_placeOfLetter 27 = .ok (.iconst (-1), 1) := by decide +kernel
theorem dX4_placeOfLetter_28 : decode cX4_placeOfLetter 28 = .ok (.ireturn, 1) := by decide +kernel
theorem dX4_put_0 : decode cX4_put 0 = .ok (.aload_n 0, 1) := by decide +kernel
theorem dX4_put_1 : decode cX4_put 1 = .ok (.getfield 18, 3) := by decide +kernel
theorem dX4_put_4 : decode cX4_put 4 = .ok (.istore_n 3, 1) := by decide +kernel
theorem dX4_put_5 : decode cX4_put 5 = .ok (.iload_n 3, 1) := by decide +kernel
theorem dX4_put_6 : decode cX4_put 6 = .ok (.ifCond .lt 34, 3) := by decide +kernel
theorem dX4_put_9 : decode cX4_put 9 = .ok (.iload_n 3, 1) := by decide +kernel
theorem dX4_put_10 : decode cX4_put 10 = .ok (.sipush 300, 3) := by decide +kernel
theorem dX4_put_13 : decode cX4_put 13 = .ok (.if_icmp .ge 27, 3) := by decide +kernel
theorem dX4_put_16 : decode cX4_put 16 = .ok (.aload_n 0, 1) := by decide +kernel
theorem dX4_put_17 : decode cX4_put 17 = .ok (.getfield 11, 3) := by decide +kernel
theorem dX4_put_20 : decode cX4_put 20 = .ok (.iload_n 3, 1) := by decide +kernel
theorem dX4_put_21 : decode cX4_put 21 = .ok (.iload_n 1, 1) := by decide +kernel
theorem dX4_put_22 : decode cX4_put 22 = .ok (.iastore, 1) := by decide +kernel
theorem dX4_put_23 : decode cX4_put 23 = .ok (.aload_n 0, 1) := by decide +kernel
theorem dX4_put_24 : decode cX4_put 24 = .ok (.getfield 15, 3) := by decide +kernel
theorem dX4_put_27 : decode cX4_put 27 = .ok (.iload_n 3, 1) := by decide +kernel
theorem dX4_put_28 : decode cX4_put 28 = .ok (.iload_n 2, 1) := by decide +kernel
theorem dX4_put_29 : decode cX4_put 29 = .ok (.iastore, 1) := by decide +kernel
theorem dX4_put_30 : decode cX4_put 30 = .ok (.aload_n 0, 1) := by decide +kernel
theorem dX4_put_31 : decode cX4_put 31 = .ok (.dup, 1) := by decide +kernel
theorem dX4_put_32 : decode cX4_put 32 = .ok (.getfield 18, 3) := by decide +kernel
theorem dX4_put_35 : decode cX4_put 35 = .ok (.iconst 1, 1) := by decide +kernel
theorem dX4_put_36 : decode cX4_put 36 = .ok (.iadd, 1) := by decide +kernel
theorem dX4_put_37 : decode cX4_put 37 = .ok (.putfield 18, 3) := by decide +kernel
theorem dX4_put_40 : decode cX4_put 40 = .ok (.iload_n 3, 1) := by decide +kernel
theorem dX4_put_41 : decode cX4_put 41 = .ok (.ireturn, 1) := by decide +kernel
theorem dX4_reckon_0 : decode cX4_reckon 0 = .ok (.iload_n 1, 1) := by decide +kernel
theorem dX4_reckon_1 : decode cX4_reckon 1 = .ok (.istore_n 2, 1) := by decide +kernel
theorem dX4_reckon_2 : decode cX4_reckon 2 = .ok (.iconst 0, 1) := by decide +kernel
theorem dX4_reckon_3 : decode cX4_reckon 3 = .ok (.istore_n 3, 1) := by decide +kernel
theorem dX4_reckon_4 : decode cX4_reckon 4 = .ok (.iconst 0, 1) := by decide +kernel
theorem dX4_reckon_5 : decode cX4_reckon 5 = .ok (.istore 4, 2) := by decide +kernel
theorem dX4_reckon_7 : decode cX4_reckon 7 = .ok (.iload 4, 2) := by decide +kernel
theorem dX4_reckon_9 : decode cX4_reckon 9 = .ok (.sipush 300, 3) := by decide +kernel
theorem dX4_reckon_12 : decode cX4_reckon 12 = .ok (.if_icmp .ge 243, 3) := by decide +kernel
theorem dX4_reckon_15 : decode cX4_reckon 15 = .ok (.iload_n 2, 1) := by decide +kernel
theorem dX4_reckon_16 : decode cX4_reckon 16 = .ok (.ifCond .lt 239, 3) := by decide +kernel
theorem dX4_reckon_19 : decode cX4_reckon 19 = .ok (.iload_n 2, 1) := by decide +kernel
theorem dX4_reckon_20 : decode cX4_reckon 20 = .ok (.aload_n 0, 1) := by decide +kernel
theorem dX4_reckon_21 : decode cX4_reckon 21 = .ok (.getfield 18, 3) := by decide +kernel
theorem dX4_reckon_24 : decode cX4_reckon 24 = .ok (.if_icmp .ge 231, 3) := by decide +kernel
theorem dX4_reckon_27 : decode cX4_reckon 27 = .ok (.aload_n 0, 1) := by decide +kernel
theorem dX4_reckon_28 : decode cX4_reckon 28 = .ok (.getfield 11, 3) := by decide +kernel
theorem dX4_reckon_31 : decode cX4_reckon 31 = .ok (.iload_n 2, 1) := by decide +kernel
theorem dX4_reckon_32 : decode cX4_reckon 32 = .ok (.iaload, 1) := by decide +kernel
theorem dX4_reckon_33 : decode cX4_reckon 33 = .ok (.istore 5, 2) := by decide +kernel
theorem dX4_reckon_35 : decode cX4_reckon 35 = .ok (.aload_n 0, 1) := by decide +kernel
theorem dX4_reckon_36 : decode cX4_reckon 36 = .ok (.getfield 15, 3) := by decide +kernel
theorem dX4_reckon_39 : decode cX4_reckon 39 = .ok (.iload_n 2, 1) := by decide +kernel
theorem dX4_reckon_40 : decode cX4_reckon 40 = .ok (.iaload, 1) := by decide +kernel
theorem dX4_reckon_41 : decode cX4_reckon 41 = .ok (.istore 6, 2) := by decide +kernel
theorem dX4_reckon_43 : decode cX4_reckon 43 = .ok (.iinc 2 1, 3) := by decide +kernel
theorem dX4_reckon_46 : decode cX4_reckon 46 = .ok (.aload_n 0, 1) := by decide +kernel
theorem dX4_reckon_47 : decode cX4_reckon 47 = .ok (.getfield 40, 3) := by decide +kernel
theorem dX4_reckon_50 : decode cX4_reckon 50 = .ok (.iload_n 3, 1) := by decide +kernel
theorem dX4_reckon_51 : decode cX4_reckon 51 = .ok (.iaload, 1) := by decide +kernel
theorem dX4_reckon_52 : decode cX4_reckon 52 = .ok (.istore 7, 2) := by decide +kernel
theorem dX4_reckon_54 : decode cX4_reckon 54 = .ok (.iload_n 3, 1) := by decide +kernel
theorem dX4_reckon_55 : decode cX4_reckon 55 = .ok (.ifCond .le 9, 3) := by decide +kernel
theorem dX4_reckon_58 : decode cX4_reckon 58 = .ok (.iload_n 3, 1) := by decide +kernel
theorem dX4_reckon_59 : decode cX4_reckon 59 = .ok (.iconst 1, 1) := by decide +kernel
theorem dX4_reckon_60 : decode cX4_reckon 60 = .ok (.isub, 1) := by decide +kernel
theorem dX4_reckon_61 : decode cX4_reckon 61 = .ok (.goto 4, 3) := by decide +kernel
theorem dX4_reckon_64 : decode cX4_reckon 64 = .ok (.iconst 0, 1) := by decide +kernel
theorem dX4_reckon_65 : decode cX4_reckon 65 = .ok (.istore 8, 2) := by decide +kernel
theorem dX4_reckon_67 : decode cX4_reckon 67 = .ok (.iload 5, 2) := by decide +kernel
theorem dX4_reckon_69 : decode cX4_reckon 69 = .ok (.tableswitch 137 0 5 #[39, 42, 42, 82, 101, 101], 39) := by decide +kernel
theorem dX4_reckon_108 : decode cX4_reckon 108 = .ok (.iload 7, 2) := by decide +kernel
theorem dX4_reckon_110 : decode cX4_reckon 110 = .ok (.ireturn, 1) := by decide +kernel
theorem dX4_reckon_111 : decode cX4_reckon 111 = .ok (.iload_n 3, 1) := by decide +kernel
theorem dX4_reckon_112 : decode cX4_reckon 112 = .ok (.bipush 63, 2) := by decide +kernel
theorem dX4_reckon_114 : decode cX4_reckon 114 = .ok (.if_icmp .ge 9, 3) := by decide +kernel
theorem dX4_reckon_117 : decode cX4_reckon 117 = .ok (.iload_n 3, 1) := by decide +kernel
theorem dX4_reckon_118 : decode cX4_reckon 118 = .ok (.iconst 1, 1) := by decide +kernel
theorem dX4_reckon_119 : decode cX4_reckon 119 = .ok (.iadd, 1) := by decide +kernel
theorem dX4_reckon_120 : decode cX4_reckon 120 = .ok (.goto 4, 3) := by decide +kernel
theorem dX4_reckon_123 : decode cX4_reckon 123 = .ok (.iload_n 3, 1) := by decide +kernel
theorem dX4_reckon_124 : decode cX4_reckon 124 = .ok (.istore_n 3, 1) := by decide +kernel
theorem dX4_reckon_125 : decode cX4_reckon 125 = .ok (.aload_n 0, 1) := by decide +kernel
theorem dX4_reckon_126 : decode cX4_reckon 126 = .ok (.getfield 40, 3) := by decide +kernel
theorem dX4_reckon_129 : decode cX4_reckon 129 = .ok (.iload_n 3, 1) := by decide +kernel
theorem dX4_reckon_130 : decode cX4_reckon 130 = .ok (.iload 5, 2) := by decide +kernel
theorem dX4_reckon_132 : decode cX4_reckon 132 = .ok (.iconst 1, 1) := by decide +kernel
theorem dX4_reckon_133 : decode cX4_reckon 133 = .ok (.if_icmp .ne 8, 3) := by decide +kernel
theorem dX4_reckon_136 : decode cX4_reckon 136 = .ok (.iload 6, 2) := by decide +kernel
theorem dX4_reckon_138 : decode cX4_reckon 138 = .ok (.goto 9, 3) := by decide +kernel
theorem dX4_reckon_141 : decode cX4_reckon 141 = .ok (.aload_n 0, 1) := by decide +kernel
theorem dX4_reckon_142 : decode cX4_reckon 142 = .ok (.iload 6, 2) := by decide +kernel
theorem dX4_reckon_144 : decode cX4_reckon 144 = .ok (.invokevirtual 66, 3) := by decide +kernel
theorem dX4_reckon_147 : decode cX4_reckon 147 = .ok (.iastore, 1) := by decide +kernel
theorem dX4_reckon_148 : decode cX4_reckon 148 = .ok (.goto 101, 3) := by decide +kernel
theorem dX4_reckon_151 : decode cX4_reckon 151 = .ok (.aload_n 0, 1) := by decide +kernel
theorem dX4_reckon_152 : decode cX4_reckon 152 = .ok (.getfield 40, 3) := by decide +kernel
theorem dX4_reckon_155 : decode cX4_reckon 155 = .ok (.iload_n 3, 1) := by decide +kernel
theorem dX4_reckon_156 : decode cX4_reckon 156 = .ok (.iload 7, 2) := by decide +kernel
theorem dX4_reckon_158 : decode cX4_reckon 158 = .ok (.ifCond .ne 7, 3) := by decide +kernel
theorem dX4_reckon_161 : decode cX4_reckon 161 = .ok (.iconst 1, 1) := by decide +kernel
theorem dX4_reckon_162 : decode cX4_reckon 162 = .ok (.goto 4, 3) := by decide +kernel
theorem dX4_reckon_165 : decode cX4_reckon 165 = .ok (.iconst 0, 1) := by decide +kernel
theorem dX4_reckon_166 : decode cX4_reckon 166 = .ok (.iastore, 1) := by decide +kernel
theorem dX4_reckon_167 : decode cX4_reckon 167 = .ok (.goto 82, 3) := by decide +kernel
theorem dX4_reckon_170 : decode cX4_reckon 170 = .ok (.iload 7, 2) := by decide +kernel
theorem dX4_reckon_172 : decode cX4_reckon 172 = .ok (.ifCond .eq 7, 3) := by decide +kernel
theorem dX4_reckon_175 : decode cX4_reckon 175 = .ok (.iconst 1, 1) := by decide +kernel
theorem dX4_reckon_176 : decode cX4_reckon 176 = .ok (.goto 4, 3) := by decide +kernel
theorem dX4_reckon_179 : decode cX4_reckon 179 = .ok (.iconst 0, 1) := by decide +kernel
theorem dX4_reckon_180 : decode cX4_reckon 180 = .ok (.iload 5, 2) := by decide +kernel
theorem dX4_reckon_182 : decode cX4_reckon 182 = .ok (.iconst 5, 1) := by decide +kernel
theorem dX4_reckon_183 : decode cX4_reckon 183 = .ok (.if_icmp .ne 7, 3) := by decide +kernel
theorem dX4_reckon_186 : decode cX4_reckon 186 = .ok (.iconst 1, 1) := by decide +kernel
theorem dX4_reckon_187 : decode cX4_reckon 187 = .ok (.goto 4, 3) := by decide +kernel
theorem dX4_reckon_190 : decode cX4_reckon 190 = .ok (.iconst 0, 1) := by decide +kernel
theorem dX4_reckon_191 : decode cX4_reckon 191 = .ok (.if_icmp .ne 9, 3) := by decide +kernel
theorem dX4_reckon_194 : decode cX4_reckon 194 = .ok (.iload 6, 2) := by decide +kernel
theorem dX4_reckon_196 : decode cX4_reckon 196 = .ok (.istore_n 2, 1) := by decide +kernel
theorem dX4_reckon_197 : decode cX4_reckon 197 = .ok (.goto 52, 3) := by decide +kernel
theorem dX4_reckon_200 : decode cX4_reckon 200 = .ok (.iload 8, 2) := by decide +kernel
theorem dX4_reckon_202 : decode cX4_reckon 202 = .ok (.istore_n 3, 1) := by decide +kernel
theorem dX4_reckon_203 : decode cX4_reckon 203 = .ok (.goto 46, 3) := by decide +kernel
theorem dX4_reckon_206 : decode cX4_reckon 206 = .ok (.iload 7, 2) := by decide +kernel
theorem dX4_reckon_208 : decode cX4_reckon 208 = .ok (.ifCond .ne 19, 3) := by decide +kernel
theorem dX4_reckon_211 : decode cX4_reckon 211 = .ok (.iload 5, 2) := by decide +kernel
theorem dX4_reckon_213 : decode cX4_reckon 213 = .ok (.bipush 47, 2) := by decide +kernel
theorem dX4_reckon_215 : decode cX4_reckon 215 = .ok (.if_icmp .eq 10, 3) := by decide +kernel
theorem dX4_reckon_218 : decode cX4_reckon 218 = .ok (.iload 5, 2) := by decide +kernel
theorem dX4_reckon_220 : decode cX4_reckon 220 = .ok (.bipush 37, 2) := by decide +kernel
theorem dX4_reckon_222 : decode cX4_reckon 222 = .ok (.if_icmp .ne 5, 3) := by decide +kernel
theorem dX4_reckon_225 : decode cX4_reckon 225 = .ok (.iconst 0, 1) := by decide +kernel
theorem dX4_reckon_226 : decode cX4_reckon 226 = .ok (.ireturn, 1) := by decide +kernel
theorem dX4_reckon_227 : decode cX4_reckon 227 = .ok (.iload 8, 2) := by decide +kernel
theorem dX4_reckon_229 : decode cX4_reckon 229 = .ok (.istore_n 3, 1) := by decide +kernel
theorem dX4_reckon_230 : decode cX4_reckon 230 = .ok (.aload_n 0, 1) := by decide +kernel
theorem dX4_reckon_231 : decode cX4_reckon 231 = .ok (.getfield 40, 3) := by decide +kernel
theorem dX4_reckon_234 : decode cX4_reckon 234 = .ok (.iload_n 3, 1) := by decide +kernel
theorem dX4_reckon_235 : decode cX4_reckon 235 = .ok (.iload 5, 2) := by decide +kernel
theorem dX4_reckon_237 : decode cX4_reckon 237 = .ok (.aload_n 0, 1) := by decide +kernel
theorem dX4_reckon_238 : decode cX4_reckon 238 = .ok (.getfield 40, 3) := by decide +kernel
theorem dX4_reckon_241 : decode cX4_reckon 241 = .ok (.iload_n 3, 1) := by decide +kernel
theorem dX4_reckon_242 : decode cX4_reckon 242 = .ok (.iaload, 1) := by decide +kernel
theorem dX4_reckon_243 : decode cX4_reckon 243 = .ok (.iload 7, 2) := by decide +kernel
theorem dX4_reckon_245 : decode cX4_reckon 245 = .ok (.invokestatic 69, 3) := by decide +kernel
theorem dX4_reckon_248 : decode cX4_reckon 248 = .ok (.iastore, 1) := by decide +kernel
theorem dX4_reckon_249 : decode cX4_reckon 249 = .ok (.iinc 4 1, 3) := by decide +kernel
theorem dX4_reckon_252 : decode cX4_reckon 252 = .ok (.goto (-245), 3) := by decide +kernel
theorem dX4_reckon_255 : decode cX4_reckon 255 = .ok (.iconst 0, 1) := by decide +kernel
theorem dX4_reckon_256 : decode cX4_reckon 256 = .ok (.ireturn, 1) := by decide +kernel
theorem dX4_tellFelon_0 : decode cX4_tellFelon 0 = .ok (.aload_n 0, 1) := by decide +kernel
theorem dX4_tellFelon_1 : decode cX4_tellFelon 1 = .ok (.iload_n 1, 1) := by decide +kernel
theorem dX4_tellFelon_2 : decode cX4_tellFelon 2 = .ok (.invokevirtual 49, 3) := by decide +kernel
theorem dX4_tellFelon_5 : decode cX4_tellFelon 5 = .ok (.aload_n 0, 1) := by decide +kernel
theorem dX4_tellFelon_6 : decode cX4_tellFelon 6 = .ok (.getfield 37, 3) := by decide +kernel
theorem dX4_tellFelon_9 : decode cX4_tellFelon 9 = .ok (.iconst 3, 1) := by decide +kernel
theorem dX4_tellFelon_10 : decode cX4_tellFelon 10 = .ok (.iload_n 2, 1) := by decide +kernel
theorem dX4_tellFelon_11 : decode cX4_tellFelon 11 = .ok (.iastore, 1) := by decide +kernel
theorem dX4_tellFelon_12 : decode cX4_tellFelon 12 = .ok (.aload_n 0, 1) := by decide +kernel
theorem dX4_tellFelon_13 : decode cX4_tellFelon 13 = .ok (.getfield 37, 3) := by decide +kernel
theorem dX4_tellFelon_16 : decode cX4_tellFelon 16 = .ok (.iconst 4, 1) := by decide +kernel
theorem dX4_tellFelon_17 : decode cX4_tellFelon 17 = .ok (.iload_n 3, 1) := by decide +kernel
theorem dX4_tellFelon_18 : decode cX4_tellFelon 18 = .ok (.iastore, 1) := by decide +kernel
theorem dX4_tellFelon_19 : decode cX4_tellFelon 19 = .ok (.aload_n 0, 1) := by decide +kernel
theorem dX4_tellFelon_20 : decode cX4_tellFelon 20 = .ok (.getfield 37, 3) := by decide +kernel
theorem dX4_tellFelon_23 : decode cX4_tellFelon 23 = .ok (.iconst 5, 1) := by decide +kernel
theorem dX4_tellFelon_24 : decode cX4_tellFelon 24 = .ok (.iload 4, 2) := by decide +kernel
theorem dX4_tellFelon_26 : decode cX4_tellFelon 26 = .ok (.iastore, 1) := by decide +kernel
theorem dX4_tellFelon_27 : decode cX4_tellFelon 27 = .ok (.aload_n 0, 1) := by decide +kernel
theorem dX4_tellFelon_28 : decode cX4_tellFelon 28 = .ok (.getfield 37, 3) := by decide +kernel
theorem dX4_tellFelon_31 : decode cX4_tellFelon 31 = .ok (.bipush 6, 2) := by decide +kernel
theorem dX4_tellFelon_33 : decode cX4_tellFelon 33 = .ok (.iload 5, 2) := by decide +kernel
theorem dX4_tellFelon_35 : decode cX4_tellFelon 35 = .ok (.iastore, 1) := by decide +kernel
theorem dX4_tellFelon_36 : decode cX4_tellFelon 36 = .ok (.return_, 1) := by decide +kernel
theorem dX4_tellJudge_0 : decode cX4_tellJudge 0 = .ok (.aload_n 0, 1) := by decide +kernel
theorem dX4_tellJudge_1 : decode cX4_tellJudge 1 = .ok (.iload_n 1, 1) := by decide +kernel
theorem dX4_tellJudge_2 : decode cX4_tellJudge 2 = .ok (.invokevirtual 49, 3) := by decide +kernel
theorem dX4_tellJudge_5 : decode cX4_tellJudge 5 = .ok (.aload_n 0, 1) := by decide +kernel
theorem dX4_tellJudge_6 : decode cX4_tellJudge 6 = .ok (.getfield 37, 3) := by decide +kernel
theorem dX4_tellJudge_9 : decode cX4_tellJudge 9 = .ok (.iconst 2, 1) := by decide +kernel
theorem dX4_tellJudge_10 : decode cX4_tellJudge 10 = .ok (.iload_n 2, 1) := by decide +kernel
theorem dX4_tellJudge_11 : decode cX4_tellJudge 11 = .ok (.iastore, 1) := by decide +kernel
theorem dX4_tellJudge_12 : decode cX4_tellJudge 12 = .ok (.return_, 1) := by decide +kernel
theorem dX4_tellMinute_0 : decode cX4_tellMinute 0 = .ok (.iconst 2, 1) := by decide +kernel
theorem dX4_tellMinute_1 : decode cX4_tellMinute 1 = .ok (.istore_n 2, 1) := by decide +kernel
theorem dX4_tellMinute_2 : decode cX4_tellMinute 2 = .ok (.iload_n 2, 1) := by decide +kernel
theorem dX4_tellMinute_3 : decode cX4_tellMinute 3 = .ok (.aload_n 0, 1) := by decide +kernel
theorem dX4_tellMinute_4 : decode cX4_tellMinute 4 = .ok (.getfield 37, 3) := by decide +kernel
theorem dX4_tellMinute_7 : decode cX4_tellMinute 7 = .ok (.arraylength, 1) := by decide +kernel
theorem dX4_tellMinute_8 : decode cX4_tellMinute 8 = .ok (.if_icmp .ge 16, 3) := by decide +kernel
theorem dX4_tellMinute_11 : decode cX4_tellMinute 11 = .ok (.aload_n 0, 1) := by decide +kernel
theorem dX4_tellMinute_12 : decode cX4_tellMinute 12 = .ok (.getfield 37, 3) := by decide +kernel
theorem dX4_tellMinute_15 : decode cX4_tellMinute 15 = .ok (.iload_n 2, 1) := by decide +kernel
theorem dX4_tellMinute_16 : decode cX4_tellMinute 16 = .ok (.iconst 0, 1) := by decide +kernel
theorem dX4_tellMinute_17 : decode cX4_tellMinute 17 = .ok (.iastore, 1) := by decide +kernel
theorem dX4_tellMinute_18 : decode cX4_tellMinute 18 = .ok (.iinc 2 1, 3) := by decide +kernel
theorem dX4_tellMinute_21 : decode cX4_tellMinute 21 = .ok (.goto (-19), 3) := by decide +kernel
theorem dX4_tellMinute_24 : decode cX4_tellMinute 24 = .ok (.aload_n 0, 1) := by decide +kernel
theorem dX4_tellMinute_25 : decode cX4_tellMinute 25 = .ok (.getfield 37, 3) := by decide +kernel
theorem dX4_tellMinute_28 : decode cX4_tellMinute 28 = .ok (.iconst 0, 1) := by decide +kernel
theorem dX4_tellMinute_29 : decode cX4_tellMinute 29 = .ok (.iload_n 1, 1) := by decide +kernel
theorem dX4_tellMinute_30 : decode cX4_tellMinute 30 = .ok (.iastore, 1) := by decide +kernel
theorem dX4_tellMinute_31 : decode cX4_tellMinute 31 = .ok (.aload_n 0, 1) := by decide +kernel
theorem dX4_tellMinute_32 : decode cX4_tellMinute 32 = .ok (.getfield 37, 3) := by decide +kernel
theorem dX4_tellMinute_35 : decode cX4_tellMinute 35 = .ok (.iconst 1, 1) := by decide +kernel
theorem dX4_tellMinute_36 : decode cX4_tellMinute 36 = .ok (.iload_n 1, 1) := by decide +kernel
theorem dX4_tellMinute_37 : decode cX4_tellMinute 37 = .ok (.bipush 60, 2) := by decide +kernel
theorem dX4_tellMinute_39 : decode cX4_tellMinute 39 = .ok (.idiv, 1) := by decide +kernel
theorem dX4_tellMinute_40 : decode cX4_tellMinute 40 = .ok (.bipush 24, 2) := by decide +kernel
theorem dX4_tellMinute_42 : decode cX4_tellMinute 42 = .ok (.irem, 1) := by decide +kernel
theorem dX4_tellMinute_43 : decode cX4_tellMinute 43 = .ok (.iastore, 1) := by decide +kernel
theorem dX4_tellMinute_44 : decode cX4_tellMinute 44 = .ok (.return_, 1) := by decide +kernel
theorem dX4_toldAt_0 : decode cX4_toldAt 0 = .ok (.iload_n 1, 1) := by decide +kernel
theorem dX4_toldAt_1 : decode cX4_toldAt 1 = .ok (.ifCond .lt 21, 3) := by decide +kernel
theorem dX4_toldAt_4 : decode cX4_toldAt 4 = .ok (.iload_n 1, 1) := by decide +kernel
theorem dX4_toldAt_5 : decode cX4_toldAt 5 = .ok (.aload_n 0, 1) := by decide +kernel
theorem dX4_toldAt_6 : decode cX4_toldAt 6 = .ok (.getfield 37, 3) := by decide +kernel
theorem dX4_toldAt_9 : decode cX4_toldAt 9 = .ok (.arraylength, 1) := by decide +kernel
theorem dX4_toldAt_10 : decode cX4_toldAt 10 = .ok (.if_icmp .ge 12, 3) := by decide +kernel
theorem dX4_toldAt_13 : decode cX4_toldAt 13 = .ok (.aload_n 0, 1) := by decide +kernel
theorem dX4_toldAt_14 : decode cX4_toldAt 14 = .ok (.getfield 37, 3) := by decide +kernel
theorem dX4_toldAt_17 : decode cX4_toldAt 17 = .ok (.iload_n 1, 1) := by decide +kernel
theorem dX4_toldAt_18 : decode cX4_toldAt 18 = .ok (.iaload, 1) := by decide +kernel
theorem dX4_toldAt_19 : decode cX4_toldAt 19 = .ok (.goto 4, 3) := by decide +kernel
theorem dX4_toldAt_22 : decode cX4_toldAt 22 = .ok (.iconst 0, 1) := by decide +kernel
theorem dX4_toldAt_23 : decode cX4_toldAt 23 = .ok (.ireturn, 1) := by decide +kernel
theorem dX4_worthOf_0 : decode cX4_worthOf 0 = .ok (.iconst 0, 1) := by decide +kernel
theorem dX4_worthOf_1 : decode cX4_worthOf 1 = .ok (.istore_n 3, 1) := by decide +kernel
theorem dX4_worthOf_2 : decode cX4_worthOf 2 = .ok (.iload_n 3, 1) := by decide +kernel
theorem dX4_worthOf_3 : decode cX4_worthOf 3 = .ok (.aload_n 0, 1) := by decide +kernel
theorem dX4_worthOf_4 : decode cX4_worthOf 4 = .ok (.getfield 31, 3) := by decide +kernel
theorem dX4_worthOf_7 : decode cX4_worthOf 7 = .ok (.if_icmp .ge 51, 3) := by decide +kernel
theorem dX4_worthOf_10 : decode cX4_worthOf 10 = .ok (.aload_n 0, 1) := by decide +kernel
theorem dX4_worthOf_11 : decode cX4_worthOf 11 = .ok (.getfield 22, 3) := by decide +kernel
theorem dX4_worthOf_14 : decode cX4_worthOf 14 = .ok (.iload_n 3, 1) := by decide +kernel
theorem dX4_worthOf_15 : decode cX4_worthOf 15 = .ok (.iaload, 1) := by decide +kernel
theorem dX4_worthOf_16 : decode cX4_worthOf 16 = .ok (.iload_n 1, 1) := by decide +kernel
theorem dX4_worthOf_17 : decode cX4_worthOf 17 = .ok (.if_icmp .ne 35, 3) := by decide +kernel
theorem dX4_worthOf_20 : decode cX4_worthOf 20 = .ok (.aload_n 0, 1) := by decide +kernel
theorem dX4_worthOf_21 : decode cX4_worthOf 21 = .ok (.aload_n 0, 1) := by decide +kernel
theorem dX4_worthOf_22 : decode cX4_worthOf 22 = .ok (.getfield 28, 3) := by decide +kernel
theorem dX4_worthOf_25 : decode cX4_worthOf 25 = .ok (.iload_n 3, 1) := by decide +kernel
theorem dX4_worthOf_26 : decode cX4_worthOf 26 = .ok (.iaload, 1) := by decide +kernel
theorem dX4_worthOf_27 : decode cX4_worthOf 27 = .ok (.invokevirtual 53, 3) := by decide +kernel
theorem dX4_worthOf_30 : decode cX4_worthOf 30 = .ok (.ifCond .eq 22, 3) := by decide +kernel
theorem dX4_worthOf_33 : decode cX4_worthOf 33 = .ok (.iconst 0, 1) := by decide +kernel
theorem dX4_worthOf_34 : decode cX4_worthOf 34 = .ok (.iload_n 2, 1) := by decide +kernel
theorem dX4_worthOf_35 : decode cX4_worthOf 35 = .ok (.aload_n 0, 1) := by decide +kernel
theorem dX4_worthOf_36 : decode cX4_worthOf 36 = .ok (.aload_n 0, 1) := by decide +kernel
theorem dX4_worthOf_37 : decode cX4_worthOf 37 = .ok (.getfield 25, 3) := by decide +kernel
theorem dX4_worthOf_40 : decode cX4_worthOf 40 = .ok (.iload_n 3, 1) := by decide +kernel
theorem dX4_worthOf_41 : decode cX4_worthOf 41 = .ok (.iaload, 1) := by decide +kernel
theorem dX4_worthOf_42 : decode cX4_worthOf 42 = .ok (.invokevirtual 53, 3) := by decide +kernel
theorem dX4_worthOf_45 : decode cX4_worthOf 45 = .ok (.invokestatic 57, 3) := by decide +kernel
theorem dX4_worthOf_48 : decode cX4_worthOf 48 = .ok (.invokestatic 63, 3) := by decide +kernel
theorem dX4_worthOf_51 : decode cX4_worthOf 51 = .ok (.ireturn, 1) := by decide +kernel
theorem dX4_worthOf_52 : decode cX4_worthOf 52 = .ok (.iinc 3 1, 3) := by decide +kernel
theorem dX4_worthOf_55 : decode cX4_worthOf 55 = .ok (.goto (-53), 3) := by decide +kernel
theorem dX4_worthOf_58 : decode cX4_worthOf 58 = .ok (.iconst 0, 1) := by decide +kernel
theorem dX4_worthOf_59 : decode cX4_worthOf 59 = .ok (.ireturn, 1) := by decide +kernel


set_option maxHeartbeats 4000000 in
set_option maxRecDepth 100000 in
theorem c_X4_toldAt (l : Launch) (D : va_G) (g : xG) (T : Nat × Nat × Nat) (h0 : Nat) (s0 : xS) (hσ : xRR s0) (x : Int) (rx : xR x) (p0 : IC s0) : Met l yX4_toldAt (xws yX4_toldAt cX4_toldAt 2 (some .int)) { frames := 0, cells := 0, slots := 0, locals := 0 } (xP [.ref (h0 + 109), .int (xJ x)] D g T h0 s0) (xQi D g h0 (fun r τ => s0 = τ ∧ (True))) 0 0 (xA h0) := by
  refine x_met hσ (by decide) (Nat.le_of_ble_eq_true rfl) ?_
  intro p e s m args below meth c hx hb hr hml hown hT hlk hnm hE hW ls hl
  have hl : lv_has ls 2 [(0, .ref (h0 + 109)), (1, .int (xJ x))] := hl
  obtain ⟨Q, eQ⟩ : ∃ Q, Q = MQ below (xQi D g h0 (fun r τ => s0 = τ ∧ (True))) args s 0 0 (xA h0) := ⟨_, rfl⟩
  rw [← eQ]
  generalize hHe : ([] : List Loc) = locs at hW ⊢
  obtain ⟨H, eH⟩ : ∃ H, H = s.heap := ⟨_, rfl⟩
  rw [← eH] at hW ⊢
  have k1_1 : s0 1 1 = s0 1 1 := rfl
  refine x_iload_n hx hb hl 1 rfl dX4_toldAt_0 rfl ?_
  refine x_if_lt (tgt := 22) hx hb rx dX4_toldAt_1 (by decide) (fun c1 => ?_) (fun c1 => ?_)
  · skip
    refine x_iconst hx hb dX4_toldAt_22 ?_
    rw [eQ]
    exact x_iret hx hb hr hlk hW (by decide) ⟨rfl, trivial⟩ dX4_toldAt_23
  refine x_iload_n hx hb hl 1 rfl dX4_toldAt_4 rfl ?_
  refine x_aload_n hx hb hl 0 rfl dX4_toldAt_5 rfl ?_
  refine x_get (j := 7) (v := .ref (h0 + 115)) hx hb hown hT hE hW cls_X4 (Or.inl (by decide)) (so_109 h0 g _) (by decide) rfl wq264 dX4_toldAt_6 ?_
  refine x_alen (n := 7) (t0 := 0) hx hb hE hW (Or.inl (by decide)) (sa_115 h0 g _) rfl rfl dX4_toldAt_9 ?_
  refine x_icmp_ge (tgt := 22) hx hb rx (by decide) dX4_toldAt_10 (by decide) (fun c2 => ?_) (fun c2 => ?_)
  · skip
    refine x_iconst hx hb dX4_toldAt_22 ?_
    rw [eQ]
    exact x_iret hx hb hr hlk hW (by decide) ⟨rfl, trivial⟩ dX4_toldAt_23
  refine x_aload_n hx hb hl 0 rfl dX4_toldAt_13 rfl ?_
  refine x_get (j := 7) (v := .ref (h0 + 115)) hx hb hown hT hE hW cls_X4 (Or.inl (by decide)) (so_109 h0 g _) (by decide) rfl wq264 dX4_toldAt_14 ?_
  refine x_iload_n hx hb hl 1 rfl dX4_toldAt_17 rfl ?_
  refine x_iald hx hb hE hW (Or.inl (by decide)) (sa_115 h0 g _) (by omega) (by decide) dX4_toldAt_18 ?_
  refine x_rd hW (fun x3 ex3 rx3 => ?_)
  refine lv_goto (tgt := 23) hx hb dX4_toldAt_19 (by decide) ?_
  rw [eQ]
  exact x_iret hx hb hr hlk hW rx3 ⟨rfl, trivial⟩ dX4_toldAt_23
set_option maxHeartbeats 4000000 in
set_option maxRecDepth 100000 in
theorem c_X4_joined (l : Launch) (D : va_G) (g : xG) (T : Nat × Nat × Nat) (h0 : Nat) (s0 : xS) (hσ : xRR s0) (q : Int) (rq : xR q) (a : Int) (ra : xR a) (b : Int) (rb : xR b) : Met l yX4_joined (xws yX4_joined cX4_joined 3 (some .int)) { frames := 0, cells := 0, slots := 0, locals := 0 } (xP [.int (xJ q), .int (xJ a), .int (xJ b)] D g T h0 s0) (xQi D g h0 (fun r τ => s0 = τ ∧ (True))) 0 0 (xA h0) := by
  refine x_met hσ (by decide) (Nat.le_of_ble_eq_true rfl) ?_
  intro p e s m args below meth c hx hb hr hml hown hT hlk hnm hE hW ls hl
  have hl : lv_has ls 3 [(0, .int (xJ q)), (1, .int (xJ a)), (2, .int (xJ b))] := hl
  obtain ⟨Q, eQ⟩ : ∃ Q, Q = MQ below (xQi D g h0 (fun r τ => s0 = τ ∧ (True))) args s 0 0 (xA h0) := ⟨_, rfl⟩
  rw [← eQ]
  generalize hHe : ([] : List Loc) = locs at hW ⊢
  obtain ⟨H, eH⟩ : ∃ H, H = s.heap := ⟨_, rfl⟩
  rw [← eH] at hW ⊢
  refine x_iload_n hx hb hl 0 rfl dX4_joined_0 rfl ?_
  rcases (show (q ≠ 37 ∧ q ≠ 42 ∧ q ≠ 43 ∧ q ≠ 45 ∧ q ≠ 47 ∧ q ≠ 60 ∧ q ≠ 62) ∨ q = 37 ∨ q = 42 ∨ q = 43 ∨ q = 45 ∨ q = 47 ∨ q = 60 ∨ q = 62 from by omega) with c1 | c1 | c1 | c1 | c1 | c1 | c1 | c1
  · refine x_look (tgt := 126) (off := 125) hx hb rq dX4_joined_1 rfl (xlk_n (by simp; omega)) (by decide) ?_
    refine x_iload_n hx hb hl 1 rfl dX4_joined_126 rfl ?_
    refine x_iload_n hx hb hl 2 rfl dX4_joined_127 rfl ?_
    refine x_icmp_ne (tgt := 135) hx hb ra rb dX4_joined_128 (by decide) (fun c2 => ?_) (fun c2 => ?_)
    · skip
      refine x_iconst hx hb dX4_joined_135 ?_
      rw [eQ]
      exact x_iret hx hb hr hlk hW (by decide) ⟨rfl, trivial⟩ dX4_joined_136
    refine x_iconst hx hb dX4_joined_131 ?_
    refine lv_goto (tgt := 136) hx hb dX4_joined_132 (by decide) ?_
    rw [eQ]
    exact x_iret hx hb hr hlk hW (by decide) ⟨rfl, trivial⟩ dX4_joined_136
  · refine x_look (tgt := 92) (off := 91) hx hb rq dX4_joined_1 rfl (by rw [c1]; rfl) (by decide) ?_
    refine x_iload_n hx hb hl 2 rfl dX4_joined_92 rfl ?_
    refine x_if_ne (tgt := 100) hx hb rb dX4_joined_93 (by decide) (fun c3 => ?_) (fun c3 => ?_)
    · skip
      refine x_iload_n hx hb hl 1 rfl dX4_joined_100 rfl ?_
      refine x_iload_n hx hb hl 2 rfl dX4_joined_101 rfl ?_
      refine x_iremQ hx hb rb (by omega) dX4_joined_102 (fun x4 rx4 => ?_)
      rw [eQ]
      exact x_iret hx hb hr hlk hW rx4 ⟨rfl, trivial⟩ dX4_joined_103
    refine x_iconst hx hb dX4_joined_96 ?_
    refine lv_goto (tgt := 103) hx hb dX4_joined_97 (by decide) ?_
    rw [eQ]
    exact x_iret hx hb hr hlk hW (by decide) ⟨rfl, trivial⟩ dX4_joined_103
  · refine x_look (tgt := 76) (off := 75) hx hb rq dX4_joined_1 rfl (by rw [c1]; rfl) (by decide) ?_
    refine x_iload_n hx hb hl 1 rfl dX4_joined_76 rfl ?_
    refine x_iload_n hx hb hl 2 rfl dX4_joined_77 rfl ?_
    refine x_imul hx hb dX4_joined_78 ?_
    refine x_any (fun x5 rx5 => ?_)
    rw [eQ]
    exact x_iret hx hb hr hlk hW rx5 ⟨rfl, trivial⟩ dX4_joined_79
  · refine x_look (tgt := 68) (off := 67) hx hb rq dX4_joined_1 rfl (by rw [c1]; rfl) (by decide) ?_
    refine x_iload_n hx hb hl 1 rfl dX4_joined_68 rfl ?_
    refine x_iload_n hx hb hl 2 rfl dX4_joined_69 rfl ?_
    refine x_iadd hx hb dX4_joined_70 ?_
    refine x_any (fun x6 rx6 => ?_)
    rw [eQ]
    exact x_iret hx hb hr hlk hW rx6 ⟨rfl, trivial⟩ dX4_joined_71
  · refine x_look (tgt := 72) (off := 71) hx hb rq dX4_joined_1 rfl (by rw [c1]; rfl) (by decide) ?_
    refine x_iload_n hx hb hl 1 rfl dX4_joined_72 rfl ?_
    refine x_iload_n hx hb hl 2 rfl dX4_joined_73 rfl ?_
    refine x_isub hx hb dX4_joined_74 ?_
    refine x_any (fun x7 rx7 => ?_)
    rw [eQ]
    exact x_iret hx hb hr hlk hW rx7 ⟨rfl, trivial⟩ dX4_joined_75
  · refine x_look (tgt := 80) (off := 79) hx hb rq dX4_joined_1 rfl (by rw [c1]; rfl) (by decide) ?_
    refine x_iload_n hx hb hl 2 rfl dX4_joined_80 rfl ?_
    refine x_if_ne (tgt := 88) hx hb rb dX4_joined_81 (by decide) (fun c8 => ?_) (fun c8 => ?_)
    · skip
      refine x_iload_n hx hb hl 1 rfl dX4_joined_88 rfl ?_
      refine x_iload_n hx hb hl 2 rfl dX4_joined_89 rfl ?_
      refine x_idivQ hx hb rb (by omega) dX4_joined_90 (fun x9 rx9 => ?_)
      rw [eQ]
      exact x_iret hx hb hr hlk hW rx9 ⟨rfl, trivial⟩ dX4_joined_91
    refine x_iconst hx hb dX4_joined_84 ?_
    refine lv_goto (tgt := 91) hx hb dX4_joined_85 (by decide) ?_
    rw [eQ]
    exact x_iret hx hb hr hlk hW (by decide) ⟨rfl, trivial⟩ dX4_joined_91
  · refine x_look (tgt := 104) (off := 103) hx hb rq dX4_joined_1 rfl (by rw [c1]; rfl) (by decide) ?_
    refine x_iload_n hx hb hl 1 rfl dX4_joined_104 rfl ?_
    refine x_iload_n hx hb hl 2 rfl dX4_joined_105 rfl ?_
    refine x_icmp_ge (tgt := 113) hx hb ra rb dX4_joined_106 (by decide) (fun c10 => ?_) (fun c10 => ?_)
    · skip
      refine x_iconst hx hb dX4_joined_113 ?_
      rw [eQ]
      exact x_iret hx hb hr hlk hW (by decide) ⟨rfl, trivial⟩ dX4_joined_114
    refine x_iconst hx hb dX4_joined_109 ?_
    refine lv_goto (tgt := 114) hx hb dX4_joined_110 (by decide) ?_
    rw [eQ]
    exact x_iret hx hb hr hlk hW (by decide) ⟨rfl, trivial⟩ dX4_joined_114
  · refine x_look (tgt := 115) (off := 114) hx hb rq dX4_joined_1 rfl (by rw [c1]; rfl) (by decide) ?_
    refine x_iload_n hx hb hl 1 rfl dX4_joined_115 rfl ?_
    refine x_iload_n hx hb hl 2 rfl dX4_joined_116 rfl ?_
    refine x_icmp_le (tgt := 124) hx hb ra rb dX4_joined_117 (by decide) (fun c11 => ?_) (fun c11 => ?_)
    · skip
      refine x_iconst hx hb dX4_joined_124 ?_
      rw [eQ]
      exact x_iret hx hb hr hlk hW (by decide) ⟨rfl, trivial⟩ dX4_joined_125
    refine x_iconst hx hb dX4_joined_120 ?_
    refine lv_goto (tgt := 125) hx hb dX4_joined_121 (by decide) ?_
    rw [eQ]
    exact x_iret hx hb hr hlk hW (by decide) ⟨rfl, trivial⟩ dX4_joined_125
set_option maxHeartbeats 4000000 in
set_option maxRecDepth 100000 in
theorem c_X4_tellMinute (l : Launch) (D : va_G) (g : xG) (T : Nat × Nat × Nat) (h0 : Nat) (s0 : xS) (hσ : xRR s0) (t : Int) (rt : xR t) (p0 : IC s0) : Met l yX4_tellMinute (xws yX4_tellMinute cX4_tellMinute 3 none) { frames := 0, cells := 0, slots := 0, locals := 0 } (xP [.ref (h0 + 109), .int (xJ t)] D g T h0 s0) (xQv D g h0 (fun τ => xFr (fun k => k = 115) s0 τ ∧ (((IC τ) ∧ True) ∧ (True)))) 0 0 (xA h0) := by
  refine x_met hσ (by decide) (Nat.le_of_ble_eq_true rfl) ?_
  intro p e s m args below meth c hx hb hr hml hown hT hlk hnm hE hW ls hl
  have hl : lv_has ls 3 [(0, .ref (h0 + 109)), (1, .int (xJ t))] := hl
  obtain ⟨Q, eQ⟩ : ∃ Q, Q = MQ below (xQv D g h0 (fun τ => xFr (fun k => k = 115) s0 τ ∧ (((IC τ) ∧ True) ∧ (True)))) args s 0 0 (xA h0) := ⟨_, rfl⟩
  rw [← eQ]
  generalize hHe : ([] : List Loc) = locs at hW ⊢
  obtain ⟨H, eH⟩ : ∃ H, H = s.heap := ⟨_, rfl⟩
  rw [← eH] at hW ⊢
  have hF : xFr (fun k => k = 115) s0 s0 := xFr.rf
  have k1_1 : s0 1 1 = s0 1 1 := rfl
  refine x_iconst hx hb dX4_tellMinute_0 ?_
  refine lv_istore_n (lv' := [(2, .int (xJ 2)), (0, .ref (h0 + 109)), (1, .int (xJ t))]) hx hb dX4_tellMinute_1 rfl hl (by decide) rfl (fun ls hl => ?_)
  have L2 : ∀ (fu : Nat) (i2_2 : Int) (s_2 : xS) (H : Heap) (locs : List Loc) (ls : Array Slot), (xR i2_2) → (xFr (fun k => k = 115) s0 s_2) → (IC s_2) → (s_2 1 1 = s0 1 1) → (0 ≤ i2_2) → (7 - i2_2).toNat < fu → xW D g h0 s H locs s_2 → lv_has ls 3 [(0, .ref (h0 + 109)), (1, .int (xJ t)), (2, .int (xJ i2_2))] → W p l e { frames := 0, cells := 0, slots := 0, locals := 0 } s m args below meth c H locs 0 0 Q (F0 m 2 ls []) := by
    intro fu
    induction fu with
    | zero => intro i2_2 s_2 H locs ls ri2_2 hF_2 q2_0 q2_1 v2_0 hm; exact absurd hm (Nat.not_lt_zero _)
    | succ fu ih2 =>
      intro i2_2 s_2 H locs ls ri2_2 hF_2 q2_0 q2_1 v2_0 hm hW hl
      refine x_iload_n hx hb hl 2 rfl dX4_tellMinute_2 rfl ?_
      refine x_aload_n hx hb hl 0 rfl dX4_tellMinute_3 rfl ?_
      refine x_get (j := 7) (v := .ref (h0 + 115)) hx hb hown hT hE hW cls_X4 (Or.inl (by decide)) (so_109 h0 g _) (by decide) rfl wq264 dX4_tellMinute_4 ?_
      refine x_alen (n := 7) (t0 := 0) hx hb hE hW (Or.inl (by decide)) (sa_115 h0 g _) rfl rfl dX4_tellMinute_7 ?_
      refine x_icmp_ge (tgt := 24) hx hb ri2_2 (by decide) dX4_tellMinute_8 (by decide) (fun c1 => ?_) (fun c1 => ?_)
      · skip
        refine x_aload_n hx hb hl 0 rfl dX4_tellMinute_24 rfl ?_
        refine x_get (j := 7) (v := .ref (h0 + 115)) hx hb hown hT hE hW cls_X4 (Or.inl (by decide)) (so_109 h0 g _) (by decide) rfl wq264 dX4_tellMinute_25 ?_
        refine x_iconst hx hb dX4_tellMinute_28 ?_
        refine x_iload_n hx hb hl 1 rfl dX4_tellMinute_29 rfl ?_
        refine x_iast hx hb hE hW (by decide) (fun σ => sa_115 h0 g σ) ⟨by decide, by decide⟩ (by decide) rt dX4_tellMinute_30 (fun H locs s2 es2 hW => ?_)
        have q3 : IC s2 := by rw [es2]; exact IC_o (by decide) q2_0
        have q4 : s2 1 1 = s0 1 1 := (show s2 1 1 = s_2 1 1 from by rw [es2, xU_k _ _ _ (by omega)]).trans q2_1
        have hF5 := hF_2.put es2 (by omega)
        refine x_aload_n hx hb hl 0 rfl dX4_tellMinute_31 rfl ?_
        refine x_get (j := 7) (v := .ref (h0 + 115)) hx hb hown hT hE hW cls_X4 (Or.inl (by decide)) (so_109 h0 g _) (by decide) rfl wq264 dX4_tellMinute_32 ?_
        refine x_iconst hx hb dX4_tellMinute_35 ?_
        refine x_iload_n hx hb hl 1 rfl dX4_tellMinute_36 rfl ?_
        refine x_bipush hx hb dX4_tellMinute_37 (by decide) ?_
        refine x_idivQ hx hb (by decide) (by omega) dX4_tellMinute_39 (fun x6 rx6 => ?_)
        refine x_bipush hx hb dX4_tellMinute_40 (by decide) ?_
        refine x_iremQ hx hb (by decide) (by omega) dX4_tellMinute_42 (fun x7 rx7 => ?_)
        refine x_iast hx hb hE hW (by decide) (fun σ => sa_115 h0 g σ) ⟨by decide, by decide⟩ (by decide) rx7 dX4_tellMinute_43 (fun H locs s8 es8 hW => ?_)
        have q9 : IC s8 := by rw [es8]; exact IC_o (by decide) q3
        have q10 : s8 1 1 = s0 1 1 := (show s8 1 1 = s2 1 1 from by rw [es8, xU_k _ _ _ (by omega)]).trans q4
        have hF11 := hF5.put es8 (by omega)
        rw [eQ]
        exact x_vret hx hb hr hlk hW ⟨hF11, ⟨q9, trivial⟩, trivial⟩ dX4_tellMinute_44
      refine x_aload_n hx hb hl 0 rfl dX4_tellMinute_11 rfl ?_
      refine x_get (j := 7) (v := .ref (h0 + 115)) hx hb hown hT hE hW cls_X4 (Or.inl (by decide)) (so_109 h0 g _) (by decide) rfl wq264 dX4_tellMinute_12 ?_
      refine x_iload_n hx hb hl 2 rfl dX4_tellMinute_15 rfl ?_
      refine x_iconst hx hb dX4_tellMinute_16 ?_
      refine x_iast hx hb hE hW (by decide) (fun σ => sa_115 h0 g σ) (by omega) (by decide) (by decide) dX4_tellMinute_17 (fun H locs s12 es12 hW => ?_)
      have q13 : IC s12 := by rw [es12]; exact IC_o (by decide) q2_0
      have q14 : s12 1 1 = s0 1 1 := (show s12 1 1 = s_2 1 1 from by rw [es12, xU_k _ _ _ (by omega)]).trans q2_1
      have hF15 := hF_2.put es12 (by omega)
      refine x_iinc (lv' := [(2, .int (xJ (i2_2 + 1))), (0, .ref (h0 + 109)), (1, .int (xJ t))]) hx hb hl 2 rfl dX4_tellMinute_18 (by decide) rfl (fun ls hl => ?_)
      refine lv_goto (tgt := 2) hx hb dX4_tellMinute_21 (by decide) ?_
      exact ih2 (i2_2 + 1) s12 H locs ls (by omega) hF15 q13 q14 (by omega) (by omega) hW (lv_sub hl [1, 2, 0] rfl)
  exact L2 ((7 - 2 : Int).toNat + 1) 2 s0 H locs ls (by decide) hF p0 k1_1 (by omega) (Nat.lt_succ_self _) hW (lv_sub hl [1, 2, 0] rfl)
set_option maxHeartbeats 4000000 in
set_option maxRecDepth 100000 in
theorem c_X4_tellFelon (l : Launch) (D : va_G) (g : xG) (T : Nat × Nat × Nat) (h0 : Nat) (s0 : xS) (hσ : xRR s0) (t : Int) (rt : xR t) (f : Int) (rf : xR f) (w : Int) (rw : xR w) (b : Int) (rb : xR b) (q : Int) (rq : xR q) (p0 : IC s0) : Met l yX4_tellFelon (xws yX4_tellFelon cX4_tellFelon 6 none) { frames := 1, cells := 0, slots := 0, locals := 22 } (xP [.ref (h0 + 109), .int (xJ t), .int (xJ f), .int (xJ w), .int (xJ b), .int (xJ q)] D g T h0 s0) (xQv D g h0 (fun τ => xFr (fun k => k = 115) s0 τ ∧ (((IC τ) ∧ True) ∧ (True)))) 0 0 (xA h0) := by
  refine x_met hσ (by decide) (Nat.le_of_ble_eq_true rfl) ?_
  intro p e s m args below meth c hx hb hr hml hown hT hlk hnm hE hW ls hl
  have hl : lv_has ls 6 [(0, .ref (h0 + 109)), (1, .int (xJ t)), (2, .int (xJ f)), (3, .int (xJ w)), (4, .int (xJ b)), (5, .int (xJ q))] := hl
  obtain ⟨Q, eQ⟩ : ∃ Q, Q = MQ below (xQv D g h0 (fun τ => xFr (fun k => k = 115) s0 τ ∧ (((IC τ) ∧ True) ∧ (True)))) args s 0 0 (xA h0) := ⟨_, rfl⟩
  rw [← eQ]
  generalize hHe : ([] : List Loc) = locs at hW ⊢
  obtain ⟨H, eH⟩ : ∃ H, H = s.heap := ⟨_, rfl⟩
  rw [← eH] at hW ⊢
  have hF : xFr (fun k => k = 115) s0 s0 := xFr.rf
  have k1_1 : s0 1 1 = s0 1 1 := rfl
  refine x_aload_n hx hb hl 0 rfl dX4_tellFelon_0 rfl ?_
  refine x_iload_n hx hb hl 1 rfl dX4_tellFelon_1 rfl ?_
  refine x_gov (x_runV (As := [.int (xJ t)]) hx hb hml hown hT hE hW hl.1 (Or.inl (by decide)) (so_109 h0 g _) rfl cf_X4_tellMinute wq793 wq40 wq821 (c_X4_tellMinute l D g T h0 s0 hW.2.1 t rt p0) ⟨rfl, rfl, ⟨by decide, by decide⟩, ⟨by decide, by decide⟩⟩ rfl rfl (Nat.le_of_ble_eq_true rfl) dX4_tellFelon_2) hW (fun s2 H locs hp3 hW => ?_)
  obtain ⟨fs2, hp3⟩ := hp3
  have hF4 := hF.call fs2 (fun k h => by omega)
  have q5 : s2 1 1 = s0 1 1 := (congrFun (fs2 _ (by omega)) _).trans k1_1
  have ghp3 := hp3.2
  refine x_aload_n hx hb hl 0 rfl dX4_tellFelon_5 rfl ?_
  refine x_get (j := 7) (v := .ref (h0 + 115)) hx hb hown hT hE hW cls_X4 (Or.inl (by decide)) (so_109 h0 g _) (by decide) rfl wq264 dX4_tellFelon_6 ?_
  refine x_iconst hx hb dX4_tellFelon_9 ?_
  refine x_iload_n hx hb hl 2 rfl dX4_tellFelon_10 rfl ?_
  refine x_iast hx hb hE hW (by decide) (fun σ => sa_115 h0 g σ) ⟨by decide, by decide⟩ (by decide) rf dX4_tellFelon_11 (fun H locs s6 es6 hW => ?_)
  have q7 : s6 1 1 = s0 1 1 := (show s6 1 1 = s2 1 1 from by rw [es6, xU_k _ _ _ (by omega)]).trans q5
  have q8 : IC s6 := by rw [es6]; exact IC_o (by decide) hp3.1.1
  have hF9 := hF4.put es6 (by omega)
  refine x_aload_n hx hb hl 0 rfl dX4_tellFelon_12 rfl ?_
  refine x_get (j := 7) (v := .ref (h0 + 115)) hx hb hown hT hE hW cls_X4 (Or.inl (by decide)) (so_109 h0 g _) (by decide) rfl wq264 dX4_tellFelon_13 ?_
  refine x_iconst hx hb dX4_tellFelon_16 ?_
  refine x_iload_n hx hb hl 3 rfl dX4_tellFelon_17 rfl ?_
  refine x_iast hx hb hE hW (by decide) (fun σ => sa_115 h0 g σ) ⟨by decide, by decide⟩ (by decide) rw dX4_tellFelon_18 (fun H locs s10 es10 hW => ?_)
  have q11 : s10 1 1 = s0 1 1 := (show s10 1 1 = s6 1 1 from by rw [es10, xU_k _ _ _ (by omega)]).trans q7
  have q12 : IC s10 := by rw [es10]; exact IC_o (by decide) q8
  have hF13 := hF9.put es10 (by omega)
  refine x_aload_n hx hb hl 0 rfl dX4_tellFelon_19 rfl ?_
  refine x_get (j := 7) (v := .ref (h0 + 115)) hx hb hown hT hE hW cls_X4 (Or.inl (by decide)) (so_109 h0 g _) (by decide) rfl wq264 dX4_tellFelon_20 ?_
  refine x_iconst hx hb dX4_tellFelon_23 ?_
  refine x_iload hx hb hl 4 rfl dX4_tellFelon_24 ?_
  refine x_iast hx hb hE hW (by decide) (fun σ => sa_115 h0 g σ) ⟨by decide, by decide⟩ (by decide) rb dX4_tellFelon_26 (fun H locs s14 es14 hW => ?_)
  have q15 : s14 1 1 = s0 1 1 := (show s14 1 1 = s10 1 1 from by rw [es14, xU_k _ _ _ (by omega)]).trans q11
  have q16 : IC s14 := by rw [es14]; exact IC_o (by decide) q12
  have hF17 := hF13.put es14 (by omega)
  refine x_aload_n hx hb hl 0 rfl dX4_tellFelon_27 rfl ?_
  refine x_get (j := 7) (v := .ref (h0 + 115)) hx hb hown hT hE hW cls_X4 (Or.inl (by decide)) (so_109 h0 g _) (by decide) rfl wq264 dX4_tellFelon_28 ?_
  refine x_bipush hx hb dX4_tellFelon_31 (by decide) ?_
  refine x_iload hx hb hl 5 rfl dX4_tellFelon_33 ?_
  refine x_iast hx hb hE hW (by decide) (fun σ => sa_115 h0 g σ) ⟨by decide, by decide⟩ (by decide) rq dX4_tellFelon_35 (fun H locs s18 es18 hW => ?_)
  have q19 : s18 1 1 = s0 1 1 := (show s18 1 1 = s14 1 1 from by rw [es18, xU_k _ _ _ (by omega)]).trans q15
  have q20 : IC s18 := by rw [es18]; exact IC_o (by decide) q16
  have hF21 := hF17.put es18 (by omega)
  rw [eQ]
  exact x_vret hx hb hr hlk hW ⟨hF21, ⟨q20, trivial⟩, trivial⟩ dX4_tellFelon_36
set_option maxHeartbeats 4000000 in
set_option maxRecDepth 100000 in
theorem c_X4_reckon (l : Launch) (D : va_G) (g : xG) (T : Nat × Nat × Nat) (h0 : Nat) (s0 : xS) (hσ : xRR s0) (a : Int) (ra : xR a) (p0 : IC s0) : Met l yX4_reckon (xws yX4_reckon cX4_reckon 9 (some .int)) { frames := 1, cells := 0, slots := 0, locals := 22 } (xP [.ref (h0 + 109), .int (xJ a)] D g T h0 s0) (xQi D g h0 (fun r τ => xFr (fun k => k = 116) s0 τ ∧ (((IC τ) ∧ True) ∧ (True)))) 0 0 (xA h0) := by
  refine x_met hσ (by decide) (Nat.le_of_ble_eq_true rfl) ?_
  intro p e s m args below meth c hx hb hr hml hown hT hlk hnm hE hW ls hl
  have hl : lv_has ls 9 [(0, .ref (h0 + 109)), (1, .int (xJ a))] := hl
  obtain ⟨Q, eQ⟩ : ∃ Q, Q = MQ below (xQi D g h0 (fun r τ => xFr (fun k => k = 116) s0 τ ∧ (((IC τ) ∧ True) ∧ (True)))) args s 0 0 (xA h0) := ⟨_, rfl⟩
  rw [← eQ]
  generalize hHe : ([] : List Loc) = locs at hW ⊢
  obtain ⟨H, eH⟩ : ∃ H, H = s.heap := ⟨_, rfl⟩
  rw [← eH] at hW ⊢
  have hF : xFr (fun k => k = 116) s0 s0 := xFr.rf
  have k1_1 : s0 1 1 = s0 1 1 := rfl
  refine x_iload_n hx hb hl 1 rfl dX4_reckon_0 rfl ?_
  refine lv_istore_n (lv' := [(2, .int (xJ a)), (0, .ref (h0 + 109)), (1, .int (xJ a))]) hx hb dX4_reckon_1 rfl hl (by decide) rfl (fun ls hl => ?_)
  refine x_iconst hx hb dX4_reckon_2 ?_
  refine lv_istore_n (lv' := [(3, .int (xJ 0)), (2, .int (xJ a)), (0, .ref (h0 + 109)), (1, .int (xJ a))]) hx hb dX4_reckon_3 rfl hl (by decide) rfl (fun ls hl => ?_)
  refine x_iconst hx hb dX4_reckon_4 ?_
  refine lv_istore (lv' := [(4, .int (xJ 0)), (3, .int (xJ 0)), (2, .int (xJ a)), (0, .ref (h0 + 109)), (1, .int (xJ a))]) hx hb dX4_reckon_5 hl (by decide) rfl (fun ls hl => ?_)
  have L7 : ∀ (fu : Nat) (i2_7 : Int) (i3_7 : Int) (i4_7 : Int) (s_7 : xS) (H : Heap) (locs : List Loc) (ls : Array Slot), (xR i2_7) → (xR i3_7) → (xR i4_7) → (xFr (fun k => k = 116) s0 s_7) → (IC s_7) → (s_7 1 1 = s0 1 1) → (0 ≤ i4_7) → (0 ≤ i3_7 ∧ i3_7 ≤ 63) → (300 - i4_7).toNat < fu → xW D g h0 s H locs s_7 → lv_has ls 9 [(0, .ref (h0 + 109)), (2, .int (xJ i2_7)), (3, .int (xJ i3_7)), (4, .int (xJ i4_7))] → W p l e { frames := 1, cells := 0, slots := 0, locals := 22 } s m args below meth c H locs 0 0 Q (F0 m 7 ls []) := by
    intro fu
    induction fu with
    | zero => intro i2_7 i3_7 i4_7 s_7 H locs ls ri2_7 ri3_7 ri4_7 hF_7 q7_0 q7_1 v7_0 v7_1 hm; exact absurd hm (Nat.not_lt_zero _)
    | succ fu ih7 =>
      intro i2_7 i3_7 i4_7 s_7 H locs ls ri2_7 ri3_7 ri4_7 hF_7 q7_0 q7_1 v7_0 v7_1 hm hW hl
      refine x_iload hx hb hl 3 rfl dX4_reckon_7 ?_
      refine x_sipush hx hb dX4_reckon_9 (by decide) ?_
      refine x_icmp_ge (tgt := 255) hx hb ri4_7 (by decide) dX4_reckon_12 (by decide) (fun c1 => ?_) (fun c1 => ?_)
      · skip
        refine x_iconst hx hb dX4_reckon_255 ?_
        rw [eQ]
        exact x_iret hx hb hr hlk hW (by decide) ⟨hF_7, ⟨q7_0, trivial⟩, trivial⟩ dX4_reckon_256
      refine x_iload_n hx hb hl 1 rfl dX4_reckon_15 rfl ?_
      refine x_if_lt (tgt := 255) hx hb ri2_7 dX4_reckon_16 (by decide) (fun c2 => ?_) (fun c2 => ?_)
      · skip
        refine x_iconst hx hb dX4_reckon_255 ?_
        rw [eQ]
        exact x_iret hx hb hr hlk hW (by decide) ⟨hF_7, ⟨q7_0, trivial⟩, trivial⟩ dX4_reckon_256
      refine x_iload_n hx hb hl 1 rfl dX4_reckon_19 rfl ?_
      refine x_aload_n hx hb hl 0 rfl dX4_reckon_20 rfl ?_
      refine x_get (j := 2) (v := .int (xJ (s_7 109 2))) hx hb hown hT hE hW cls_X4 (Or.inl (by decide)) (so_109 h0 g _) (by decide) rfl wq253 dX4_reckon_21 ?_
      refine x_rd hW (fun x3 ex3 rx3 => ?_)
      have bx3 : 0 ≤ x3 ∧ x3 ≤ 300 := by rw [ex3]; exact (IC.l1 q7_0).1
      refine x_icmp_ge (tgt := 255) hx hb ri2_7 rx3 dX4_reckon_24 (by decide) (fun c4 => ?_) (fun c4 => ?_)
      · skip
        refine x_iconst hx hb dX4_reckon_255 ?_
        rw [eQ]
        exact x_iret hx hb hr hlk hW (by decide) ⟨hF_7, ⟨q7_0, trivial⟩, trivial⟩ dX4_reckon_256
      refine x_aload_n hx hb hl 0 rfl dX4_reckon_27 rfl ?_
      refine x_get (j := 0) (v := .ref (h0 + 110)) hx hb hown hT hE hW cls_X4 (Or.inl (by decide)) (so_109 h0 g _) (by decide) rfl wq251 dX4_reckon_28 ?_
      refine x_iload_n hx hb hl 1 rfl dX4_reckon_31 rfl ?_
      refine x_iald hx hb hE hW (Or.inl (by decide)) (sa_110 h0 g _) (by omega) (by decide) dX4_reckon_32 ?_
      refine x_rd hW (fun x5 ex5 rx5 => ?_)
      refine lv_istore (lv' := [(5, .int (xJ x5)), (0, .ref (h0 + 109)), (2, .int (xJ i2_7)), (3, .int (xJ i3_7)), (4, .int (xJ i4_7))]) hx hb dX4_reckon_33 hl (by decide) rfl (fun ls hl => ?_)
      refine x_aload_n hx hb hl 1 rfl dX4_reckon_35 rfl ?_
      refine x_get (j := 1) (v := .ref (h0 + 111)) hx hb hown hT hE hW cls_X4 (Or.inl (by decide)) (so_109 h0 g _) (by decide) rfl wq252 dX4_reckon_36 ?_
      refine x_iload_n hx hb hl 2 rfl dX4_reckon_39 rfl ?_
      refine x_iald hx hb hE hW (Or.inl (by decide)) (sa_111 h0 g _) (by omega) (by decide) dX4_reckon_40 ?_
      refine x_rd hW (fun x6 ex6 rx6 => ?_)
      refine lv_istore (lv' := [(6, .int (xJ x6)), (5, .int (xJ x5)), (0, .ref (h0 + 109)), (2, .int (xJ i2_7)), (3, .int (xJ i3_7)), (4, .int (xJ i4_7))]) hx hb dX4_reckon_41 hl (by decide) rfl (fun ls hl => ?_)
      refine x_iinc (lv' := [(2, .int (xJ (i2_7 + 1))), (6, .int (xJ x6)), (5, .int (xJ x5)), (0, .ref (h0 + 109)), (3, .int (xJ i3_7)), (4, .int (xJ i4_7))]) hx hb hl 3 rfl dX4_reckon_43 (by decide) rfl (fun ls hl => ?_)
      refine x_aload_n hx hb hl 3 rfl dX4_reckon_46 rfl ?_
      refine x_get (j := 8) (v := .ref (h0 + 116)) hx hb hown hT hE hW cls_X4 (Or.inl (by decide)) (so_109 h0 g _) (by decide) rfl wq265 dX4_reckon_47 ?_
      refine x_iload_n hx hb hl 4 rfl dX4_reckon_50 rfl ?_
      refine x_iald hx hb hE hW (Or.inl (by decide)) (sa_116 h0 g _) (by omega) (by decide) dX4_reckon_51 ?_
      refine x_rd hW (fun x7 ex7 rx7 => ?_)
      refine lv_istore (lv' := [(7, .int (xJ x7)), (2, .int (xJ (i2_7 + 1))), (6, .int (xJ x6)), (5, .int (xJ x5)), (0, .ref (h0 + 109)), (3, .int (xJ i3_7)), (4, .int (xJ i4_7))]) hx hb dX4_reckon_52 hl (by decide) rfl (fun ls hl => ?_)
      refine x_iload_n hx hb hl 5 rfl dX4_reckon_54 rfl ?_
      have J65 : ∀ (t0_65 : Int) (ls : Array Slot), (xR t0_65) → (0 ≤ t0_65 ∧ t0_65 ≤ 63) → lv_has ls 9 [(0, .ref (h0 + 109)), (2, .int (xJ (i2_7 + 1))), (3, .int (xJ i3_7)), (4, .int (xJ i4_7)), (5, .int (xJ x5)), (6, .int (xJ x6)), (7, .int (xJ x7))] → W p l e { frames := 1, cells := 0, slots := 0, locals := 22 } s m args below meth c H locs 0 0 Q (F0 m 65 ls [.int (xJ t0_65)]) := by
        intro t0_65 ls rt0_65 v65_0  hl
        refine lv_istore (lv' := [(8, .int (xJ t0_65)), (0, .ref (h0 + 109)), (2, .int (xJ (i2_7 + 1))), (3, .int (xJ i3_7)), (4, .int (xJ i4_7)), (5, .int (xJ x5)), (6, .int (xJ x6)), (7, .int (xJ x7))]) hx hb dX4_reckon_65 hl (by decide) rfl (fun ls hl => ?_)
        refine x_iload hx hb hl 5 rfl dX4_reckon_67 ?_
        have J249 : ∀ (i2_249 : Int) (i3_249 : Int) (s_249 : xS) (H : Heap) (locs : List Loc) (ls : Array Slot), (xR i2_249) → (xR i3_249) → (xFr (fun k => k = 116) s0 s_249) → (IC s_249) → (s_249 1 1 = s0 1 1) → (0 ≤ i3_249 ∧ i3_249 ≤ 63) → xW D g h0 s H locs s_249 → lv_has ls 9 [(0, .ref (h0 + 109)), (2, .int (xJ i2_249)), (3, .int (xJ i3_249)), (4, .int (xJ i4_7))] → W p l e { frames := 1, cells := 0, slots := 0, locals := 22 } s m args below meth c H locs 0 0 Q (F0 m 249 ls []) := by
          intro i2_249 i3_249 s_249 H locs ls ri2_249 ri3_249 hF_249 q249_0 q249_1 v249_0 hW hl
          refine x_iinc (lv' := [(4, .int (xJ (i4_7 + 1))), (0, .ref (h0 + 109)), (2, .int (xJ i2_249)), (3, .int (xJ i3_249))]) hx hb hl 3 rfl dX4_reckon_249 (by decide) rfl (fun ls hl => ?_)
          refine lv_goto (tgt := 7) hx hb dX4_reckon_252 (by decide) ?_
          exact ih7 i2_249 i3_249 (i4_7 + 1) s_249 H locs ls ri2_249 ri3_249 (by omega) hF_249 q249_0 q249_1 (by omega) (by omega) (by omega) hW (lv_sub hl [1, 2, 3, 0] rfl)
        have J170 : ∀ (ls : Array Slot), lv_has ls 9 [(0, .ref (h0 + 109)), (2, .int (xJ (i2_7 + 1))), (3, .int (xJ i3_7)), (4, .int (xJ i4_7)), (5, .int (xJ x5)), (6, .int (xJ x6)), (7, .int (xJ x7)), (8, .int (xJ t0_65))] → W p l e { frames := 1, cells := 0, slots := 0, locals := 22 } s m args below meth c H locs 0 0 Q (F0 m 170 ls []) := by
          intro ls   hl
          refine x_iload hx hb hl 6 rfl dX4_reckon_170 ?_
          have J180 : ∀ (t0_180 : Int) (ls : Array Slot), (xR t0_180) → lv_has ls 9 [(0, .ref (h0 + 109)), (2, .int (xJ (i2_7 + 1))), (3, .int (xJ i3_7)), (4, .int (xJ i4_7)), (5, .int (xJ x5)), (6, .int (xJ x6)), (8, .int (xJ t0_65))] → W p l e { frames := 1, cells := 0, slots := 0, locals := 22 } s m args below meth c H locs 0 0 Q (F0 m 180 ls [.int (xJ t0_180)]) := by
            intro t0_180 ls rt0_180  hl
            refine x_iload hx hb hl 4 rfl dX4_reckon_180 ?_
            refine x_iconst hx hb dX4_reckon_182 ?_
            have J191 : ∀ (t0_191 : Int) (ls : Array Slot), (xR t0_191) → lv_has ls 9 [(0, .ref (h0 + 109)), (2, .int (xJ (i2_7 + 1))), (3, .int (xJ i3_7)), (4, .int (xJ i4_7)), (6, .int (xJ x6)), (8, .int (xJ t0_65))] → W p l e { frames := 1, cells := 0, slots := 0, locals := 22 } s m args below meth c H locs 0 0 Q (F0 m 191 ls [.int (xJ t0_191), .int (xJ t0_180)]) := by
              intro t0_191 ls rt0_191  hl
              refine x_icmp_ne (tgt := 200) hx hb rt0_180 rt0_191 dX4_reckon_191 (by decide) (fun c8 => ?_) (fun c8 => ?_)
              · skip
                refine x_iload hx hb hl 5 rfl dX4_reckon_200 ?_
                refine lv_istore_n (lv' := [(3, .int (xJ t0_65)), (0, .ref (h0 + 109)), (2, .int (xJ (i2_7 + 1))), (4, .int (xJ i4_7)), (6, .int (xJ x6)), (8, .int (xJ t0_65))]) hx hb dX4_reckon_202 rfl hl (by decide) rfl (fun ls hl => ?_)
                refine lv_goto (tgt := 249) hx hb dX4_reckon_203 (by decide) ?_
                exact J249 (i2_7 + 1) t0_65 s_7 H locs ls (by omega) rt0_65 hF_7 q7_0 q7_1 (by omega) hW (lv_sub hl [1, 2, 0, 3] rfl)
              refine x_iload hx hb hl 4 rfl dX4_reckon_194 ?_
              refine lv_istore_n (lv' := [(2, .int (xJ x6)), (0, .ref (h0 + 109)), (3, .int (xJ i3_7)), (4, .int (xJ i4_7)), (6, .int (xJ x6)), (8, .int (xJ t0_65))]) hx hb dX4_reckon_196 rfl hl (by decide) rfl (fun ls hl => ?_)
              refine lv_goto (tgt := 249) hx hb dX4_reckon_197 (by decide) ?_
              exact J249 x6 i3_7 s_7 H locs ls rx6 ri3_7 hF_7 q7_0 q7_1 (by omega) hW (lv_sub hl [1, 0, 2, 3] rfl)
            refine x_icmp_ne (tgt := 190) hx hb rx5 (by decide) dX4_reckon_183 (by decide) (fun c9 => ?_) (fun c9 => ?_)
            · skip
              refine x_iconst hx hb dX4_reckon_190 ?_
              exact J191 0 ls (by decide)  (lv_sub hl [0, 1, 2, 3, 5, 6] rfl)
            refine x_iconst hx hb dX4_reckon_186 ?_
            refine lv_goto (tgt := 191) hx hb dX4_reckon_187 (by decide) ?_
            exact J191 1 ls (by decide)  (lv_sub hl [0, 1, 2, 3, 5, 6] rfl)
          refine x_if_eq (tgt := 179) hx hb rx7 dX4_reckon_172 (by decide) (fun c10 => ?_) (fun c10 => ?_)
          · skip
            refine x_iconst hx hb dX4_reckon_179 ?_
            exact J180 0 ls (by decide)  (lv_sub hl [0, 1, 2, 3, 4, 5, 7] rfl)
          refine x_iconst hx hb dX4_reckon_175 ?_
          refine lv_goto (tgt := 180) hx hb dX4_reckon_176 (by decide) ?_
          exact J180 1 ls (by decide)  (lv_sub hl [0, 1, 2, 3, 4, 5, 7] rfl)
        have J111 : ∀ (ls : Array Slot), lv_has ls 9 [(0, .ref (h0 + 109)), (2, .int (xJ (i2_7 + 1))), (3, .int (xJ i3_7)), (4, .int (xJ i4_7)), (5, .int (xJ x5)), (6, .int (xJ x6))] → W p l e { frames := 1, cells := 0, slots := 0, locals := 22 } s m args below meth c H locs 0 0 Q (F0 m 111 ls []) := by
          intro ls   hl
          refine x_iload_n hx hb hl 2 rfl dX4_reckon_111 rfl ?_
          refine x_bipush hx hb dX4_reckon_112 (by decide) ?_
          have J124 : ∀ (t0_124 : Int) (ls : Array Slot), (xR t0_124) → (0 ≤ t0_124 ∧ t0_124 ≤ 63) → lv_has ls 9 [(0, .ref (h0 + 109)), (2, .int (xJ (i2_7 + 1))), (4, .int (xJ i4_7)), (5, .int (xJ x5)), (6, .int (xJ x6))] → W p l e { frames := 1, cells := 0, slots := 0, locals := 22 } s m args below meth c H locs 0 0 Q (F0 m 124 ls [.int (xJ t0_124)]) := by
            intro t0_124 ls rt0_124 v124_0  hl
            refine lv_istore_n (lv' := [(3, .int (xJ t0_124)), (0, .ref (h0 + 109)), (2, .int (xJ (i2_7 + 1))), (4, .int (xJ i4_7)), (5, .int (xJ x5)), (6, .int (xJ x6))]) hx hb dX4_reckon_124 rfl hl (by decide) rfl (fun ls hl => ?_)
            refine x_aload_n hx hb hl 1 rfl dX4_reckon_125 rfl ?_
            refine x_get (j := 8) (v := .ref (h0 + 116)) hx hb hown hT hE hW cls_X4 (Or.inl (by decide)) (so_109 h0 g _) (by decide) rfl wq265 dX4_reckon_126 ?_
            refine x_iload_n hx hb hl 0 rfl dX4_reckon_129 rfl ?_
            refine x_iload hx hb hl 4 rfl dX4_reckon_130 ?_
            refine x_iconst hx hb dX4_reckon_132 ?_
            refine x_icmp_ne (tgt := 141) hx hb rx5 (by decide) dX4_reckon_133 (by decide) (fun c11 => ?_) (fun c11 => ?_)
            · skip
              refine x_aload_n hx hb hl 1 rfl dX4_reckon_141 rfl ?_
              refine x_iload hx hb hl 5 rfl dX4_reckon_142 ?_
              refine x_goi (x_runV (As := [.int (xJ x6)]) hx hb hml hown hT hE hW hl.1 (Or.inl (by decide)) (so_109 h0 g _) rfl cf_X4_toldAt wq810 wq44 wq808 (c_X4_toldAt l D g T h0 s_7 hW.2.1 x6 rx6 q7_0) ⟨rfl, rfl, ⟨by decide, by decide⟩, ⟨by decide, by decide⟩⟩ rfl rfl (Nat.le_of_ble_eq_true rfl) dX4_reckon_144) hW (fun x12 s13 H locs rx12 hp14 hW => ?_)
              obtain ⟨es13, hp14⟩ := hp14
              subst es13
              have ghp14 := hp14
              refine x_iast hx hb hE hW (by decide) (fun σ => sa_116 h0 g σ) (by omega) (by decide) rx12 dX4_reckon_147 (fun H locs s15 es15 hW => ?_)
              have q16 : IC s15 := by rw [es15]; exact IC_o (by decide) q7_0
              have q17 : s15 1 1 = s0 1 1 := (show s15 1 1 = s_7 1 1 from by rw [es15, xU_k _ _ _ (by omega)]).trans q7_1
              have hF18 := hF_7.put es15 (by omega)
              refine lv_goto (tgt := 249) hx hb dX4_reckon_148 (by decide) ?_
              exact J249 (i2_7 + 1) t0_124 s15 H locs ls (by omega) rt0_124 hF18 q16 q17 (by omega) hW (lv_sub hl [1, 2, 0, 3] rfl)
            refine x_iload hx hb hl 5 rfl dX4_reckon_136 ?_
            refine lv_goto (tgt := 147) hx hb dX4_reckon_138 (by decide) ?_
            refine x_iast hx hb hE hW (by decide) (fun σ => sa_116 h0 g σ) (by omega) (by decide) rx6 dX4_reckon_147 (fun H locs s19 es19 hW => ?_)
            have q20 : IC s19 := by rw [es19]; exact IC_o (by decide) q7_0
            have q21 : s19 1 1 = s0 1 1 := (show s19 1 1 = s_7 1 1 from by rw [es19, xU_k _ _ _ (by omega)]).trans q7_1
            have hF22 := hF_7.put es19 (by omega)
            refine lv_goto (tgt := 249) hx hb dX4_reckon_148 (by decide) ?_
            exact J249 (i2_7 + 1) t0_124 s19 H locs ls (by omega) rt0_124 hF22 q20 q21 (by omega) hW (lv_sub hl [1, 2, 0, 3] rfl)
          refine x_icmp_ge (tgt := 123) hx hb ri3_7 (by decide) dX4_reckon_114 (by decide) (fun c23 => ?_) (fun c23 => ?_)
          · skip
            refine x_iload_n hx hb hl 2 rfl dX4_reckon_123 rfl ?_
            exact J124 i3_7 ls ri3_7 (by omega)  (lv_sub hl [0, 1, 3, 4, 5] rfl)
          refine x_iload_n hx hb hl 2 rfl dX4_reckon_117 rfl ?_
          refine x_iconst hx hb dX4_reckon_118 ?_
          refine x_iadd hx hb dX4_reckon_119 ?_
          refine lv_goto (tgt := 124) hx hb dX4_reckon_120 (by decide) ?_
          exact J124 (i3_7 + 1) ls (by omega) (by omega)  (lv_sub hl [0, 1, 3, 4, 5] rfl)
        rcases (show (x5 < 0 ∨ 5 < x5) ∨ x5 = 0 ∨ x5 = 1 ∨ x5 = 2 ∨ x5 = 3 ∨ x5 = 4 ∨ x5 = 5 from by omega) with c24 | c24 | c24 | c24 | c24 | c24 | c24
        · refine x_tabOut (tgt := 206) hx hb rx5 dX4_reckon_69 c24 (by decide) ?_
          refine x_iload hx hb hl 7 rfl dX4_reckon_206 ?_
          have J227 : ∀ (ls : Array Slot), lv_has ls 9 [(0, .ref (h0 + 109)), (2, .int (xJ (i2_7 + 1))), (4, .int (xJ i4_7)), (5, .int (xJ x5)), (7, .int (xJ x7)), (8, .int (xJ t0_65))] → W p l e { frames := 1, cells := 0, slots := 0, locals := 22 } s m args below meth c H locs 0 0 Q (F0 m 227 ls []) := by
            intro ls   hl
            refine x_iload hx hb hl 5 rfl dX4_reckon_227 ?_
            refine lv_istore_n (lv' := [(3, .int (xJ t0_65)), (0, .ref (h0 + 109)), (2, .int (xJ (i2_7 + 1))), (4, .int (xJ i4_7)), (5, .int (xJ x5)), (7, .int (xJ x7)), (8, .int (xJ t0_65))]) hx hb dX4_reckon_229 rfl hl (by decide) rfl (fun ls hl => ?_)
            refine x_aload_n hx hb hl 1 rfl dX4_reckon_230 rfl ?_
            refine x_get (j := 8) (v := .ref (h0 + 116)) hx hb hown hT hE hW cls_X4 (Or.inl (by decide)) (so_109 h0 g _) (by decide) rfl wq265 dX4_reckon_231 ?_
            refine x_iload_n hx hb hl 0 rfl dX4_reckon_234 rfl ?_
            refine x_iload hx hb hl 4 rfl dX4_reckon_235 ?_
            refine x_aload_n hx hb hl 1 rfl dX4_reckon_237 rfl ?_
            refine x_get (j := 8) (v := .ref (h0 + 116)) hx hb hown hT hE hW cls_X4 (Or.inl (by decide)) (so_109 h0 g _) (by decide) rfl wq265 dX4_reckon_238 ?_
            refine x_iload_n hx hb hl 0 rfl dX4_reckon_241 rfl ?_
            refine x_iald hx hb hE hW (Or.inl (by decide)) (sa_116 h0 g _) (by omega) (by decide) dX4_reckon_242 ?_
            refine x_rd hW (fun x25 ex25 rx25 => ?_)
            refine x_iload hx hb hl 5 rfl dX4_reckon_243 ?_
            refine x_goi (x_runS (As := [.int (xJ x5), .int (xJ x25), .int (xJ x7)]) hx hb hml hown hT hE hW hl.1 cf_X4_joined wq813 wq812 (c_X4_joined l D g T h0 s_7 hW.2.1 x5 rx5 x25 rx25 x7 rx7) ⟨rfl, rfl, ⟨by decide, by decide⟩, ⟨by decide, by decide⟩⟩ rfl rfl (Nat.le_of_ble_eq_true rfl) dX4_reckon_245) hW (fun x26 s27 H locs rx26 hp28 hW => ?_)
            obtain ⟨es27, hp28⟩ := hp28
            subst es27
            have ghp28 := hp28
            refine x_iast hx hb hE hW (by decide) (fun σ => sa_116 h0 g σ) (by omega) (by decide) rx26 dX4_reckon_248 (fun H locs s29 es29 hW => ?_)
            have q30 : IC s29 := by rw [es29]; exact IC_o (by decide) q7_0
            have q31 : s29 1 1 = s0 1 1 := (show s29 1 1 = s_7 1 1 from by rw [es29, xU_k _ _ _ (by omega)]).trans q7_1
            have hF32 := hF_7.put es29 (by omega)
            exact J249 (i2_7 + 1) t0_65 s29 H locs ls (by omega) rt0_65 hF32 q30 q31 (by omega) hW (lv_sub hl [1, 2, 0, 3] rfl)
          refine x_if_ne (tgt := 227) hx hb rx7 dX4_reckon_208 (by decide) (fun c33 => ?_) (fun c33 => ?_)
          · skip
            exact J227 ls   (lv_sub hl [1, 2, 4, 5, 7, 0] rfl)
          refine x_iload hx hb hl 5 rfl dX4_reckon_211 ?_
          refine x_bipush hx hb dX4_reckon_213 (by decide) ?_
          refine x_icmp_eq (tgt := 225) hx hb rx5 (by decide) dX4_reckon_215 (by decide) (fun c34 => ?_) (fun c34 => ?_)
          · skip
            refine x_iconst hx hb dX4_reckon_225 ?_
            rw [eQ]
            exact x_iret hx hb hr hlk hW (by decide) ⟨hF_7, ⟨q7_0, trivial⟩, trivial⟩ dX4_reckon_226
          refine x_iload hx hb hl 5 rfl dX4_reckon_218 ?_
          refine x_bipush hx hb dX4_reckon_220 (by decide) ?_
          refine x_icmp_ne (tgt := 227) hx hb rx5 (by decide) dX4_reckon_222 (by decide) (fun c35 => ?_) (fun c35 => ?_)
          · skip
            exact J227 ls   (lv_sub hl [1, 2, 4, 5, 7, 0] rfl)
          refine x_iconst hx hb dX4_reckon_225 ?_
          rw [eQ]
          exact x_iret hx hb hr hlk hW (by decide) ⟨hF_7, ⟨q7_0, trivial⟩, trivial⟩ dX4_reckon_226
        · refine x_tabIn (v := 0) (tgt := 108) hx hb rx5 c24 dX4_reckon_69 (by decide) rfl (by decide) ?_
          refine x_iload hx hb hl 7 rfl dX4_reckon_108 ?_
          rw [eQ]
          exact x_iret hx hb hr hlk hW rx7 ⟨hF_7, ⟨q7_0, trivial⟩, trivial⟩ dX4_reckon_110
        · refine x_tabIn (v := 1) (tgt := 111) hx hb rx5 c24 dX4_reckon_69 (by decide) rfl (by decide) ?_
          exact J111 ls   (lv_sub hl [1, 2, 3, 4, 5, 6] rfl)
        · refine x_tabIn (v := 2) (tgt := 111) hx hb rx5 c24 dX4_reckon_69 (by decide) rfl (by decide) ?_
          exact J111 ls   (lv_sub hl [1, 2, 3, 4, 5, 6] rfl)
        · refine x_tabIn (v := 3) (tgt := 151) hx hb rx5 c24 dX4_reckon_69 (by decide) rfl (by decide) ?_
          refine x_aload_n hx hb hl 1 rfl dX4_reckon_151 rfl ?_
          refine x_get (j := 8) (v := .ref (h0 + 116)) hx hb hown hT hE hW cls_X4 (Or.inl (by decide)) (so_109 h0 g _) (by decide) rfl wq265 dX4_reckon_152 ?_
          refine x_iload_n hx hb hl 3 rfl dX4_reckon_155 rfl ?_
          refine x_iload hx hb hl 7 rfl dX4_reckon_156 ?_
          refine x_if_ne (tgt := 165) hx hb rx7 dX4_reckon_158 (by decide) (fun c36 => ?_) (fun c36 => ?_)
          · skip
            refine x_iconst hx hb dX4_reckon_165 ?_
            refine x_iast hx hb hE hW (by decide) (fun σ => sa_116 h0 g σ) (by omega) (by decide) (by decide) dX4_reckon_166 (fun H locs s37 es37 hW => ?_)
            have q38 : IC s37 := by rw [es37]; exact IC_o (by decide) q7_0
            have q39 : s37 1 1 = s0 1 1 := (show s37 1 1 = s_7 1 1 from by rw [es37, xU_k _ _ _ (by omega)]).trans q7_1
            have hF40 := hF_7.put es37 (by omega)
            refine lv_goto (tgt := 249) hx hb dX4_reckon_167 (by decide) ?_
            exact J249 (i2_7 + 1) i3_7 s37 H locs ls (by omega) ri3_7 hF40 q38 q39 (by omega) hW (lv_sub hl [1, 2, 3, 4] rfl)
          refine x_iconst hx hb dX4_reckon_161 ?_
          refine lv_goto (tgt := 166) hx hb dX4_reckon_162 (by decide) ?_
          refine x_iast hx hb hE hW (by decide) (fun σ => sa_116 h0 g σ) (by omega) (by decide) (by decide) dX4_reckon_166 (fun H locs s41 es41 hW => ?_)
          have q42 : IC s41 := by rw [es41]; exact IC_o (by decide) q7_0
          have q43 : s41 1 1 = s0 1 1 := (show s41 1 1 = s_7 1 1 from by rw [es41, xU_k _ _ _ (by omega)]).trans q7_1
          have hF44 := hF_7.put es41 (by omega)
          refine lv_goto (tgt := 249) hx hb dX4_reckon_167 (by decide) ?_
          exact J249 (i2_7 + 1) i3_7 s41 H locs ls (by omega) ri3_7 hF44 q42 q43 (by omega) hW (lv_sub hl [1, 2, 3, 4] rfl)
        · refine x_tabIn (v := 4) (tgt := 170) hx hb rx5 c24 dX4_reckon_69 (by decide) rfl (by decide) ?_
          exact J170 ls   (lv_sub hl [1, 2, 3, 4, 5, 6, 7, 0] rfl)
        · refine x_tabIn (v := 5) (tgt := 170) hx hb rx5 c24 dX4_reckon_69 (by decide) rfl (by decide) ?_
          exact J170 ls   (lv_sub hl [1, 2, 3, 4, 5, 6, 7, 0] rfl)
      refine x_if_le (tgt := 64) hx hb ri3_7 dX4_reckon_55 (by decide) (fun c45 => ?_) (fun c45 => ?_)
      · skip
        refine x_iconst hx hb dX4_reckon_64 ?_
        exact J65 0 ls (by decide) (by omega)  (lv_sub hl [4, 1, 5, 6, 3, 2, 0] rfl)
      refine x_iload_n hx hb hl 5 rfl dX4_reckon_58 rfl ?_
      refine x_iconst hx hb dX4_reckon_59 ?_
      refine x_isub hx hb dX4_reckon_60 ?_
      refine lv_goto (tgt := 65) hx hb dX4_reckon_61 (by decide) ?_
      exact J65 (i3_7 - 1) ls (by omega) (by omega)  (lv_sub hl [4, 1, 5, 6, 3, 2, 0] rfl)
  exact L7 ((300 - 0 : Int).toNat + 1) a 0 0 s0 H locs ls ra (by decide) (by decide) hF p0 k1_1 (by omega) (by omega) (Nat.lt_succ_self _) hW (lv_sub hl [3, 2, 1, 0] rfl)
set_option maxHeartbeats 4000000 in
set_option maxRecDepth 100000 in
theorem c_X4_worthOf (l : Launch) (D : va_G) (g : xG) (T : Nat × Nat × Nat) (h0 : Nat) (s0 : xS) (hσ : xRR s0) (q : Int) (rq : xR q) (w : Int) (rw : xR w) (p0 : IC s0) : Met l yX4_worthOf (xws yX4_worthOf cX4_worthOf 4 (some .int)) { frames := 2, cells := 0, slots := 0, locals := 50 } (xP [.ref (h0 + 109), .int (xJ q), .int (xJ w)] D g T h0 s0) (xQi D g h0 (fun r τ => xFr (fun k => k = 116) s0 τ ∧ (((IC τ) ∧ True) ∧ (0 ≤ r ∧ (r ≤ w ∨ w < 0))))) 0 0 (xA h0) := by
  refine x_met hσ (by decide) (Nat.le_of_ble_eq_true rfl) ?_
  intro p e s m args below meth c hx hb hr hml hown hT hlk hnm hE hW ls hl
  have hl : lv_has ls 4 [(0, .ref (h0 + 109)), (1, .int (xJ q)), (2, .int (xJ w))] := hl
  obtain ⟨Q, eQ⟩ : ∃ Q, Q = MQ below (xQi D g h0 (fun r τ => xFr (fun k => k = 116) s0 τ ∧ (((IC τ) ∧ True) ∧ (0 ≤ r ∧ (r ≤ w ∨ w < 0))))) args s 0 0 (xA h0) := ⟨_, rfl⟩
  rw [← eQ]
  generalize hHe : ([] : List Loc) = locs at hW ⊢
  obtain ⟨H, eH⟩ : ∃ H, H = s.heap := ⟨_, rfl⟩
  rw [← eH] at hW ⊢
  have hF : xFr (fun k => k = 116) s0 s0 := xFr.rf
  have k1_1 : s0 1 1 = s0 1 1 := rfl
  refine x_iconst hx hb dX4_worthOf_0 ?_
  refine lv_istore_n (lv' := [(3, .int (xJ 0)), (0, .ref (h0 + 109)), (1, .int (xJ q)), (2, .int (xJ w))]) hx hb dX4_worthOf_1 rfl hl (by decide) rfl (fun ls hl => ?_)
  have L2 : ∀ (fu : Nat) (i3_2 : Int) (s_2 : xS) (H : Heap) (locs : List Loc) (ls : Array Slot), (xR i3_2) → (xFr (fun k => k = 116) s0 s_2) → (IC s_2) → (s_2 1 1 = s0 1 1) → (0 ≤ i3_2) → (16 - i3_2).toNat < fu → xW D g h0 s H locs s_2 → lv_has ls 4 [(0, .ref (h0 + 109)), (1, .int (xJ q)), (2, .int (xJ w)), (3, .int (xJ i3_2))] → W p l e { frames := 2, cells := 0, slots := 0, locals := 50 } s m args below meth c H locs 0 0 Q (F0 m 2 ls []) := by
    intro fu
    induction fu with
    | zero => intro i3_2 s_2 H locs ls ri3_2 hF_2 q2_0 q2_1 v2_0 hm; exact absurd hm (Nat.not_lt_zero _)
    | succ fu ih2 =>
      intro i3_2 s_2 H locs ls ri3_2 hF_2 q2_0 q2_1 v2_0 hm hW hl
      refine x_iload_n hx hb hl 3 rfl dX4_worthOf_2 rfl ?_
      refine x_aload_n hx hb hl 0 rfl dX4_worthOf_3 rfl ?_
      refine x_get (j := 6) (v := .int (xJ (s_2 109 6))) hx hb hown hT hE hW cls_X4 (Or.inl (by decide)) (so_109 h0 g _) (by decide) rfl wq261 dX4_worthOf_4 ?_
      refine x_rd hW (fun x1 ex1 rx1 => ?_)
      have bx1 : 0 ≤ x1 ∧ x1 ≤ 16 := by rw [ex1]; exact (IC.l1 q2_0).2
      refine x_icmp_ge (tgt := 58) hx hb ri3_2 rx1 dX4_worthOf_7 (by decide) (fun c2 => ?_) (fun c2 => ?_)
      · skip
        refine x_iconst hx hb dX4_worthOf_58 ?_
        rw [eQ]
        exact x_iret hx hb hr hlk hW (by decide) ⟨hF_2, ⟨q2_0, trivial⟩, by omega⟩ dX4_worthOf_59
      refine x_aload_n hx hb hl 0 rfl dX4_worthOf_10 rfl ?_
      refine x_get (j := 3) (v := .ref (h0 + 112)) hx hb hown hT hE hW cls_X4 (Or.inl (by decide)) (so_109 h0 g _) (by decide) rfl wq255 dX4_worthOf_11 ?_
      refine x_iload_n hx hb hl 3 rfl dX4_worthOf_14 rfl ?_
      refine x_iald hx hb hE hW (Or.inl (by decide)) (sa_112 h0 g _) (by omega) (by decide) dX4_worthOf_15 ?_
      refine x_rd hW (fun x3 ex3 rx3 => ?_)
      refine x_iload_n hx hb hl 1 rfl dX4_worthOf_16 rfl ?_
      refine x_icmp_ne (tgt := 52) hx hb rx3 rq dX4_worthOf_17 (by decide) (fun c4 => ?_) (fun c4 => ?_)
      · skip
        refine x_iinc (lv' := [(3, .int (xJ (i3_2 + 1))), (0, .ref (h0 + 109)), (1, .int (xJ q)), (2, .int (xJ w))]) hx hb hl 3 rfl dX4_worthOf_52 (by decide) rfl (fun ls hl => ?_)
        refine lv_goto (tgt := 2) hx hb dX4_worthOf_55 (by decide) ?_
        exact ih2 (i3_2 + 1) s_2 H locs ls (by omega) hF_2 q2_0 q2_1 (by omega) (by omega) hW (lv_sub hl [1, 2, 3, 0] rfl)
      refine x_aload_n hx hb hl 0 rfl dX4_worthOf_20 rfl ?_
      refine x_aload_n hx hb hl 0 rfl dX4_worthOf_21 rfl ?_
      refine x_get (j := 5) (v := .ref (h0 + 114)) hx hb hown hT hE hW cls_X4 (Or.inl (by decide)) (so_109 h0 g _) (by decide) rfl wq259 dX4_worthOf_22 ?_
      refine x_iload_n hx hb hl 3 rfl dX4_worthOf_25 rfl ?_
      refine x_iald hx hb hE hW (Or.inl (by decide)) (sa_114 h0 g _) (by omega) (by decide) dX4_worthOf_26 ?_
      refine x_rd hW (fun x5 ex5 rx5 => ?_)
      refine x_goi (x_runV (As := [.int (xJ x5)]) hx hb hml hown hT hE hW hl.1 (Or.inl (by decide)) (so_109 h0 g _) rfl cf_X4_reckon wq806 wq43 wq804 (c_X4_reckon l D g T h0 s_2 hW.2.1 x5 rx5 q2_0) ⟨rfl, rfl, ⟨by decide, by decide⟩, ⟨by decide, by decide⟩⟩ rfl rfl (Nat.le_of_ble_eq_true rfl) dX4_worthOf_27) hW (fun x6 s7 H locs rx6 hp8 hW => ?_)
      obtain ⟨fs7, hp8⟩ := hp8
      have hF9 := hF_2.call fs7 (fun k h => by omega)
      have q10 : s7 1 1 = s0 1 1 := (congrFun (fs7 _ (by omega)) _).trans q2_1
      have ghp8 := hp8.2
      refine x_if_eq (tgt := 52) hx hb rx6 dX4_worthOf_30 (by decide) (fun c11 => ?_) (fun c11 => ?_)
      · skip
        refine x_iinc (lv' := [(3, .int (xJ (i3_2 + 1))), (0, .ref (h0 + 109)), (1, .int (xJ q)), (2, .int (xJ w))]) hx hb hl 3 rfl dX4_worthOf_52 (by decide) rfl (fun ls hl => ?_)
        refine lv_goto (tgt := 2) hx hb dX4_worthOf_55 (by decide) ?_
        exact ih2 (i3_2 + 1) s7 H locs ls (by omega) hF9 hp8.1.1 q10 (by omega) (by omega) hW (lv_sub hl [1, 2, 3, 0] rfl)
      refine x_iconst hx hb dX4_worthOf_33 ?_
      refine x_iload_n hx hb hl 2 rfl dX4_worthOf_34 rfl ?_
      refine x_aload_n hx hb hl 0 rfl dX4_worthOf_35 rfl ?_
      refine x_aload_n hx hb hl 0 rfl dX4_worthOf_36 rfl ?_
      refine x_get (j := 4) (v := .ref (h0 + 113)) hx hb hown hT hE hW cls_X4 (Or.inl (by decide)) (so_109 h0 g _) (by decide) rfl wq257 dX4_worthOf_37 ?_
      refine x_iload_n hx hb hl 3 rfl dX4_worthOf_40 rfl ?_
      refine x_iald hx hb hE hW (Or.inl (by decide)) (sa_113 h0 g _) (by omega) (by decide) dX4_worthOf_41 ?_
      refine x_rd hW (fun x12 ex12 rx12 => ?_)
      refine x_goi (x_runV (As := [.int (xJ x12)]) hx hb hml hown hT hE hW hl.1 (Or.inl (by decide)) (so_109 h0 g _) rfl cf_X4_reckon wq806 wq43 wq804 (c_X4_reckon l D g T h0 s7 hW.2.1 x12 rx12 hp8.1.1) ⟨rfl, rfl, ⟨by decide, by decide⟩, ⟨by decide, by decide⟩⟩ rfl rfl (Nat.le_of_ble_eq_true rfl) dX4_worthOf_42) hW (fun x13 s14 H locs rx13 hp15 hW => ?_)
      obtain ⟨fs14, hp15⟩ := hp15
      have hF16 := hF9.call fs14 (fun k h => by omega)
      have q17 : s14 1 1 = s0 1 1 := (congrFun (fs14 _ (by omega)) _).trans q10
      have ghp15 := hp15.2
      refine x_mmin hx hb hml hl.1 hown hT wq815 wq569 wq180 wq570 ⟨by decide, Nat.le_of_ble_eq_true rfl, by decide, by decide⟩ rw rx13 dX4_worthOf_45 ?_
      refine x_nm (fun x18 ex18 => ?_)
      have fx18 : (x18 = w ∧ w ≤ x13) ∨ (x18 = x13 ∧ x13 ≤ w) := by rw [ex18]; split <;> omega
      refine x_mmax hx hb hml hl.1 hown hT wq816 wq594 wq180 wq595 ⟨by decide, Nat.le_of_ble_eq_true rfl, by decide, by decide⟩ (by decide) (by omega) dX4_worthOf_48 ?_
      refine x_nm (fun x19 ex19 => ?_)
      have fx19 : (x19 = 0 ∧ x18 ≤ 0) ∨ (x19 = x18 ∧ 0 ≤ x18) := by rw [ex19]; split <;> omega
      rw [eQ]
      exact x_iret hx hb hr hlk hW (by omega) ⟨hF16, ⟨hp15.1.1, trivial⟩, by omega⟩ dX4_worthOf_51
  exact L2 ((16 - 0 : Int).toNat + 1) 0 s0 H locs ls (by decide) hF p0 k1_1 (by omega) (Nat.lt_succ_self _) hW (lv_sub hl [1, 2, 3, 0] rfl)


