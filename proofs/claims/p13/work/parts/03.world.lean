/-! ===== the table: which words hold, for every contract the same ===== -/
def xNOK : Cond → Bool
  | .fieldLinkNest _ _ _ _ _ _ => true
  | .methodLinkNest _ _ _ _ => true
  | _ => false
def xTB : List Cond := lw_tbl.filter goodWord
def xNL : List Cond := lw_tbl.filter xNOK
theorem xq {w : Cond} (i : Nat) (h : lw_tbl[i]? = some w) (hg : goodWord w = true) : w ∈ xTB := List.mem_filter.mpr ⟨List.mem_of_getElem? h, hg⟩
theorem xn {w : Cond} (i : Nat) (h : lw_tbl[i]? = some w) (hg : xNOK w = true) : w ∈ xNL := List.mem_filter.mpr ⟨List.mem_of_getElem? h, hg⟩
theorem xTB_good {w : Cond} (h : w ∈ xTB) : goodWord w = true := (List.mem_filter.mp h).2
def xws (y : MethodName) (cc : ByteArray) (n : Nat) (ret : Option FieldType) : List Cond := .code y cc n ret :: xTB
theorem xws_good {Ts : List Cond} {y : MethodName} {cc : ByteArray} {n : Nat} {ret : Option FieldType} (hTs : ∀ w ∈ xTB, w ∈ Ts) (h : Cond.code y cc n ret ∈ xTB) : GoodIn Ts (xws y cc n ret) := fun w hw => by
  rcases List.mem_cons.mp hw with rfl | hw
  · exact ⟨hTs _ h, good_of_word (xTB_good h)⟩
  · exact ⟨hTs _ hw, good_of_word (xTB_good hw)⟩
theorem xNw_move {w : Cond} (hw : xNOK w = true) {s U : State} (hW : s.WarmedH U.vm) (h : va_Nw w s) : va_Nw w U := by
  cases w <;> first | exact va_Nw.warmF hW h | exact va_Nw.warmM hW h | cases hw
theorem xNw_same {w : Cond} (hw : xNOK w = true) {s U : State} (hv : s.vm = U.vm) (h : va_Nw w s) : va_Nw w U := by
  cases w <;> first | exact va_Nw.same rfl hv h | cases hw
/-! ===== the state: numbers of cells by their places; the cells lie one behind the other from h0 on ===== -/
abbrev xS : Type := Nat → Int → Int
def xU (σ : xS) (k : Nat) (j v : Int) : xS := fun k2 j2 => if k2 = k ∧ j2 = j then v else σ k2 j2
theorem xU_s (σ : xS) (k : Nat) (j v : Int) : xU σ k j v k j = v := if_pos ⟨rfl, rfl⟩
theorem xU_k (σ : xS) {k k2 : Nat} (j v : Int) (h : k2 ≠ k) : xU σ k j v k2 = σ k2 := funext fun j2 => if_neg (fun q => h q.1)
theorem xU_j (σ : xS) {k : Nat} {j j2 : Int} (v : Int) (h : j2 ≠ j) : xU σ k j v k j2 = σ k j2 := if_neg (fun q => h q.2)
theorem xU_i (σ : xS) (k : Nat) (j v j2 : Int) : xU σ k j v k j2 = if j2 = j then v else σ k j2 := by by_cases h : j2 = j <;> simp [xU, h]
abbrev xG : Type := ClassId × ClassId × ClassId × ClassId × ClassId
abbrev xtys (g : xG) : List (ClassId × FieldType) := [(g.1, .int), (g.2.1, .boolean), (g.2.2.1, .byte), (g.2.2.2.1, .array .int), (g.2.2.2.2, .object "ShadowCourt$Day")]
def xtab : List (Nat × Nat) := [(5, 10), (5, 8), (0, 260), (5, 6), (0, 100), (0, 100), (3, 100), (0, 100), (0, 100), (0, 100), (0, 100), (0, 100), (0, 100), (0, 100), (0, 100), (0, 100), (0, 100), (0, 100), (0, 100), (0, 100), (0, 100), (0, 100), (0, 100), (0, 100), (0, 100), (0, 100), (0, 100), (0, 100), (0, 100), (0, 100), (0, 100), (0, 100), (0, 100), (0, 100), (0, 100), (0, 100), (0, 100), (0, 100), (0, 100), (0, 100), (0, 100), (0, 100), (0, 100), (0, 100), (0, 100), (0, 100), (0, 100), (0, 100), (0, 100), (0, 100), (0, 100), (0, 100), (0, 100), (0, 100), (0, 100), (0, 100), (0, 100), (0, 100), (0, 100), (0, 100), (0, 100), (0, 100), (0, 100), (0, 100), (0, 100), (0, 100), (0, 100), (0, 100), (0, 100), (0, 100), (0, 100), (0, 100), (0, 100), (0, 100), (0, 100), (0, 100), (0, 100), (0, 100), (0, 100), (0, 100), (0, 100), (0, 100), (0, 100), (0, 100), (0, 100), (0, 100), (0, 100), (0, 100), (0, 100), (0, 100), (0, 100), (0, 100), (0, 100), (0, 100), (0, 100), (0, 100), (0, 100), (0, 100), (0, 100), (0, 100), (0, 100), (0, 100), (0, 100), (0, 100), (0, 100), (0, 100), (0, 100), (1, 100), (0, 100), (5, 4), (0, 300), (0, 300), (0, 16), (0, 16), (0, 16), (0, 7), (0, 64), (5, 5), (5, 4), (0, 300), (0, 300), (0, 16), (0, 16), (0, 16), (0, 7), (0, 64), (5, 9), (0, 60), (5, 0), (0, 4), (5, 7), (0, 100), (0, 100), (1, 100), (0, 10), (0, 10), (5, 2), (0, 2), (3, 2), (0, 0), (0, 0), (0, 2), (0, 10), (0, 10), (0, 10), (1, 10), (5, 2), (0, 2), (3, 2), (0, 0), (0, 0), (0, 2), (0, 10), (0, 10), (0, 10), (1, 10), (5, 3), (4, 6), (5, 2), (0, 2), (3, 2), (0, 0), (0, 0), (0, 2), (0, 10), (0, 10), (0, 10), (1, 10), (5, 2), (0, 2), (3, 2), (0, 0), (0, 0), (0, 2), (0, 10), (0, 10), (0, 10), (1, 10), (5, 2), (0, 2), (3, 2), (0, 0), (0, 0), (0, 2), (0, 10), (0, 10), (0, 10), (1, 10), (5, 2), (0, 2), (3, 2), (0, 0), (0, 0), (0, 2), (0, 10), (0, 10), (0, 10), (1, 10), (5, 2), (0, 2), (3, 2), (0, 0), (0, 0), (0, 2), (0, 10), (0, 10), (0, 10), (1, 10), (5, 2), (0, 2), (3, 2), (0, 0), (0, 0), (0, 2), (0, 10), (0, 10), (0, 10), (1, 10), (3, 5), (0, 1), (0, 1), (0, 1), (0, 1), (0, 1), (0, 5), (0, 5), (0, 100), (3, 31), (0, 100), (0, 100), (0, 100), (0, 100), (0, 100), (0, 100), (0, 100), (0, 100), (0, 100), (0, 100), (0, 100), (0, 100), (0, 100), (0, 100), (0, 100), (0, 100), (0, 100), (0, 100), (0, 100), (0, 100), (0, 100), (0, 100), (0, 100), (0, 100), (0, 100), (0, 100), (0, 100), (0, 100), (0, 100), (0, 100), (0, 100), (0, 100), (0, 100), (5, 1), (0, 10), (0, 10), (0, 100), (0, 100), (0, 10), (0, 8), (5, 11), (0, 39), (0, 39), (0, 39), (0, 100), (0, 4), (0, 2), (2, 120), (2, 260), (0, 260), (0, 260), (0, 16), (0, 16), (0, 16), (0, 16), (0, 260), (0, 16), (0, 16), (0, 16), (0, 16), (0, 100), (2, 60), (0, 2), (0, 2), (0, 2), (0, 260), (0, 7), (0, 100), (0, 100), (0, 10), (0, 10), (1, 100), (1, 1024), (0, 100), (0, 3100), (0, 3100), (0, 10000), (0, 100), (0, 8), (0, 8), (0, 2), (2, 120)]
def xrow (σ : xS) (k j : Nat) : Nat := if k = 6 then 7 + j else if k = 218 then 219 + j else if k = 227 then 228 + j else if k = 157 then 158 + 10 * j else (σ k j).toNat
def xobj (h0 : Nat) (σ : xS) (k c : Nat) : List Value :=
  if c = 0 then [.ref (h0 + 3), .ref (h0 + 109), .ref (h0 + (k + 1)), .ref (h0 + 130), .ref (h0 + (k + 6)), .ref (h0 + (k + 7))]
  else if c = 1 then [.ref (h0 + 128), .ref (h0 + (k + 1)), .ref (h0 + (k + 2)), .ref (h0 + (k + 3)), .ref (h0 + (k + 4)), .ref (h0 + (k + 5))]
  else if c = 2 then [.ref (h0 + (k + 1)), .ref (h0 + (k + 2)), .ref (h0 + (k + 5)), .ref (h0 + (k + 6)), .ref (h0 + (k + 7)), .ref (h0 + (k + 8)), .ref (h0 + (k + 9)), .int (xJ (σ k 7)), .int (xJ (σ k 8)), .int (xJ (σ k 9)), .int (xJ (σ k 10)), .int (xJ (σ k 11))]
  else if c = 3 then [.ref (h0 + 128), .ref (h0 + 136), .ref (h0 + 157), .ref (h0 + 218), .ref (h0 + 224), .ref (h0 + 225), .int (xJ (σ k 6)), .ref (h0 + 226), .ref (h0 + 227), .ref (h0 + 259), .ref (h0 + 260)]
  else if c = 4 then [.ref (h0 + (k + 1)), .ref (h0 + (k + 2)), .int (xJ (σ k 2)), .ref (h0 + (k + 3)), .ref (h0 + (k + 4)), .ref (h0 + (k + 5)), .int (xJ (σ k 6)), .ref (h0 + (k + 6)), .ref (h0 + (k + 7))]
  else if c = 5 then [.ref (h0 + 1), .ref (h0 + 118)]
  else if c = 6 then [.ref (h0 + (k + 1)), .ref (h0 + (k + 2)), .ref (h0 + (k + 3)), .ref (h0 + (k + 104)), .ref (h0 + (k + 105))]
  else if c = 7 then [.ref (h0 + (k + 1)), .ref (h0 + (k + 2)), .ref (h0 + (k + 3)), .int (xJ (σ k 3))]
  else if c = 8 then [.ref (h0 + (k + 1)), .int (xJ (σ k 1)), .int (xJ (σ k 2)), .int (xJ (σ k 3)), .int (xJ (σ k 4))]
  else if c = 9 then [.ref (h0 + 1), .ref (h0 + (k + 1)), .int (xJ (σ k 2))]
  else if c = 10 then [.ref (h0 + 1), .ref (h0 + 3), .ref (h0 + 109), .ref (h0 + 117), .ref (h0 + 126), .ref (h0 + 128), .ref (h0 + 156), .ref (h0 + 261), .ref (h0 + 136), .ref (h0 + 146), .ref (h0 + 267), .int (xJ (σ k 11))]
  else if c = 11 then [.ref (h0 + 269), .ref (h0 + 270), .ref (h0 + 271), .ref (h0 + 272), .ref (h0 + 273), .ref (h0 + 274), .ref (h0 + 275), .ref (h0 + 276), .int (xJ (σ k 8)), .int (xJ (σ k 9)), .int (xJ (σ k 10)), .int (xJ (σ k 11)), .int (xJ (σ k 12)), .int (xJ (σ k 13)), .int (xJ (σ k 14)), .int (xJ (σ k 15)), .int (xJ (σ k 16)), .int (xJ (σ k 17)), .ref (h0 + 277), .ref (h0 + 278), .ref (h0 + 279), .ref (h0 + 280), .ref (h0 + 281), .ref (h0 + 282), .ref (h0 + 283), .ref (h0 + 284), .ref (h0 + 285), .ref (h0 + 286), .ref (h0 + 287), .ref (h0 + 288), .ref (h0 + 289), .ref (h0 + 290), .ref (h0 + 291), .ref (h0 + 292), .int (xJ (σ k 34)), .int (xJ (σ k 35)), .int (xJ (σ k 36)), .int (xJ (σ k 37)), .ref (h0 + 293), .ref (h0 + 294), .ref (h0 + 295), .int (xJ (σ k 41)), .int (xJ (σ k 42)), .int (xJ (σ k 43)), .int (xJ (σ k 44)), .ref (h0 + 296), .ref (h0 + 297), .ref (h0 + 298), .int (xJ (σ k 48)), .ref (h0 + 299), .ref (h0 + 300), .ref (h0 + 301), .ref (h0 + 302), .ref (h0 + 303), .ref (h0 + 304), .ref (h0 + 305), .ref (h0 + 306), .ref (h0 + 307), .int (xJ (σ k 58)), .ref (h0 + 308), .ref (h0 + 309)]
  else []
def xcel (h0 : Nat) (g : xG) (σ : xS) (k : Nat) : va_E := match if k < 310 then xtab.getD k (9, 0) else (0, (σ 999998 k).toNat) with
  | (0, n) => .inl (g.1, n, .inl (fun j => xJ (σ k j)))
  | (1, n) => .inl (g.2.1, n, .inl (fun j => xJ (σ k j)))
  | (2, n) => .inl (g.2.2.1, n, .inl (fun j => xJ (σ k j)))
  | (3, n) => .inl (g.2.2.2.1, n, .inr (.inr (.inr (.inr (fun j => some (h0 + xrow σ k j))))))
  | (4, n) => .inl (g.2.2.2.2, n, .inr (.inr (.inr (.inr (fun j => some (h0 + xrow σ k j))))))
  | (_, c) => .inr (c, xobj h0 σ k c)
theorem xobj_f (h0 : Nat) {σ τ : xS} {k : Nat} (c : Nat) (h : τ k = σ k) : xobj h0 τ k c = xobj h0 σ k c := by unfold xobj; rw [h]
theorem xcel_f (h0 : Nat) (g : xG) {σ τ : xS} {k : Nat} (h : τ k = σ k) (h2 : k < 310 ∨ τ 999998 k = σ 999998 k) : xcel h0 g τ k = xcel h0 g σ k := by
  have e : (if k < 310 then xtab.getD k (9, 0) else (0, (τ 999998 k).toNat)) = (if k < 310 then xtab.getD k (9, 0) else (0, (σ 999998 k).toNat)) := by
    by_cases q : k < 310
    · rw [if_pos q, if_pos q]
    · rcases h2 with h2 | h2
      · exact absurd h2 q
      · rw [if_neg q, if_neg q, h2]
  unfold xcel
  rw [e]
  split <;> simp only [h, xrow, xobj_f h0 _ h]
def xV (σ : xS) (k : Nat) : Prop := k < 310 ∨ (k < 999990 ∧ σ 999997 k = 1)
def xSt (D : va_G) (g : xG) (h0 : Nat) (σ : xS) (H : Heap) : Prop := (∀ k : Nat, xV σ k → va_at D vwCl (h0 + k, xcel h0 g σ k) H) ∧ H.size = h0 + (310 + (σ 999996 0).toNat)
def xRR (σ : xS) : Prop := ∀ (k : Nat) (j : Int), xR (σ k j)
def xA (h0 : Nat) : Nat → Prop := fun q => h0 ≤ q
def xW (D : va_G) (g : xG) (h0 : Nat) (s : State) (H : Heap) (locs : List Loc) (σ : xS) : Prop := xSt D g h0 σ H ∧ xRR σ ∧ va_S (xA h0) s.heap H locs
def xwx : Nat → Int := fun j => [0, 1, 1, 1, 0, -1, -1, -1].getD j 0
def xwy : Nat → Int := fun j => [1, 1, 0, -1, -1, -1, 0, 1].getD j 0
def xlt : Nat → Int := fun j => [116, 104, 106, 102, 119, 98, 115].getD j 0
def xZs (T : Nat × Nat × Nat) (h0 : Nat) (U : State) (H : Heap) : Prop :=
  (va_Z "ShadowCourt" "WAY_X" "[I" (.ref T.1) (xA h0) U H ∧ va_T .int T.1 8 (fun j => .int (xJ (xwx j))) (xA h0) U H) ∧
  (va_Z "ShadowCourt" "WAY_Y" "[I" (.ref T.2.1) (xA h0) U H ∧ va_T .int T.2.1 8 (fun j => .int (xJ (xwy j))) (xA h0) U H) ∧
  (va_Z "ShadowCourt$Law" "LETTERS" "[I" (.ref T.2.2) (xA h0) U H ∧ va_T .int T.2.2 7 (fun j => .int (xJ (xlt j))) (xA h0) U H)
/-- a row of rows of ints holds rows of ints -/
def xGA (g : xG) (U : State) : Prop := ∃ kA : Class, U.vm.classes[g.2.2.2.1]? = some kA ∧ kA.kind = .array g.1 (.array .int)
theorem xGA.moved {g : xG} {u U : State} (hvm : u.vm.Alike U.vm) (h : xGA g u) : xGA g U := by
  obtain ⟨kA, h1, h2⟩ := h
  obtain ⟨k2, hk2, he⟩ := hvm.2.2 _ _ h1
  exact ⟨k2, hk2, by rw [he]; exact h2⟩
def xE (D : va_G) (g : xG) (T : Nat × Nat × Nat) (h0 : Nat) (U : State) : Prop := va_K D vwCl (xtys g) U ∧ ((∀ w ∈ xNL, va_Nw w U) ∧ xGA g U) ∧ xZs T h0 U U.heap
theorem xZs_move {T : Nat × Nat × Nat} {h0 : Nat} {s U : State} {H : Heap} (ha : s.vm.Alike U.vm) (h : xZs T h0 s s.heap) (hH : ∀ a : Nat, a < s.heap.size → ¬ xA h0 a → H[a]? = s.heap[a]?) : xZs T h0 U H :=
  ⟨⟨(h.1.1.moved ha).kept hH, (h.1.2.moved ha).kept hH⟩, ⟨(h.2.1.1.moved ha).kept hH, (h.2.1.2.moved ha).kept hH⟩, ⟨(h.2.2.1.moved ha).kept hH, (h.2.2.2.moved ha).kept hH⟩⟩
theorem xE_move {D : va_G} {g : xG} {T : Nat × Nat × Nat} {h0 : Nat} {s U : State} {H : Heap} {locs : List Loc} (h : xE D g T h0 s) (hS : va_S (xA h0) s.heap H locs) (hW : s.WarmedH U.vm) (hU : U.heap = H) : xE D g T h0 U :=
  ⟨va_K.moved hW.alike h.1, ⟨fun w hw => xNw_move (List.mem_filter.mp hw).2 hW (h.2.1.1 w hw), h.2.1.2.moved hW.alike⟩, xZs_move hW.alike h.2.2 (fun a h1 h2 => by rw [hU]; exact hS.2.1 a h1 h2)⟩
abbrev xP (av : List Value) (D : va_G) (g : xG) (T : Nat × Nat × Nat) (h0 : Nat) (σ : xS) : Array Value → State → Prop := va_Pc av (fun U => xE D g T h0 U ∧ xSt D g h0 σ U.heap)
theorem xP_blind {av : List Value} {D : va_G} {g : xG} {T : Nat × Nat × Nat} {h0 : Nat} {σ : xS} : FrameBlind (xP av D g T h0 σ) := fun a U gf mk q => by
  obtain ⟨q0, ⟨qK, ⟨qN, qG⟩, qZ⟩, qP⟩ := q
  exact ⟨q0, ⟨va_K.moved (u := U) (U := U.calling gf mk a) (Vm.Alike.refl U.vm) qK, ⟨fun w hw => xNw_same (s := U) (U := U.calling gf mk a) (List.mem_filter.mp hw).2 rfl (qN w hw), xGA.moved (u := U) (U := U.calling gf mk a) (Vm.Alike.refl U.vm) qG⟩, xZs_move (s := U) (U := U.calling gf mk a) (Vm.Alike.refl U.vm) qZ (fun _ _ _ => rfl)⟩, qP⟩
def xQi (D : va_G) (g : xG) (h0 : Nat) (post : Int → xS → Prop) : Array Value → State → Outcome → State → Prop := fun _ st o t => (∃ (r : Int) (σ : xS), o = .returned (some (.int (xJ r))) ∧ xR r ∧ post r σ ∧ xRR σ ∧ xSt D g h0 σ t.heap) ∧ va_F (xA h0) st t
def xQv (D : va_G) (g : xG) (h0 : Nat) (post : xS → Prop) : Array Value → State → Outcome → State → Prop := fun _ st o t => (∃ (σ : xS), o = .returned none ∧ post σ ∧ xRR σ ∧ xSt D g h0 σ t.heap) ∧ va_F (xA h0) st t
def xQr (D : va_G) (g : xG) (h0 : Nat) (post : Nat → xS → Prop) : Array Value → State → Outcome → State → Prop := fun _ st o t => (∃ (k : Nat) (σ : xS), o = .returned (some (.ref (h0 + k))) ∧ post k σ ∧ xRR σ ∧ xSt D g h0 σ t.heap) ∧ va_F (xA h0) st t
theorem xE_N {D : va_G} {g : xG} {T : Nat × Nat × Nat} {h0 : Nat} {s : State} {args : Array Value} (h : xE D g T h0 s) {w : Cond} (hw : w ∈ xNL) (hk : w.onTables = true) : w.before args s = true := va_Nw.use hk (h.2.1.1 w hw)
/-! ===== a method, from its entry ===== -/
theorem x_met {l : Launch} {y : MethodName} {cc : ByteArray} {maxL : Nat} {ret : Option FieldType} {rm : Room} {av : List Value} {D : va_G} {g : xG} {T : Nat × Nat × Nat} {h0 : Nat} {σ : xS} {Qc : Array Value → State → Outcome → State → Prop} {mc ms : Nat} (hσ : xRR σ) (hy : plainName y.cls = true) (hn : (lg_sl av).length ≤ maxL)
    (body : ∀ (p : Program) (e : Env) (s : State) (m : MethodId) (args : Array Value) (below : List Frame) (meth : Method) (c : Code), p.tables.exec = Jvm.exec → c.code = cc → meth.sig.returnType = ret → c.maxLocals = maxL → s.vm.findClass y.cls = some m.cls → (∀ w ∈ xTB, w.before args s = true) → meth.locks = false → meth.name = y.name → xE D g T h0 s → xW D g h0 s s.heap [] σ → ∀ ls : Array Slot, lv_has ls maxL (lv_args 0 av) →
      W p l e rm s m args below meth c s.heap [] 0 0 (MQ below Qc args s mc ms (xA h0)) (F0 m 0 ls [])) : Met l y (xws y cc maxL ret) rm (xP av D g T h0 σ) Qc mc ms (xA h0) := by
  refine Met.ofW (cc := cc) (maxL := maxL) (ret := ret) (ws' := xTB) hy rfl ?_
  intro p e s m args below meth c s₁ B hml hv
  obtain ⟨rfl, hE, hH⟩ := hv
  have hts := atoms_spec (ws := xws y cc maxL ret) B.pre
  have hl := lv_entry av (n := maxL) hn
  rw [lg_entry_eq]
  exact body p e s m _ below meth c B.exec B.bytes B.returns hml (findClass_of_methodNamed B.named) (fun w hw => hts w (List.mem_cons_of_mem _ hw)) B.notSynchronized (name_of_methodNamed B.named B.method).1 hE ⟨hH, hσ, va_S.rf⟩ _ hl
/-! ===== rows on the state ===== -/
section X2
variable {p : Program} {l : Launch} {e : Env} {R : Room} {s : State} {m : MethodId} {args : Array Value} {below : List Frame} {meth : Method} {c : Code} {H : Heap} {locs : List Loc} {cells slots : Nat} {Q : State → Prop}
variable {cc : ByteArray} {pc : Nat} {ls : Array Slot} {rest st0 : List Value} {D : va_G} {g : xG} {T : Nat × Nat × Nat} {h0 : Nat} {σ : xS}
/-- ends -/
theorem x_iret (hx : p.tables.exec = Jvm.exec) (hb : c.code = cc) (hr : meth.sig.returnType = some .int) (hlk : meth.locks = false) {post : Int → xS → Prop} {r : Int} (hW : xW D g h0 s H locs σ) (hR : xR r) (hp : post r σ) (hdg : decode cc pc = .ok (.ireturn, 1)) : W p l e R s m args below meth c H locs cells slots (MQ below (xQi D g h0 post) args s cells slots (xA h0)) (F0 m pc ls [.int (xJ r)]) :=
  W.iret hx hb hr (fun t ht _ => ⟨⟨r, σ, rfl, hR, hp, hW.2.1, by rw [ht]; exact hW.1⟩, hW.2.2.F ht⟩) hW.2.2.2.2 hdg hlk
theorem x_zret (hx : p.tables.exec = Jvm.exec) (hb : c.code = cc) (hr : meth.sig.returnType = some .boolean) (hlk : meth.locks = false) {post : Int → xS → Prop} {r : Int} (hW : xW D g h0 s H locs σ) (hR : r = 0 ∨ r = 1) (hp : post r σ) (hdg : decode cc pc = .ok (.ireturn, 1)) : W p l e R s m args below meth c H locs cells slots (MQ below (xQi D g h0 post) args s cells slots (xA h0)) (F0 m pc ls [.int (xJ r)]) :=
  W.zret hx hb hr (by rcases hR with rfl | rfl <;> rfl) (fun t ht _ => ⟨⟨r, σ, rfl, by omega, hp, hW.2.1, by rw [ht]; exact hW.1⟩, hW.2.2.F ht⟩) hW.2.2.2.2 hdg hlk
theorem x_vret (hx : p.tables.exec = Jvm.exec) (hb : c.code = cc) (hr : meth.sig.returnType = none) (hlk : meth.locks = false) {post : xS → Prop} (hW : xW D g h0 s H locs σ) (hp : post σ) (hdg : decode cc pc = .ok (.return_, 1)) : W p l e R s m args below meth c H locs cells slots (MQ below (xQv D g h0 post) args s cells slots (xA h0)) (F0 m pc ls []) :=
  W.vret hx hb hr (fun t ht _ => ⟨⟨σ, rfl, hp, hW.2.1, by rw [ht]; exact hW.1⟩, hW.2.2.F ht⟩) hW.2.2.2.2 hdg hlk
theorem x_aret (hx : p.tables.exec = Jvm.exec) (hb : c.code = cc) {rt : FieldType} (hr : meth.sig.returnType = some rt) (hrt : (∃ n, rt = .object n) ∨ ∃ t, rt = .array t) (hlk : meth.locks = false) {post : Nat → xS → Prop} {k : Nat} (hW : xW D g h0 s H locs σ) (hp : post k σ) (hdg : decode cc pc = .ok (.areturn, 1)) : W p l e R s m args below meth c H locs cells slots (MQ below (xQr D g h0 post) args s cells slots (xA h0)) (F0 m pc ls [.ref (h0 + k)]) :=
  W.aret hx hb hr hrt (Or.inr ⟨_, rfl⟩) (fun t ht _ => ⟨⟨k, σ, rfl, hp, hW.2.1, by rw [ht]; exact hW.1⟩, hW.2.2.F ht⟩) hW.2.2.2.2 hdg hlk
/-- a class of ours -/
def xCls (C : String) (t : u_T) (N ci : Nat) (ty : Nat → FieldType) : Prop := (∀ w ∈ u_ws C t N, w ∈ xTB) ∧ vwCl[ci]? = some (C, t, N) ∧ (∀ k, k < N → parseFieldDescriptor (t k).2.2.1 = some (ty k)) ∧ (∀ a, a < N → ∀ b, b < N → a ≠ b → (t a).2.1 ≠ (t b).2.1)
theorem x_get {own C : String} {t : u_T} {N ci index k j : Nat} {ty : Nat → FieldType} {v : Value} (hx : p.tables.exec = Jvm.exec) (hb : c.code = cc) (hown : s.vm.findClass own = some m.cls) (hT : ∀ w ∈ xTB, w.before args s = true) (hE : xE D g T h0 s) (hW : xW D g h0 s H locs σ) (hc : xCls C t N ci ty) (hk : xV σ k) (hcel : xcel h0 g σ k = .inr (ci, xobj h0 σ k ci)) (hj : j < N) (hv : (xobj h0 σ k ci)[j]? = some v) (hl : Cond.fieldLink own index (t j).1 (t j).2.1 (t j).2.2.1 ∈ xTB) (hdg : decode cc pc = .ok (.getfield index, 3))
    (kk : W p l e R s m args below meth c H locs cells slots Q (F0 m (pc + 3) ls (v :: rest))) : W p l e R s m args below meth c H locs cells slots Q (F0 m pc ls (.ref (h0 + k) :: rest)) :=
  va_get (ws := [(h0 + k, .inr (ci, xobj h0 σ k ci))]) hx hb hT hc.1 hown hE.1 (fun i q hq => by
    match i, hq with
    | 0, hq => cases hq; have h9 := hW.1.1 k hk; rw [hcel] at h9; exact h9) 0 rfl hc.2.1 j hj (hT _ hl) (fun _ h9 => h9) hv hdg kk
theorem x_getN {own C host : String} {t : u_T} {N ci index k j : Nat} {ty : Nat → FieldType} {v : Value} (hx : p.tables.exec = Jvm.exec) (hb : c.code = cc) (hown : s.vm.findClass own = some m.cls) (hT : ∀ w ∈ xTB, w.before args s = true) (hE : xE D g T h0 s) (hW : xW D g h0 s H locs σ) (hc : xCls C t N ci ty) (hk : xV σ k) (hcel : xcel h0 g σ k = .inr (ci, xobj h0 σ k ci)) (hj : j < N) (hv : (xobj h0 σ k ci)[j]? = some v) (hl : Cond.fieldLinkNest own index (t j).1 (t j).2.1 (t j).2.2.1 host ∈ xNL) (hdg : decode cc pc = .ok (.getfield index, 3))
    (kk : W p l e R s m args below meth c H locs cells slots Q (F0 m (pc + 3) ls (v :: rest))) : W p l e R s m args below meth c H locs cells slots Q (F0 m pc ls (.ref (h0 + k) :: rest)) :=
  va_getN (ws := [(h0 + k, .inr (ci, xobj h0 σ k ci))]) hx hb hT hc.1 hown hE.1 (fun i q hq => by
    match i, hq with
    | 0, hq => cases hq; have h9 := hW.1.1 k hk; rw [hcel] at h9; exact h9) 0 rfl hc.2.1 j hj (xE_N hE hl rfl) (fun _ h9 => h9) hv hdg kk
/-- what a store leaves: the other cells as they were -/
theorem xW_put {k : Nat} {τ : xS} {H1 : Heap} {i : Nat} (hW : xW D g h0 s H locs σ) (hk : k < 310) (hz : H1.size = H.size) (ho : ∀ q : Nat, q ≠ h0 + k → H1[q]? = H[q]?) (hτ : ∀ k2, k2 ≠ k → τ k2 = σ k2) (hR : xRR τ) (h : va_at D vwCl (h0 + k, xcel h0 g τ k) H1) : xW D g h0 s H1 (locs ++ [⟨h0 + k, i⟩]) τ := by
  refine ⟨⟨fun k2 hk2 => ?_, by rw [hz, hW.1.2, show τ 999996 = σ 999996 from hτ _ (by omega)]⟩, hR, hW.2.2.put hz ho (Nat.le_add_right _ _)⟩
  have e8 : τ 999998 = σ 999998 := hτ _ (by omega)
  have e7 : τ 999997 = σ 999997 := hτ _ (by omega)
  by_cases e : k2 = k
  · subst e; exact h
  · have h2 := hW.1.1 k2 (by unfold xV at hk2 ⊢; rw [e7] at hk2; exact hk2)
    rw [xcel_f h0 g (hτ k2 e) (Or.inr (by rw [e8]))]
    exact h2.kept (ho _ (fun q => e (by simpa using q)))
theorem xRR_U {k : Nat} {j v : Int} (h : xRR σ) (hv : xR v) : xRR (xU σ k j v) := fun k2 j2 => by
  unfold xU
  split
  · exact hv
  · exact h k2 j2
theorem x_put {own C : String} {t : u_T} {N ci index k j : Nat} {ji : Int} {ty : Nat → FieldType} {a : Int} (hx : p.tables.exec = Jvm.exec) (hb : c.code = cc) (hown : s.vm.findClass own = some m.cls) (hT : ∀ w ∈ xTB, w.before args s = true) (hE : xE D g T h0 s) (hW : xW D g h0 s H locs σ) (hc : xCls C t N ci ty) (hk : k < 310) (hcel : ∀ σ : xS, xcel h0 g σ k = .inr (ci, xobj h0 σ k ci)) (hj : j < N) (hset : xobj h0 (xU σ k ji a) k ci = (xobj h0 σ k ci).set j (.int (xJ a))) (hlen : j < (xobj h0 σ k ci).length) (hl : Cond.fieldLink own index (t j).1 (t j).2.1 (t j).2.2.1 ∈ xTB) (hfin : (t j).2.2.2 = false) (hn : narrow (ty j) (.int (xJ a)) = .int (xJ a)) (hfit : fits (ty j) (.int (xJ a)) = true) (hR : xR a) (hdg : decode cc pc = .ok (.putfield index, 3))
    (kk : ∀ (H1 : Heap) (locs1 : List Loc) (τ : xS), τ = xU σ k ji a → xW D g h0 s H1 locs1 τ → W p l e R s m args below meth c H1 locs1 cells slots Q (F0 m (pc + 3) ls rest)) : W p l e R s m args below meth c H locs cells slots Q (F0 m pc ls (.int (xJ a) :: .ref (h0 + k) :: rest)) := by
  have hap := va_apart (own := own) hT hc.1 ty hc.2.2.1 hc.2.2.2 hE.1 hc.2.1
  have h9 := hW.1.1 k (Or.inl hk)
  rw [hcel σ] at h9
  obtain ⟨r, h1, cell, q1, q2, q3, q4⟩ := h9
  have hr : r = (C, t, N) := Option.some.inj (h1.symm.trans hc.2.1)
  subst hr
  obtain ⟨hS, hfc, kC, hkC, hkind⟩ := hE.1.1 ci _ hc.2.1
  obtain ⟨cf, kf, fi, f, hi, hsl⟩ := hS j hj
  have hlay := hT _ (hc.1 _ (u_in_lay hj))
  unfold u_lay at hlay
  rw [if_neg (by rw [hfin]; decide)] at hlay
  have hst := (u_facts hfc hkC (u_lays hT hc.1 hj) hi).1
  have h6 := u_store hfc hkC hkind hlay hi (hc.2.2.1 j hj) hn hfit
  refine W.putK hx hb (f := f) ⟨hown, hT _ hl, ⟨_, _, _, hi⟩, hst⟩ (by rw [q2]; exact h6) q1 q3 (by rw [hsl]; exact k2_hasslot (q4 j hj)) rfl rfl hdg fun H1 e1 e2 e3 => ?_
  rw [hsl] at e1 ⊢
  refine kk H1 _ _ rfl (xW_put hW hk e2 e3 (fun k2 h => xU_k σ ji a h) (xRR_U hW.2.1 hR) ?_)
  rw [hcel, hset]
  exact ⟨_, hc.2.1, t_OB.to (V := updV (vp_V (xobj h0 σ k ci)) j (.int (xJ a))) ⟨_, e1, q2, q3, t_set q4 hap hj _⟩ (fun i _ => vp_updV_set hlen _ i)⟩
theorem x_putN {own C host : String} {t : u_T} {N ci index k j : Nat} {ji : Int} {ty : Nat → FieldType} {a : Int} (hx : p.tables.exec = Jvm.exec) (hb : c.code = cc) (hown : s.vm.findClass own = some m.cls) (hT : ∀ w ∈ xTB, w.before args s = true) (hE : xE D g T h0 s) (hW : xW D g h0 s H locs σ) (hc : xCls C t N ci ty) (hk : k < 310) (hcel : ∀ σ : xS, xcel h0 g σ k = .inr (ci, xobj h0 σ k ci)) (hj : j < N) (hset : xobj h0 (xU σ k ji a) k ci = (xobj h0 σ k ci).set j (.int (xJ a))) (hlen : j < (xobj h0 σ k ci).length) (hl : Cond.fieldLinkNest own index (t j).1 (t j).2.1 (t j).2.2.1 host ∈ xNL) (hfin : (t j).2.2.2 = false) (hn : narrow (ty j) (.int (xJ a)) = .int (xJ a)) (hfit : fits (ty j) (.int (xJ a)) = true) (hR : xR a) (hdg : decode cc pc = .ok (.putfield index, 3))
    (kk : ∀ (H1 : Heap) (locs1 : List Loc) (τ : xS), τ = xU σ k ji a → xW D g h0 s H1 locs1 τ → W p l e R s m args below meth c H1 locs1 cells slots Q (F0 m (pc + 3) ls rest)) : W p l e R s m args below meth c H locs cells slots Q (F0 m pc ls (.int (xJ a) :: .ref (h0 + k) :: rest)) := by
  have hap := va_apart (own := own) hT hc.1 ty hc.2.2.1 hc.2.2.2 hE.1 hc.2.1
  have h9 := hW.1.1 k (Or.inl hk)
  rw [hcel σ] at h9
  obtain ⟨r, h1, cell, q1, q2, q3, q4⟩ := h9
  have hr : r = (C, t, N) := Option.some.inj (h1.symm.trans hc.2.1)
  subst hr
  obtain ⟨hS, hfc, kC, hkC, hkind⟩ := hE.1.1 ci _ hc.2.1
  obtain ⟨cf, kf, fi, f, hi, hsl⟩ := hS j hj
  have hlay := hT _ (hc.1 _ (u_in_lay hj))
  unfold u_lay at hlay
  rw [if_neg (by rw [hfin]; decide)] at hlay
  have hst := (u_facts hfc hkC (u_lays hT hc.1 hj) hi).1
  have h6 := u_store hfc hkC hkind hlay hi (hc.2.2.1 j hj) hn hfit
  refine va_WputK hx hb (f := f) hown (xE_N hE hl rfl) hi hst (by rw [q2]; exact h6) q1 q3 (by rw [hsl]; exact k2_hasslot (q4 j hj)) rfl rfl hdg fun H1 e1 e2 e3 => ?_
  rw [hsl] at e1 ⊢
  refine kk H1 _ _ rfl (xW_put hW hk e2 e3 (fun k2 h => xU_k σ ji a h) (xRR_U hW.2.1 hR) ?_)
  rw [hcel, hset]
  exact ⟨_, hc.2.1, t_OB.to (V := updV (vp_V (xobj h0 σ k ci)) j (.int (xJ a))) ⟨_, e1, q2, q3, t_set q4 hap hj _⟩ (fun i _ => vp_updV_set hlen _ i)⟩
/-- arrays of numbers: read -/
theorem x_iald {k n : Nat} {a : Int} (hx : p.tables.exec = Jvm.exec) (hb : c.code = cc) (hE : xE D g T h0 s) (hW : xW D g h0 s H locs σ) (hk : xV σ k) (hcel : xcel h0 g σ k = .inl (g.1, n, .inl (fun j => xJ (σ k j)))) (hi : 0 ≤ a ∧ a < (n : Int)) (hnn : n ≤ 2147483647) (hdg : decode cc pc = .ok (.iaload, 1))
    (kk : W p l e R s m args below meth c H locs cells slots Q (F0 m (pc + 1) ls (.int (xJ (σ k a)) :: rest))) : W p l e R s m args below meth c H locs cells slots Q (F0 m pc ls (.int (xJ a) :: .ref (h0 + k) :: rest)) := by
  obtain ⟨h1, h2⟩ := hi
  have hR : xR a := by omega
  have h9 := hW.1.1 k hk
  rw [hcel] at h9
  refine va_iald (D := D) (cl := vwCl) (ws := [(h0 + k, .inl (g.1, n, .inl (fun j => xJ (σ k j))))]) hx hb hE.1 (fun i q hq => by
    match i, hq with
    | 0, hq => cases hq; exact h9) 0 0 rfl rfl (xJ_in hR h1 h2) hdg ?_
  rw [xJ_cl hR, Int.toNat_of_nonneg h1]
  exact kk
theorem x_zald {k n : Nat} {a : Int} (hx : p.tables.exec = Jvm.exec) (hb : c.code = cc) (hE : xE D g T h0 s) (hW : xW D g h0 s H locs σ) (hk : xV σ k) (hcel : xcel h0 g σ k = .inl (g.2.1, n, .inl (fun j => xJ (σ k j)))) (hi : 0 ≤ a ∧ a < (n : Int)) (hnn : n ≤ 2147483647) (hdg : decode cc pc = .ok (.baload, 1))
    (kk : W p l e R s m args below meth c H locs cells slots Q (F0 m (pc + 1) ls (.int (xJ (σ k a)) :: rest))) : W p l e R s m args below meth c H locs cells slots Q (F0 m pc ls (.int (xJ a) :: .ref (h0 + k) :: rest)) := by
  obtain ⟨h1, h2⟩ := hi
  have hR : xR a := by omega
  have h9 := hW.1.1 k hk
  rw [hcel] at h9
  refine va_zald (D := D) (cl := vwCl) (ws := [(h0 + k, .inl (g.2.1, n, .inl (fun j => xJ (σ k j))))]) hx hb hE.1 (fun i q hq => by
    match i, hq with
    | 0, hq => cases hq; exact h9) 0 1 rfl rfl (xJ_in hR h1 h2) hdg ?_
  rw [xJ_cl hR, Int.toNat_of_nonneg h1]
  exact kk
theorem x_bald {k n : Nat} {a : Int} (hx : p.tables.exec = Jvm.exec) (hb : c.code = cc) (hE : xE D g T h0 s) (hW : xW D g h0 s H locs σ) (hk : xV σ k) (hcel : xcel h0 g σ k = .inl (g.2.2.1, n, .inl (fun j => xJ (σ k j)))) (hi : 0 ≤ a ∧ a < (n : Int)) (hnn : n ≤ 2147483647) (hdg : decode cc pc = .ok (.baload, 1))
    (kk : W p l e R s m args below meth c H locs cells slots Q (F0 m (pc + 1) ls (.int (xJ (σ k a)) :: rest))) : W p l e R s m args below meth c H locs cells slots Q (F0 m pc ls (.int (xJ a) :: .ref (h0 + k) :: rest)) := by
  obtain ⟨h1, h2⟩ := hi
  have hR : xR a := by omega
  have h9 := hW.1.1 k hk
  rw [hcel] at h9
  refine va_bald (D := D) (cl := vwCl) (ws := [(h0 + k, .inl (g.2.2.1, n, .inl (fun j => xJ (σ k j))))]) hx hb hE.1 (fun i q hq => by
    match i, hq with
    | 0, hq => cases hq; exact h9) 0 2 rfl rfl (xJ_in hR h1 h2) hdg ?_
  rw [xJ_cl hR, Int.toNat_of_nonneg h1]
  exact kk
theorem x_alen {k n : Nat} {cA : ClassId} {x : vp_A} {t0 : Nat} {ty : FieldType} (hx : p.tables.exec = Jvm.exec) (hb : c.code = cc) (hE : xE D g T h0 s) (hW : xW D g h0 s H locs σ) (hk : xV σ k) (hcel : xcel h0 g σ k = .inl (cA, x)) (ht : (xtys g)[t0]? = some (cA, ty)) (hn : x.1 = n) (hdg : decode cc pc = .ok (.arraylength, 1))
    (kk : W p l e R s m args below meth c H locs cells slots Q (F0 m (pc + 1) ls (.int (xJ (n : Int)) :: rest))) : W p l e R s m args below meth c H locs cells slots Q (F0 m pc ls (.ref (h0 + k) :: rest)) := by
  have h9 := hW.1.1 k hk
  rw [hcel] at h9
  exact va_alen (D := D) (cl := vwCl) (ws := [(h0 + k, .inl (cA, x))]) hx hb hE.1 (fun i q hq => by
    match i, hq with
    | 0, hq => cases hq; exact h9) 0 t0 rfl ht (by rw [hn, xJ_nat]; rfl) hdg kk
/-- .. and write -/
theorem x_iast {k n : Nat} {a v : Int} (hx : p.tables.exec = Jvm.exec) (hb : c.code = cc) (hE : xE D g T h0 s) (hW : xW D g h0 s H locs σ) (hk : k < 310) (hcel : ∀ σ : xS, xcel h0 g σ k = .inl (g.1, n, .inl (fun j => xJ (σ k j)))) (hi : 0 ≤ a ∧ a < (n : Int)) (hnn : n ≤ 2147483647) (hv : xR v) (hdg : decode cc pc = .ok (.iastore, 1))
    (kk : ∀ (H1 : Heap) (locs1 : List Loc) (τ : xS), τ = xU σ k a v → xW D g h0 s H1 locs1 τ → W p l e R s m args below meth c H1 locs1 cells slots Q (F0 m (pc + 1) ls rest)) : W p l e R s m args below meth c H locs cells slots Q (F0 m pc ls (.int (xJ v) :: .int (xJ a) :: .ref (h0 + k) :: rest)) := by
  obtain ⟨h1, h2⟩ := hi
  have hR : xR a := by omega
  have h9 := hW.1.1 k (Or.inl hk)
  rw [hcel σ] at h9
  have h9 : H[h0 + k]? = some (arrV g.1 n (fun j => .int (xJ (σ k j)))) := h9
  refine W.iast hx hb h9 ((hE.1.2 0 _ rfl).1 n _) (fun q => by cases q) (by rw [arrV_size]; exact xJ_nin hR h1 h2) rfl rfl hdg fun H1 e1 e2 e3 => ?_
  refine kk H1 _ _ rfl (xW_put hW hk e2 e3 (fun k2 h => xU_k σ a v h) (xRR_U hW.2.1 hv) ?_)
  rw [hcel]
  show H1[h0 + k]? = some (arrV g.1 n (fun j => .int (xJ (xU σ k a v k j))))
  rw [e1, arrV_store, xJ_cl hR]
  congr 2
  funext q
  by_cases hq : q = a.toNat
  · subst hq
    simp [updV, Int.toNat_of_nonneg h1, xU_s]
  · have : (q : Int) ≠ a := by omega
    simp [updV, hq, xU_j σ v this]
theorem x_zast {k n : Nat} {a v : Int} (hx : p.tables.exec = Jvm.exec) (hb : c.code = cc) (hE : xE D g T h0 s) (hW : xW D g h0 s H locs σ) (hk : k < 310) (hcel : ∀ σ : xS, xcel h0 g σ k = .inl (g.2.1, n, .inl (fun j => xJ (σ k j)))) (hi : 0 ≤ a ∧ a < (n : Int)) (hnn : n ≤ 2147483647) (hv : v = 0 ∨ v = 1) (hdg : decode cc pc = .ok (.bastore, 1))
    (kk : ∀ (H1 : Heap) (locs1 : List Loc) (τ : xS), τ = xU σ k a v → xW D g h0 s H1 locs1 τ → W p l e R s m args below meth c H1 locs1 cells slots Q (F0 m (pc + 1) ls rest)) : W p l e R s m args below meth c H locs cells slots Q (F0 m pc ls (.int (xJ v) :: .int (xJ a) :: .ref (h0 + k) :: rest)) := by
  obtain ⟨h1, h2⟩ := hi
  have hR : xR a := by omega
  have h9 := hW.1.1 k (Or.inl hk)
  rw [hcel σ] at h9
  have h9 : H[h0 + k]? = some (arrV g.2.1 n (fun j => .int (xJ (σ k j)))) := h9
  have hnar : narrow .boolean (.int (xJ v)) = .int (xJ v) := by rcases hv with rfl | rfl <;> rfl
  refine W.zast hx hb h9 ((hE.1.2 1 _ rfl).1 n _) (fun q => by cases q) (by rw [arrV_size]; exact xJ_nin hR h1 h2) rfl rfl hdg fun H1 e1 e2 e3 => ?_
  rw [hnar] at e1
  refine kk H1 _ _ rfl (xW_put hW hk e2 e3 (fun k2 h => xU_k σ a v h) (xRR_U hW.2.1 (by omega)) ?_)
  rw [hcel]
  show H1[h0 + k]? = some (arrV g.2.1 n (fun j => .int (xJ (xU σ k a v k j))))
  rw [e1, arrV_store, xJ_cl hR]
  congr 2
  funext q
  by_cases hq : q = a.toNat
  · subst hq
    simp [updV, Int.toNat_of_nonneg h1, xU_s]
  · have : (q : Int) ≠ a := by omega
    simp [updV, hq, xU_j σ v this]
theorem x_bast {k n : Nat} {a v w : Int} (hx : p.tables.exec = Jvm.exec) (hb : c.code = cc) (hE : xE D g T h0 s) (hW : xW D g h0 s H locs σ) (hk : k < 310) (hcel : ∀ σ : xS, xcel h0 g σ k = .inl (g.2.2.1, n, .inl (fun j => xJ (σ k j)))) (hi : 0 ≤ a ∧ a < (n : Int)) (hnn : n ≤ 2147483647) (hv : narrow .byte (.int (xJ v)) = .int (xJ w)) (hw : xR w) (hdg : decode cc pc = .ok (.bastore, 1))
    (kk : ∀ (H1 : Heap) (locs1 : List Loc) (τ : xS), τ = xU σ k a w → xW D g h0 s H1 locs1 τ → W p l e R s m args below meth c H1 locs1 cells slots Q (F0 m (pc + 1) ls rest)) : W p l e R s m args below meth c H locs cells slots Q (F0 m pc ls (.int (xJ v) :: .int (xJ a) :: .ref (h0 + k) :: rest)) := by
  obtain ⟨h1, h2⟩ := hi
  have hR : xR a := by omega
  have h9 := hW.1.1 k (Or.inl hk)
  rw [hcel σ] at h9
  have h9 : H[h0 + k]? = some (arrV g.2.2.1 n (fun j => .int (xJ (σ k j)))) := h9
  refine W.bast hx hb h9 ((hE.1.2 2 _ rfl).1 n _) (fun q => by cases q) (by rw [arrV_size]; exact xJ_nin hR h1 h2) rfl rfl hdg fun H1 e1 e2 e3 => ?_
  rw [hv] at e1
  refine kk H1 _ _ rfl (xW_put hW hk e2 e3 (fun k2 h => xU_k σ a w h) (xRR_U hW.2.1 hw) ?_)
  rw [hcel]
  show H1[h0 + k]? = some (arrV g.2.2.1 n (fun j => .int (xJ (xU σ k a w k j))))
  rw [e1, arrV_store, xJ_cl hR]
  congr 2
  funext q
  by_cases hq : q = a.toNat
  · subst hq
    simp [updV, Int.toNat_of_nonneg h1, xU_s]
  · have : (q : Int) ≠ a := by omega
    simp [updV, hq, xU_j σ w this]
/-- frames -/
def xFr (M : Nat → Prop) (σ τ : xS) : Prop := ∀ k, ¬ M k → τ k = σ k
theorem xFr.rf {M : Nat → Prop} : xFr M σ σ := fun _ _ => rfl
theorem xFr.put {M : Nat → Prop} {s1 s2 : xS} {k : Nat} {j v : Int} (h : xFr M σ s1) (e : s2 = xU s1 k j v) (hk : M k) : xFr M σ s2 := fun k2 h2 => by
  rw [e, xU_k s1 j v (fun q => h2 (by rw [q]; exact hk))]
  exact h k2 h2
theorem xFr.call {M M2 : Nat → Prop} {s1 s2 : xS} (h : xFr M σ s1) (h2 : xFr M2 s1 s2) (hs : ∀ k, M2 k → M k) : xFr M σ s2 := fun k hk => (h2 k (fun q => hk (hs k q))).trans (h k hk)
/-- a number that is read -/
theorem x_rd {k : Nat} {j : Int} (hW : xW D g h0 s H locs σ) (kk : ∀ v : Int, v = σ k j → xR v → W p l e R s m args below meth c H locs cells slots Q (F0 m pc ls (.int (xJ v) :: rest))) : W p l e R s m args below meth c H locs cells slots Q (F0 m pc ls (.int (xJ (σ k j)) :: rest)) := kk _ rfl (hW.2.1 k j)
theorem x_nm {a : Int} (kk : ∀ v : Int, v = a → W p l e R s m args below meth c H locs cells slots Q (F0 m pc ls (.int (xJ v) :: rest))) : W p l e R s m args below meth c H locs cells slots Q (F0 m pc ls (.int (xJ a) :: rest)) := kk _ rfl
/-- switches -/
theorem x_tabIn {dflt lo hi v : Int} {offs : Array Int} {len : Nat} {a off : Int} {tgt : Nat} (hx : p.tables.exec = Jvm.exec) (hb : c.code = cc) (ha : xR a) (hv : a = v) (hdg : decode cc pc = .ok (.tableswitch dflt lo hi offs, len)) (h1 : lo ≤ v ∧ v ≤ hi) (ho : offs[(v - lo).toNat]? = some off) (ht : (pc : Int) + off = (tgt : Int)) (k : W p l e R s m args below meth c H locs cells slots Q (F0 m tgt ls rest)) : W p l e R s m args below meth c H locs cells slots Q (F0 m pc ls (.int (xJ a) :: rest)) := by
  subst hv
  exact lv_tableIn hx hb hdg (by rw [xJ_toInt ha]; omega) (by rw [xJ_toInt ha]; omega) (by rw [xJ_toInt ha]; exact ho) ht k
theorem x_tabOut {dflt lo hi : Int} {offs : Array Int} {len : Nat} {a : Int} {tgt : Nat} (hx : p.tables.exec = Jvm.exec) (hb : c.code = cc) (ha : xR a) (hdg : decode cc pc = .ok (.tableswitch dflt lo hi offs, len)) (h : a < lo ∨ hi < a) (ht : (pc : Int) + dflt = (tgt : Int)) (k : W p l e R s m args below meth c H locs cells slots Q (F0 m tgt ls rest)) : W p l e R s m args below meth c H locs cells slots Q (F0 m pc ls (.int (xJ a) :: rest)) := lv_tableOut hx hb hdg (by rw [xJ_toInt ha]; exact h) ht k
theorem x_look {dflt : Int} {ps : Array (Int × Int)} {len : Nat} {a off : Int} {tgt : Nat} (hx : p.tables.exec = Jvm.exec) (hb : c.code = cc) (ha : xR a) (hdg : decode cc pc = .ok (.lookupswitch dflt ps, len)) (hp : (ps.toList.zip (ps.toList.drop 1)).all (fun (a, next) => a.1 < next.1) = true) (ho : Op.lookupswitch.offset ps.toList dflt a = off) (ht : (pc : Int) + off = (tgt : Int)) (k : W p l e R s m args below meth c H locs cells slots Q (F0 m tgt ls rest)) : W p l e R s m args below meth c H locs cells slots Q (F0 m pc ls (.int (xJ a) :: rest)) := lv_lookup hx hb hdg hp (by rw [xJ_toInt ha]; exact ho) ht k
/-- static tables -/
theorem x_wx (hx : p.tables.exec = Jvm.exec) (hb : c.code = cc) {a : Int} (hE : xE D g T h0 s) (hW : xW D g h0 s H locs σ) (hi : 0 ≤ a ∧ a < 8) (hdg : decode cc pc = .ok (.iaload, 1)) (kk : W p l e R s m args below meth c H locs cells slots Q (F0 m (pc + 1) ls (.int (xJ (xwx a.toNat)) :: rest))) : W p l e R s m args below meth c H locs cells slots Q (F0 m pc ls (.int (xJ a) :: .ref T.1 :: rest)) :=
  va_ti hx hb hE.2.2.1.2 hW.2.2 (xJ_in (by omega) hi.1 hi.2) (by rw [xJ_cl (by omega)]) hdg kk
theorem x_wy (hx : p.tables.exec = Jvm.exec) (hb : c.code = cc) {a : Int} (hE : xE D g T h0 s) (hW : xW D g h0 s H locs σ) (hi : 0 ≤ a ∧ a < 8) (hdg : decode cc pc = .ok (.iaload, 1)) (kk : W p l e R s m args below meth c H locs cells slots Q (F0 m (pc + 1) ls (.int (xJ (xwy a.toNat)) :: rest))) : W p l e R s m args below meth c H locs cells slots Q (F0 m pc ls (.int (xJ a) :: .ref T.2.1 :: rest)) :=
  va_ti hx hb hE.2.2.2.1.2 hW.2.2 (xJ_in (by omega) hi.1 hi.2) (by rw [xJ_cl (by omega)]) hdg kk
theorem x_lt (hx : p.tables.exec = Jvm.exec) (hb : c.code = cc) {a : Int} (hE : xE D g T h0 s) (hW : xW D g h0 s H locs σ) (hi : 0 ≤ a ∧ a < 7) (hdg : decode cc pc = .ok (.iaload, 1)) (kk : W p l e R s m args below meth c H locs cells slots Q (F0 m (pc + 1) ls (.int (xJ (xlt a.toNat)) :: rest))) : W p l e R s m args below meth c H locs cells slots Q (F0 m pc ls (.int (xJ a) :: .ref T.2.2 :: rest)) :=
  va_ti hx hb hE.2.2.2.2.2 hW.2.2 (xJ_in (by omega) hi.1 hi.2) (by rw [xJ_cl (by omega)]) hdg kk
/-- calls -/
def xCF (y : MethodName) (bytes : ByteArray) (maxL : Nat) (ret : Option FieldType) (n : Nat) : Prop := Cond.code y bytes maxL ret ∈ xTB ∧ Cond.initialized y.cls ∈ xTB ∧ (y.cls ≠ "java/lang/invoke/MethodHandle" ∧ y.cls ≠ "java/lang/invoke/VarHandle" ∧ (parseMethodDescriptor y.desc).map (fun d => d.parameters.length) = some n)
def xRm (rm R : Room) (maxL mc ms cells slots : Nat) : Prop := rm.cells = mc ∧ rm.slots = ms ∧ (rm.frames + 1 ≤ R.frames ∧ 8 + (maxL + 11) + rm.locals ≤ R.locals) ∧ (cells + mc ≤ R.cells ∧ slots + ms ≤ R.slots)
variable {own C : String} {index n nL maxL mc ms k ci : Nat} {y : MethodName} {bytes : ByteArray} {ret : Option FieldType} {rm : Room} {As : List Value} {Qc : Array Value → State → Outcome → State → Prop} {free : Addr → Prop}
theorem x_preV {t9 : u_T} {N9 : Nat} (hE : xE D g T h0 s) (hW : xW D g h0 s H locs σ) (hk : xV σ k) (hcel : xcel h0 g σ k = .inr (ci, xobj h0 σ k ci)) (hci : vwCl[ci]? = some (C, t9, N9)) : PreV s H C (h0 + k) (xP (.ref (h0 + k) :: As) D g T h0 σ) As := by
  refine ⟨xP_blind, ?_, fun U hU hWm => ⟨rfl, xE_move hE hW.2.2 hWm hU, by rw [hU]; exact hW.1⟩⟩
  have h9 := hW.1.1 k hk
  rw [hcel] at h9
  obtain ⟨q', h1, cell, g1, g2, g3, -⟩ := h9
  exact ⟨cell, g1, by rw [g3]; rfl, by rw [g2]; exact (hE.1.1 ci _ hci).2.1⟩
theorem x_preS (hE : xE D g T h0 s) (hW : xW D g h0 s H locs σ) : PreS s H (xP As D g T h0 σ) As := ⟨xP_blind, fun U hU hWm => ⟨rfl, xE_move hE hW.2.2 hWm hU, by rw [hU]; exact hW.1⟩⟩
theorem x_runV {t9 : u_T} {N9 : Nat} (hx : p.tables.exec = Jvm.exec) (hb : c.code = cc) (hml : c.maxLocals = nL) (hown : s.vm.findClass own = some m.cls) (hT : ∀ w ∈ xTB, w.before args s = true) (hE : xE D g T h0 s) (hW : xW D g h0 s H locs σ) (hls : ls.size = nL) (hk : xV σ k) (hcel : xcel h0 g σ k = .inr (ci, xobj h0 σ k ci)) (hci : vwCl[ci]? = some (y.cls, t9, N9)) (cf : xCF y bytes maxL ret n) (hin : Cond.instanceMethod y ∈ xTB) (hsel : Cond.selects y.cls y y ∈ xTB) (hl : Cond.methodLink own index y ∈ xTB) (hM : Met l y (xws y bytes maxL ret) rm (xP (.ref (h0 + k) :: As) D g T h0 σ) Qc mc ms free) (hrm : xRm rm R maxL mc ms cells slots) (hn : As.length = n) (hst : st0 = As.reverse ++ .ref (h0 + k) :: rest) (hrest : (rest.map fun v => v.category).sum ≤ 8) (hdg : decode cc pc = .ok (.invokevirtual index, 3)) :
    va_Run p l e R s m args below meth c H locs cells slots mc ms (F0 m pc ls st0) rest (Qc (Value.ref (h0 + k) :: As).toArray) free :=
  va_runV (Ts := xTB) ⟨hx, hb, hml, hown, hT⟩ hM ⟨callB_of n hT (xws_good (fun _ h => h) cf.1) rfl hrm.1 hrm.2.1 (hT _ cf.2.1) (hT _ hl) cf.2.2 hrm.2.2.1, hT _ hin, hT _ hsel⟩ (x_preV hE hW hk hcel hci) rfl hn hls hst (lv_room hrest) hdg hrm.2.2.2
theorem x_runVN {host : String} {t9 : u_T} {N9 : Nat} (hx : p.tables.exec = Jvm.exec) (hb : c.code = cc) (hml : c.maxLocals = nL) (hown : s.vm.findClass own = some m.cls) (hT : ∀ w ∈ xTB, w.before args s = true) (hE : xE D g T h0 s) (hW : xW D g h0 s H locs σ) (hls : ls.size = nL) (hk : xV σ k) (hcel : xcel h0 g σ k = .inr (ci, xobj h0 σ k ci)) (hci : vwCl[ci]? = some (y.cls, t9, N9)) (cf : xCF y bytes maxL ret n) (hin : Cond.instanceMethod y ∈ xTB) (hsel : Cond.selects y.cls y y ∈ xTB) (hl : Cond.methodLinkNest own index y host ∈ xNL) (hM : Met l y (xws y bytes maxL ret) rm (xP (.ref (h0 + k) :: As) D g T h0 σ) Qc mc ms free) (hrm : xRm rm R maxL mc ms cells slots) (hn : As.length = n) (hst : st0 = As.reverse ++ .ref (h0 + k) :: rest) (hrest : (rest.map fun v => v.category).sum ≤ 8) (hdg : decode cc pc = .ok (.invokevirtual index, 3)) :
    va_Run p l e R s m args below meth c H locs cells slots mc ms (F0 m pc ls st0) rest (Qc (Value.ref (h0 + k) :: As).toArray) free :=
  va_runVN (Ts := xTB) ⟨hx, hb, hml, hown, hT⟩ hM ⟨va_cnB n hT (xws_good (fun _ h => h) cf.1) rfl hrm.1 hrm.2.1 (hE.2.1.1 _ hl) (hT _ cf.2.1) cf.2.2 hrm.2.2.1, hT _ hin, hT _ hsel⟩ (x_preV hE hW hk hcel hci) rfl hn hls hst (lv_room hrest) hdg hrm.2.2.2
theorem x_runS (hx : p.tables.exec = Jvm.exec) (hb : c.code = cc) (hml : c.maxLocals = nL) (hown : s.vm.findClass own = some m.cls) (hT : ∀ w ∈ xTB, w.before args s = true) (hE : xE D g T h0 s) (hW : xW D g h0 s H locs σ) (hls : ls.size = nL) (cf : xCF y bytes maxL ret n) (hst1 : Cond.static y ∈ xTB) (hl : Cond.methodLink own index y ∈ xTB) (hM : Met l y (xws y bytes maxL ret) rm (xP As D g T h0 σ) Qc mc ms free) (hrm : xRm rm R maxL mc ms cells slots) (hn : As.length = n) (hst : st0 = As.reverse ++ rest) (hrest : (rest.map fun v => v.category).sum ≤ 8) (hdg : decode cc pc = .ok (.invokestatic index, 3)) :
    va_Run p l e R s m args below meth c H locs cells slots mc ms (F0 m pc ls st0) rest (Qc As.toArray) free :=
  va_runS (Ts := xTB) ⟨hx, hb, hml, hown, hT⟩ hM ⟨callB_of n hT (xws_good (fun _ h => h) cf.1) rfl hrm.1 hrm.2.1 (hT _ cf.2.1) (hT _ hl) cf.2.2 hrm.2.2.1, hT _ hst1⟩ (x_preS hE hW) rfl hn hls hst (lv_room hrest) hdg hrm.2.2.2
theorem x_runSN {host : String} (hx : p.tables.exec = Jvm.exec) (hb : c.code = cc) (hml : c.maxLocals = nL) (hown : s.vm.findClass own = some m.cls) (hT : ∀ w ∈ xTB, w.before args s = true) (hE : xE D g T h0 s) (hW : xW D g h0 s H locs σ) (hls : ls.size = nL) (cf : xCF y bytes maxL ret n) (hst1 : Cond.static y ∈ xTB) (hl : Cond.methodLinkNest own index y host ∈ xNL) (hM : Met l y (xws y bytes maxL ret) rm (xP As D g T h0 σ) Qc mc ms free) (hrm : xRm rm R maxL mc ms cells slots) (hn : As.length = n) (hst : st0 = As.reverse ++ rest) (hrest : (rest.map fun v => v.category).sum ≤ 8) (hdg : decode cc pc = .ok (.invokestatic index, 3)) :
    va_Run p l e R s m args below meth c H locs cells slots mc ms (F0 m pc ls st0) rest (Qc As.toArray) free :=
  va_runSN (Ts := xTB) ⟨hx, hb, hml, hown, hT⟩ hM ⟨va_cnB n hT (xws_good (fun _ h => h) cf.1) rfl hrm.1 hrm.2.1 (hE.2.1.1 _ hl) (hT _ cf.2.1) cf.2.2 hrm.2.2.1, hT _ hst1, trivial⟩ (x_preS hE hW) rfl hn hls hst (lv_room hrest) hdg hrm.2.2.2
variable {a0 : Array Value}
theorem xS_go {st₀ t T' : State} {L : List Loc} (hW : xW D g h0 s H locs σ) (h9 : st₀.heap = H) (hL : ∀ q ∈ L, xA h0 q.base) (e1 : T'.heap = t.heap) (hF : va_F (xA h0) st₀ t) : va_S (xA h0) s.heap T'.heap (locs ++ L) := by
  obtain ⟨hz, hk⟩ := hF
  rw [h9] at hz hk
  have hS := hW.2.2
  refine ⟨Nat.le_trans hS.1 (by rw [e1]; exact hz), fun q h1 h2 => by rw [e1, hk q (Nat.lt_of_lt_of_le h1 hS.1) h2]; exact hS.2.1 q h1 h2, fun q hq => ?_⟩
  rcases List.mem_append.mp hq with h | h
  · exact hS.2.2 q h
  · exact hL q h
theorem x_goi {post : Int → xS → Prop} (hr : va_Run p l e R s m args below meth c H locs cells slots mc ms (F0 m pc ls st0) rest (xQi D g h0 post a0) (xA h0)) (hW : xW D g h0 s H locs σ)
    (kk : ∀ (r : Int) (τ : xS) (H1 : Heap) (locs1 : List Loc), xR r → post r τ → xW D g h0 s H1 locs1 τ → W p l e R s m args below meth c H1 locs1 (cells + mc) (slots + ms) Q (F0 m (pc + 3) ls (.int (xJ r) :: rest))) : W p l e R s m args below meth c H locs cells slots Q (F0 m pc ls st0) := by
  intro T hT X
  obtain ⟨v, st₀, t, T', L, h9, X', hL, e1, e2, ⟨⟨r, τ, hv, hR, hp, hRR, hb⟩, hF⟩, st⟩ := hr T hT X
  cases hv
  obtain ⟨t2, a1, b1⟩ := kk r τ T'.heap (locs ++ L) hR hp ⟨by rw [e1]; exact hb, hRR, xS_go hW h9 hL e1 hF⟩ T' rfl X'
  exact ⟨t2, st t2 a1, b1⟩
theorem x_gov {post : xS → Prop} (hr : va_Run p l e R s m args below meth c H locs cells slots mc ms (F0 m pc ls st0) rest (xQv D g h0 post a0) (xA h0)) (hW : xW D g h0 s H locs σ)
    (kk : ∀ (τ : xS) (H1 : Heap) (locs1 : List Loc), post τ → xW D g h0 s H1 locs1 τ → W p l e R s m args below meth c H1 locs1 (cells + mc) (slots + ms) Q (F0 m (pc + 3) ls rest)) : W p l e R s m args below meth c H locs cells slots Q (F0 m pc ls st0) := by
  intro T hT X
  obtain ⟨v, st₀, t, T', L, h9, X', hL, e1, e2, ⟨⟨τ, hv, hp, hRR, hb⟩, hF⟩, st⟩ := hr T hT X
  cases hv
  obtain ⟨t2, a1, b1⟩ := kk τ T'.heap (locs ++ L) hp ⟨by rw [e1]; exact hb, hRR, xS_go hW h9 hL e1 hF⟩ T' rfl X'
  exact ⟨t2, st t2 a1, b1⟩
theorem x_gor {post : Nat → xS → Prop} (hr : va_Run p l e R s m args below meth c H locs cells slots mc ms (F0 m pc ls st0) rest (xQr D g h0 post a0) (xA h0)) (hW : xW D g h0 s H locs σ)
    (kk : ∀ (r : Nat) (τ : xS) (H1 : Heap) (locs1 : List Loc), post r τ → xW D g h0 s H1 locs1 τ → W p l e R s m args below meth c H1 locs1 (cells + mc) (slots + ms) Q (F0 m (pc + 3) ls (.ref (h0 + r) :: rest))) : W p l e R s m args below meth c H locs cells slots Q (F0 m pc ls st0) := by
  intro T hT X
  obtain ⟨v, st₀, t, T', L, h9, X', hL, e1, e2, ⟨⟨r, τ, hv, hp, hRR, hb⟩, hF⟩, st⟩ := hr T hT X
  cases hv
  obtain ⟨t2, a1, b1⟩ := kk r τ T'.heap (locs ++ L) hp ⟨by rw [e1]; exact hb, hRR, xS_go hW h9 hL e1 hF⟩ T' rfl X'
  exact ⟨t2, st t2 a1, b1⟩
theorem x_mmax (hx : p.tables.exec = Jvm.exec) (hb : c.code = cc) (hml : c.maxLocals = nL) (hls : ls.size = nL) (hown : s.vm.findClass own = some m.cls) (hT : ∀ w ∈ xTB, w.before args s = true) (hl : Cond.methodLink own index Lib.Math.max.name ∈ xTB) (h2 : Cond.static Lib.Math.max.name ∈ xTB) (h3 : Cond.initialized "java/lang/Math" ∈ xTB) (h4 : Cond.code Lib.Math.max.name Lib.Math.max.code 2 (some .int) ∈ xTB) (hrm : 1 ≤ R.frames ∧ (rest.map fun v => v.category).sum + 13 ≤ R.locals ∧ cells ≤ R.cells ∧ slots ≤ R.slots) {a b : Int} (ha : xR a) (hb2 : xR b) (hdg : decode cc pc = .ok (.invokestatic index, 3))
    (kk : W p l e R s m args below meth c H locs cells slots Q (F0 m (pc + 3) ls (.int (xJ (if a < b then b else a)) :: rest))) : W p l e R s m args below meth c H locs cells slots Q (F0 m pc ls (.int (xJ b) :: .int (xJ a) :: rest)) :=
  va_mmax hx hb (hml.trans hls.symm) hown (hT _ hl) (hT _ h2) (hT _ h3) (hT _ h4) hrm.1 hrm.2.1 hrm.2.2.1 hrm.2.2.2 hdg (by
    have e : (if xJ a < xJ b then xJ b else xJ a) = xJ (if a < b then b else a) := by
      by_cases h : a < b
      · rw [if_pos h, if_pos ((xJ_lt ha hb2).mpr h)]
      · rw [if_neg h, if_neg (fun q => h ((xJ_lt ha hb2).mp q))]
    rw [e]; exact kk)
end X2
section X3
variable (h0 : Nat) (g : xG)
theorem so_0 (σ : xS) : xcel h0 g σ 0 = .inr (10, xobj h0 σ 0 10) := rfl
theorem so_1 (σ : xS) : xcel h0 g σ 1 = .inr (8, xobj h0 σ 1 8) := rfl
theorem sa_2 (σ : xS) : xcel h0 g σ 2 = .inl (g.1, 260, .inl (fun j => xJ (σ 2 j))) := rfl
theorem so_3 (σ : xS) : xcel h0 g σ 3 = .inr (6, xobj h0 σ 3 6) := rfl
theorem sa_4 (σ : xS) : xcel h0 g σ 4 = .inl (g.1, 100, .inl (fun j => xJ (σ 4 j))) := rfl
theorem sa_5 (σ : xS) : xcel h0 g σ 5 = .inl (g.1, 100, .inl (fun j => xJ (σ 5 j))) := rfl
theorem sg_6 (σ : xS) : xcel h0 g σ 6 = .inl (g.2.2.2.1, 100, .inr (.inr (.inr (.inr (fun j => some (h0 + xrow σ 6 j)))))) := rfl
theorem sa_107 (σ : xS) : xcel h0 g σ 107 = .inl (g.2.1, 100, .inl (fun j => xJ (σ 107 j))) := rfl
theorem sa_108 (σ : xS) : xcel h0 g σ 108 = .inl (g.1, 100, .inl (fun j => xJ (σ 108 j))) := rfl
theorem so_109 (σ : xS) : xcel h0 g σ 109 = .inr (4, xobj h0 σ 109 4) := rfl
theorem sa_110 (σ : xS) : xcel h0 g σ 110 = .inl (g.1, 300, .inl (fun j => xJ (σ 110 j))) := rfl
theorem sa_111 (σ : xS) : xcel h0 g σ 111 = .inl (g.1, 300, .inl (fun j => xJ (σ 111 j))) := rfl
theorem sa_112 (σ : xS) : xcel h0 g σ 112 = .inl (g.1, 16, .inl (fun j => xJ (σ 112 j))) := rfl
theorem sa_113 (σ : xS) : xcel h0 g σ 113 = .inl (g.1, 16, .inl (fun j => xJ (σ 113 j))) := rfl
theorem sa_114 (σ : xS) : xcel h0 g σ 114 = .inl (g.1, 16, .inl (fun j => xJ (σ 114 j))) := rfl
theorem sa_115 (σ : xS) : xcel h0 g σ 115 = .inl (g.1, 7, .inl (fun j => xJ (σ 115 j))) := rfl
theorem sa_116 (σ : xS) : xcel h0 g σ 116 = .inl (g.1, 64, .inl (fun j => xJ (σ 116 j))) := rfl
theorem so_117 (σ : xS) : xcel h0 g σ 117 = .inr (5, xobj h0 σ 117 5) := rfl
theorem so_118 (σ : xS) : xcel h0 g σ 118 = .inr (4, xobj h0 σ 118 4) := rfl
theorem sa_119 (σ : xS) : xcel h0 g σ 119 = .inl (g.1, 300, .inl (fun j => xJ (σ 119 j))) := rfl
theorem sa_120 (σ : xS) : xcel h0 g σ 120 = .inl (g.1, 300, .inl (fun j => xJ (σ 120 j))) := rfl
theorem sa_121 (σ : xS) : xcel h0 g σ 121 = .inl (g.1, 16, .inl (fun j => xJ (σ 121 j))) := rfl
theorem sa_122 (σ : xS) : xcel h0 g σ 122 = .inl (g.1, 16, .inl (fun j => xJ (σ 122 j))) := rfl
theorem sa_123 (σ : xS) : xcel h0 g σ 123 = .inl (g.1, 16, .inl (fun j => xJ (σ 123 j))) := rfl
theorem so_126 (σ : xS) : xcel h0 g σ 126 = .inr (9, xobj h0 σ 126 9) := rfl
theorem sa_127 (σ : xS) : xcel h0 g σ 127 = .inl (g.1, 60, .inl (fun j => xJ (σ 127 j))) := rfl
theorem so_128 (σ : xS) : xcel h0 g σ 128 = .inr (0, xobj h0 σ 128 0) := rfl
theorem sa_129 (σ : xS) : xcel h0 g σ 129 = .inl (g.1, 4, .inl (fun j => xJ (σ 129 j))) := rfl
theorem so_130 (σ : xS) : xcel h0 g σ 130 = .inr (7, xobj h0 σ 130 7) := rfl
theorem sa_131 (σ : xS) : xcel h0 g σ 131 = .inl (g.1, 100, .inl (fun j => xJ (σ 131 j))) := rfl
theorem sa_132 (σ : xS) : xcel h0 g σ 132 = .inl (g.1, 100, .inl (fun j => xJ (σ 132 j))) := rfl
theorem sa_133 (σ : xS) : xcel h0 g σ 133 = .inl (g.2.1, 100, .inl (fun j => xJ (σ 133 j))) := rfl
theorem sa_134 (σ : xS) : xcel h0 g σ 134 = .inl (g.1, 10, .inl (fun j => xJ (σ 134 j))) := rfl
theorem sa_135 (σ : xS) : xcel h0 g σ 135 = .inl (g.1, 10, .inl (fun j => xJ (σ 135 j))) := rfl
theorem so_136 (σ : xS) : xcel h0 g σ 136 = .inr (2, xobj h0 σ 136 2) := rfl
theorem sa_137 (σ : xS) : xcel h0 g σ 137 = .inl (g.1, 2, .inl (fun j => xJ (σ 137 j))) := rfl
theorem sa_142 (σ : xS) : xcel h0 g σ 142 = .inl (g.1, 10, .inl (fun j => xJ (σ 142 j))) := rfl
theorem sa_143 (σ : xS) : xcel h0 g σ 143 = .inl (g.1, 10, .inl (fun j => xJ (σ 143 j))) := rfl
theorem sa_144 (σ : xS) : xcel h0 g σ 144 = .inl (g.1, 10, .inl (fun j => xJ (σ 144 j))) := rfl
theorem sa_145 (σ : xS) : xcel h0 g σ 145 = .inl (g.2.1, 10, .inl (fun j => xJ (σ 145 j))) := rfl
theorem so_146 (σ : xS) : xcel h0 g σ 146 = .inr (2, xobj h0 σ 146 2) := rfl
theorem so_156 (σ : xS) : xcel h0 g σ 156 = .inr (3, xobj h0 σ 156 3) := rfl
theorem sg_157 (σ : xS) : xcel h0 g σ 157 = .inl (g.2.2.2.2, 6, .inr (.inr (.inr (.inr (fun j => some (h0 + xrow σ 157 j)))))) := rfl
theorem so_158 (σ : xS) : xcel h0 g σ 158 = .inr (2, xobj h0 σ 158 2) := rfl
theorem sa_159 (σ : xS) : xcel h0 g σ 159 = .inl (g.1, 2, .inl (fun j => xJ (σ 159 j))) := rfl
theorem sa_164 (σ : xS) : xcel h0 g σ 164 = .inl (g.1, 10, .inl (fun j => xJ (σ 164 j))) := rfl
theorem sa_165 (σ : xS) : xcel h0 g σ 165 = .inl (g.1, 10, .inl (fun j => xJ (σ 165 j))) := rfl
theorem sg_218 (σ : xS) : xcel h0 g σ 218 = .inl (g.2.2.2.1, 5, .inr (.inr (.inr (.inr (fun j => some (h0 + xrow σ 218 j)))))) := rfl
theorem sa_224 (σ : xS) : xcel h0 g σ 224 = .inl (g.1, 5, .inl (fun j => xJ (σ 224 j))) := rfl
theorem sa_225 (σ : xS) : xcel h0 g σ 225 = .inl (g.1, 5, .inl (fun j => xJ (σ 225 j))) := rfl
theorem sa_226 (σ : xS) : xcel h0 g σ 226 = .inl (g.1, 100, .inl (fun j => xJ (σ 226 j))) := rfl
theorem sg_227 (σ : xS) : xcel h0 g σ 227 = .inl (g.2.2.2.1, 31, .inr (.inr (.inr (.inr (fun j => some (h0 + xrow σ 227 j)))))) := rfl
theorem sa_228 (σ : xS) : xcel h0 g σ 228 = .inl (g.1, 100, .inl (fun j => xJ (σ 228 j))) := rfl
theorem sa_259 (σ : xS) : xcel h0 g σ 259 = .inl (g.1, 100, .inl (fun j => xJ (σ 259 j))) := rfl
theorem sa_260 (σ : xS) : xcel h0 g σ 260 = .inl (g.1, 100, .inl (fun j => xJ (σ 260 j))) := rfl
theorem so_261 (σ : xS) : xcel h0 g σ 261 = .inr (1, xobj h0 σ 261 1) := rfl
theorem sa_262 (σ : xS) : xcel h0 g σ 262 = .inl (g.1, 10, .inl (fun j => xJ (σ 262 j))) := rfl
theorem sa_263 (σ : xS) : xcel h0 g σ 263 = .inl (g.1, 10, .inl (fun j => xJ (σ 263 j))) := rfl
theorem sa_264 (σ : xS) : xcel h0 g σ 264 = .inl (g.1, 100, .inl (fun j => xJ (σ 264 j))) := rfl
theorem sa_265 (σ : xS) : xcel h0 g σ 265 = .inl (g.1, 100, .inl (fun j => xJ (σ 265 j))) := rfl
theorem sa_266 (σ : xS) : xcel h0 g σ 266 = .inl (g.1, 10, .inl (fun j => xJ (σ 266 j))) := rfl
theorem sa_267 (σ : xS) : xcel h0 g σ 267 = .inl (g.1, 8, .inl (fun j => xJ (σ 267 j))) := rfl
theorem so_268 (σ : xS) : xcel h0 g σ 268 = .inr (11, xobj h0 σ 268 11) := rfl
theorem sa_269 (σ : xS) : xcel h0 g σ 269 = .inl (g.1, 39, .inl (fun j => xJ (σ 269 j))) := rfl
theorem sa_270 (σ : xS) : xcel h0 g σ 270 = .inl (g.1, 39, .inl (fun j => xJ (σ 270 j))) := rfl
theorem sa_271 (σ : xS) : xcel h0 g σ 271 = .inl (g.1, 39, .inl (fun j => xJ (σ 271 j))) := rfl
theorem sa_272 (σ : xS) : xcel h0 g σ 272 = .inl (g.1, 100, .inl (fun j => xJ (σ 272 j))) := rfl
theorem sa_273 (σ : xS) : xcel h0 g σ 273 = .inl (g.1, 4, .inl (fun j => xJ (σ 273 j))) := rfl
theorem sa_274 (σ : xS) : xcel h0 g σ 274 = .inl (g.1, 2, .inl (fun j => xJ (σ 274 j))) := rfl
theorem sa_275 (σ : xS) : xcel h0 g σ 275 = .inl (g.2.2.1, 120, .inl (fun j => xJ (σ 275 j))) := rfl
theorem sa_276 (σ : xS) : xcel h0 g σ 276 = .inl (g.2.2.1, 260, .inl (fun j => xJ (σ 276 j))) := rfl
theorem sa_277 (σ : xS) : xcel h0 g σ 277 = .inl (g.1, 260, .inl (fun j => xJ (σ 277 j))) := rfl
theorem sa_278 (σ : xS) : xcel h0 g σ 278 = .inl (g.1, 260, .inl (fun j => xJ (σ 278 j))) := rfl
theorem sa_279 (σ : xS) : xcel h0 g σ 279 = .inl (g.1, 16, .inl (fun j => xJ (σ 279 j))) := rfl
theorem sa_280 (σ : xS) : xcel h0 g σ 280 = .inl (g.1, 16, .inl (fun j => xJ (σ 280 j))) := rfl
theorem sa_281 (σ : xS) : xcel h0 g σ 281 = .inl (g.1, 16, .inl (fun j => xJ (σ 281 j))) := rfl
theorem sa_282 (σ : xS) : xcel h0 g σ 282 = .inl (g.1, 16, .inl (fun j => xJ (σ 282 j))) := rfl
theorem sa_283 (σ : xS) : xcel h0 g σ 283 = .inl (g.1, 260, .inl (fun j => xJ (σ 283 j))) := rfl
theorem sa_284 (σ : xS) : xcel h0 g σ 284 = .inl (g.1, 16, .inl (fun j => xJ (σ 284 j))) := rfl
theorem sa_285 (σ : xS) : xcel h0 g σ 285 = .inl (g.1, 16, .inl (fun j => xJ (σ 285 j))) := rfl
theorem sa_286 (σ : xS) : xcel h0 g σ 286 = .inl (g.1, 16, .inl (fun j => xJ (σ 286 j))) := rfl
theorem sa_287 (σ : xS) : xcel h0 g σ 287 = .inl (g.1, 16, .inl (fun j => xJ (σ 287 j))) := rfl
theorem sa_288 (σ : xS) : xcel h0 g σ 288 = .inl (g.1, 100, .inl (fun j => xJ (σ 288 j))) := rfl
theorem sa_289 (σ : xS) : xcel h0 g σ 289 = .inl (g.2.2.1, 60, .inl (fun j => xJ (σ 289 j))) := rfl
theorem sa_290 (σ : xS) : xcel h0 g σ 290 = .inl (g.1, 2, .inl (fun j => xJ (σ 290 j))) := rfl
theorem sa_291 (σ : xS) : xcel h0 g σ 291 = .inl (g.1, 2, .inl (fun j => xJ (σ 291 j))) := rfl
theorem sa_292 (σ : xS) : xcel h0 g σ 292 = .inl (g.1, 2, .inl (fun j => xJ (σ 292 j))) := rfl
theorem sa_293 (σ : xS) : xcel h0 g σ 293 = .inl (g.1, 260, .inl (fun j => xJ (σ 293 j))) := rfl
theorem sa_294 (σ : xS) : xcel h0 g σ 294 = .inl (g.1, 7, .inl (fun j => xJ (σ 294 j))) := rfl
theorem sa_295 (σ : xS) : xcel h0 g σ 295 = .inl (g.1, 100, .inl (fun j => xJ (σ 295 j))) := rfl
theorem sa_296 (σ : xS) : xcel h0 g σ 296 = .inl (g.1, 100, .inl (fun j => xJ (σ 296 j))) := rfl
theorem sa_297 (σ : xS) : xcel h0 g σ 297 = .inl (g.1, 10, .inl (fun j => xJ (σ 297 j))) := rfl
theorem sa_298 (σ : xS) : xcel h0 g σ 298 = .inl (g.1, 10, .inl (fun j => xJ (σ 298 j))) := rfl
theorem sa_299 (σ : xS) : xcel h0 g σ 299 = .inl (g.2.1, 100, .inl (fun j => xJ (σ 299 j))) := rfl
theorem sa_300 (σ : xS) : xcel h0 g σ 300 = .inl (g.2.1, 1024, .inl (fun j => xJ (σ 300 j))) := rfl
theorem sa_301 (σ : xS) : xcel h0 g σ 301 = .inl (g.1, 100, .inl (fun j => xJ (σ 301 j))) := rfl
theorem sa_302 (σ : xS) : xcel h0 g σ 302 = .inl (g.1, 3100, .inl (fun j => xJ (σ 302 j))) := rfl
theorem sa_303 (σ : xS) : xcel h0 g σ 303 = .inl (g.1, 3100, .inl (fun j => xJ (σ 303 j))) := rfl
theorem sa_304 (σ : xS) : xcel h0 g σ 304 = .inl (g.1, 10000, .inl (fun j => xJ (σ 304 j))) := rfl
theorem sa_305 (σ : xS) : xcel h0 g σ 305 = .inl (g.1, 100, .inl (fun j => xJ (σ 305 j))) := rfl
theorem sa_306 (σ : xS) : xcel h0 g σ 306 = .inl (g.1, 8, .inl (fun j => xJ (σ 306 j))) := rfl
theorem sa_307 (σ : xS) : xcel h0 g σ 307 = .inl (g.1, 8, .inl (fun j => xJ (σ 307 j))) := rfl
theorem sa_308 (σ : xS) : xcel h0 g σ 308 = .inl (g.1, 2, .inl (fun j => xJ (σ 308 j))) := rfl
theorem sa_309 (σ : xS) : xcel h0 g σ 309 = .inl (g.2.2.1, 120, .inl (fun j => xJ (σ 309 j))) := rfl
end X3


