/-! ===== constructors: the cells one behind the other from b on ===== -/
def bs (w : Nat → va_E) (k : Nat) (e : va_E) : Nat → va_E := fun q => bif Nat.beq q k then e else w q
def bk (w : Nat → va_E) (k n : Nat) (e : va_E) : Nat → va_E := fun q => bif (Nat.ble k q && Nat.ble (q + 1) (k + n)) then e else w q
def bm (w : Nat → va_E) (k n : Nat) (E : Nat → va_E) : Nat → va_E := fun q => bif (Nat.ble k q && Nat.ble (q + 1) (k + n)) then E (q - k) else w q
theorem bs_s (w : Nat → va_E) (k : Nat) (e : va_E) : bs w k e k = e := by simp [bs]
theorem bs_n (w : Nat → va_E) {k q : Nat} (e : va_E) (h : q ≠ k) : bs w k e q = w q := by
  have : Nat.beq q k = false := by
    cases hq : Nat.beq q k
    · rfl
    · exact absurd (Nat.eq_of_beq_eq_true hq) h
  simp [bs, this]
theorem b_in {k q n : Nat} (h1 : k ≤ q) (h2 : q < k + n) : (Nat.ble k q && Nat.ble (q + 1) (k + n)) = true := by
  rw [Nat.ble_eq_true_of_le h1, Nat.ble_eq_true_of_le h2]; rfl
theorem b_out {k q n : Nat} (h : q < k ∨ k + n ≤ q) : (Nat.ble k q && Nat.ble (q + 1) (k + n)) = false := by
  cases hq : (Nat.ble k q && Nat.ble (q + 1) (k + n))
  · rfl
  · rw [Bool.and_eq_true] at hq
    have h1 := Nat.le_of_ble_eq_true hq.1
    have h2 := Nat.le_of_ble_eq_true hq.2
    omega
theorem allZ {P : Nat → Prop} : ∀ k, k < 0 → P k := fun _ h => absurd h (Nat.not_lt_zero _)
theorem allS {P : Nat → Prop} {n : Nat} (h : ∀ k, k < n → P k) (h2 : P n) : ∀ k, k < n + 1 → P k := fun k hk => by
  rcases Nat.lt_succ_iff_lt_or_eq.mp hk with h9 | h9
  · exact h k h9
  · rw [h9]; exact h2
def bI (D : va_G) (b : Nat) (H : Heap) (n : Nat) (w : Nat → va_E) : Prop := H.size = b + n ∧ ∀ k, k < n → va_at D vwCl (b + k, w k) H
def bB (D : va_G) (b : Nat) (s : State) (H : Heap) (locs : List Loc) (n : Nat) (w : Nat → va_E) : Prop := bI D b H n w ∧ va_S (xA b) s.heap H locs
/-- the words on arrays of rows and of days: they ride along with the tables -/
def bO (U : State) : Prop := (Cond.arrayOver (.array .int)).before #[] U = true ∧ (Cond.arrayOver (.object "ShadowCourt$Day")).before #[] U = true
theorem bO.moved {u U : State} (hal : u.vm.Alike U.vm) (h : bO u) : bO U := ⟨over_moved hal h.1, Cond.arrayOver_alike hal h.2⟩
abbrev bP (av : List Value) (D : va_G) (g : xG) (T : Nat × Nat × Nat) (b : Nat) (e0 : va_E) : Array Value → State → Prop := va_Pc av (fun U => (xE D g T b U ∧ bO U) ∧ bI D b U.heap 1 (fun _ => e0))
theorem bP_blind {av : List Value} {D : va_G} {g : xG} {T : Nat × Nat × Nat} {b : Nat} {e0 : va_E} : FrameBlind (bP av D g T b e0) := fun a U gf mk q => by
  obtain ⟨q0, ⟨⟨qK, ⟨qN, qG⟩, qZ⟩, qO⟩, qP⟩ := q
  exact ⟨q0, ⟨⟨va_K.moved (u := U) (U := U.calling gf mk a) (Vm.Alike.refl U.vm) qK, ⟨fun w hw => xNw_same (s := U) (U := U.calling gf mk a) (List.mem_filter.mp hw).2 rfl (qN w hw), xGA.moved (u := U) (U := U.calling gf mk a) (Vm.Alike.refl U.vm) qG⟩, xZs_move (s := U) (U := U.calling gf mk a) (Vm.Alike.refl U.vm) qZ (fun _ _ _ => rfl)⟩, bO.moved (u := U) (U := U.calling gf mk a) (Vm.Alike.refl U.vm) qO⟩, qP⟩
def bQ (D : va_G) (b n : Nat) (E : Nat → va_E) : Array Value → State → Outcome → State → Prop := fun _ st o t => (o = .returned none ∧ bI D b t.heap n E) ∧ va_F (xA b) st t
theorem xZs_up {T : Nat × Nat × Nat} {b : Nat} (n : Nat) {U : State} {H : Heap} (h : xZs T b U H) : xZs T (b + n) U H := by
  have hA : ∀ q, xA (b + n) q → xA b q := fun q h9 => Nat.le_trans (Nat.le_add_right b n) h9
  exact ⟨⟨h.1.1.narrow hA, h.1.2.narrow hA⟩, ⟨h.2.1.1.narrow hA, h.2.1.2.narrow hA⟩, ⟨h.2.2.1.narrow hA, h.2.2.2.narrow hA⟩⟩
theorem xE_up {D : va_G} {g : xG} {T : Nat × Nat × Nat} {b : Nat} (n : Nat) {U : State} (h : xE D g T b U) : xE D g T (b + n) U := ⟨h.1, h.2.1, xZs_up n h.2.2⟩
theorem b_met {l : Launch} {y : MethodName} {cc : ByteArray} {maxL : Nat} {ret : Option FieldType} {rm : Room} {av : List Value} {D : va_G} {g : xG} {T : Nat × Nat × Nat} {b : Nat} {e0 : va_E} {Qc : Array Value → State → Outcome → State → Prop} {mc ms : Nat} (hy : plainName y.cls = true) (hn : (lg_sl av).length ≤ maxL)
    (body : ∀ (p : Program) (e : Env) (s : State) (m : MethodId) (args : Array Value) (below : List Frame) (meth : Method) (c : Code), p.tables.exec = Jvm.exec → c.code = cc → meth.sig.returnType = ret → c.maxLocals = maxL → s.vm.findClass y.cls = some m.cls → (∀ w ∈ xTB, w.before args s = true) → meth.locks = false → meth.name = y.name → xE D g T b s → bO s → bB D b s s.heap [] 1 (fun _ => e0) → ∀ ls : Array Slot, lv_has ls maxL (lv_args 0 av) →
      W p l e rm s m args below meth c s.heap [] 0 0 (MQ below Qc args s mc ms (xA b)) (F0 m 0 ls [])) : Met l y (xws y cc maxL ret) rm (bP av D g T b e0) Qc mc ms (xA b) := by
  refine Met.ofW (cc := cc) (maxL := maxL) (ret := ret) (ws' := xTB) hy rfl ?_
  intro p e s m args below meth c s₁ B hml hv
  obtain ⟨rfl, ⟨hE, hO⟩, hH⟩ := hv
  have hts := atoms_spec (ws := xws y cc maxL ret) B.pre
  have hl := lv_entry av (n := maxL) hn
  rw [lg_entry_eq]
  exact body p e s m _ below meth c B.exec B.bytes B.returns hml (findClass_of_methodNamed B.named) (fun w hw => hts w (List.mem_cons_of_mem _ hw)) B.notSynchronized (name_of_methodNamed B.named B.method).1 hE hO ⟨hH, va_S.rf⟩ _ hl
theorem arrV_ext {cI : ClassId} {N : Nat} {f f' : Nat → Value} (h : ∀ j, j < N → f j = f' j) : arrV cI N f = arrV cI N f' := by
  show ({ cls := cI, slots := Array.ofFn (n := N) fun j => f j.val, vm := .none } : Cell) = { cls := cI, slots := Array.ofFn (n := N) fun j => f' j.val, vm := .none }
  have h9 : (Array.ofFn (n := N) fun j => f j.val) = Array.ofFn (n := N) fun j => f' j.val := by
    apply Array.ext
    · simp
    · intro j h1 h2
      simp only [Array.getElem_ofFn]
      exact h j (by simpa using h1)
  rw [h9]
theorem vr_outer (c : ClassId) (N h0 : Nat) : ∀ i : Nat, Jvm.Free.Multi.outerC c N h0 i = arrV c N (fun j => va_rf (if j < i then some (h0 + 1 + j) else none))
  | 0 => by
    show ({ cls := c, slots := Array.replicate N .null, vm := .none } : Cell) = _
    rw [arrV_new]
    refine congrArg (arrV c N) (funext fun j => ?_)
    simp [va_rf]
  | i + 1 => by
    show (Jvm.Free.Multi.outerC c N h0 i).setSlot i (.ref (h0 + 1 + i)) = _
    rw [vr_outer c N h0 i, arrV_store]
    refine congrArg (arrV c N) (funext fun j => ?_)
    by_cases e : j = i
    · subst e
      simp [updV, va_rf]
    · by_cases h : j < i
      · simp [updV, e, h, Nat.lt_succ_of_lt h]
      · simp [updV, e, h, show ¬ j < i + 1 by omega]
theorem bB_n {D : va_G} {b : Nat} {s : State} {H : Heap} {locs : List Loc} {n n1 : Nat} {w : Nat → va_E} (h : n = n1) (hB : bB D b s H locs n w) : bB D b s H locs n1 w := by subst h; exact hB
section BX
variable {p : Program} {l : Launch} {e : Env} {R : Room} {s : State} {m : MethodId} {args : Array Value} {below : List Frame} {meth : Method} {c : Code} {H H1 : Heap} {locs : List Loc} {cells slots : Nat} {Q : State → Prop}
variable {cc : ByteArray} {pc : Nat} {ls : Array Slot} {rest st0 : List Value} {D : va_G} {g : xG} {T : Nat × Nat × Nat} {b n : Nat} {w : Nat → va_E}
theorem bB_put {k i : Nat} {en : va_E} (hB : bB D b s H locs n w) (hz : H1.size = H.size) (ho : ∀ q : Nat, q ≠ b + k → H1[q]? = H[q]?) (h : va_at D vwCl (b + k, en) H1) : bB D b s H1 (locs ++ [⟨b + k, i⟩]) n (bs w k en) := by
  refine ⟨⟨by rw [hz]; exact hB.1.1, fun q hq => ?_⟩, hB.2.put hz ho (Nat.le_add_right _ _)⟩
  by_cases e9 : q = k
  · subst e9; rw [bs_s]; exact h
  · rw [bs_n _ _ e9]; exact (hB.1.2 q hq).kept (ho _ (fun h9 => e9 (by simpa using h9)))
theorem bB_new {en : va_E} (hB : bB D b s H locs n w) (hz : H1.size = H.size + 1) (ho : ∀ q : Nat, q < H.size → H1[q]? = H[q]?) (h : va_at D vwCl (b + n, en) H1) : bB D b s H1 locs (n + 1) (bs w n en) := by
  have hS := hB.2
  have h0 := hB.1.1
  refine ⟨⟨by rw [hz, h0]; omega, fun q hq => ?_⟩, Nat.le_trans hS.1 (by omega), fun q h1 h2 => (ho q (Nat.lt_of_lt_of_le h1 hS.1)).trans (hS.2.1 q h1 h2), hS.2.2⟩
  by_cases e9 : q = n
  · subst e9; rw [bs_s]; exact h
  · rw [bs_n _ _ e9]; exact (hB.1.2 q (by omega)).kept (ho _ (by show b + q < _; omega))
theorem bB_arr {k N : Nat} {cA : ClassId} {f f' : Nat → Int32} (hB : bB D b s H locs n w) (he : w k = .inl (cA, N, .inl f)) (hf : ∀ j, j < N → f j = f' j) : bB D b s H locs n (bs w k (.inl (cA, N, .inl f'))) := by
  refine ⟨⟨hB.1.1, fun q hq => ?_⟩, hB.2⟩
  by_cases e9 : q = k
  · subst e9
    rw [bs_s]
    have h9 := hB.1.2 q hq
    rw [he] at h9
    have h9 : H[b + q]? = some (arrV cA N (fun j => .int (f j))) := h9
    show H[b + q]? = some (arrV cA N (fun j => .int (f' j)))
    rw [h9, arrV_ext (fun j hj => by rw [hf j hj])]
  · rw [bs_n _ _ e9]; exact hB.1.2 q hq
theorem bB_arq {k N : Nat} {cA : ClassId} {f f' : Nat → Option Nat} (hB : bB D b s H locs n w) (he : w k = .inl (cA, N, .inr (.inr (.inr (.inr f))))) (hf : ∀ j, j < N → f j = f' j) : bB D b s H locs n (bs w k (.inl (cA, N, .inr (.inr (.inr (.inr f')))))) := by
  refine ⟨⟨hB.1.1, fun q hq => ?_⟩, hB.2⟩
  by_cases e9 : q = k
  · subst e9
    rw [bs_s]
    have h9 := hB.1.2 q hq
    rw [he] at h9
    have h9 : H[b + q]? = some (arrV cA N (fun j => va_rf (f j))) := h9
    show H[b + q]? = some (arrV cA N (fun j => va_rf (f' j)))
    rw [h9, arrV_ext (fun j hj => by rw [hf j hj])]
  · rw [bs_n _ _ e9]; exact hB.1.2 q hq
theorem b_vret {E : Nat → va_E} {mc ms : Nat} (hx : p.tables.exec = Jvm.exec) (hb : c.code = cc) (hr : meth.sig.returnType = none) (hlk : meth.locks = false) (hB : bB D b s H locs n w) (hE : ∀ k, k < n → w k = E k) (hmc : cells = mc) (hms : slots = ms) (hdg : decode cc pc = .ok (.return_, 1)) : W p l e R s m args below meth c H locs cells slots (MQ below (bQ D b n E) args s mc ms (xA b)) (F0 m pc ls []) := by
  subst hmc
  subst hms
  exact W.vret hx hb hr (fun t ht _ => ⟨⟨rfl, by rw [ht]; exact ⟨hB.1.1, fun k hk => by rw [← hE k hk]; exact hB.1.2 k hk⟩⟩, hB.2.F ht⟩) hB.2.2.2 hdg hlk
theorem b_obj {own : String} {index : Nat} (hx : p.tables.exec = Jvm.exec) (hb : c.code = cc) (hml : c.maxLocals = ls.size) (hown : s.vm.findClass own = some m.cls) (hT : ∀ w ∈ xTB, w.before args s = true) (hl : Cond.methodLink own index Lib.objectInit ∈ xTB) (hi : Cond.instanceMethod Lib.objectInit ∈ xTB) (hc : Cond.code Lib.objectInit ⟨#[0xb1]⟩ 1 none ∈ xTB) {a : Nat} (hf : 1 ≤ R.frames) (hlo : (rest.map fun v => v.category).sum + 12 ≤ R.locals) (hdg : decode cc pc = .ok (.invokespecial index, 3))
    (kk : W p l e R s m args below meth c H locs cells slots Q (F0 m (pc + 3) ls rest)) : W p l e R s m args below meth c H locs cells slots Q (F0 m pc ls (.ref a :: rest)) :=
  W.objInit hx hb hown (hT _ hl) (hT _ hi) (hT _ hc) rfl hml.symm rfl hdg hf (by show 2 * 0 + _ + 12 ≤ _; omega) kk
theorem b_new {own C : String} {t : u_T} {N ci index : Nat} {ty : Nat → FieldType} {fs : List Value} (hx : p.tables.exec = Jvm.exec) (hb : c.code = cc) (hown : s.vm.findClass own = some m.cls) (hT : ∀ w ∈ xTB, w.before args s = true) (hE : xE D g T b s) (hB : bB D b s H locs n w) (hc : xCls C t N ci ty) (hfs : ∀ j, j < N → defaultValue (ty j) = vp_V fs j) (hcl : Cond.classLink own index C ∈ xTB) (hinst : Cond.instantiable C N ∈ xTB) (hini : Cond.initialized C ∈ xTB) (hcells : cells + 1 ≤ R.cells) (hslots : slots + N ≤ R.slots) (hdg : decode cc pc = .ok (.new index, 3))
    (kk : ∀ H1 : Heap, bB D b s H1 locs (n + 1) (bs w n (.inr (ci, fs))) → W p l e R s m args below meth c H1 locs (cells + 1) (slots + N) Q (F0 m (pc + 3) ls (.ref (b + n) :: rest))) : W p l e R s m args below meth c H locs cells slots Q (F0 m pc ls rest) := by
  have hKn := hE.1.1 ci _ hc.2.1
  refine W.newcK hx hb hown (hT _ hcl) (hT _ hinst) (hT _ hini) rfl hdg hcells hslots hKn.2.1 hB.1.1 fun H1 kC hkC e1 z1 o1 => ?_
  refine kk H1 (bB_new hB (by rw [z1, hB.1.1]) (fun q hq => o1 q (by rw [← hB.1.1]; exact hq)) ?_)
  exact ⟨_, hc.2.1, (u_born ty hT hc.1 hKn hkC e1 hc.2.2.1).to hfs⟩
theorem b_newaI {a : Int} {N : Nat} (hx : p.tables.exec = Jvm.exec) (hb : c.code = cc) (hT : ∀ w ∈ xTB, w.before args s = true) (hE : xE D g T b s) (hB : bB D b s H locs n w) (har : Cond.arrayClass .int ∈ xTB) (ha : a = (N : Int)) (hNN : N ≤ 100000) (hcells : cells + 1 ≤ R.cells) (hslots : slots + N ≤ R.slots) (hdg : decode cc pc = .ok (.newarray .int, 2))
    (kk : ∀ H1 : Heap, bB D b s H1 locs (n + 1) (bs w n (.inl (g.1, N, .inl (fun _ => xJ 0)))) → W p l e R s m args below meth c H1 locs (cells + 1) (slots + N) Q (F0 m (pc + 2) ls (.ref (b + n) :: rest))) : W p l e R s m args below meth c H locs cells slots Q (F0 m pc ls (.int (xJ a) :: rest)) := by
  subst ha
  have hR : xR (N : Int) := by omega
  refine va_newaK (atype := .int) hx hb (hT _ har) rfl hdg rfl (fun q => by have := (xJ_lt hR (by omega : xR 0)).mp q; omega) (by rw [xJ_cl hR]; rfl) (by show N * 4 ≤ _; omega) hcells hslots hB.1.1 fun H1 cA e1 z1 o1 _ hnm => ?_
  have hg : s.vm.findClass ("[" ++ FieldType.int.toString) = some g.1 := (hE.1.2 0 _ rfl).2
  cases hg.symm.trans hnm
  exact kk H1 (bB_new hB (by rw [z1, hB.1.1]) (fun q hq => o1 q (by rw [← hB.1.1]; exact hq)) e1)
theorem b_newaZ {a : Int} {N : Nat} (hx : p.tables.exec = Jvm.exec) (hb : c.code = cc) (hT : ∀ w ∈ xTB, w.before args s = true) (hE : xE D g T b s) (hB : bB D b s H locs n w) (har : Cond.arrayClass .boolean ∈ xTB) (ha : a = (N : Int)) (hNN : N ≤ 100000) (hcells : cells + 1 ≤ R.cells) (hslots : slots + N ≤ R.slots) (hdg : decode cc pc = .ok (.newarray .boolean, 2))
    (kk : ∀ H1 : Heap, bB D b s H1 locs (n + 1) (bs w n (.inl (g.2.1, N, .inl (fun _ => xJ 0)))) → W p l e R s m args below meth c H1 locs (cells + 1) (slots + N) Q (F0 m (pc + 2) ls (.ref (b + n) :: rest))) : W p l e R s m args below meth c H locs cells slots Q (F0 m pc ls (.int (xJ a) :: rest)) := by
  subst ha
  have hR : xR (N : Int) := by omega
  refine va_newaK (atype := .boolean) hx hb (hT _ har) rfl hdg rfl (fun q => by have := (xJ_lt hR (by omega : xR 0)).mp q; omega) (by rw [xJ_cl hR]; rfl) (by show N * 1 ≤ _; omega) hcells hslots hB.1.1 fun H1 cA e1 z1 o1 _ hnm => ?_
  have hg : s.vm.findClass ("[" ++ FieldType.boolean.toString) = some g.2.1 := (hE.1.2 1 _ rfl).2
  cases hg.symm.trans hnm
  exact kk H1 (bB_new hB (by rw [z1, hB.1.1]) (fun q hq => o1 q (by rw [← hB.1.1]; exact hq)) e1)
theorem b_newaB {a : Int} {N : Nat} (hx : p.tables.exec = Jvm.exec) (hb : c.code = cc) (hT : ∀ w ∈ xTB, w.before args s = true) (hE : xE D g T b s) (hB : bB D b s H locs n w) (har : Cond.arrayClass .byte ∈ xTB) (ha : a = (N : Int)) (hNN : N ≤ 100000) (hcells : cells + 1 ≤ R.cells) (hslots : slots + N ≤ R.slots) (hdg : decode cc pc = .ok (.newarray .byte, 2))
    (kk : ∀ H1 : Heap, bB D b s H1 locs (n + 1) (bs w n (.inl (g.2.2.1, N, .inl (fun _ => xJ 0)))) → W p l e R s m args below meth c H1 locs (cells + 1) (slots + N) Q (F0 m (pc + 2) ls (.ref (b + n) :: rest))) : W p l e R s m args below meth c H locs cells slots Q (F0 m pc ls (.int (xJ a) :: rest)) := by
  subst ha
  have hR : xR (N : Int) := by omega
  refine va_newaK (atype := .byte) hx hb (hT _ har) rfl hdg rfl (fun q => by have := (xJ_lt hR (by omega : xR 0)).mp q; omega) (by rw [xJ_cl hR]; rfl) (by show N * 1 ≤ _; omega) hcells hslots hB.1.1 fun H1 cA e1 z1 o1 _ hnm => ?_
  have hg : s.vm.findClass ("[" ++ FieldType.byte.toString) = some g.2.2.1 := (hE.1.2 2 _ rfl).2
  cases hg.symm.trans hnm
  exact kk H1 (bB_new hB (by rw [z1, hB.1.1]) (fun q hq => o1 q (by rw [← hB.1.1]; exact hq)) e1)
theorem b_anew {own : String} {index : Nat} {a : Int} {N : Nat} (hx : p.tables.exec = Jvm.exec) (hb : c.code = cc) (hown : s.vm.findClass own = some m.cls) (hT : ∀ w ∈ xTB, w.before args s = true) (hE : xE D g T b s) (hB : bB D b s H locs n w) (hcl : Cond.classLink own index "ShadowCourt$Day" ∈ xTB) (hO : bO s) (ha : a = (N : Int)) (hNN : N ≤ 100000) (hcells : cells + 1 ≤ R.cells) (hslots : slots + N ≤ R.slots) (hdg : decode cc pc = .ok (.anewarray index, 3))
    (kk : ∀ H1 : Heap, bB D b s H1 locs (n + 1) (bs w n (.inl (g.2.2.2.2, N, .inr (.inr (.inr (.inr (fun _ => none))))))) → W p l e R s m args below meth c H1 locs (cells + 1) (slots + N) Q (F0 m (pc + 3) ls (.ref (b + n) :: rest))) : W p l e R s m args below meth c H locs cells slots Q (F0 m pc ls (.int (xJ a) :: rest)) := by
  subst ha
  have hR : xR (N : Int) := by omega
  have hN : (xJ (N : Int)).toNatClampNeg = N := by rw [xJ_cl hR]; rfl
  refine W.anew hx hb hown (hT _ hcl) hO.2 rfl hdg rfl (fun q => by have := (xJ_lt hR (by omega : xR 0)).mp q; omega) (by rw [hN]; omega) hcells (by rw [hN]; exact hslots) fun cA kA comp h1 h2 h3 h4 => ?_
  obtain ⟨kA', comp', -, -, -, hg⟩ := (hE.1.2 4 _ rfl).2
  cases hg.symm.trans h1
  have hz := hB.1.1
  rw [hN, hz, arrV_new]
  exact kk _ (bB_new hB (by simp) (fun q hq => by rw [Array.getElem?_push, if_neg (Nat.ne_of_lt hq)]) (by
    show _ = some (arrV g.2.2.2.2 N (fun j => va_rf none))
    rw [Array.getElem?_push, if_pos (by exact hz.symm)]
    rfl))
theorem b_mna {own : String} {index : Nat} {a1 a2 : Int} {N K : Nat} (hx : p.tables.exec = Jvm.exec) (hb : c.code = cc) (hown : s.vm.findClass own = some m.cls) (hT : ∀ w ∈ xTB, w.before args s = true) (hE : xE D g T b s) (hB : bB D b s H locs n w) (hcl : Cond.classLink own index "[[I" ∈ xTB) (hO : bO s) (har : Cond.arrayClass .int ∈ xTB) (ha1 : a1 = (N : Int)) (ha2 : a2 = (K : Int)) (hNN : N ≤ 100000 ∧ K ≤ 100000) (hcells : cells + (1 + N) ≤ R.cells) (hslots : slots + (N + N * K) ≤ R.slots) (hdg : decode cc pc = .ok (.multianewarray index 2, 4))
    (kk : ∀ H1 : Heap, bB D b s H1 locs (n + 1 + N) (bk (bs w n (.inl (g.2.2.2.1, N, .inr (.inr (.inr (.inr (fun j => if j < N then some (b + n + 1 + j) else none))))))) (n + 1) N (.inl (g.1, K, .inl (fun _ => xJ 0)))) → W p l e R s m args below meth c H1 locs (cells + 1 + N) (slots + N + N * K) Q (F0 m (pc + 4) ls (.ref (b + n) :: rest))) : W p l e R s m args below meth c H locs cells slots Q (F0 m pc ls (.int (xJ a2) :: .int (xJ a1) :: rest)) := by
  subst ha1
  subst ha2
  have hR1 : xR (N : Int) := by omega
  have hR2 : xR (K : Int) := by omega
  have hN : (xJ (N : Int)).toNatClampNeg = N := by rw [xJ_cl hR1]; rfl
  have hK : (xJ (K : Int)).toNatClampNeg = K := by rw [xJ_cl hR2]; rfl
  intro T9 hT9 Xs
  obtain ⟨vm₁, cA, comp, -, fA, fC, -, -, X', step⟩ := Xs.multianewarray2F hx hown (ty := .int) (hT _ hcl) hO.1 (hT _ har) (g := F0 m pc ls (.int (xJ (K : Int)) :: .int (xJ (N : Int)) :: rest)) rfl (by rw [hb]; exact hdg) rfl (fun q => by have := (xJ_lt hR1 (by omega : xR 0)).mp q; omega) (fun q => by have := (xJ_lt hR2 (by omega : xR 0)).mp q; omega) (by rw [hN]; omega) (by rw [hK]; show K * 4 ≤ _; omega) (by rw [hK]; omega) rfl rfl (by rw [hN]; exact hcells) (by rw [hN, hK]; exact hslots)
  rw [hN, hK] at X' step
  have hgA : s.vm.findClass ("[" ++ (FieldType.array .int).toString) = some g.2.2.2.1 := (hE.1.2 3 _ rfl).2
  have hgI : s.vm.findClass ("[" ++ FieldType.int.toString) = some g.1 := (hE.1.2 0 _ rfl).2
  cases hgA.symm.trans fA
  cases hgI.symm.trans fC
  generalize hF : Jvm.Free.Multi.fill (T9.setVm vm₁) g.2.2.2.1 g.1 N K (defaultValue .int) N = F at X' step
  have hTh : (T9.setVm vm₁).heap = H := hT9
  obtain ⟨f1, f2, -, -⟩ := Jvm.Free.Multi.fill_facts (T9.setVm vm₁) g.2.2.2.1 g.1 N K (defaultValue .int) N
  rw [hF, hTh] at f1 f2
  have hold : ∀ x : Nat, x < H.size → F.heap[x]? = H[x]? := fun x hx => by
    have := Jvm.Free.Multi.fill_old (T9.setVm vm₁) g.2.2.2.1 g.1 N K (defaultValue .int) (a := x) (by rw [hTh]; exact hx) N
    rw [hF, hTh] at this
    exact this
  have hrow : ∀ j : Nat, j < N → F.heap[H.size + 1 + j]? = some (arrV g.1 K (fun _ => .int 0)) := fun j hj => by
    have := Jvm.Free.Multi.fill_inner (T9.setVm vm₁) g.2.2.2.1 g.1 N K (defaultValue .int) N j hj
    rw [hF, hTh] at this
    rw [this, ← arrV_new]
    rfl
  have hz := hB.1.1
  rw [vr_outer] at f2
  rw [hz] at f1 f2
  have hS := hB.2
  have hB2 : bB D b s F.heap locs (n + 1 + N) (bk (bs w n (.inl (g.2.2.2.1, N, .inr (.inr (.inr (.inr (fun j => if j < N then some (b + n + 1 + j) else none))))))) (n + 1) N (.inl (g.1, K, .inl (fun _ => xJ 0)))) := by
    refine ⟨⟨by rw [f1]; omega, fun q hq => ?_⟩, Nat.le_trans hS.1 (by rw [f1, hz]; omega), fun q h1 h2 => (hold q (Nat.lt_of_lt_of_le h1 hS.1)).trans (hS.2.1 q h1 h2), hS.2.2⟩
    by_cases h1 : q < n + 1
    · have hbk : bk (bs w n (.inl (g.2.2.2.1, N, .inr (.inr (.inr (.inr (fun j => if j < N then some (b + n + 1 + j) else none))))))) (n + 1) N (.inl (g.1, K, .inl (fun _ => xJ 0))) q = bs w n (.inl (g.2.2.2.1, N, .inr (.inr (.inr (.inr (fun j => if j < N then some (b + n + 1 + j) else none)))))) q := by
        unfold bk; rw [b_out (Or.inl h1)]; rfl
      rw [hbk]
      by_cases e9 : q = n
      · subst e9
        rw [bs_s]
        exact f2
      · rw [bs_n _ _ e9]
        exact (hB.1.2 q (by omega)).kept (hold _ (by show b + q < _; omega))
    · have hbk : bk (bs w n (.inl (g.2.2.2.1, N, .inr (.inr (.inr (.inr (fun j => if j < N then some (b + n + 1 + j) else none))))))) (n + 1) N (.inl (g.1, K, .inl (fun _ => xJ 0))) q = .inl (g.1, K, .inl (fun _ => xJ 0)) := by
        unfold bk; rw [b_in (by omega) hq]; rfl
      rw [hbk]
      have := hrow (q - (n + 1)) (by omega)
      rw [show H.size + 1 + (q - (n + 1)) = b + q by omega] at this
      exact this
  obtain ⟨t2, a9, b9⟩ := kk F.heap hB2 F rfl X'
  refine ⟨t2, step t2 ?_, b9⟩
  rw [hT9, hz]
  exact a9
theorem b_pc {pc1 : Nat} {st1 : List Value} (h : pc = pc1) (kk : W p l e R s m args below meth c H locs cells slots Q (F0 m pc1 ls st1)) : W p l e R s m args below meth c H locs cells slots Q (F0 m pc ls st1) := by subst h; exact kk
theorem b_get {own C : String} {t : u_T} {N ci index j : Nat} {ty : Nat → FieldType} {fs : List Value} {v : Value} (hx : p.tables.exec = Jvm.exec) (hb : c.code = cc) (hown : s.vm.findClass own = some m.cls) (hT : ∀ w ∈ xTB, w.before args s = true) (hE : xE D g T b s) (hB : bB D b s H locs n w) (hc : xCls C t N ci ty) (k : Nat) (hk : k < n) (he : w k = .inr (ci, fs)) (hj : j < N) (hv : fs[j]? = some v) (hl : Cond.fieldLink own index (t j).1 (t j).2.1 (t j).2.2.1 ∈ xTB) (hdg : decode cc pc = .ok (.getfield index, 3))
    (kk : W p l e R s m args below meth c H locs cells slots Q (F0 m (pc + 3) ls (v :: rest))) : W p l e R s m args below meth c H locs cells slots Q (F0 m pc ls (.ref (b + k) :: rest)) :=
  va_get (ws := [(b + k, .inr (ci, fs))]) hx hb hT hc.1 hown hE.1 (fun i q hq => by
    match i, hq with
    | 0, hq => cases hq; have h9 := hB.1.2 k hk; rw [he] at h9; exact h9) 0 rfl hc.2.1 j hj (hT _ hl) (fun _ h9 => h9) hv hdg kk
theorem b_put {own C : String} {t : u_T} {N ci index j : Nat} {ty : Nat → FieldType} {fs fs' : List Value} {v : Value} (hx : p.tables.exec = Jvm.exec) (hb : c.code = cc) (hown : s.vm.findClass own = some m.cls) (hT : ∀ w ∈ xTB, w.before args s = true) (hE : xE D g T b s) (hB : bB D b s H locs n w) (hc : xCls C t N ci ty) (k : Nat) (hk : k < n) (he : w k = .inr (ci, fs)) (hj : j < N) (hlen : j < fs.length) (hfs : fs.set j v = fs') (hl : Cond.fieldLink own index (t j).1 (t j).2.1 (t j).2.2.1 ∈ xTB) (hfin : (t j).2.2.2 = false) (hn : narrow (ty j) v = v) (hfit : fits (ty j) v = true) (hdg : decode cc pc = .ok (.putfield index, 3))
    (kk : ∀ (H1 : Heap) (locs1 : List Loc), bB D b s H1 locs1 n (bs w k (.inr (ci, fs'))) → W p l e R s m args below meth c H1 locs1 cells slots Q (F0 m (pc + 3) ls rest)) : W p l e R s m args below meth c H locs cells slots Q (F0 m pc ls (v :: .ref (b + k) :: rest)) := by
  subst hfs
  have hap := va_apart (own := own) hT hc.1 ty hc.2.2.1 hc.2.2.2 hE.1 hc.2.1
  have h9 := hB.1.2 k hk
  rw [he] at h9
  obtain ⟨r, h1, cell, q1, q2, q3, q4⟩ := h9
  have hr : r = (C, t, N) := Option.some.inj (h1.symm.trans hc.2.1)
  subst hr
  obtain ⟨hS, hfc, kC, hkC, hkind⟩ := hE.1.1 ci _ hc.2.1
  obtain ⟨cf, kf, fi, f, hi, hsl⟩ := hS j hj
  have hlay := hT _ (hc.1 _ (u_in_lay hj))
  unfold u_lay at hlay
  rw [if_neg (by rw [hfin]; decide)] at hlay
  have hst := (u_facts hfc hkC (u_lays hT hc.1 hj) hi).1
  have h6 := u_store hfc hkC hkind hlay hi (hc.2.2.1 j hj) hn hfit
  refine W.putK hx hb (f := f) ⟨hown, hT _ hl, ⟨_, _, _, hi⟩, hst⟩ (by rw [q2]; exact h6) q1 q3 (by rw [hsl]; exact k2_hasslot (q4 j hj)) rfl rfl hdg fun H1 e1 e2 e3 => ?_
  rw [hsl] at e1 ⊢
  exact kk H1 _ (bB_put hB e2 e3 ⟨_, hc.2.1, t_OB.to (V := updV (vp_V fs) j v) ⟨_, e1, q2, q3, t_set q4 hap hj _⟩ (fun i _ => vp_updV_set hlen _ i)⟩)
theorem b_putF {own C : String} {t : u_T} {N ci index j : Nat} {ty : Nat → FieldType} {fs fs' : List Value} {v : Value} (hx : p.tables.exec = Jvm.exec) (hb : c.code = cc) (hown : s.vm.findClass own = some m.cls) (hT : ∀ w ∈ xTB, w.before args s = true) (hE : xE D g T b s) (hB : bB D b s H locs n w) (hc : xCls C t N ci ty) (k : Nat) (hk : k < n) (he : w k = .inr (ci, fs)) (hj : j < N) (hlen : j < fs.length) (hfs : fs.set j v = fs') (hl : Cond.fieldLink own index (t j).1 (t j).2.1 (t j).2.2.1 ∈ xTB) (hfin : (t j).2.2.2 = true) (hin2 : meth.name = "<init>") (hdecl : (t j).1 = own) (hn : narrow (ty j) v = v) (hfit : fits (ty j) v = true) (hdg : decode cc pc = .ok (.putfield index, 3))
    (kk : ∀ (H1 : Heap) (locs1 : List Loc), bB D b s H1 locs1 n (bs w k (.inr (ci, fs'))) → W p l e R s m args below meth c H1 locs1 cells slots Q (F0 m (pc + 3) ls rest)) : W p l e R s m args below meth c H locs cells slots Q (F0 m pc ls (v :: .ref (b + k) :: rest)) := by
  subst hfs
  have hap := va_apart (own := own) hT hc.1 ty hc.2.2.1 hc.2.2.2 hE.1 hc.2.1
  have h9 := hB.1.2 k hk
  rw [he] at h9
  obtain ⟨r, h1, cell, q1, q2, q3, q4⟩ := h9
  have hr : r = (C, t, N) := Option.some.inj (h1.symm.trans hc.2.1)
  subst hr
  obtain ⟨hS, hfc, kC, hkC, hkind⟩ := hE.1.1 ci _ hc.2.1
  obtain ⟨cf, kf, fi, f, hi, hsl⟩ := hS j hj
  have hlay := hT _ (hc.1 _ (u_in_lay hj))
  unfold u_lay at hlay
  rw [if_pos hfin] at hlay
  have hst := (u_facts hfc hkC (u_lays hT hc.1 hj) hi).1
  have hcf : m.cls = cf := by
    obtain ⟨_, _, c', _, _, _, -, -, hf', -, -, -, hown2, -⟩ := Cond.laysFinal_spec hlay
    have e1 : c' = cf := by have := hi.symm.trans hf'; simp at this; exact this.1.symm
    rw [hdecl] at hown2
    rw [← e1]; exact Option.some.inj (hown.symm.trans hown2)
  have h6 := u_fits hfc hkC hkind (Or.inr hlay) hi (hc.2.2.1 j hj) hn hfit
  refine W.putFinK hx hb hown (hT _ hl) hi hst hcf hin2 (by rw [q2]; exact h6) q1 q3 (by rw [hsl]; exact k2_hasslot (q4 j hj)) rfl rfl hdg fun H1 e1 e2 e3 => ?_
  rw [hsl] at e1 ⊢
  exact kk H1 _ (bB_put hB e2 e3 ⟨_, hc.2.1, t_OB.to (V := updV (vp_V fs) j v) ⟨_, e1, q2, q3, t_set q4 hap hj _⟩ (fun i _ => vp_updV_set hlen _ i)⟩)
def bu {α : Type} (f : Nat → α) (k : Nat) (x : α) : Nat → α := fun q => bif Nat.beq q k then x else f q
theorem bu_eq {α : Type} (f : Nat → α) (k : Nat) (x : α) (q : Nat) : bu f k x q = if q = k then x else f q := by
  unfold bu
  by_cases h : q = k
  · subst h; simp
  · have : Nat.beq q k = false := by
      cases hq : Nat.beq q k
      · rfl
      · exact absurd (Nat.eq_of_beq_eq_true hq) h
    simp [this, h]
theorem b_iast {N : Nat} {a v : Int} {f : Nat → Int32} (hx : p.tables.exec = Jvm.exec) (hb : c.code = cc) (hE : xE D g T b s) (hB : bB D b s H locs n w) (k : Nat) (hk : k < n) (he : w k = .inl (g.1, N, .inl f)) (hi : 0 ≤ a ∧ a < (N : Int)) (hnn : N ≤ 100000) (hdg : decode cc pc = .ok (.iastore, 1))
    (kk : ∀ (H1 : Heap) (locs1 : List Loc), bB D b s H1 locs1 n (bs w k (.inl (g.1, N, .inl (bu f a.toNat (xJ v))))) → W p l e R s m args below meth c H1 locs1 cells slots Q (F0 m (pc + 1) ls rest)) : W p l e R s m args below meth c H locs cells slots Q (F0 m pc ls (.int (xJ v) :: .int (xJ a) :: .ref (b + k) :: rest)) := by
  obtain ⟨h1, h2⟩ := hi
  have hR : xR a := by omega
  have h9 := hB.1.2 k hk
  rw [he] at h9
  have h9 : H[b + k]? = some (arrV g.1 N (fun j => .int (f j))) := h9
  refine W.iast hx hb h9 ((hE.1.2 0 _ rfl).1 N _) (fun q => by cases q) (by rw [arrV_size]; exact xJ_nin hR h1 h2) rfl rfl hdg fun H1 e1 e2 e3 => ?_
  refine kk H1 _ (bB_put hB e2 e3 ?_)
  show H1[b + k]? = some (arrV g.1 N (fun j => .int (bu f a.toNat (xJ v) j)))
  rw [e1, arrV_store, xJ_cl hR]
  congr 2
  funext q
  rw [bu_eq]
  by_cases hq : q = a.toNat
  · subst hq
    simp [updV]
  · simp [updV, hq]
theorem b_aald {N r : Nat} {a : Int} {f : Nat → Option Nat} (hx : p.tables.exec = Jvm.exec) (hb : c.code = cc) (hE : xE D g T b s) (hB : bB D b s H locs n w) (k : Nat) (hk : k < n) (he : w k = .inl (g.2.2.2.1, N, .inr (.inr (.inr (.inr f))))) (hi : 0 ≤ a ∧ a < (N : Int)) (hnn : N ≤ 100000) (hf : f a.toNat = some r) (hdg : decode cc pc = .ok (.aaload, 1))
    (kk : W p l e R s m args below meth c H locs cells slots Q (F0 m (pc + 1) ls (.ref r :: rest))) : W p l e R s m args below meth c H locs cells slots Q (F0 m pc ls (.int (xJ a) :: .ref (b + k) :: rest)) := by
  obtain ⟨h1, h2⟩ := hi
  have hR : xR a := by omega
  have h9 := hB.1.2 k hk
  rw [he] at h9
  have h9 : H[b + k]? = some (arrV g.2.2.2.1 N (fun j => va_rf (f j))) := h9
  refine W.aald (v := .ref r) (ty := .array .int) hx hb h9 ((hE.1.2 3 _ rfl).1 N _) rfl (fun q => by cases q) (by rw [arrV_size]; exact xJ_nin hR h1 h2) ?_ rfl rfl hdg kk
  rw [xJ_cl hR, arrV_read _ _ (by omega), hf]
  rfl
theorem b_aast {N kd : Nat} {a : Int} {f : Nat → Option Nat} {fs : List Value} {t9 : u_T} {N9 : Nat} (hx : p.tables.exec = Jvm.exec) (hb : c.code = cc) (hE : xE D g T b s) (hB : bB D b s H locs n w) (k : Nat) (hk : k < n) (he : w k = .inl (g.2.2.2.2, N, .inr (.inr (.inr (.inr f))))) (hkd : kd < n) (hed : w kd = .inr (2, fs)) (hci : vwCl[2]? = some ("ShadowCourt$Day", t9, N9)) (hi : 0 ≤ a ∧ a < (N : Int)) (hnn : N ≤ 100000) (hdg : decode cc pc = .ok (.aastore, 1))
    (kk : ∀ (H1 : Heap) (locs1 : List Loc), bB D b s H1 locs1 n (bs w k (.inl (g.2.2.2.2, N, .inr (.inr (.inr (.inr (bu f a.toNat (some (b + kd)))))))) ) → W p l e R s m args below meth c H1 locs1 cells slots Q (F0 m (pc + 1) ls rest)) : W p l e R s m args below meth c H locs cells slots Q (F0 m pc ls (.ref (b + kd) :: .int (xJ a) :: .ref (b + k) :: rest)) := by
  obtain ⟨h1, h2⟩ := hi
  have hR : xR a := by omega
  have h9 := hB.1.2 k hk
  rw [he] at h9
  have h9 : H[b + k]? = some (arrV g.2.2.2.2 N (fun j => va_rf (f j))) := h9
  have h8 := hB.1.2 kd hkd
  rw [hed] at h8
  obtain ⟨r, r1, cellV, g1, g2, g3, -⟩ := h8
  have hr : r = ("ShadowCourt$Day", t9, N9) := Option.some.inj (r1.symm.trans hci)
  subst hr
  obtain ⟨kA, comp, k1, k2, k3, -⟩ := (hE.1.2 4 _ rfl).2
  obtain ⟨kE, hkE, -⟩ := Vm.findClass_spec k3
  obtain ⟨-, hfc, kC, hkC, -⟩ := hE.1.1 2 _ hci
  refine W.aast hx hb h9 (fun q h => by cases h) (fun h => by cases h) k1 k2 rfl hkE ⟨fun q => xJ_nin hR h1 h2 (Or.inl q), by rw [arrV_size, xJ_cl hR]; omega⟩ g1 (fun q h => by rw [g3] at h; cases h) (by rw [g2]; exact hkC) (by rw [g2]; exact vb_asgS _ _ k3 hfc) rfl rfl hdg fun H1 e1 e2 e3 => ?_
  refine kk H1 _ (bB_put hB e2 e3 ?_)
  show H1[b + k]? = some (arrV g.2.2.2.2 N (fun j => va_rf (bu f a.toNat (some (b + kd)) j)))
  rw [e1, arrV_store, xJ_cl hR]
  congr 2
  funext q
  rw [bu_eq]
  by_cases hq : q = a.toNat
  · subst hq
    simp [updV, va_rf]
  · simp [updV, hq]
/-! calls of constructors -/
variable {own : String} {index nL maxL mc ms nn na : Nat} {y : MethodName} {bytes : ByteArray} {rm : Room} {As : List Value} {Qc : Array Value → State → Outcome → State → Prop} {free : Addr → Prop} {e0 : va_E} {E : Nat → va_E} {a0 : Array Value}
theorem b_pre (hE : xE D g T b s) (hO : bO s) (hB : bB D b s H locs (n + 1) w) (he : w n = e0) : PreS s H (bP As D g T (b + n) e0) As := by
  refine ⟨bP_blind, fun U hU hWm => ⟨rfl, ⟨xE_up n (xE_move hE hB.2 hWm hU), hO.moved hWm.alike⟩, ?_⟩⟩
  rw [hU]
  refine ⟨by rw [hB.1.1]; omega, fun k hk => ?_⟩
  have h9 := hB.1.2 n (by omega)
  rw [he] at h9
  rw [show k = 0 by omega]
  exact h9
theorem b_runN {host : String} (hx : p.tables.exec = Jvm.exec) (hb : c.code = cc) (hml : c.maxLocals = nL) (hown : s.vm.findClass own = some m.cls) (hT : ∀ w ∈ xTB, w.before args s = true) (hE : xE D g T b s) (hO : bO s) (hB : bB D b s H locs (n + 1) w) (he : w n = e0) (hls : ls.size = nL) (cf : xCF y bytes maxL none na) (hin : Cond.instanceMethod y ∈ xTB) (hyn : y.name = "<init>") (hl : Cond.methodLinkNest own index y host ∈ xNL) (hM : Met l y (xws y bytes maxL none) rm (bP (.ref (b + n) :: As) D g T (b + n) e0) Qc mc ms free) (hrm : xRm rm R maxL mc ms cells slots) (hn : As.length = na) (hst : st0 = As.reverse ++ .ref (b + n) :: rest) (hrest : (rest.map fun v => v.category).sum ≤ 8) (hdg : decode cc pc = .ok (.invokespecial index, 3)) :
    va_Run p l e R s m args below meth c H locs cells slots mc ms (F0 m pc ls st0) rest (Qc (Value.ref (b + n) :: As).toArray) free :=
  va_runIN (Ts := xTB) ⟨hx, hb, hml, hown, hT⟩ hM ⟨va_cnB na hT (xws_good (fun _ h => h) cf.1) rfl hrm.1 hrm.2.1 (hE.2.1.1 _ hl) (hT _ cf.2.1) cf.2.2 hrm.2.2.1, hyn, hT _ hin⟩ (b_pre hE hO hB he) rfl hn hls hst (lv_room hrest) hdg hrm.2.2.2
theorem b_run (hx : p.tables.exec = Jvm.exec) (hb : c.code = cc) (hml : c.maxLocals = nL) (hown : s.vm.findClass own = some m.cls) (hT : ∀ w ∈ xTB, w.before args s = true) (hE : xE D g T b s) (hO : bO s) (hB : bB D b s H locs (n + 1) w) (he : w n = e0) (hls : ls.size = nL) (cf : xCF y bytes maxL none na) (hin : Cond.instanceMethod y ∈ xTB) (hyn : y.name = "<init>") (hl : Cond.methodLink own index y ∈ xTB) (hM : Met l y (xws y bytes maxL none) rm (bP (.ref (b + n) :: As) D g T (b + n) e0) Qc mc ms free) (hrm : xRm rm R maxL mc ms cells slots) (hn : As.length = na) (hst : st0 = As.reverse ++ .ref (b + n) :: rest) (hrest : (rest.map fun v => v.category).sum ≤ 8) (hdg : decode cc pc = .ok (.invokespecial index, 3)) :
    va_Run p l e R s m args below meth c H locs cells slots mc ms (F0 m pc ls st0) rest (Qc (Value.ref (b + n) :: As).toArray) free :=
  va_runI (Ts := xTB) ⟨hx, hb, hml, hown, hT⟩ hM ⟨callB_of na hT (xws_good (fun _ h => h) cf.1) rfl hrm.1 hrm.2.1 (hT _ cf.2.1) (hT _ hl) cf.2.2 hrm.2.2.1, hyn, hT _ hin⟩ (b_pre hE hO hB he) rfl hn hls hst (lv_room hrest) hdg hrm.2.2.2
theorem b_go (hr : va_Run p l e R s m args below meth c H locs cells slots mc ms (F0 m pc ls st0) rest (bQ D (b + n) nn E a0) (xA (b + n))) (hB : bB D b s H locs (n + 1) w)
    (kk : ∀ (H1 : Heap) (locs1 : List Loc), bB D b s H1 locs1 (n + nn) (bm w n nn E) → W p l e R s m args below meth c H1 locs1 (cells + mc) (slots + ms) Q (F0 m (pc + 3) ls rest)) : W p l e R s m args below meth c H locs cells slots Q (F0 m pc ls st0) := by
  intro T9 hT9 X
  obtain ⟨v, st₀, t, T', L, h9, X', hL, e1, e2, ⟨⟨hv, hsz, hb⟩, hz, hk⟩, st⟩ := hr T9 hT9 X
  cases hv
  have hS := hB.2
  have hsz0 := hB.1.1
  rw [h9] at hz hk
  obtain ⟨t2, a1, b1⟩ := kk T'.heap (locs ++ L) (by
    refine ⟨⟨by rw [e1, hsz]; omega, fun q hq => ?_⟩, Nat.le_trans hS.1 (by rw [e1]; exact hz), fun q h1 h2 => ?_, fun q hq => ?_⟩
    · by_cases h1 : q < n
      · have : bm w n nn E q = w q := by unfold bm; rw [b_out (Or.inl h1)]; rfl
        rw [this]
        refine (hB.1.2 q (by omega)).kept ?_
        show T'.heap[b + q]? = H[b + q]?
        rw [e1]
        exact hk _ (by omega) (by unfold xA; omega)
      · have : bm w n nn E q = E (q - n) := by unfold bm; rw [b_in (by omega) hq]; rfl
        rw [this, e1]
        have h8 := hb (q - n) (by omega)
        rw [show b + n + (q - n) = b + q by omega] at h8
        exact h8
    · have hqH : q < H.size := Nat.lt_of_lt_of_le h1 hS.1
      rw [e1, hk q hqH (by unfold xA at h2 ⊢; omega)]
      exact hS.2.1 q h1 h2
    · rcases List.mem_append.mp hq with h | h
      · exact hS.2.2 q h
      · have := hL q h
        unfold xA at this ⊢
        omega) T' rfl X'
  exact ⟨t2, st t2 a1, b1⟩
end BX
