section X4
variable {p : Program} {l : Launch} {e : Env} {R : Room} {s : State} {m : MethodId} {args : Array Value} {below : List Frame} {meth : Method} {c : Code} {H : Heap} {locs : List Loc} {cells slots : Nat} {Q : State → Prop}
variable {cc : ByteArray} {pc : Nat} {ls : Array Slot} {rest st0 : List Value} {D : va_G} {g : xG} {T : Nat × Nat × Nat} {h0 : Nat} {σ : xS}
theorem x_any {z : Int32} (kk : ∀ v : Int, xR v → W p l e R s m args below meth c H locs cells slots Q (F0 m pc ls (.int (xJ v) :: rest))) : W p l e R s m args below meth c H locs cells slots Q (F0 m pc ls (.int z :: rest)) := by
  obtain ⟨v, hv, hr⟩ := xJ_ex z
  rw [hv]; exact kk v hr
theorem xwx_in : ∀ j : Nat, -1 ≤ xwx j ∧ xwx j ≤ 1 := fun j => by
  unfold xwx
  match j with
  | 0 | 1 | 2 | 3 | 4 | 5 | 6 | 7 => decide
  | n + 8 => simp
theorem xwy_in : ∀ j : Nat, -1 ≤ xwy j ∧ xwy j ≤ 1 := fun j => by
  unfold xwy
  match j with
  | 0 | 1 | 2 | 3 | 4 | 5 | 6 | 7 => decide
  | n + 8 => simp
theorem xlt_in : ∀ j : Nat, -1 ≤ xlt j ∧ xlt j ≤ 119 := fun j => by
  unfold xlt
  match j with
  | 0 | 1 | 2 | 3 | 4 | 5 | 6 => decide
  | n + 7 => simp
theorem x_aaldR {k n r : Nat} {a : Int} {cA : ClassId} {t0 : Nat} {ty : FieldType} (hx : p.tables.exec = Jvm.exec) (hb : c.code = cc) (hE : xE D g T h0 s) (hW : xW D g h0 s H locs σ) (hk : k < 310) (ht : (xtys g)[t0]? = some (cA, ty)) (hty : ty.isReference = true) (hcel : xcel h0 g σ k = .inl (cA, n, .inr (.inr (.inr (.inr (fun j => some (h0 + xrow σ k j))))))) (hi : 0 ≤ a ∧ a < (n : Int)) (hnn : n ≤ 2147483647) (hrow : xrow σ k a.toNat = r) (hdg : decode cc pc = .ok (.aaload, 1))
    (kk : W p l e R s m args below meth c H locs cells slots Q (F0 m (pc + 1) ls (.ref (h0 + r) :: rest))) : W p l e R s m args below meth c H locs cells slots Q (F0 m pc ls (.int (xJ a) :: .ref (h0 + k) :: rest)) := by
  obtain ⟨h1, h2⟩ := hi
  have hR : xR a := by omega
  have h9 := hW.1.1 k (Or.inl hk)
  rw [hcel] at h9
  have h9 : H[h0 + k]? = some (arrV cA n (fun j => .ref (h0 + xrow σ k j))) := h9
  have hlt : a.toNat < n := by omega
  subst hrow
  exact W.aald (v := .ref (h0 + xrow σ k a.toNat)) hx hb h9 ((hE.1.2 t0 _ ht).1 n _) hty (fun q => by cases q) (by rw [arrV_size]; exact xJ_nin hR h1 h2) (by rw [xJ_cl hR, arrV_read _ _ hlt]) rfl rfl hdg kk
/-- rows of ints, by their places -/
def xAr (σ : xS) (r : Nat) : Prop := (r < 310 ∧ (xtab.getD r (9, 0)).1 = 0) ∨ (310 ≤ r ∧ r < 999990 ∧ σ 999997 r = 1)
theorem xAr.f {τ : xS} {r : Nat} (h : xAr σ r) (e : τ 999997 = σ 999997) : xAr τ r := by unfold xAr at h ⊢; rw [e]; exact h
theorem xAr.v {r : Nat} (h : xAr σ r) : xV σ r := by
  rcases h with h | h
  · exact Or.inl h.1
  · exact Or.inr ⟨h.2.1, h.2.2⟩
theorem xAr.cel {r : Nat} (h : xAr σ r) : ∃ n : Nat, xcel h0 g σ r = .inl (g.1, n, .inl (fun j => xJ (σ r j))) := by
  rcases h with ⟨h1, h2⟩ | h
  · obtain ⟨q, e⟩ : ∃ q, xtab.getD r (9, 0) = (0, q) := ⟨_, Prod.ext h2 rfl⟩
    exact ⟨q, by unfold xcel; rw [if_pos h1, e]; rfl⟩
  · exact ⟨(σ 999998 r).toNat, by unfold xcel; rw [if_neg (by omega)]; rfl⟩
theorem x_aastR {k n : Nat} {a v : Int} (hx : p.tables.exec = Jvm.exec) (hb : c.code = cc) (hE : xE D g T h0 s) (hW : xW D g h0 s H locs σ) (hk : k < 310) (hcel : ∀ σ : xS, xcel h0 g σ k = .inl (g.2.2.2.1, n, .inr (.inr (.inr (.inr (fun j => some (h0 + xrow σ k j))))))) (hrow : ∀ (σ : xS) (j : Nat), xrow σ k j = (σ k j).toNat) (hi : 0 ≤ a ∧ a < (n : Int)) (hnn : n ≤ 2147483647) (hv : xAr σ v.toNat) (hR : xR v) (hdg : decode cc pc = .ok (.aastore, 1))
    (kk : ∀ (H1 : Heap) (locs1 : List Loc) (τ : xS), τ = xU σ k a v → xW D g h0 s H1 locs1 τ → W p l e R s m args below meth c H1 locs1 cells slots Q (F0 m (pc + 1) ls rest)) : W p l e R s m args below meth c H locs cells slots Q (F0 m pc ls (.ref (h0 + v.toNat) :: .int (xJ a) :: .ref (h0 + k) :: rest)) := by
  obtain ⟨h1, h2⟩ := hi
  have hRa : xR a := by omega
  have h9 := hW.1.1 k (Or.inl hk)
  rw [hcel σ] at h9
  have h9 : H[h0 + k]? = some (arrV g.2.2.2.1 n (fun j => .ref (h0 + xrow σ k j))) := h9
  obtain ⟨n2, hc2⟩ := hv.cel (h0 := h0) (g := g)
  have h8 := hW.1.1 _ hv.v
  rw [hc2] at h8
  have h8 : H[h0 + v.toNat]? = some (arrV g.1 n2 (fun j => .int (xJ (σ v.toNat j)))) := h8
  obtain ⟨kA, hkA, hkind⟩ := hE.2.1.2
  obtain ⟨-, kI, hkI, cm, hkk⟩ := (hE.1.2 0 _ rfl).1 0 (fun _ => .null)
  have hlt : a.toNat < n := by omega
  refine W.aast hx hb h9 (fun q => fun z => by cases z) (fun q => by cases q) hkA hkind rfl hkI ⟨fun q => (xJ_nin hRa h1 h2) (Or.inl q), by rw [arrV_size, xJ_cl hRa]; exact hlt⟩ h8 (fun q => fun z => by cases z) hkI (va_asg _ _) rfl rfl hdg (fun H1 e1 e2 e3 => ?_)
  refine kk H1 _ _ rfl (xW_put hW hk e2 e3 (fun k2 h => xU_k σ a v h) (xRR_U hW.2.1 hR) ?_)
  rw [hcel]
  show H1[h0 + k]? = some (arrV g.2.2.2.1 n (fun j => .ref (h0 + xrow (xU σ k a v) k j)))
  rw [e1, arrV_store, xJ_cl hRa]
  congr 2
  funext q
  rw [hrow]
  by_cases hq : q = a.toNat
  · subst hq
    simp [updV, Int.toNat_of_nonneg h1, xU_s]
  · have : (q : Int) ≠ a := by omega
    simp [updV, hq, xU_j σ v this, hrow]
end X4
theorem xrow_day {d : Nat} (h : d = 136 ∨ d = 146 ∨ d = 158 ∨ d = 168 ∨ d = 178 ∨ d = 188 ∨ d = 198 ∨ d = 208) (σ : xS) (j : Nat) : xrow σ (d + 2) j = (σ (d + 2) j).toNat := by
  rcases h with rfl | rfl | rfl | rfl | rfl | rfl | rfl | rfl <;> rfl
def xDay (d : Nat) : Prop := d = 136 ∨ d = 146 ∨ d = 158 ∨ d = 168 ∨ d = 178 ∨ d = 188 ∨ d = 198 ∨ d = 208
section X5
variable (h0 : Nat) (g : xG) {d : Nat}
theorem so_day0 (h : xDay d) (σ : xS) : xcel h0 g σ d = .inr (2, xobj h0 σ d 2) := by
  rcases h with rfl | rfl | rfl | rfl | rfl | rfl | rfl | rfl <;> rfl
theorem sa_day1 (h : xDay d) (σ : xS) : xcel h0 g σ (d + 1) = .inl (g.1, 2, .inl (fun j => xJ (σ (d + 1) j))) := by
  rcases h with rfl | rfl | rfl | rfl | rfl | rfl | rfl | rfl <;> rfl
theorem sg_day2 (h : xDay d) (σ : xS) : xcel h0 g σ (d + 2) = .inl (g.2.2.2.1, 2, .inr (.inr (.inr (.inr (fun j => some (h0 + xrow σ (d + 2) j)))))) := by
  rcases h with rfl | rfl | rfl | rfl | rfl | rfl | rfl | rfl <;> rfl
theorem sa_day5 (h : xDay d) (σ : xS) : xcel h0 g σ (d + 5) = .inl (g.1, 2, .inl (fun j => xJ (σ (d + 5) j))) := by
  rcases h with rfl | rfl | rfl | rfl | rfl | rfl | rfl | rfl <;> rfl
theorem sa_day6 (h : xDay d) (σ : xS) : xcel h0 g σ (d + 6) = .inl (g.1, 10, .inl (fun j => xJ (σ (d + 6) j))) := by
  rcases h with rfl | rfl | rfl | rfl | rfl | rfl | rfl | rfl <;> rfl
theorem sa_day7 (h : xDay d) (σ : xS) : xcel h0 g σ (d + 7) = .inl (g.1, 10, .inl (fun j => xJ (σ (d + 7) j))) := by
  rcases h with rfl | rfl | rfl | rfl | rfl | rfl | rfl | rfl <;> rfl
theorem sa_day8 (h : xDay d) (σ : xS) : xcel h0 g σ (d + 8) = .inl (g.1, 10, .inl (fun j => xJ (σ (d + 8) j))) := by
  rcases h with rfl | rfl | rfl | rfl | rfl | rfl | rfl | rfl <;> rfl
theorem sa_day9 (h : xDay d) (σ : xS) : xcel h0 g σ (d + 9) = .inl (g.2.1, 10, .inl (fun j => xJ (σ (d + 9) j))) := by
  rcases h with rfl | rfl | rfl | rfl | rfl | rfl | rfl | rfl <;> rfl
end X5
theorem xd_136 : xDay 136 := by unfold xDay; omega
theorem xd_146 : xDay 146 := by unfold xDay; omega
theorem xd_158 : xDay 158 := by unfold xDay; omega
