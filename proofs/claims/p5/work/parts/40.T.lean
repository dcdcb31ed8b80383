/-! ===== within a condition ===== -/
def zCQ (f : Int → Int) (n a : Int) (Z : Int × Int × Int × (Int → Int)) (m : Bool) (σ : xS) : Prop :=
  zCX f n a Z m (σ 268 9) (σ 268 14) (σ 277) (zls (σ 278) 0 (σ 268 15 - 0).toNat) ∧ 0 ≤ σ 268 15 ∧ σ 268 13 = zqn (zls (σ 278) 0 (σ 268 15 - 0).toNat) ∧ σ 268 13 ≤ 6
section CQ
variable {f : Int → Int} {n a : Int} {Z : Int × Int × Int × (Int → Int)} {m : Bool} {σ τ : xS} {v oo k c1 c2 p1 p2 : Int} {C1 C2 : Int → Int}
theorem zCQ.b (h : zCQ f n a Z m σ) : (0 ≤ a ∧ a ≤ σ 268 14 ∧ σ 268 14 + znN (zls (σ 278) 0 (σ 268 15 - 0).toNat) ≤ σ 268 9 ∧ 0 ≤ znN (zls (σ 278) 0 (σ 268 15 - 0).toNat) ∧ σ 268 9 ≤ n ∧ n ≤ 240) ∧ 0 ≤ σ 268 15 ∧ σ 268 15 ≤ σ 268 9 := by
  have z := h.1.b
  have e := zls_l (σ 278) 0 (σ 268 15 - 0).toNat
  have h2 := h.2.1
  omega
theorem zCQ.o (h : zCQ f n a Z m σ) : σ 268 13 = zqn (zls (σ 278) 0 (σ 268 15 - 0).toNat) ∧ 0 ≤ σ 268 13 ∧ σ 268 13 ≤ 6 := ⟨h.2.2.1, by rw [h.2.2.1]; exact zqn_n _, h.2.2.2⟩
theorem zCQ.top (h : zCQ f n a Z m σ) (hb : 0 < σ 268 15) : ztW σ = σ 278 (σ 268 15 - 1) / 1048576 ∧ (σ 278 (σ 268 15 - 1) = 10485760 ∨ σ 278 (σ 268 15 - 1) = 13631488 ∨ (11534336 ≤ σ 278 (σ 268 15 - 1) ∧ σ 278 (σ 268 15 - 1) < 13631488 ∧ a ≤ σ 278 (σ 268 15 - 1) % 1048576 ∧ σ 278 (σ 268 15 - 1) % 1048576 < σ 268 14 ∧ σ 277 (σ 278 (σ 268 15 - 1) % 1048576) / 1048576 = σ 278 (σ 268 15 - 1) / 1048576)) := by
  have s := h.1.sh
  rw [zls_pop _ hb] at s
  refine ⟨ztW_1 (by omega), ?_⟩
  rcases s.1 with e | e | e
  · exact Or.inl e
  · exact Or.inr (Or.inl e)
  · exact Or.inr (Or.inr ⟨e.1, e.2.1, e.2.2.1, e.2.2.2.1, e.2.2.2.2.1⟩)
theorem zCQ.wt (h : zCQ f n a Z m σ) : 0 ≤ σ 268 15 ∧ σ 268 15 ≤ 260 ∧ (σ 268 15 = 0 ∨ 0 ≤ σ 278 (σ 268 15 - 1)) := by
  have b9 := h.b
  refine ⟨by omega, by omega, ?_⟩
  by_cases e : 0 < σ 268 15
  · have := (h.top e).2
    omega
  · exact Or.inl (by omega)
theorem zCQ.hb (h : zCQ f n a Z m σ) : σ 268 15 = 0 ∨ 10485760 ≤ σ 278 (σ 268 15 - 1) := by
  have b9 := h.b
  by_cases e : 0 < σ 268 15
  · have := (h.top e).2
    omega
  · exact Or.inl (by omega)
theorem zCQ.ne (h : zCQ f n a Z true σ) : 0 < σ 268 15 := by
  have b9 := h.b
  by_cases e : 0 < σ 268 15
  · exact e
  · have z := h.1.ne
    exact absurd (zls_0 _ (by omega)) z
theorem zCQ.ne2 (h : zCQ f n a Z m σ) (ht : 0 ≤ ztW σ) : 0 < σ 268 15 := by
  have b9 := h.b
  by_cases e : 0 < σ 268 15
  · exact e
  · have := ztW_0 (σ := σ) (by omega)
    omega
theorem zCQ.open_ (h : zCQ f n a Z true σ) (hc : (zch f n (σ 268 9) = 33 ∧ v = 10485760) ∨ (zch f n (σ 268 9) = 40 ∧ v = 13631488)) (hq : σ 268 13 < 6) (e9 : τ 268 9 = σ 268 9 + 1) (e14 : τ 268 14 = σ 268 14) (e7 : τ 277 = σ 277) (e15 : τ 268 15 = σ 268 15 + 1) (e13 : τ 268 13 = σ 268 13 + 1) (e8 : τ 278 = xud (σ 278) (σ 268 15) v) : zCQ f n a Z true τ := by
  have h2 := h.2.1
  have h3 := h.2.2.1
  unfold zCQ
  rw [e15, e13, e8, e14, e7, zls_push _ h2, zqn_y (by omega)]
  exact ⟨h.1.open_ hc (by omega) e9, by omega, by omega, by omega⟩
theorem zCQ.not (h : zCQ f n a Z false σ) (ht : ztW σ = 10) (e9 : τ 268 9 = σ 268 9) (e14 : τ 268 14 = σ 268 14 + 1) (e7 : τ 277 = xud (σ 277) (σ 268 14) 10485760) (e15 : τ 268 15 = σ 268 15 - 1) (e13 : τ 268 13 = σ 268 13 - 1) (e8 : τ 278 = σ 278) : zCQ f n a Z false τ ∧ 0 < τ 268 15 := by
  have hb := h.ne2 (by omega)
  have t := h.top hb
  have h3 := h.2.2.1
  have h1 := h.1
  have h6 := h.2.2.2
  rw [zls_pop _ hb] at h1 h3
  rw [zqn_y (by omega)] at h3
  refine ⟨?_, ?_⟩
  · unfold zCQ
    rw [e15, e13, e8, e9]
    exact ⟨h1.not (by omega) e14 e7, by omega, by omega, by omega⟩
  · by_cases e : 0 < σ 268 15 - 1
    · omega
    · have z := h1.bt.1 (zls_0 _ (by omega))
      omega
theorem zCQ.land (h : zCQ f n a Z false σ) (ht : ztW σ = 11 ∨ (ztW σ = 12 ∧ zch f n (σ 268 9) ≠ 38)) (hk : k = σ 278 (σ 268 15 - 1) % 1048576) (hv : v = 1048576 * (σ 277 k / 1048576) + σ 268 14) (e9 : τ 268 9 = σ 268 9) (e14 : τ 268 14 = σ 268 14) (e7 : τ 277 = xud (σ 277) k v) (e15 : τ 268 15 = σ 268 15 - 1) (e13 : τ 268 13 = σ 268 13) (e8 : τ 278 = σ 278) : zCQ f n a Z false τ ∧ (ztW σ = 11 → 12 ≤ ztW τ) ∧ (ztW σ = 12 → 13 ≤ ztW τ) := by
  have hb := h.ne2 (by omega)
  have t := h.top hb
  have h3 := h.2.2.1
  have h1 := h.1
  have s := h.1.sh
  rw [zls_pop _ hb] at h1 h3 s
  rw [zqn_z (by omega)] at h3
  have e7' : τ 277 = zland (σ 277) (σ 278 (σ 268 15 - 1)) (σ 268 14) := by
    rw [e7, hv, hk]
    rfl
  have s2 : (σ 278 (σ 268 15 - 1) < 12582912 → 12582912 ≤ ztp (zls (σ 278) 0 (σ 268 15 - 1 - 0).toNat)) ∧ (12582912 ≤ σ 278 (σ 268 15 - 1) → 13631488 ≤ ztp (zls (σ 278) 0 (σ 268 15 - 1 - 0).toNat)) := by
    rcases s.1 with e | e | e
    · omega
    · omega
    · exact e.2.2.2.2.2
  have tp : 12582912 ≤ ztp (zls (σ 278) 0 (σ 268 15 - 1 - 0).toNat) → ztW τ = ztp (zls (σ 278) 0 (σ 268 15 - 1 - 0).toNat) / 1048576 := fun q => by
    by_cases e : 0 < σ 268 15 - 1
    · rw [ztW_1 (by omega), e15, e8, zls_pop _ e]
      rfl
    · rw [zls_0 _ (by omega)] at q
      exact absurd q (by decide)
  refine ⟨?_, fun q => ?_, fun q => ?_⟩
  · unfold zCQ
    rw [e15, e13, e8, e9, e14]
    refine ⟨?_, by omega, h3, h.2.2.2⟩
    rcases ht with e | e
    · exact h1.landA (by omega) e7'
    · exact h1.landP (by omega) e.2 e7'
  · have z := s2.1 (by omega)
    rw [tp z]; omega
  · have z := s2.2 (by omega)
    rw [tp (by omega)]; omega
theorem zCQ.jump (h : zCQ f n a Z false σ) (ht : (oo = 11 ∧ zch f n (σ 268 9) = 38 ∧ 12 ≤ ztW σ) ∨ (oo = 12 ∧ zch f n (σ 268 9) = 124 ∧ 13 ≤ ztW σ)) (hv : v = 1048576 * oo + σ 268 14) (hw : k = 1048576 * oo) (e9 : τ 268 9 = σ 268 9 + 1) (e14 : τ 268 14 = σ 268 14 + 1) (e7 : τ 277 = xud (σ 277) (σ 268 14) k) (e15 : τ 268 15 = σ 268 15 + 1) (e13 : τ 268 13 = σ 268 13) (e8 : τ 278 = xud (σ 278) (σ 268 15) v) : zCQ f n a Z true τ := by
  have hb := h.ne2 (by omega)
  have b9 := h.b
  have t := h.top hb
  have h3 := h.2.2.1
  have h2 := h.2.1
  have tp : ztp (zls (σ 278) 0 (σ 268 15 - 0).toNat) = σ 278 (σ 268 15 - 1) := by
    rw [zls_pop _ hb]
    rfl
  unfold zCQ
  rw [e15, e13, e8, zls_push _ h2, zqn_z (by omega)]
  refine ⟨?_, by omega, h3, h.2.2.2⟩
  rcases ht with ⟨q1, q2, q3⟩ | ⟨q1, q2, q3⟩
  · subst q1
    exact h.1.and_ (by rw [tp]; omega) q2 e9 e14 (by omega) (by rw [e7, hw]; rfl)
  · subst q1
    exact h.1.or_ (by rw [tp]; omega) q2 e9 e14 (by omega) (by rw [e7, hw]; rfl)
theorem zCQ.shut (h : zCQ f n a Z false σ) (ht : 13 ≤ ztW σ) (hc : zch f n (σ 268 9) = 41) (e9 : τ 268 9 = σ 268 9 + 1) (e14 : τ 268 14 = σ 268 14) (e7 : τ 277 = σ 277) (e15 : τ 268 15 = σ 268 15 - 1) (e13 : τ 268 13 = σ 268 13 - 1) (e8 : τ 278 = σ 278) : zCQ f n a Z false τ := by
  have hb := h.ne2 (by omega)
  have t := h.top hb
  have h3 := h.2.2.1
  have h1 := h.1
  have h6 := h.2.2.2
  rw [zls_pop _ hb] at h1 h3
  rw [zqn_y (by omega)] at h3
  unfold zCQ
  rw [e15, e13, e8, e14, e7]
  exact ⟨h1.shut (by omega) hc e9, by omega, by omega, by omega⟩
theorem zCQ.fin (h : zCQ f n a Z false σ) (hw : σ 268 15 = 0) : Z = (0, σ 268 9, σ 268 14, σ 277) := by
  have h1 := h.1
  rw [zls_0 _ (by omega)] at h1
  exact h1.fin
theorem zCQ.bad (h : zCQ f n a Z false σ) (hw : 0 < σ 268 15) (h1 : zch f n (σ 268 9) ≠ 38) (h2 : zch f n (σ 268 9) ≠ 124) (h3 : zch f n (σ 268 9) ≠ 41) : Z.1 = -1000 - σ 268 9 := zCX.bad _ _ _ h.1 (fun e => by
  rw [zls_pop _ hw] at e
  cases e) h1 h2 h3
theorem zCQ.cmp (h : zCQ f n a Z true σ) (hc : zch f n (σ 268 9) ≠ 33 ∧ zch f n (σ 268 9) ≠ 40) (h1 : zE0 f n (σ 268 13) (σ 268 9) (σ 268 14) (σ 277) = (0, p1, c1, C1)) (h2 : zcp (zch f n p1) ≠ -1) (h3 : zE0 f n (σ 268 13) (p1 + 1) c1 C1 = (0, p2, c2, C2)) (hb : σ 268 9 + 1 ≤ p2 ∧ p2 ≤ n ∧ σ 268 14 ≤ c2 ∧ c2 + 1 + znN (zls (σ 278) 0 (σ 268 15 - 0).toNat) ≤ p2) (ho : ∀ k, k < σ 268 14 → C2 k = σ 277 k)
    (hv : v = 1048576 * zcp (zch f n p1)) (e9 : τ 268 9 = p2) (e14 : τ 268 14 = c2 + 1) (e7 : τ 277 = xud C2 c2 v) (e15 : τ 268 15 = σ 268 15) (e13 : τ 268 13 = σ 268 13) (e8 : ∀ i, i < σ 268 15 → τ 278 i = σ 278 i) : zCQ f n a Z false τ := by
  have h0 := h.2.1
  have el : zls (τ 278) 0 (σ 268 15 - 0).toNat = zls (σ 278) 0 (σ 268 15 - 0).toNat := zls_f _ (fun i i1 i2 => e8 i (by omega))
  unfold zCQ
  rw [e15, e13, el]
  rw [h.2.2.1] at h1 h3
  exact ⟨by rw [e9]; exact h.1.cmp hc h1 h2 h3 hb ho e14 (by rw [e7, hv]), h.2⟩
end CQ
theorem zSS.imk {σ : xS} {C L A B T : Int → Int} {M c : Int} (h : zSS C L A B T M c) (hM : σ 268 17 = M) (hm : 0 ≤ M ∧ M ≤ 16) (hc : c ≤ 240) (h3 : ∀ k, 0 ≤ k → k < c → σ 283 k = C k) (h4 : ∀ q, 0 ≤ q → q < M → σ 284 q = L q ∧ σ 285 q = A q ∧ σ 286 q = B q ∧ σ 287 q = T q) : IMk σ := by
  refine ⟨by omega, fun q q1 q2 => ?_⟩
  have z := h q q1 (by omega)
  have w := h4 q q1 (by omega)
  rw [w.2.1, w.2.2.1, w.2.2.2]
  refine ⟨?_, segOK_cp z.2.2.ok (fun k k1 k2 => h3 k k1 (by omega))⟩
  rcases z.2.1 with e | e
  · rw [e.2]
    exact segOK_0 _ (by omega)
  · exact segOK_cp e.2.ok (fun k k1 k2 => h3 k k1 (by omega))
