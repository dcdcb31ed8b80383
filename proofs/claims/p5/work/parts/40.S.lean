/-! ===== the other side's state while it reads a law ===== -/
def zls (w : Int → Int) (b : Int) : Nat → List Int
  | 0 => []
  | k + 1 => w (b + k) :: zls w b k
theorem zls_l (w : Int → Int) (b : Int) : ∀ k, (zls w b k).length = k
  | 0 => rfl
  | k + 1 => by
    show (zls w b k).length + 1 = k + 1
    rw [zls_l w b k]
theorem zls_f {w w2 : Int → Int} {b : Int} : ∀ k : Nat, (∀ i, b ≤ i → i < b + k → w2 i = w i) → zls w2 b k = zls w b k
  | 0, _ => rfl
  | k + 1, h => by
    show w2 (b + k) :: zls w2 b k = w (b + k) :: zls w b k
    rw [zls_f k (fun i h1 h2 => h i h1 (by omega)), h (b + k) (by omega) (by omega)]
theorem zls_s (w : Int → Int) {b W : Int} (h : b ≤ W) : zls w b (W + 1 - b).toNat = w W :: zls w b (W - b).toNat := by
  rw [show (W + 1 - b).toNat = (W - b).toNat + 1 from by omega]
  show w (b + ((W - b).toNat : Nat)) :: zls w b (W - b).toNat = _
  rw [show b + (((W - b).toNat : Nat) : Int) = W from by omega]
theorem zls_push (w : Int → Int) {b W v : Int} (h : b ≤ W) : zls (xud w W v) b (W + 1 - b).toNat = v :: zls w b (W - b).toNat := by
  rw [zls_s _ h, xud_s, zls_f _ (fun i h1 h2 => xud_o w v (by omega))]
theorem zls_pop (w : Int → Int) {b W : Int} (h : b < W) : zls w b (W - b).toNat = w (W - 1) :: zls w b (W - 1 - b).toNat := by
  have e := zls_s w (b := b) (W := W - 1) (by omega)
  rw [show W - 1 + 1 - b = W - b from by omega] at e
  exact e
theorem zls_0 (w : Int → Int) {b W : Int} (h : W = b) : zls w b (W - b).toNat = [] := by
  rw [show (W - b).toNat = 0 from by omega]
  rfl
theorem zls_sh {w : Int → Int} {b : Int} : ∀ k : Nat, zs2 (zls w b k) → ∀ i, b ≤ i → i < b + k → w i = 14680064 ∨ (2097152 ≤ w i ∧ w i < 7340032)
  | 0, _, i, h1, h2 => by omega
  | k + 1, h, i, h1, h2 => by
    by_cases e : i = b + k
    · subst e
      have := h.1
      omega
    · exact zls_sh k h.2 i h1 (by omega)
theorem zls_op {w : Int → Int} {b : Int} : ∀ k : Nat, (∀ i, b ≤ i → i < b + k → w i < 14680064) → zop (zls w b k) = 0
  | 0, _ => rfl
  | k + 1, h => by
    show zop (w (b + k) :: zls w b k) = 0
    rw [zop_z (h (b + k) (by omega) (by omega))]
    exact zls_op k (fun i h1 h2 => h i h1 (by omega))
theorem zls_oq {w : Int → Int} {b : Int} : ∀ (k : Nat) (i : Int), b ≤ i → i < b + k → 14680064 ≤ w i → 0 < zop (zls w b k)
  | 0, i, h1, h2, _ => by omega
  | k + 1, i, h1, h2, h3 => by
    show 0 < zop (w (b + k) :: zls w b k)
    have n := zop_n (zls w b k)
    by_cases e : i = b + k
    · subst e
      rw [zop_y h3]; omega
    · have z := zls_oq k i h1 (by omega) h3
      by_cases q : 14680064 ≤ w (b + k)
      · rw [zop_y q]; omega
      · rw [zop_z (by omega)]; exact z
/-- within a sum that began with b waiting -/
def zER (f : Int → Int) (n q b K b0 : Int) (B0 : Int → Int) (Z : Int × Int × Int × (Int → Int)) (m : Bool) (w0 : Int → Int) (σ : xS) : Prop :=
  zEX f n q b K b0 B0 Z m (σ 268 9) (σ 268 14) (σ 277) (zls (σ 278) b (σ 268 15 - b).toNat) ∧ b ≤ σ 268 15 ∧ σ 268 13 = q + zop (zls (σ 278) b (σ 268 15 - b).toNat) ∧ (∀ i, i < b → σ 278 i = w0 i) ∧ (b = 0 ∨ 10485760 ≤ w0 (b - 1))
section ER
variable {f : Int → Int} {n q bw K b0 : Int} {B0 : Int → Int} {Z : Int × Int × Int × (Int → Int)} {m : Bool} {w0 : Int → Int} {σ τ : xS} {v : Int}
theorem zER.b (h : zER f n q bw K b0 B0 Z m w0 σ) : (0 ≤ σ 268 14 ∧ σ 268 14 + K ≤ σ 268 9 ∧ σ 268 9 ≤ n ∧ n ≤ 240) ∧ 0 ≤ bw ∧ bw ≤ σ 268 15 ∧ σ 268 15 ≤ σ 268 9 ∧ 0 ≤ K := by
  have z := h.1.b
  have e := zls_l (σ 278) bw (σ 268 15 - bw).toNat
  have h2 := h.2.1
  omega
theorem zER.o (h : zER f n q bw K b0 B0 Z m w0 σ) : σ 268 13 = q + zop (zls (σ 278) bw (σ 268 15 - bw).toNat) ∧ 0 ≤ zop (zls (σ 278) bw (σ 268 15 - bw).toNat) := ⟨h.2.2.1, zop_n _⟩
theorem zER.top (h : zER f n q bw K b0 B0 Z m w0 σ) (hb : bw < σ 268 15) : ztW σ = σ 278 (σ 268 15 - 1) / 1048576 ∧ (σ 278 (σ 268 15 - 1) = 14680064 ∨ σ 278 (σ 268 15 - 1) = 2097152 ∨ σ 278 (σ 268 15 - 1) = 3145728 ∨ σ 278 (σ 268 15 - 1) = 4194304 ∨ σ 278 (σ 268 15 - 1) = 5242880 ∨ σ 278 (σ 268 15 - 1) = 6291456) := by
  have b9 := h.b
  have s := h.1.sh
  rw [zls_pop _ hb] at s
  have z := s.1
  exact ⟨ztW_1 (by omega), by omega⟩
theorem zER.bot (h : zER f n q bw K b0 B0 Z m w0 σ) (hb : σ 268 15 = bw) : ztW σ = -1 ∨ 10 ≤ ztW σ := by
  have b9 := h.b
  rcases h.2.2.2.2 with e | e
  · exact Or.inl (ztW_0 (by omega))
  · by_cases e0 : bw = 0
    · exact Or.inl (ztW_0 (by omega))
    · refine Or.inr ?_
      rw [ztW_1 (by omega), hb, h.2.2.2.1 (bw - 1) (by omega)]
      omega
theorem zER.wt (h : zER f n q bw K b0 B0 Z m w0 σ) : 0 ≤ σ 268 15 ∧ σ 268 15 ≤ 260 ∧ (σ 268 15 = 0 ∨ 0 ≤ σ 278 (σ 268 15 - 1)) := by
  have b9 := h.b
  refine ⟨by omega, by omega, ?_⟩
  by_cases e : bw < σ 268 15
  · have := (h.top e).2
    omega
  · have e2 : σ 268 15 = bw := by omega
    rcases h.2.2.2.2 with e3 | e3
    · exact Or.inl (by omega)
    · refine Or.inr ?_
      rw [e2, h.2.2.2.1 (bw - 1) (by omega)]
      omega
/-- the top, as both sides see it -/
theorem zER.tp (h : zER f n q bw K b0 B0 Z m w0 σ) : ((ztW σ < 4 ∨ 6 < ztW σ) → (ztp (zls (σ 278) bw (σ 268 15 - bw).toNat) < 4194304 ∨ 7340032 ≤ ztp (zls (σ 278) bw (σ 268 15 - bw).toNat))) ∧ ((ztW σ < 2 ∨ 6 < ztW σ) → (ztp (zls (σ 278) bw (σ 268 15 - bw).toNat) < 0 ∨ 7340032 ≤ ztp (zls (σ 278) bw (σ 268 15 - bw).toNat))) := by
  have b9 := h.b
  by_cases e : bw < σ 268 15
  · have t := h.top e
    rw [zls_pop _ e]
    show (_ → (σ 278 (σ 268 15 - 1) < 4194304 ∨ 7340032 ≤ σ 278 (σ 268 15 - 1))) ∧ (_ → (σ 278 (σ 268 15 - 1) < 0 ∨ 7340032 ≤ σ 278 (σ 268 15 - 1)))
    omega
  · rw [zls_0 _ (by omega)]
    exact ⟨fun _ => Or.inl (by decide), fun _ => Or.inl (by decide)⟩
theorem zER.ne (h : zER f n q bw K b0 B0 Z m w0 σ) (ht : 2 ≤ ztW σ ∧ ztW σ ≤ 6) : bw < σ 268 15 := by
  have b9 := h.b
  by_cases e : bw < σ 268 15
  · exact e
  · have := h.bot (by omega)
    omega
theorem zER.num (h : zER f n q bw K b0 B0 Z true w0 σ) (hd : zdg (zch f n (σ 268 9))) (e9 : τ 268 9 = (znr f n 5 (σ 268 9) 0).1) (h5 : ¬ zdg (zch f n (τ 268 9))) (hv : v = (znr f n 5 (σ 268 9) 0).2) (e14 : τ 268 14 = σ 268 14 + 1) (e7 : τ 277 = xud (σ 277) (σ 268 14) v) (e15 : τ 268 15 = σ 268 15) (e13 : τ 268 13 = σ 268 13) (e8 : τ 278 = σ 278) : zER f n q bw K b0 B0 Z false w0 τ := by
  unfold zER
  rw [e15, e13, e8]
  exact ⟨h.1.num hd e9 h5 e14 (by rw [e7, hv]), h.2⟩
theorem zER.let_ (h : zER f n q bw K b0 B0 Z true w0 σ) (hl : zlt (zch f n (σ 268 9)) ≠ -1) (e9 : τ 268 9 = σ 268 9 + 1) (hv : v = 1048576 + zlt (zch f n (σ 268 9))) (e14 : τ 268 14 = σ 268 14 + 1) (e7 : τ 277 = xud (σ 277) (σ 268 14) v) (e15 : τ 268 15 = σ 268 15) (e13 : τ 268 13 = σ 268 13) (e8 : τ 278 = σ 278) : zER f n q bw K b0 B0 Z false w0 τ := by
  unfold zER
  rw [e15, e13, e8]
  exact ⟨h.1.let_ hl e9 e14 (by rw [e7, hv]), h.2⟩
theorem zER.open_ (h : zER f n q bw K b0 B0 Z true w0 σ) (hc : zch f n (σ 268 9) = 91) (hq : σ 268 13 < 6) (e9 : τ 268 9 = σ 268 9 + 1) (e14 : τ 268 14 = σ 268 14) (e7 : τ 277 = σ 277) (e15 : τ 268 15 = σ 268 15 + 1) (e13 : τ 268 13 = σ 268 13 + 1) (e8 : τ 278 = xud (σ 278) (σ 268 15) v) (hv : v = 14680064) : zER f n q bw K b0 B0 Z true w0 τ := by
  have h2 := h.2.1
  have h3 := h.2.2.1
  unfold zER
  rw [e15, e13, e8, e14, e7, zls_push _ h2, zop_y (by omega)]
  exact ⟨h.1.open_ hc (by omega) e9 hv, by omega, by omega, fun i hi => by rw [xud_o _ _ (by omega)]; exact h.2.2.2.1 i hi, h.2.2.2.2⟩
theorem zER.emit (h : zER f n q bw K b0 B0 Z false w0 σ) (ht : (4 ≤ ztW σ ∧ ztW σ ≤ 6) ∨ ((ztW σ = 2 ∨ ztW σ = 3) ∧ zsg (zch f n (σ 268 9)) < 4)) (hv : v = 1048576 * ztW σ) (e9 : τ 268 9 = σ 268 9) (e14 : τ 268 14 = σ 268 14 + 1) (e7 : τ 277 = xud (σ 277) (σ 268 14) v) (e15 : τ 268 15 = σ 268 15 - 1) (e13 : τ 268 13 = σ 268 13) (e8 : τ 278 = σ 278) : zER f n q bw K b0 B0 Z false w0 τ := by
  have hb := h.ne (by omega)
  have t := h.top hb
  have hv2 : v = σ 278 (σ 268 15 - 1) := by omega
  obtain ⟨h1, h2, h3, h4⟩ := h
  rw [zls_pop _ hb, zop_z (by omega)] at h3
  rw [zls_pop _ hb] at h1
  unfold zER
  rw [e15, e13, e8, e9]
  refine ⟨?_, by omega, h3, h4⟩
  by_cases e : 4 ≤ ztW σ
  · exact h1.mul (by omega) e14 (by rw [e7, hv2])
  · exact h1.add (by omega) (by omega) e14 (by rw [e7, hv2])
theorem zER.sign (h : zER f n q bw K b0 B0 Z false w0 σ) (ht : (4 ≤ zsg (zch f n (σ 268 9)) ∧ (ztW σ < 4 ∨ 6 < ztW σ)) ∨ ((2 ≤ zsg (zch f n (σ 268 9)) ∧ zsg (zch f n (σ 268 9)) < 4) ∧ (ztW σ < 2 ∨ 6 < ztW σ))) (hv : v = 1048576 * zsg (zch f n (σ 268 9))) (e9 : τ 268 9 = σ 268 9 + 1) (e14 : τ 268 14 = σ 268 14) (e7 : τ 277 = σ 277) (e15 : τ 268 15 = σ 268 15 + 1) (e13 : τ 268 13 = σ 268 13) (e8 : τ 278 = xud (σ 278) (σ 268 15) v) : zER f n q bw K b0 B0 Z true w0 τ := by
  have h2 := h.2.1
  have h3 := h.2.2.1
  have t := h.tp
  have zc := zsg_cs (zch f n (σ 268 9))
  unfold zER
  rw [e15, e13, e8, e14, e7, zls_push _ h2, zop_z (by omega)]
  refine ⟨?_, by omega, h3, fun i hi => by rw [xud_o _ _ (by omega)]; exact h.2.2.2.1 i hi, h.2.2.2.2⟩
  rcases ht with ⟨a1, a2⟩ | ⟨a1, a2⟩
  · exact h.1.sgm (t.1 a2) a1 e9 hv
  · exact h.1.sga (t.2 a2) a1 e9 hv
theorem zER.shut (h : zER f n q bw K b0 B0 Z false w0 σ) (ho : 0 < zop (zls (σ 278) bw (σ 268 15 - bw).toNat)) (ht : ztW σ < 2 ∨ 6 < ztW σ) (hc : zch f n (σ 268 9) = 93) (e9 : τ 268 9 = σ 268 9 + 1) (e14 : τ 268 14 = σ 268 14) (e7 : τ 277 = σ 277) (e15 : τ 268 15 = σ 268 15 - 1) (e13 : τ 268 13 = σ 268 13 - 1) (e8 : τ 278 = σ 278) : zER f n q bw K b0 B0 Z false w0 τ := by
  have b9 := h.b
  have hb : bw < σ 268 15 := by
    by_cases e : bw < σ 268 15
    · exact e
    · rw [zls_0 _ (by omega)] at ho
      exact absurd ho (by decide)
  have t := h.top hb
  obtain ⟨h1, h2, h3, h4⟩ := h
  rw [zls_pop _ hb, zop_y (by omega)] at h3
  rw [zls_pop _ hb] at h1
  unfold zER
  rw [e15, e13, e8, e14, e7]
  exact ⟨h1.shut (by omega) hc e9, by omega, by omega, h4⟩
theorem zER.fin (h : zER f n q bw K b0 B0 Z false w0 σ) (ho : zop (zls (σ 278) bw (σ 268 15 - bw).toNat) = 0) (ht : ztW σ < 2 ∨ 6 < ztW σ) (hs : zsg (zch f n (σ 268 9)) < 2) : Z = (0, σ 268 9, σ 268 14, σ 277) ∧ σ 268 15 = bw := by
  have b9 := h.b
  have hb : ¬ bw < σ 268 15 := fun e => by
    have t := h.top e
    rw [zls_pop _ e, zop_y (by omega)] at ho
    have := zop_n (zls (σ 278) bw (σ 268 15 - 1 - bw).toNat)
    omega
  have h1 := h.1
  rw [zls_0 _ (by omega)] at h1
  exact ⟨h1.fin hs, by omega⟩
end ER
