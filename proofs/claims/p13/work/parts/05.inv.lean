/-! ===== what holds of every state: the class (IC), the model (IMn: its numbers, IMk: its law's code) ===== -/
def xlen (σ : xS) (r : Nat) : Nat := if r < 310 then (xtab.getD r (9, 0)).2 else (σ 999998 r).toNat
abbrev nsC (k : Nat) : Prop := k ≠ 1 ∧ k ≠ 2 ∧ k ≠ 109 ∧ k ≠ 118 ∧ k ≠ 126 ∧ k ≠ 130 ∧ k ≠ 136 ∧ k ≠ 138 ∧ k ≠ 141 ∧ k ≠ 145 ∧ k ≠ 146 ∧ k ≠ 148 ∧ k ≠ 151 ∧ k ≠ 155 ∧ k ≠ 158 ∧ k ≠ 160 ∧ k ≠ 163 ∧ k ≠ 167 ∧ k ≠ 168 ∧ k ≠ 170 ∧ k ≠ 173 ∧ k ≠ 177 ∧ k ≠ 178 ∧ k ≠ 180 ∧ k ≠ 183 ∧ k ≠ 187 ∧ k ≠ 188 ∧ k ≠ 190 ∧ k ≠ 193 ∧ k ≠ 197 ∧ k ≠ 198 ∧ k ≠ 200 ∧ k ≠ 203 ∧ k ≠ 207 ∧ k ≠ 208 ∧ k ≠ 210 ∧ k ≠ 213 ∧ k ≠ 217 ∧ k ≠ 999997
theorem nsC_d {d o : Nat} (h : xDay d) (ho : o = 1 ∨ o = 3 ∨ o = 4 ∨ o = 6 ∨ o = 7 ∨ o = 8) : nsC (d + o) := by
  unfold xDay at h
  unfold nsC
  omega
def suIC (k : Nat) : Prop := ¬ nsC k
def okL (σ : xS) (k : Nat) : Prop := (0 ≤ σ k 2 ∧ σ k 2 ≤ 300) ∧ (0 ≤ σ k 6 ∧ σ k 6 ≤ 16)
def okD (σ : xS) (d : Nat) : Prop := (∀ j : Int, 0 ≤ j → j < 2 → xAr σ (σ (d + 2) j).toNat) ∧ (∀ j : Int, 0 ≤ j → j < 2 → 0 ≤ σ (d + 5) j) ∧ (0 ≤ σ d 7 ∧ σ d 7 ≤ 9999) ∧ (0 ≤ σ d 8 ∧ σ d 8 ≤ 65535) ∧ (∀ j : Int, 0 ≤ j → j < 10 → σ (d + 9) j = 0 ∨ σ (d + 9) j = 1)
def okT (σ : xS) : Prop := (0 ≤ σ 1 1 ∧ σ 1 1 ≤ 260) ∧ ∀ j : Int, 0 ≤ j → j < 260 → 0 ≤ σ 2 j ∧ σ 2 j ≤ 255
theorem okT_f {σ τ : xS} (e1 : τ 1 = σ 1) (e2 : τ 2 = σ 2) (h : okT σ) : okT τ := by unfold okT; rw [e1, e2]; exact h
def IC (σ : xS) : Prop := okT σ ∧ okL σ 109 ∧ okL σ 118 ∧ (0 ≤ σ 130 3 ∧ σ 130 3 ≤ 100) ∧ (0 ≤ σ 126 2 ∧ σ 126 2 ≤ 60) ∧ ∀ d, xDay d → okD σ d
section XI
variable {σ τ : xS}
theorem IC.t (h : IC σ) : 0 ≤ σ 1 1 ∧ σ 1 1 ≤ 260 := h.1.1
theorem IC.by_ (h : IC σ) : ∀ j : Int, 0 ≤ j → j < 260 → 0 ≤ σ 2 j ∧ σ 2 j ≤ 255 := h.1.2
theorem IC.l1 (h : IC σ) : okL σ 109 := h.2.1
theorem IC.l2 (h : IC σ) : okL σ 118 := h.2.2.1
theorem IC.z (h : IC σ) : 0 ≤ σ 130 3 ∧ σ 130 3 ≤ 100 := h.2.2.2.1
theorem IC.y (h : IC σ) : 0 ≤ σ 126 2 ∧ σ 126 2 ≤ 60 := h.2.2.2.2.1
theorem IC.d (h : IC σ) {d : Nat} (hd : xDay d) : okD σ d := h.2.2.2.2.2 d hd
theorem IC.w (h : IC σ) {d : Nat} (hd : xDay d) : ∀ j : Int, 0 ≤ j → j < 2 → xAr σ (σ (d + 2) j).toNat := (h.d hd).1
theorem IC.p (h : IC σ) {d : Nat} (hd : xDay d) : ∀ j : Int, 0 ≤ j → j < 2 → 0 ≤ σ (d + 5) j := (h.d hd).2.1
theorem IC.m (h : IC σ) {d : Nat} (hd : xDay d) : 0 ≤ σ d 7 ∧ σ d 7 ≤ 9999 := (h.d hd).2.2.1
theorem IC.x (h : IC σ) {d : Nat} (hd : xDay d) : 0 ≤ σ d 8 ∧ σ d 8 ≤ 65535 := (h.d hd).2.2.2.1
theorem IC.b (h : IC σ) {d : Nat} (hd : xDay d) : ∀ j : Int, 0 ≤ j → j < 10 → σ (d + 9) j = 0 ∨ σ (d + 9) j = 1 := (h.d hd).2.2.2.2
theorem suIC_n {k : Nat} (h : k = 1 ∨ k = 2 ∨ k = 109 ∨ k = 118 ∨ k = 126 ∨ k = 130 ∨ k = 999997) : suIC k := fun q => by unfold nsC at q; omega
theorem suIC_d {d : Nat} (h : xDay d) : suIC d ∧ suIC (d + 2) ∧ suIC (d + 5) ∧ suIC (d + 9) := by
  unfold xDay at h
  refine ⟨fun q => ?_, fun q => ?_, fun q => ?_, fun q => ?_⟩ <;> unfold nsC at q <;> omega
theorem okD_f {d : Nat} (h7 : τ 999997 = σ 999997) (h0 : τ d = σ d) (h2 : τ (d + 2) = σ (d + 2)) (h5 : τ (d + 5) = σ (d + 5)) (h9 : τ (d + 9) = σ (d + 9)) (h : okD σ d) : okD τ d := by
  refine ⟨fun j a b => ?_, fun j a b => ?_, ?_, ?_, fun j a b => ?_⟩
  · rw [h2]; exact (h.1 j a b).f h7
  · rw [h5]; exact h.2.1 j a b
  · rw [h0]; exact h.2.2.1
  · rw [h0]; exact h.2.2.2.1
  · rw [h9]; exact h.2.2.2.2 j a b
theorem IC_f (e : ∀ k, suIC k → τ k = σ k) (h : IC σ) : IC τ := by
  refine ⟨?_, ?_, ?_, ?_, ?_, fun d hd => ?_⟩
  · exact okT_f (e 1 (suIC_n (by decide))) (e 2 (suIC_n (by decide))) h.1
  · unfold okL; rw [e 109 (suIC_n (by decide))]; exact h.l1
  · unfold okL; rw [e 118 (suIC_n (by decide))]; exact h.l2
  · rw [e 130 (suIC_n (by decide))]; exact h.z
  · rw [e 126 (suIC_n (by decide))]; exact h.y
  · have hs := suIC_d hd
    exact okD_f (e _ (suIC_n (by decide))) (e _ hs.1) (e _ hs.2.1) (e _ hs.2.2.1) (e _ hs.2.2.2) (h.d hd)
theorem IC_o {k : Nat} {j v : Int} (hk : nsC k) (h : IC σ) : IC (xU σ k j v) := IC_f (fun k2 h2 => xU_k σ j v (fun q => h2 (q ▸ hk))) h
theorem xU_v {k : Nat} {j v j2 : Int} (P : Int → Prop) (h1 : j2 = j → P v) (h2 : P (σ k j2)) : P (xU σ k j v k j2) := by
  rw [xU_i]
  split
  · rename_i h; exact h1 h
  · exact h2
theorem okDs {k : Nat} {j v : Int} (hk : k ≠ 999997) {d : Nat} (h0 : d ≠ k) (h2 : d + 2 ≠ k) (h5 : d + 5 ≠ k) (h9 : d + 9 ≠ k) (h : okD σ d) : okD (xU σ k j v) d :=
  okD_f (xU_k σ j v (Ne.symm hk)) (xU_k σ j v h0) (xU_k σ j v h2) (xU_k σ j v h5) (xU_k σ j v h9) h
theorem IC_1 {j v : Int} (h : IC σ) (c : j ≠ 1 ∨ (0 ≤ v ∧ v ≤ 260)) : IC (xU σ 1 j v) := by
  refine ⟨⟨xU_v (fun z => 0 ≤ z ∧ z ≤ 260) (fun q => by omega) h.t, by rw [xU_k σ j v (by decide)]; exact h.by_⟩, ?_, ?_, ?_, ?_, fun d hd => ?_⟩
  · unfold okL; rw [xU_k σ j v (by decide)]; exact h.l1
  · unfold okL; rw [xU_k σ j v (by decide)]; exact h.l2
  · rw [xU_k σ j v (by decide)]; exact h.z
  · rw [xU_k σ j v (by decide)]; exact h.y
  · unfold xDay at hd; exact okDs (by decide) (by omega) (by omega) (by omega) (by omega) (h.d hd)
theorem IC_2 {j v : Int} (h : IC σ) (c : 0 ≤ v ∧ v ≤ 255) : IC (xU σ 2 j v) := by
  refine ⟨⟨by rw [xU_k σ j v (by decide)]; exact h.t, fun j2 a b => xU_v (fun z => 0 ≤ z ∧ z ≤ 255) (fun _ => c) (h.by_ j2 a b)⟩, ?_, ?_, ?_, ?_, fun d hd => ?_⟩
  · unfold okL; rw [xU_k σ j v (by decide)]; exact h.l1
  · unfold okL; rw [xU_k σ j v (by decide)]; exact h.l2
  · rw [xU_k σ j v (by decide)]; exact h.z
  · rw [xU_k σ j v (by decide)]; exact h.y
  · unfold xDay at hd; exact okDs (by decide) (by omega) (by omega) (by omega) (by omega) (h.d hd)
theorem IC_L_109 {j v : Int} (h : IC σ) (c : (j ≠ 2 ∨ (0 ≤ v ∧ v ≤ 300)) ∧ (j ≠ 6 ∨ (0 ≤ v ∧ v ≤ 16))) : IC (xU σ 109 j v) := by
  refine ⟨?_, ⟨xU_v (fun z => 0 ≤ z ∧ z ≤ 300) (fun q => by omega) h.l1.1, xU_v (fun z => 0 ≤ z ∧ z ≤ 16) (fun q => by omega) h.l1.2⟩, ?_, ?_, ?_, fun d hd => ?_⟩
  · exact okT_f (xU_k σ j v (by decide)) (xU_k σ j v (by decide)) h.1
  · unfold okL; rw [xU_k σ j v (by decide)]; exact h.l2
  · rw [xU_k σ j v (by decide)]; exact h.z
  · rw [xU_k σ j v (by decide)]; exact h.y
  · unfold xDay at hd; exact okDs (by decide) (by omega) (by omega) (by omega) (by omega) (h.d hd)
theorem IC_L_118 {j v : Int} (h : IC σ) (c : (j ≠ 2 ∨ (0 ≤ v ∧ v ≤ 300)) ∧ (j ≠ 6 ∨ (0 ≤ v ∧ v ≤ 16))) : IC (xU σ 118 j v) := by
  refine ⟨?_, ?_, ⟨xU_v (fun z => 0 ≤ z ∧ z ≤ 300) (fun q => by omega) h.l2.1, xU_v (fun z => 0 ≤ z ∧ z ≤ 16) (fun q => by omega) h.l2.2⟩, ?_, ?_, fun d hd => ?_⟩
  · exact okT_f (xU_k σ j v (by decide)) (xU_k σ j v (by decide)) h.1
  · unfold okL; rw [xU_k σ j v (by decide)]; exact h.l1
  · rw [xU_k σ j v (by decide)]; exact h.z
  · rw [xU_k σ j v (by decide)]; exact h.y
  · unfold xDay at hd; exact okDs (by decide) (by omega) (by omega) (by omega) (by omega) (h.d hd)
theorem IC_130 {j v : Int} (h : IC σ) (c : j ≠ 3 ∨ (0 ≤ v ∧ v ≤ 100)) : IC (xU σ 130 j v) := by
  refine ⟨?_, ?_, ?_, xU_v (fun z => 0 ≤ z ∧ z ≤ 100) (fun q => by omega) h.z, ?_, fun d hd => ?_⟩
  · exact okT_f (xU_k σ j v (by decide)) (xU_k σ j v (by decide)) h.1
  · unfold okL; rw [xU_k σ j v (by decide)]; exact h.l1
  · unfold okL; rw [xU_k σ j v (by decide)]; exact h.l2
  · rw [xU_k σ j v (by decide)]; exact h.y
  · unfold xDay at hd; exact okDs (by decide) (by omega) (by omega) (by omega) (by omega) (h.d hd)
theorem IC_126 {j v : Int} (h : IC σ) (c : j ≠ 2 ∨ (0 ≤ v ∧ v ≤ 60)) : IC (xU σ 126 j v) := by
  refine ⟨?_, ?_, ?_, ?_, xU_v (fun z => 0 ≤ z ∧ z ≤ 60) (fun q => by omega) h.y, fun d hd => ?_⟩
  · exact okT_f (xU_k σ j v (by decide)) (xU_k σ j v (by decide)) h.1
  · unfold okL; rw [xU_k σ j v (by decide)]; exact h.l1
  · unfold okL; rw [xU_k σ j v (by decide)]; exact h.l2
  · rw [xU_k σ j v (by decide)]; exact h.z
  · unfold xDay at hd; exact okDs (by decide) (by omega) (by omega) (by omega) (by omega) (h.d hd)
theorem IC_D {k : Nat} {j v : Int} (h : IC σ) (hk : 136 ≤ k ∧ k < 218) (hd : ∀ d, xDay d → okD (xU σ k j v) d) : IC (xU σ k j v) := by
  refine ⟨?_, ?_, ?_, ?_, ?_, hd⟩
  · exact okT_f (xU_k σ j v (by omega)) (xU_k σ j v (by omega)) h.1
  · unfold okL; rw [xU_k σ j v (by omega)]; exact h.l1
  · unfold okL; rw [xU_k σ j v (by omega)]; exact h.l2
  · rw [xU_k σ j v (by omega)]; exact h.z
  · rw [xU_k σ j v (by omega)]; exact h.y
theorem IC_d {d : Nat} {j v : Int} (hd : xDay d) (h : IC σ) (c : (j ≠ 7 ∨ (0 ≤ v ∧ v ≤ 9999)) ∧ (j ≠ 8 ∨ (0 ≤ v ∧ v ≤ 65535))) : IC (xU σ d j v) := by
  refine IC_D h (by unfold xDay at hd; omega) (fun d2 h2 => ?_)
  by_cases e : d2 = d
  · subst e
    refine ⟨fun j2 a b => ?_, fun j2 a b => ?_, xU_v (fun z => 0 ≤ z ∧ z ≤ 9999) (fun q => by omega) (h.m hd), xU_v (fun z => 0 ≤ z ∧ z ≤ 65535) (fun q => by omega) (h.x hd), fun j2 a b => ?_⟩
    · rw [xU_k σ j v (by omega)]; exact (h.w hd j2 a b).f (xU_k σ j v (by unfold xDay at hd; omega))
    · rw [xU_k σ j v (by omega)]; exact h.p hd j2 a b
    · rw [xU_k σ j v (by omega)]; exact h.b hd j2 a b
  · unfold xDay at hd h2; exact okDs (by omega) (by omega) (by omega) (by omega) (by omega) (h.d h2)
theorem IC_w {d : Nat} {j v : Int} (hd : xDay d) (h : IC σ) (c : xAr σ v.toNat) : IC (xU σ (d + 2) j v) := by
  refine IC_D h (by unfold xDay at hd; omega) (fun d2 h2 => ?_)
  by_cases e : d2 = d
  · subst e
    have e7 : xU σ (d2 + 2) j v 999997 = σ 999997 := xU_k σ j v (by unfold xDay at hd; omega)
    refine ⟨fun j2 a b => ?_, fun j2 a b => ?_, ?_, ?_, fun j2 a b => ?_⟩
    · exact xU_v (fun z => xAr (xU σ (d2 + 2) j v) z.toNat) (fun _ => c.f e7) ((h.w hd j2 a b).f e7)
    · rw [xU_k σ j v (by omega)]; exact h.p hd j2 a b
    · rw [xU_k σ j v (by omega)]; exact h.m hd
    · rw [xU_k σ j v (by omega)]; exact h.x hd
    · rw [xU_k σ j v (by omega)]; exact h.b hd j2 a b
  · unfold xDay at hd h2; exact okDs (by omega) (by omega) (by omega) (by omega) (by omega) (h.d h2)
theorem IC_p {d : Nat} {j v : Int} (hd : xDay d) (h : IC σ) (c : 0 ≤ v) : IC (xU σ (d + 5) j v) := by
  refine IC_D h (by unfold xDay at hd; omega) (fun d2 h2 => ?_)
  by_cases e : d2 = d
  · subst e
    refine ⟨fun j2 a b => ?_, fun j2 a b => ?_, ?_, ?_, fun j2 a b => ?_⟩
    · rw [xU_k σ j v (by omega)]; exact (h.w hd j2 a b).f (xU_k σ j v (by unfold xDay at hd; omega))
    · exact xU_v (fun z => 0 ≤ z) (fun _ => c) (h.p hd j2 a b)
    · rw [xU_k σ j v (by omega)]; exact h.m hd
    · rw [xU_k σ j v (by omega)]; exact h.x hd
    · rw [xU_k σ j v (by omega)]; exact h.b hd j2 a b
  · unfold xDay at hd h2; exact okDs (by omega) (by omega) (by omega) (by omega) (by omega) (h.d h2)
theorem IC_z {d : Nat} {j v : Int} (hd : xDay d) (h : IC σ) (c : v = 0 ∨ v = 1) : IC (xU σ (d + 9) j v) := by
  refine IC_D h (by unfold xDay at hd; omega) (fun d2 h2 => ?_)
  by_cases e : d2 = d
  · subst e
    refine ⟨fun j2 a b => ?_, fun j2 a b => ?_, ?_, ?_, fun j2 a b => ?_⟩
    · rw [xU_k σ j v (by omega)]; exact (h.w hd j2 a b).f (xU_k σ j v (by unfold xDay at hd; omega))
    · rw [xU_k σ j v (by omega)]; exact h.p hd j2 a b
    · rw [xU_k σ j v (by omega)]; exact h.m hd
    · rw [xU_k σ j v (by omega)]; exact h.x hd
    · exact xU_v (fun z => z = 0 ∨ z = 1) (fun _ => c) (h.b hd j2 a b)
  · unfold xDay at hd h2; exact okDs (by omega) (by omega) (by omega) (by omega) (by omega) (h.d h2)
/-! ===== the model ===== -/
def okN (σ : xS) (k : Nat) : Prop := (∀ j : Int, 0 ≤ j → j < 2 → 0 ≤ σ k j ∧ σ k j ≤ 99) ∧ (∀ j : Int, 2 ≤ j → j < 4 → 0 ≤ σ k j) ∧ (∀ j : Int, 4 ≤ j → j < 14 → 0 ≤ σ k j ∧ σ k j ≤ 99) ∧ (0 ≤ σ k 37 ∧ σ k 37 ≤ 9999) ∧ (0 ≤ σ k 38 ∧ σ k 38 ≤ 65535)
def IMn (σ : xS) : Prop := (0 ≤ σ 268 8 ∧ σ 268 8 ≤ 260) ∧ okN σ 269 ∧ okN σ 270 ∧ okN σ 271 ∧ (∀ j : Int, 0 ≤ j → j < 4 → -1 ≤ σ 273 j ∧ σ 273 j ≤ 99) ∧ (∀ j : Int, 0 ≤ j → j < 2 → 0 ≤ σ 274 j ∧ σ 274 j ≤ 60) ∧ (∀ j : Int, 0 ≤ j → j < 2 → 0 ≤ σ 308 j ∧ σ 308 j ≤ 60)
def suIMn (k : Nat) : Prop := k = 268 ∨ k = 269 ∨ k = 270 ∨ k = 271 ∨ k = 273 ∨ k = 274 ∨ k = 308
theorem IMn.t (h : IMn σ) : 0 ≤ σ 268 8 ∧ σ 268 8 ≤ 260 := h.1
theorem IMn.n1 (h : IMn σ) : okN σ 269 := h.2.1
theorem IMn.n2 (h : IMn σ) : okN σ 270 := h.2.2.1
theorem IMn.n3 (h : IMn σ) : okN σ 271 := h.2.2.2.1
theorem IMn.l (h : IMn σ) : ∀ j : Int, 0 ≤ j → j < 4 → -1 ≤ σ 273 j ∧ σ 273 j ≤ 99 := h.2.2.2.2.1
theorem IMn.w (h : IMn σ) : ∀ j : Int, 0 ≤ j → j < 2 → 0 ≤ σ 274 j ∧ σ 274 j ≤ 60 := h.2.2.2.2.2.1
theorem IMn.v (h : IMn σ) : ∀ j : Int, 0 ≤ j → j < 2 → 0 ≤ σ 308 j ∧ σ 308 j ≤ 60 := h.2.2.2.2.2.2
theorem okN_f {k : Nat} (e : τ k = σ k) (h : okN σ k) : okN τ k := by unfold okN; rw [e]; exact h
theorem IMn_f (e : ∀ k, suIMn k → τ k = σ k) (h : IMn σ) : IMn τ := by
  unfold suIMn at e
  refine ⟨?_, okN_f (e _ (by decide)) h.n1, okN_f (e _ (by decide)) h.n2, okN_f (e _ (by decide)) h.n3, ?_, ?_, ?_⟩
  · rw [e 268 (by decide)]; exact h.t
  · rw [e 273 (by decide)]; exact h.l
  · rw [e 274 (by decide)]; exact h.w
  · rw [e 308 (by decide)]; exact h.v
theorem IMn_o {k : Nat} {j v : Int} (hk : ¬ suIMn k) (h : IMn σ) : IMn (xU σ k j v) := IMn_f (fun k2 h2 => xU_k σ j v (fun q => hk (q ▸ h2))) h
theorem IMn_268 {j v : Int} (h : IMn σ) (c : j ≠ 8 ∨ (0 ≤ v ∧ v ≤ 260)) : IMn (xU σ 268 j v) := by
  refine ⟨xU_v (fun z => 0 ≤ z ∧ z ≤ 260) (fun q => by omega) h.t, okN_f (xU_k σ j v (by decide)) h.n1, okN_f (xU_k σ j v (by decide)) h.n2, okN_f (xU_k σ j v (by decide)) h.n3, ?_, ?_, ?_⟩
  · rw [xU_k σ j v (by decide)]; exact h.l
  · rw [xU_k σ j v (by decide)]; exact h.w
  · rw [xU_k σ j v (by decide)]; exact h.v
theorem okN_U {k : Nat} {j v : Int} (h : okN σ k) (c : ((j < 0 ∨ 2 ≤ j) ∨ (0 ≤ v ∧ v ≤ 99)) ∧ ((j < 2 ∨ 4 ≤ j) ∨ 0 ≤ v) ∧ ((j < 4 ∨ 14 ≤ j) ∨ (0 ≤ v ∧ v ≤ 99)) ∧ (j ≠ 37 ∨ (0 ≤ v ∧ v ≤ 9999)) ∧ (j ≠ 38 ∨ (0 ≤ v ∧ v ≤ 65535))) : okN (xU σ k j v) k :=
  ⟨fun j2 a b => xU_v (fun z => 0 ≤ z ∧ z ≤ 99) (fun q => by omega) (h.1 j2 a b), fun j2 a b => xU_v (fun z => 0 ≤ z) (fun q => by omega) (h.2.1 j2 a b), fun j2 a b => xU_v (fun z => 0 ≤ z ∧ z ≤ 99) (fun q => by omega) (h.2.2.1 j2 a b), xU_v (fun z => 0 ≤ z ∧ z ≤ 9999) (fun q => by omega) h.2.2.2.1, xU_v (fun z => 0 ≤ z ∧ z ≤ 65535) (fun q => by omega) h.2.2.2.2⟩
theorem IMn_N {k : Nat} {j v : Int} (hk : k = 269 ∨ k = 270 ∨ k = 271) (h : IMn σ) (h1 : okN (xU σ k j v) k) : IMn (xU σ k j v) := by
  have hh : ∀ q, q = 269 ∨ q = 270 ∨ q = 271 → okN (xU σ k j v) q := fun q hq => by
    by_cases e : q = k
    · rw [e]; exact h1
    · refine okN_f (xU_k σ j v e) ?_
      rcases hq with rfl | rfl | rfl
      · exact h.n1
      · exact h.n2
      · exact h.n3
  refine ⟨?_, hh _ (by decide), hh _ (by decide), hh _ (by decide), ?_, ?_, ?_⟩
  · rw [xU_k σ j v (by omega)]; exact h.t
  · rw [xU_k σ j v (by omega)]; exact h.l
  · rw [xU_k σ j v (by omega)]; exact h.w
  · rw [xU_k σ j v (by omega)]; exact h.v
theorem IMn_N269 {j v : Int} (h : IMn σ) (c : ((j < 0 ∨ 2 ≤ j) ∨ (0 ≤ v ∧ v ≤ 99)) ∧ ((j < 2 ∨ 4 ≤ j) ∨ 0 ≤ v) ∧ ((j < 4 ∨ 14 ≤ j) ∨ (0 ≤ v ∧ v ≤ 99)) ∧ (j ≠ 37 ∨ (0 ≤ v ∧ v ≤ 9999)) ∧ (j ≠ 38 ∨ (0 ≤ v ∧ v ≤ 65535))) : IMn (xU σ 269 j v) := IMn_N (by decide) h (okN_U h.n1 c)
theorem IMn_N270 {j v : Int} (h : IMn σ) (c : ((j < 0 ∨ 2 ≤ j) ∨ (0 ≤ v ∧ v ≤ 99)) ∧ ((j < 2 ∨ 4 ≤ j) ∨ 0 ≤ v) ∧ ((j < 4 ∨ 14 ≤ j) ∨ (0 ≤ v ∧ v ≤ 99)) ∧ (j ≠ 37 ∨ (0 ≤ v ∧ v ≤ 9999)) ∧ (j ≠ 38 ∨ (0 ≤ v ∧ v ≤ 65535))) : IMn (xU σ 270 j v) := IMn_N (by decide) h (okN_U h.n2 c)
theorem IMn_N271 {j v : Int} (h : IMn σ) (c : ((j < 0 ∨ 2 ≤ j) ∨ (0 ≤ v ∧ v ≤ 99)) ∧ ((j < 2 ∨ 4 ≤ j) ∨ 0 ≤ v) ∧ ((j < 4 ∨ 14 ≤ j) ∨ (0 ≤ v ∧ v ≤ 99)) ∧ (j ≠ 37 ∨ (0 ≤ v ∧ v ≤ 9999)) ∧ (j ≠ 38 ∨ (0 ≤ v ∧ v ≤ 65535))) : IMn (xU σ 271 j v) := IMn_N (by decide) h (okN_U h.n3 c)
theorem okN_v {k : Nat} (h : okN σ k) (j : Int) : ((j < 0 ∨ 2 ≤ j) ∨ (0 ≤ σ k j ∧ σ k j ≤ 99)) ∧ ((j < 2 ∨ 4 ≤ j) ∨ 0 ≤ σ k j) ∧ ((j < 4 ∨ 14 ≤ j) ∨ (0 ≤ σ k j ∧ σ k j ≤ 99)) ∧ (j ≠ 37 ∨ (0 ≤ σ k j ∧ σ k j ≤ 9999)) ∧ (j ≠ 38 ∨ (0 ≤ σ k j ∧ σ k j ≤ 65535)) := by
  refine ⟨?_, ?_, ?_, ?_, ?_⟩
  · have := h.1 j; omega
  · have := h.2.1 j; omega
  · have := h.2.2.1 j; omega
  · by_cases e : j = 37
    · subst e; exact Or.inr h.2.2.2.1
    · exact Or.inl e
  · by_cases e : j = 38
    · subst e; exact Or.inr h.2.2.2.2
    · exact Or.inl e
theorem IMn_273 {j v : Int} (h : IMn σ) (c : -1 ≤ v ∧ v ≤ 99) : IMn (xU σ 273 j v) := by
  refine ⟨?_, okN_f (xU_k σ j v (by decide)) h.n1, okN_f (xU_k σ j v (by decide)) h.n2, okN_f (xU_k σ j v (by decide)) h.n3, fun j2 a b => xU_v (fun z => -1 ≤ z ∧ z ≤ 99) (fun _ => c) (h.l j2 a b), ?_, ?_⟩
  · rw [xU_k σ j v (by decide)]; exact h.t
  · rw [xU_k σ j v (by decide)]; exact h.w
  · rw [xU_k σ j v (by decide)]; exact h.v
theorem IMn_274 {j v : Int} (h : IMn σ) (c : 0 ≤ v ∧ v ≤ 60) : IMn (xU σ 274 j v) := by
  refine ⟨?_, okN_f (xU_k σ j v (by decide)) h.n1, okN_f (xU_k σ j v (by decide)) h.n2, okN_f (xU_k σ j v (by decide)) h.n3, ?_, fun j2 a b => xU_v (fun z => 0 ≤ z ∧ z ≤ 60) (fun _ => c) (h.w j2 a b), ?_⟩
  · rw [xU_k σ j v (by decide)]; exact h.t
  · rw [xU_k σ j v (by decide)]; exact h.l
  · rw [xU_k σ j v (by decide)]; exact h.v
theorem IMn_308 {j v : Int} (h : IMn σ) (c : 0 ≤ v ∧ v ≤ 60) : IMn (xU σ 308 j v) := by
  refine ⟨?_, okN_f (xU_k σ j v (by decide)) h.n1, okN_f (xU_k σ j v (by decide)) h.n2, okN_f (xU_k σ j v (by decide)) h.n3, ?_, ?_, fun j2 a b => xU_v (fun z => 0 ≤ z ∧ z ≤ 60) (fun _ => c) (h.v j2 a b)⟩
  · rw [xU_k σ j v (by decide)]; exact h.t
  · rw [xU_k σ j v (by decide)]; exact h.l
  · rw [xU_k σ j v (by decide)]; exact h.w
end XI
/-! ===== a law's code that runs safely: c the code's numbers, from k on with n values on the stack ===== -/
def gO (v : Int) : Int := v / 1048576
def gV (v : Int) : Int := v % 1048576
def gS (c : Int → Int) (to : Nat) : Nat → Nat → Nat → Prop
  | 0, k, _ => k = to
  | f + 1, k, n => k = to ∨ (k < to ∧ 0 ≤ c k ∧
      ((gO (c k) = 0 ∧ n ≤ 258 ∧ gS c to f (k + 1) (n + 1)) ∨
       (gO (c k) = 1 ∧ gV (c k) < 7 ∧ n ≤ 258 ∧ gS c to f (k + 1) (n + 1)) ∨
       (gO (c k) = 10 ∧ 1 ≤ n ∧ gS c to f (k + 1) n) ∨
       ((gO (c k) = 11 ∨ gO (c k) = 12) ∧ 1 ≤ n ∧ (∃ v : Nat, gV (c k) = (v : Int) ∧ k < v ∧ v ≤ to ∧ gS c to f v n) ∧ gS c to f (k + 1) (n - 1)) ∨
       (2 ≤ gO (c k) ∧ gO (c k) ≤ 9 ∧ 2 ≤ n ∧ gS c to f (k + 1) (n - 1))))
def segOK (c : Int → Int) (a b : Int) : Prop := 0 ≤ a ∧ a ≤ b ∧ b ≤ 240 ∧ gS c b.toNat (b - a).toNat a.toNat 0
def IMk (σ : xS) : Prop := (0 ≤ σ 268 17 ∧ σ 268 17 ≤ 16) ∧ ∀ q : Int, 0 ≤ q → q < σ 268 17 → segOK (σ 283) (σ 285 q) (σ 286 q) ∧ segOK (σ 283) (σ 286 q) (σ 287 q)
def suIMk (k : Nat) : Prop := k = 268 ∨ k = 283 ∨ k = 285 ∨ k = 286 ∨ k = 287
theorem IMk.c {σ : xS} (h : IMk σ) : 0 ≤ σ 268 17 ∧ σ 268 17 ≤ 16 := h.1
theorem IMk_f {σ τ : xS} (e : ∀ k, suIMk k → τ k = σ k) (h : IMk σ) : IMk τ := by
  unfold suIMk at e
  unfold IMk
  rw [e 268 (by decide), e 283 (by decide), e 285 (by decide), e 286 (by decide), e 287 (by decide)]
  exact h
theorem IMk_o {σ : xS} {k : Nat} {j v : Int} (hk : ¬ suIMk k) (h : IMk σ) : IMk (xU σ k j v) := IMk_f (fun k2 h2 => xU_k σ j v (fun q => hk (q ▸ h2))) h
theorem IMk_268 {σ : xS} {j v : Int} (h : IMk σ) (c : j ≠ 17) : IMk (xU σ 268 j v) := by
  unfold IMk
  rw [xU_j σ v (Ne.symm c), xU_k σ j v (by decide), xU_k σ j v (by decide), xU_k σ j v (by decide), xU_k σ j v (by decide)]
  exact h
/-! ===== bits with a mask ===== -/
section X6
variable {p : Program} {l : Launch} {e : Env} {R : Room} {s : State} {m : MethodId} {args : Array Value} {below : List Frame} {meth : Method} {c : Code} {H : Heap} {locs : List Loc} {cells slots : Nat} {Q : State → Prop}
variable {pc : Nat} {ls : Array Slot} {rest : List Value}
theorem x_mask (x : Int32) {q : Nat} (hq : q ≤ 30) {w : Int} (hw : (xJ w).toBitVec.toNat = 2 ^ q - 1) : ∃ a : Int, xR a ∧ (0 ≤ a ∧ a < 2 ^ q) ∧ x &&& xJ w = xJ a := by
  have h9 : (2 : Nat) ^ q ≤ 2 ^ 30 := Nat.pow_le_pow_right (by decide) hq
  have hlt : x.toBitVec.toNat % 2 ^ q < 2 ^ q := Nat.mod_lt _ (Nat.two_pow_pos _)
  have hc : ((2 ^ q : Nat) : Int) = (2 : Int) ^ q := by norm_cast
  refine ⟨((x.toBitVec.toNat % 2 ^ q : Nat) : Int), by omega, by omega, ?_⟩
  rw [xJ_nat]
  refine Int32.toBitVec_inj.mp (BitVec.eq_of_toNat_eq ?_)
  rw [Int32.toBitVec_and, BitVec.toNat_and]
  have h2 : (nI (x.toBitVec.toNat % 2 ^ q)).toBitVec = BitVec.ofNat 32 (x.toBitVec.toNat % 2 ^ q) := rfl
  rw [hw, h2, Nat.and_two_pow_sub_one_eq_mod, BitVec.toNat_ofNat]
  omega
theorem x_andM1 {x : Int32} (kk : ∀ v : Int, xR v → (0 ≤ v ∧ v ≤ 1) → W p l e R s m args below meth c H locs cells slots Q (F0 m pc ls (.int (xJ v) :: rest))) : W p l e R s m args below meth c H locs cells slots Q (F0 m pc ls (.int (x &&& xJ 1) :: rest)) := by
  obtain ⟨a, ha, h1, h2⟩ := x_mask x (q := 1) (by decide) (w := 1) (by decide)
  rw [h2]; exact kk a ha (by omega)
end X6
theorem xlk_n {d a : Int} : ∀ {ps : List (Int × Int)}, (∀ q ∈ ps, q.1 ≠ a) → Op.lookupswitch.offset ps d a = d
  | [], _ => rfl
  | (b, o) :: r, h => by
    rw [Op.lookupswitch.offset_cons, if_neg (h (b, o) (List.mem_cons_self ..))]
    exact xlk_n (fun q hq => h q (List.mem_cons_of_mem _ hq))
theorem st_steps0 : ∀ j, j < 100 → xtab.getD (7 + j) (9, 0) = (0, 100) := by decide +kernel
theorem sa_steps0 (h0 : Nat) (g : xG) {j : Nat} (h : j < 100) (σ : xS) : xcel h0 g σ (7 + j) = .inl (g.1, 100, .inl (fun q => xJ (σ (7 + j) q))) := by
  unfold xcel
  rw [if_pos (by omega), st_steps0 j h]
  rfl
theorem st_least0 : ∀ j, j < 31 → xtab.getD (228 + j) (9, 0) = (0, 100) := by decide +kernel
theorem sa_least0 (h0 : Nat) (g : xG) {j : Nat} (h : j < 31) (σ : xS) : xcel h0 g σ (228 + j) = .inl (g.1, 100, .inl (fun q => xJ (σ (228 + j) q))) := by
  unfold xcel
  rw [if_pos (by omega), st_least0 j h]
  rfl
theorem st_single0 : ∀ j, j < 5 → xtab.getD (219 + j) (9, 0) = (0, 1) := by decide +kernel
theorem xmulb {a b : Int} (ha : -1 ≤ a ∧ a ≤ 9) (hb : -60 ≤ b ∧ b ≤ 60) : -540 ≤ a * b ∧ a * b ≤ 540 := by
  rcases (by omega : a = -1 ∨ a = 0 ∨ a = 1 ∨ a = 2 ∨ a = 3 ∨ a = 4 ∨ a = 5 ∨ a = 6 ∨ a = 7 ∨ a = 8 ∨ a = 9) with rfl | rfl | rfl | rfl | rfl | rfl | rfl | rfl | rfl | rfl | rfl <;> omega
theorem xAr_s {σ : xS} {k : Nat} (h : 219 ≤ k ∧ k < 224) : xAr σ ((k : Int)).toNat := by
  show xAr σ k
  obtain ⟨q, rfl⟩ : ∃ q, k = 219 + q := ⟨k - 219, by omega⟩
  exact Or.inl ⟨by omega, by rw [st_single0 q (by omega)]⟩
theorem xlt_lo : ∀ j : Nat, j < 7 → 98 ≤ xlt j := by decide



section X7
variable {p : Program} {l : Launch} {e : Env} {R : Room} {s : State} {m : MethodId} {args : Array Value} {below : List Frame} {meth : Method} {c : Code} {H : Heap} {locs : List Loc} {cells slots : Nat} {Q : State → Prop}
variable {cc : ByteArray} {pc : Nat} {ls : Array Slot} {rest st0 : List Value} {D : va_G} {g : xG} {T : Nat × Nat × Nat} {h0 : Nat} {σ : xS} {own : String} {index nL : Nat}
theorem x_mmin (hx : p.tables.exec = Jvm.exec) (hb : c.code = cc) (hml : c.maxLocals = nL) (hls : ls.size = nL) (hown : s.vm.findClass own = some m.cls) (hT : ∀ w ∈ xTB, w.before args s = true) (hl : Cond.methodLink own index Lib.Math.min.name ∈ xTB) (h2 : Cond.static Lib.Math.min.name ∈ xTB) (h3 : Cond.initialized "java/lang/Math" ∈ xTB) (h4 : Cond.code Lib.Math.min.name Lib.Math.min.code 2 (some .int) ∈ xTB) (hrm : 1 ≤ R.frames ∧ (rest.map fun v => v.category).sum + 13 ≤ R.locals ∧ cells ≤ R.cells ∧ slots ≤ R.slots) {a b : Int} (ha : xR a) (hb2 : xR b) (hdg : decode cc pc = .ok (.invokestatic index, 3))
    (kk : W p l e R s m args below meth c H locs cells slots Q (F0 m (pc + 3) ls (.int (xJ (if b < a then b else a)) :: rest))) : W p l e R s m args below meth c H locs cells slots Q (F0 m pc ls (.int (xJ b) :: .int (xJ a) :: rest)) :=
  va_mmin hx hb (hml.trans hls.symm) hown (hT _ hl) (hT _ h2) (hT _ h3) (hT _ h4) hrm.1 hrm.2.1 hrm.2.2.1 hrm.2.2.2 hdg (by
    have e : (if xJ b < xJ a then xJ b else xJ a) = xJ (if b < a then b else a) := by
      by_cases h : b < a
      · rw [if_pos h, if_pos ((xJ_lt hb2 ha).mpr h)]
      · rw [if_neg h, if_neg (fun q => h ((xJ_lt hb2 ha).mp q))]
    rw [e]; exact kk)
theorem xAr.celn {r : Nat} (h : xAr σ r) : xcel h0 g σ r = .inl (g.1, xlen σ r, .inl (fun j => xJ (σ r j))) := by
  unfold xlen
  rcases h with ⟨h1, h2⟩ | h
  · obtain ⟨q, e⟩ : ∃ q, xtab.getD r (9, 0) = (0, q) := ⟨_, Prod.ext h2 rfl⟩
    unfold xcel
    rw [if_pos h1, if_pos h1, e]
    rfl
  · unfold xcel
    rw [if_neg (by omega), if_neg (by omega)]
    rfl
theorem xtab_len : ∀ r, r < 310 → (xtab.getD r (9, 0)).2 ≤ 10000 := by decide +kernel
theorem xlen_le (h : xRR σ) (r : Nat) : xlen σ r ≤ 2147483647 := by
  unfold xlen
  split
  · rename_i q
    have := xtab_len r q
    omega
  · have := h 999998 r
    omega
theorem x_alenW {v : Int} (hx : p.tables.exec = Jvm.exec) (hb : c.code = cc) (hE : xE D g T h0 s) (hW : xW D g h0 s H locs σ) (h : xAr σ v.toNat) (hdg : decode cc pc = .ok (.arraylength, 1))
    (kk : ∀ n : Int, n = (xlen σ v.toNat : Int) → (0 ≤ n ∧ n ≤ 2147483647) → W p l e R s m args below meth c H locs cells slots Q (F0 m (pc + 1) ls (.int (xJ n) :: rest))) : W p l e R s m args below meth c H locs cells slots Q (F0 m pc ls (.ref (h0 + v.toNat) :: rest)) := by
  have h1 := xlen_le hW.2.1 v.toNat
  exact x_alen (k := v.toNat) (n := xlen σ v.toNat) (t0 := 0) hx hb hE hW h.v (h.celn) rfl rfl hdg (kk _ rfl (by omega))
/-- System.arraycopy of a row of ints, from its first on to the other's first on -/
def xC (σ : xS) (ks kd : Nat) (n : Int) : xS := fun k j => if k = kd ∧ 0 ≤ j ∧ j < n then σ ks j else σ k j
theorem xC_k (σ : xS) (ks : Nat) {kd k : Nat} (n : Int) (h : k ≠ kd) : xC σ ks kd n k = σ k := funext fun j => if_neg (fun q => h q.1)
theorem xC_j (σ : xS) (ks kd : Nat) (n j : Int) : xC σ ks kd n kd j = if 0 ≤ j ∧ j < n then σ ks j else σ kd j := by by_cases h : 0 ≤ j ∧ j < n <;> simp [xC, h]
theorem xFr.cpy {M : Nat → Prop} {s0 s1 s2 : xS} {ks kd : Nat} {n : Int} (h : xFr M s0 s1) (e : s2 = xC s1 ks kd n) (hk : M kd) : xFr M s0 s2 := fun k2 h2 => by
  rw [e, xC_k s1 ks n (fun q => h2 (by rw [q]; exact hk))]
  exact h k2 h2
theorem x_copyi {ks kd ns nd : Nat} {n : Int} (hx : p.tables.exec = Jvm.exec) (hb : c.code = cc) (hml : c.maxLocals = nL) (hls : ls.size = nL) (hown : s.vm.findClass own = some m.cls) (hT : ∀ w ∈ xTB, w.before args s = true) (hE : xE D g T h0 s) (hW : xW D g h0 s H locs σ) (hlk : Cond.methodLink own index arraycopyName ∈ xTB) (hnat : Cond.native arraycopyName ∈ xTB) (hstat : Cond.static arraycopyName ∈ xTB) (hini : Cond.initialized "java/lang/System" ∈ xTB) (hks : xV σ ks) (hcs : xcel h0 g σ ks = .inl (g.1, ns, .inl (fun j => xJ (σ ks j)))) (hkd : kd < 310) (hcd : ∀ σ : xS, xcel h0 g σ kd = .inl (g.1, nd, .inl (fun j => xJ (σ kd j)))) (hn : 0 ≤ n ∧ n ≤ (ns : Int) ∧ n ≤ (nd : Int) ∧ xR n)
    (hrm : 1 ≤ R.frames ∧ (rest.map fun v => v.category).sum + (nativeFrameWords "java/lang/System" "arraycopy" 5 + 11) ≤ R.locals) (hdg : decode cc pc = .ok (.invokestatic index, 3))
    (kk : ∀ (H1 : Heap) (locs1 : List Loc) (τ : xS), τ = xC σ ks kd n → xW D g h0 s H1 locs1 τ → W p l e R s m args below meth c H1 locs1 cells slots Q (F0 m (pc + 3) ls rest)) : W p l e R s m args below meth c H locs cells slots Q (F0 m pc ls (.int (xJ n) :: .int (xJ 0) :: .ref (h0 + kd) :: .int (xJ 0) :: .ref (h0 + ks) :: rest)) := by
  obtain ⟨hn0, hn1, hn2, hnR⟩ := hn
  have hz : ¬ xJ 0 < 0 := by decide
  have hz3 : ¬ xJ n < 0 := fun q => by have := (xJ_lt hnR (by omega : xR 0)).mp q; omega
  have hcn : (xJ n).toNatClampNeg = n.toNat := xJ_cl hnR
  have h1 := hW.1.1 ks hks
  rw [hcs] at h1
  have h1 : H[h0 + ks]? = some (arrV g.1 ns (fun j => .int (xJ (σ ks j)))) := h1
  have h2 := hW.1.1 kd (Or.inl hkd)
  rw [hcd σ] at h2
  have h2 : H[h0 + kd]? = some (arrV g.1 nd (fun j => .int (xJ (σ kd j)))) := h2
  obtain ⟨-, k0, hk0, cm0, hkk0⟩ := (hE.1.2 0 _ rfl).1 0 (fun _ => .null)
  intro U hU X
  obtain ⟨vm', X', step⟩ := X.arraycopy hx hown (hT _ hlk) (hT _ hnat) (hT _ hstat) (hT _ hini) (src := h0 + ks) (dst := h0 + kd) (cs := arrV g.1 ns (fun j => .int (xJ (σ ks j)))) (cd := arrV g.1 nd (fun j => .int (xJ (σ kd j)))) (srcPos := xJ 0) (destPos := xJ 0) (n := xJ n) (by rw [hU]; exact h1) (by rw [hU]; exact h2)
    (fun _ h => by cases h) (fun _ h => by cases h) (fun h => by cases h) (fun h => by cases h) hk0 hk0 hkk0 hkk0 rfl hz hz hz3
    (by rw [xJ_toInt (by omega : xR 0), xJ_toInt hnR, arrV_size]; omega)
    (by rw [xJ_toInt (by omega : xR 0), xJ_toInt hnR, arrV_size]; omega)
    (fun vm₁ _ i hi => by
      rw [hcn] at hi
      have e : (arrV g.1 ns (fun j => Value.int (xJ (σ ks j)))).slots.getD ((xJ 0).toNatClampNeg + i) .null = .int (xJ (σ ks i)) := by
        rw [show (xJ 0).toNatClampNeg + i = i from by rw [xJ_cl (by omega)]; simp, Array.getD_eq_getD_getElem?, arrV_read _ _ (by omega)]
        rfl
      rw [e]
      exact ⟨rfl, trivial⟩)
    (g := F0 m pc ls (.int (xJ n) :: .int (xJ 0) :: .ref (h0 + kd) :: .int (xJ 0) :: .ref (h0 + ks) :: rest)) rfl (by rw [hml, hls]) (rest := rest) rfl (by rw [hb]; exact hdg) hrm.1 (by have := hrm.2; show 2 * 0 + _ + _ ≤ _; omega)
  have hc0 : (xJ 0).toNatClampNeg = 0 := rfl
  have e1 : copied (arrV g.1 ns (fun j => .int (xJ (σ ks j)))) (arrV g.1 nd (fun j => .int (xJ (σ kd j)))) (xJ 0) (xJ 0) (xJ n) = arrV g.1 nd (fun j => Value.int (xJ (xC σ ks kd n kd j))) := by
    refine (va_copied (fun z => Value.int z) g.1 g.1 (fun j => xJ (σ ks j)) (fun j => xJ (σ kd j)) (by rw [hc0, hcn]; omega)).trans ?_
    congr 1
    funext j
    rw [xC_j, hc0, hcn]
    unfold va_cpy
    by_cases hj : j < n.toNat
    · rw [if_pos (by omega), if_pos (by omega)]
      simp
    · rw [if_neg (by omega), if_neg (by omega)]
  rw [e1] at X' step
  have hl : h0 + kd < H.size := (Array.getElem?_eq_some_iff.mp h2).1
  have ha : xA h0 (h0 + kd) := Nat.le_add_right _ _
  have oq : ∀ (v : Cell) (q : Nat), q ≠ h0 + kd → (H.setIfInBounds (h0 + kd) v)[q]? = H[q]? := fun v q hq => by simp [Array.getElem?_setIfInBounds, Ne.symm hq]
  have hheap : ((U.setVm vm').setCell (h0 + kd) (arrV g.1 nd (fun j => Value.int (xJ (xC σ ks kd n kd j))))).heap = H.setIfInBounds (h0 + kd) (arrV g.1 nd (fun j => Value.int (xJ (xC σ ks kd n kd j)))) := by rw [← hU]; rfl
  have hW1 : ∀ L : List Loc, (∀ q ∈ L, xA h0 q.base) → xW D g h0 s (H.setIfInBounds (h0 + kd) (arrV g.1 nd (fun j => Value.int (xJ (xC σ ks kd n kd j))))) (locs ++ L) (xC σ ks kd n) := fun L hL => by
    refine ⟨⟨fun k hk => ?_, ?_⟩, fun k j => ?_, ?_, fun q g1 g2 => ?_, fun q hq => ?_⟩
    · by_cases e : k = kd
      · subst e
        rw [hcd]
        show (H.setIfInBounds (h0 + k) _)[h0 + k]? = some _
        simp [Array.getElem?_setIfInBounds, hl]
        rfl
      · have e7 : xC σ ks kd n 999997 = σ 999997 := xC_k σ ks n (by omega)
        have e8 : xC σ ks kd n 999998 = σ 999998 := xC_k σ ks n (by omega)
        have h9 := hW.1.1 k (by unfold xV at hk ⊢; rw [e7] at hk; exact hk)
        rw [xcel_f h0 g (xC_k σ ks n e) (Or.inr (by rw [e8]))]
        exact h9.kept (oq _ _ (fun q => e (by simpa using q)))
    · rw [show xC σ ks kd n 999996 = σ 999996 from xC_k σ ks n (by omega)]
      simp
      exact hW.1.2
    · unfold xC
      split
      · exact hW.2.1 _ _
      · exact hW.2.1 _ _
    · simp
      exact hW.2.2.1
    · rw [oq _ q (fun e => g2 (by rw [e]; exact ha))]
      exact hW.2.2.2.1 q g1 g2
    · rcases List.mem_append.mp hq with h | h
      · exact hW.2.2.2.2 q h
      · exact hL q h
  obtain ⟨t, a1, b1⟩ := kk _ _ _ rfl (hW1 _ (fun q hq => by
    obtain ⟨z, -, hz⟩ := List.mem_map.mp hq
    rw [← hz]
    exact ha)) _ hheap X'
  exact ⟨t, step t a1, b1⟩
end X7


