/-! ===== a law's code that runs safely: c the code's numbers, from k on with n values on the stack ===== -/
def gO (v : Int) : Int := v / 1048576
def gV (v : Int) : Int := v % 1048576
def gS (c : Int → Int) (to : Nat) : Nat → Nat → Nat → Prop
  | 0, k, n => k = to ∧ 1 ≤ n ∧ n ≤ 259
  | f + 1, k, n => (k = to ∧ 1 ≤ n ∧ n ≤ 259) ∨ (k < to ∧ n ≤ 259 ∧
      ((gO (c k) = 0 ∧ n ≤ 258 ∧ gS c to f (k + 1) (n + 1)) ∨
       (gO (c k) = 1 ∧ 0 ≤ gV (c k) ∧ gV (c k) < 7 ∧ n ≤ 258 ∧ gS c to f (k + 1) (n + 1)) ∨
       (gO (c k) = 10 ∧ 1 ≤ n ∧ gS c to f (k + 1) n) ∨
       ((gO (c k) = 11 ∨ gO (c k) = 12) ∧ 1 ≤ n ∧ (∃ v : Nat, gV (c k) = (v : Int) ∧ k < v ∧ v ≤ to ∧ gS c to f v n) ∧ gS c to f (k + 1) (n - 1)) ∨
       (2 ≤ gO (c k) ∧ gO (c k) ≤ 9 ∧ 2 ≤ n ∧ gS c to f (k + 1) (n - 1))))
/-- one place of a code by a depth d of the stack at each place -/
def gC (c : Int → Int) (d : Nat → Nat) (to k : Nat) : Prop := d k ≤ 258 ∧
  ((gO (c k) = 0 ∧ d (k + 1) = d k + 1) ∨
   (gO (c k) = 1 ∧ (0 ≤ gV (c k) ∧ gV (c k) < 7) ∧ d (k + 1) = d k + 1) ∨
   (gO (c k) = 10 ∧ 1 ≤ d k ∧ d (k + 1) = d k) ∨
   ((gO (c k) = 11 ∨ gO (c k) = 12) ∧ 1 ≤ d k ∧ d (k + 1) = d k - 1 ∧ ∃ v : Nat, gV (c k) = (v : Int) ∧ k < v ∧ v ≤ to ∧ d v = d k) ∨
   ((2 ≤ gO (c k) ∧ gO (c k) ≤ 9) ∧ 2 ≤ d k ∧ d (k + 1) = d k - 1))
theorem gS_of {c : Int → Int} {d : Nat → Nat} {from0 to : Nat} (h : ∀ k, from0 ≤ k → k < to → gC c d to k) (hd : 1 ≤ d to ∧ d to ≤ 259) : ∀ (f k : Nat), from0 ≤ k → k ≤ to → to - k ≤ f → gS c to f k (d k)
  | 0, k, h1, h2, h3 => by
    have e : k = to := by omega
    subst e
    exact ⟨rfl, hd.1, hd.2⟩
  | f + 1, k, h1, h2, h3 => by
    by_cases e : k = to
    · subst e
      exact Or.inl ⟨rfl, hd.1, hd.2⟩
    · have hk : k < to := by omega
      have ih := gS_of h hd f (k + 1) (by omega) (by omega) (by omega)
      obtain ⟨hn, hc⟩ := h k h1 hk
      refine Or.inr ⟨hk, by omega, ?_⟩
      rcases hc with ⟨a, b⟩ | ⟨a, a2, b⟩ | ⟨a, a2, b⟩ | ⟨a, a2, b, v, v1, v2, v3, v4⟩ | ⟨a, a2, b⟩
      · rw [b] at ih
        exact Or.inl ⟨a, hn, ih⟩
      · rw [b] at ih
        exact Or.inr (Or.inl ⟨a, a2.1, a2.2, hn, ih⟩)
      · rw [b] at ih
        exact Or.inr (Or.inr (Or.inl ⟨a, a2, ih⟩))
      · rw [b] at ih
        have iv := gS_of h hd f v (by omega) v3 (by omega)
        rw [v4] at iv
        exact Or.inr (Or.inr (Or.inr (Or.inl ⟨a, a2, ⟨v, v1, v2, v3, iv⟩, ih⟩)))
      · rw [b] at ih
        exact Or.inr (Or.inr (Or.inr (Or.inr ⟨a.1, a.2, a2, ih⟩)))
/-- the code may be copied -/
theorem gS_cp {c c' : Int → Int} {to : Nat} (h : ∀ k : Nat, k < to → c' k = c k) : ∀ (f k n : Nat), gS c to f k n → gS c' to f k n
  | 0, _, _, q => q
  | f + 1, k, n, q => by
    rcases q with q | ⟨hk, hn, q⟩
    · exact Or.inl q
    · refine Or.inr ⟨hk, hn, ?_⟩
      rw [h k hk]
      rcases q with ⟨a, a2, b⟩ | ⟨a, a2, a3, a4, b⟩ | ⟨a, a2, b⟩ | ⟨a, a2, ⟨v, v1, v2, v3, v4⟩, b⟩ | ⟨a, a2, a3, b⟩
      · exact Or.inl ⟨a, a2, gS_cp h _ _ _ b⟩
      · exact Or.inr (Or.inl ⟨a, a2, a3, a4, gS_cp h _ _ _ b⟩)
      · exact Or.inr (Or.inr (Or.inl ⟨a, a2, gS_cp h _ _ _ b⟩))
      · exact Or.inr (Or.inr (Or.inr (Or.inl ⟨a, a2, ⟨v, v1, v2, v3, gS_cp h _ _ _ v4⟩, gS_cp h _ _ _ b⟩)))
      · exact Or.inr (Or.inr (Or.inr (Or.inr ⟨a, a2, a3, gS_cp h _ _ _ b⟩)))
