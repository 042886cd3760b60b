/-! THE CLASS: out of the rows of whole -/
/-- the times in a row of the reference -/
abbrev tm (ρ : Nat → Int32) : Nat → Int32 := fun k => ρ (29 + k)
/-- the reference's row behind n strokes of a letter whose first group has r -/
def rgP (ρ : Nat → Int32) (s : Nat) (t0 bt : Int32) (r n : Nat) : Nat → Int32 := fun k => if k = 3 then nI (s + n) else if 29 + s ≤ k ∧ k < 29 + s + n then t0 + nI (if k - (29 + s) < r then k - (29 + s) else k - (29 + s) + 2) * bt else ρ k
theorem rgP_0 {ρ : Nat → Int32} {s : Nat} {t0 bt : Int32} {r : Nat} (hs : ρ 3 = nI s) : rgP ρ s t0 bt r 0 = ρ := by
  funext k
  by_cases h3 : k = 3
  · subst h3; simp [rgP, hs]
  · have : ¬ (29 + s ≤ k ∧ k < 29 + s + 0) := by omega
    simp only [rgP, if_neg h3, if_neg this]
theorem rgP_step {ρ : Nat → Int32} {s : Nat} {t0 bt : Int32} {r n : Nat} : upd (upd (rgP ρ s t0 bt r n) (29 + (s + n)) (t0 + nI (if n < r then n else n + 2) * bt)) 3 (nI (s + n + 1)) = rgP ρ s t0 bt r (n + 1) := by
  funext k
  by_cases h3 : k = 3
  · subst h3; simp [upd, rgP]; rfl
  · by_cases hk : k = 29 + (s + n)
    · subst hk
      have h1 : 29 + s ≤ 29 + (s + n) ∧ 29 + (s + n) < 29 + s + (n + 1) := by omega
      have h2 : 29 + (s + n) - (29 + s) = n := by omega
      simp only [upd, rgP, if_neg h3, if_true, if_pos h1, h2]
    · have : (29 + s ≤ k ∧ k < 29 + s + (n + 1)) ↔ (29 + s ≤ k ∧ k < 29 + s + n) := by omega
      simp only [upd, rgP, if_neg h3, if_neg hk, this]
def ringP (ρ : Nat → Int32) (s c : Nat) : Nat → Int32 := upd (rgP ρ s (nxt (tm ρ) s (ρ 2) (ρ 0)) (ρ 0) (c / 5 + 1) (mor c)) 2 (nI 0)
