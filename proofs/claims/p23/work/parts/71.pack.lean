/-! THE CLASS: out of the rows of whole -/
/-- only corrections and ballot may differ -/
def FC (σ σ1 : Sg) : Prop := ∀ z, z < 72 ∨ 75 < z → σ1 z = σ z
noncomputable def ind (p : Prop) : Nat := @ite Nat p (Classical.propDecidable p) 1 0
theorem ind_T {p : Prop} (h : p) : ind p = 1 := by
  unfold ind
  exact if_pos h
theorem ind_F {p : Prop} (h : ¬ p) : ind p = 0 := by
  unfold ind
  exact if_neg h
theorem ind_le (p : Prop) : ind p ≤ 1 := by
  by_cases h : p
  · rw [ind_T h]; exact Nat.le_refl 1
  · rw [ind_F h]; exact Nat.zero_le 1
theorem o1_pos (c : Nat → Nat) : ∀ k l, l < Lc c k → 1 ≤ o1 c k l
  | 0, l, h => absurd h (Nat.not_lt_zero l)
  | k + 1, l, h => by
    rw [Lc] at h
    rw [o1]
    by_cases h4 : 4 ≤ c k
    · rw [if_pos h4] at h ⊢
      by_cases e : l = Lc c k
      · rw [if_pos e]; exact Nat.le_refl 1
      · rw [if_neg e]; exact o1_pos c k l (by omega)
    · rw [if_neg h4] at h ⊢
      have ih := o1_pos c k l h
      split <;> omega
theorem o2_pos (c : Nat → Nat) : ∀ k l, l < Lc c k → 2 ≤ gr c k l → 1 ≤ o2 c k l
  | 0, l, h, _ => absurd h (Nat.not_lt_zero l)
  | k + 1, l, h, hg => by
    rw [Lc] at h
    rw [gr] at hg
    rw [o2]
    by_cases h4 : 4 ≤ c k
    · rw [if_pos h4] at h hg ⊢
      by_cases e : l = Lc c k
      · rw [if_pos e] at hg; omega
      · rw [if_neg e] at hg ⊢; exact o2_pos c k l (by omega) hg
    · rw [if_neg h4] at h hg ⊢
      have gp := gr_pos c k l h
      have ih := o2_pos c k l h
      by_cases h1 : (c k = 1 ∨ c k = 2) ∧ l + 1 = Lc c k ∧ gr c k l = 2
      · rw [if_pos h1]
        have := h1.1
        omega
      · rw [if_neg h1]
        by_cases h2 : c k = 3 ∧ l + 1 = Lc c k ∧ gr c k l = 1
        · rw [if_pos h2]; omega
        · rw [if_neg h2]
          refine ih ?_
          split at hg <;> omega
/-- the class's reading of s strokes: M messages, L letters -/
def CLS (σ : Sg) (s M L : Nat) (c fs f n p d g a b : Nat → Nat) : Prop :=
  (σ 45 7 = nI M ∧ σ 34 5 = nI L ∧ σ 33 8 = nI (lo c s) ∧ M ≤ L ∧ L ≤ s ∧ s ≤ 160) ∧
  (∀ m, m < M → (1 ≤ n m ∧ f m + n m ≤ L) ∧ σ 47 m = nI (fs m) ∧ σ 49 m = nI (f m) ∧ σ 51 m = nI (n m) ∧ σ 53 m = nI (p m) ∧ σ 55 m = nI (d m) ∧ σ 57 m = nI (uF (σ 42) (f m) (n m)) ∧ σ 59 m = sF (σ 42) (f m) (n m)) ∧
  (∀ l, l < L → (1 ≤ g l ∧ g l < 500 ∧ 1 ≤ a l ∧ a l < 500 ∧ (g l = 2 → 1 ≤ b l) ∧ b l < 500) ∧ σ 36 l = nI (g l) ∧ σ 38 l = nI (a l) ∧ σ 40 l = nI (b l) ∧ σ 42 l = val (σ 44) (g l) (a l) (b l))
