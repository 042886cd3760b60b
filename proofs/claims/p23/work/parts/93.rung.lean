/-! A LETTER THAT IS RUNG BEHIND A PAUSE IS READ -/
theorem csle {b g x : Nat} (hb : b ≤ 20) (hg : g ≤ 20000) (hx : x ≤ 32) : nI x * nI b ≤ nI 4 * nI g ↔ x * b ≤ 4 * g := by
  have h : x * b ≤ 32 * 20 := Nat.mul_le_mul hx hb
  rw [pk_mul, pk_mul]
  exact nI_le_iff (by omega) (by omega)
theorem cs_is5 {b g : Nat} (hb : b ≤ 20) (hg : g ≤ 20000) (h : 8 * b ≤ g) : cs (nI b) (nI g) = 5 := by
  rw [cs, if_pos ((csle hb hg (by decide)).mpr (by omega)), if_pos ((csle hb hg (by decide)).mpr (by omega)), if_pos ((csle hb hg (by decide)).mpr (by omega)), if_pos ((csle hb hg (by decide)).mpr (by omega)), if_pos ((csle hb hg (by decide)).mpr (by omega))]
theorem cs_is1 {b : Nat} (hb : b ≤ 20) (h0 : 0 < b) : cs (nI b) (nI b) = 1 := by
  rw [cs, if_pos ((csle hb (by omega) (by decide)).mpr (by omega)), if_neg (fun q => by have := (csle hb (by omega) (by decide)).mp q; omega)]
theorem cs_is3 {b : Nat} (hb : b ≤ 20) (h0 : 0 < b) : cs (nI b) (nI (3 * b)) = 3 := by
  rw [cs, if_pos ((csle hb (by omega) (by decide)).mpr (by omega)), if_pos ((csle hb (by omega) (by decide)).mpr (by omega)), if_pos ((csle hb (by omega) (by decide)).mpr (by omega)), if_neg (fun q => by have := (csle hb (by omega) (by decide)).mp q; omega)]
theorem last_le {τ : Nat → Int32} {bt : Int32} {s : Nat} {T : Nat → Nat} (hT : ∀ k, k < s → τ k = nI (T k)) (hm : ∀ i j, i < j → j < s → T i < T j) : ∀ k, k < s → ∃ t, t ≤ T k ∧ lastF τ bt (k + 1) = nI t
  | 0, h => ⟨T 0, Nat.le_refl _, by rw [lastF, if_pos rfl]; exact hT 0 h⟩
  | k + 1, h => by
    obtain ⟨t, h1, h2⟩ := last_le (bt := bt) hT hm k (by omega)
    rw [lastF, if_neg (by omega)]
    by_cases hc : cs bt (τ (k + 1) - lastF τ bt (k + 1)) = 0
    · rw [if_pos hc]
      have := hm k (k + 1) (by omega) h
      exact ⟨t, by omega, h2⟩
    · rw [if_neg hc]
      exact ⟨T (k + 1), Nat.le_refl _, hT (k + 1) h⟩
/-- the cases of a letter's strokes -/
def cI (r i : Nat) : Nat := if i = 0 then 5 else if i = r then 3 else 1
section RUNG
variable {τ : Nat → Int32} {s b t0 r N : Nat} {T : Nat → Nat}
theorem rung_0 (hb : b ≤ 20) (hT : ∀ k, k < s → T k ≤ 9999 ∧ τ k = nI (T k)) (hm : ∀ i j, i < j → j < s → T i < T j) (ht0 : t0 ≤ 20000) (h0 : τ s = nI t0) (hg : 0 < s → T (s - 1) + 12 * b ≤ t0) : kaF τ (nI b) s = 5 := by
  by_cases hs : s = 0
  · rw [hs]; rfl
  · obtain ⟨t, h1, h2⟩ := last_le (bt := nI b) (fun k hk => (hT k hk).2) hm (s - 1) (by omega)
    rw [show s - 1 + 1 = s by omega] at h2
    have := hg (by omega)
    rw [kaF, if_neg hs, gpF, h2, h0, pk_sub (by omega)]
    exact cs_is5 hb (by omega) (by omega)
theorem rung_c (hb : b ≤ 20) (hb0 : 0 < b) (hr : 1 ≤ r) (h0 : kaF τ (nI b) s = 5) (ht : ∀ i, i < N → τ (s + i) = nI (t0 + fo r i * b)) : ∀ i, i < N → kaF τ (nI b) (s + i) = cI r i
  | 0, _ => h0
  | i + 1, hi => by
    have ih := rung_c hb hb0 hr h0 ht i (by omega)
    have hne : kaF τ (nI b) (s + i) ≠ 0 := by
      rw [ih, cI]
      split
      · decide
      · split <;> decide
    have hla := lastF_2 hne
    rw [kaF, if_neg (by omega), gpF, show s + (i + 1) = s + i + 1 by omega, hla, ht i (by omega), show s + i + 1 = s + (i + 1) by omega, ht (i + 1) hi, cI, if_neg (by omega)]
    by_cases hir : i + 1 = r
    · have e1 : fo r (i + 1) = i + 3 := by rw [fo, if_neg (by omega)]
      have e2 : fo r i = i := by rw [fo, if_pos (by omega)]
      rw [if_pos hir, e1, e2, Nat.add_mul i 3 b, pk_sub (by omega), show t0 + (i * b + 3 * b) - (t0 + i * b) = 3 * b by omega]
      exact cs_is3 hb hb0
    · have e1 : fo r (i + 1) = fo r i + 1 := by
        rw [fo, fo]
        by_cases h : i + 1 < r
        · rw [if_pos h, if_pos (by omega)]
        · rw [if_neg h, if_neg (by omega)]
      rw [if_neg hir, e1, Nat.add_mul, Nat.one_mul, pk_sub (by omega), show t0 + (fo r i * b + b) - (t0 + fo r i * b) = b by omega]
      exact cs_is1 hb hb0
end RUNG
theorem rung_n {c : Nat → Nat} {s r N : Nat} (hr : 1 ≤ r) (hc : ∀ i, i < N → c (s + i) = cI r i) : ∀ i, i < N → Lc c (s + i + 1) = Lc c s + 1 ∧ Mc c (s + i + 1) = Mc c s + 1 ∧ fl c (s + i + 1) (Mc c s) = Lc c s ∧ gr c (s + i + 1) (Lc c s) = (if i + 1 ≤ r then 1 else 2) ∧ o1 c (s + i + 1) (Lc c s) = (if i + 1 ≤ r then i + 1 else r) ∧ o2 c (s + i + 1) (Lc c s) = (if i + 1 ≤ r then 0 else i + 1 - r)
  | 0, h => by
    have h5 : c s = 5 := hc 0 h
    obtain ⟨n1, n2, n3⟩ := cnt_c (c := c) (k := s) (by omega)
    rw [Nat.add_zero, n1, n2, n3, if_pos (by omega), if_pos (by omega), if_pos (by omega)]
    refine ⟨by rw [Lc, if_pos (by omega)], by rw [Mc, if_pos h5], by rw [fl, if_pos ⟨h5, rfl⟩], rfl, rfl, rfl⟩
  | i + 1, h => by
    obtain ⟨a1, a2, a3, a4, a5, a6⟩ := rung_n hr hc i (by omega)
    have hk := hc (i + 1) h
    rw [cI, if_neg (by omega)] at hk
    rw [← Nat.add_assoc] at hk ⊢
    have hlt : c (s + i + 1) < 4 := by rw [hk]; split <;> omega
    have eL : Lc c (s + i + 1 + 1) = Lc c s + 1 := by rw [Lc, if_neg (by omega)]; exact a1
    have eM : Mc c (s + i + 1 + 1) = Mc c s + 1 := by rw [Mc, if_neg (by omega)]; exact a2
    have ef : fl c (s + i + 1 + 1) (Mc c s) = Lc c s := by rw [fl_same (by omega)]; exact a3
    refine ⟨eL, eM, ef, ?_⟩
    by_cases hir : i + 1 = r
    · rw [if_pos hir] at hk
      obtain ⟨n1, n2, n3⟩ := cnt_b (c := c) (k := s + i + 1) (l := Lc c s) hk (by omega) (by rw [a4]; split <;> omega)
      rw [n1, n2, n3, a4, a5, a6, if_pos (show i + 1 ≤ r by omega), if_pos (show i + 1 ≤ r by omega), if_pos (show i + 1 ≤ r by omega), if_neg (show ¬ i + 1 + 1 ≤ r by omega), if_neg (show ¬ i + 1 + 1 ≤ r by omega), if_neg (show ¬ i + 1 + 1 ≤ r by omega), if_neg (show ¬ (1 + 1 = 1) by decide), if_pos (show 1 + 1 = 2 by decide), if_neg (show ¬ c (s + i + 1) = 2 by omega)]
      exact ⟨rfl, hir, by omega⟩
    · rw [if_neg hir] at hk
      obtain ⟨n1, n2, n3⟩ := cnt_a (c := c) (k := s + i + 1) (l := Lc c s) (Or.inl hk) (by omega)
      rw [n1, n2, n3, a4, a5, a6, if_neg (show ¬ c (s + i + 1) = 2 by omega)]
      by_cases h2 : i + 1 ≤ r
      · rw [if_pos h2, if_pos h2, if_pos h2, if_pos (show i + 1 + 1 ≤ r by omega), if_pos (show i + 1 + 1 ≤ r by omega), if_pos (show i + 1 + 1 ≤ r by omega), if_pos rfl, if_neg (show ¬ (1 : Nat) = 2 by decide)]
        exact ⟨rfl, rfl, rfl⟩
      · rw [if_neg h2, if_neg h2, if_neg h2, if_neg (show ¬ i + 1 + 1 ≤ r by omega), if_neg (show ¬ i + 1 + 1 ≤ r by omega), if_neg (show ¬ i + 1 + 1 ≤ r by omega), if_neg (show ¬ (2 : Nat) = 1 by decide), if_pos rfl]
        exact ⟨rfl, rfl, by omega⟩
theorem rung_sp {σ : Sg} {ρ : Nat → Int32} {s b pz q j : Nat} {T : Nat → Nat} (hK : KI σ (ringP ρ s q) (s + mor q)) (hs : s ≤ 52) (hq : q < 25) (hj : j < 25) (hqj : ρ (4 + j) = nI q) (hb4 : 4 ≤ b) (hb : b ≤ 20) (hbb : ρ 0 = nI b) (hz : ρ 2 = nI pz) (hpz : pz ≤ 1) (hp : s = 0 ∨ pz = 1) (hT : ∀ k, k < s → T k ≤ 9999 ∧ ρ (29 + k) = nI (T k)) (hm : ∀ i j, i < j → j < s → T i < T j) : ∃ M, CM mX9_count [ar 0, ai (nI 1)] σ (Ret (nI (M + 1)) σ) ∧ CM mX9_letterOf [ar 0, ai (nI M), ai (nI 0), ai (nI 0)] σ (Ret (nI j) σ) ∧ M < 1000 := by
  obtain ⟨hR, hRep, hHC, hRD, h76⟩ := hK
  have hmor : mor q ≤ 10 := by simp only [mor]; omega
  have hmq : mor q = q / 5 + 1 + (q % 5 + 1) := rfl
  have hTt : 0 < s → tm ρ (s - 1) = nI (T (s - 1)) := fun h => (hT (s - 1) (by omega)).2
  have hbp : 6 * b * pz ≤ 120 := by
    calc 6 * b * pz ≤ 120 * 1 := Nat.mul_le_mul (by omega) hpz
      _ = 120 := rfl
  have ht0 : t0L s b pz (T (s - 1)) ≤ 20000 := by
    unfold t0L
    split
    · omega
    · have := (hT (s - 1) (by omega)).1; omega
  have e0 : ringP ρ s q 0 = nI b := by rw [ringP_lo (by decide) (by decide) (by decide)]; exact hbb
  have hin : ∀ i, i < mor q → tm (ringP ρ s q) (s + i) = nI (t0L s b pz (T (s - 1)) + fo (q / 5 + 1) i * b) := fun i hi => ringP_in hbb hz hpz hTt hi
  have hf0 : fo (q / 5 + 1) 0 = 0 := by rw [fo, if_pos (by omega)]
  have h50 : kaF (tm (ringP ρ s q)) (nI b) s = 5 := by
    refine rung_0 (t0 := t0L s b pz (T (s - 1))) hb (T := T) (fun k hk => ⟨(hT k hk).1, ?_⟩) hm ht0 ?_ (fun h => ?_)
    · show ringP ρ s q (29 + k) = _
      rw [ringP_out hk]; exact (hT k hk).2
    · have h := hin 0 (by omega)
      rw [hf0, Nat.zero_mul, Nat.add_zero, Nat.add_zero] at h
      exact h
    · rcases hp with h1 | h1
      · omega
      · rw [t0L, if_neg (by omega), h1]; omega
  have hc := rung_c hb (by omega) (by omega) h50 hin
  obtain ⟨c, hcc⟩ : ∃ c, c = kaF (tm (ringP ρ s q)) (ringP ρ s q 0) := ⟨_, rfl⟩
  have hc2 : ∀ i, i < mor q → c (s + i) = cI (q / 5 + 1) i := by rw [hcc, e0]; exact hc
  obtain ⟨n1, n2, n3, n4, n5, n6⟩ := rung_n (by omega) hc2 (mor q - 1) (by omega)
  rw [show s + (mor q - 1) + 1 = s + mor q by omega] at n1 n2 n3 n4 n5 n6
  rw [show mor q - 1 + 1 = mor q by omega, if_neg (by omega)] at n4 n5 n6
  obtain ⟨r1, ⟨r2, r3⟩, r4, r5, r6, r7, r8⟩ := hRD
  rw [← hcc] at r1 r2 r3 r6
  obtain ⟨c1, c2, c3, c4, c5, c6, c7⟩ := r3 (Mc c s) (by omega)
  obtain ⟨d1, d2, d3⟩ := r1.2 (Lc c s) (by omega)
  have d4 := r6 (Lc c s) (by omega)
  have bL := (Mc_le c s).2
  have bM := (Mc_le c s).1
  have hln := ln_pos c (s + mor q) (Mc c s) (by omega)
  have hc5 : ∀ k, c k ≤ 5 := by rw [hcc]; exact kaF_le _ _
  have hfl := flL c hc5 (s + mor q) (Mc c s) (by omega)
  have bL2 := (Mc_le c (s + mor q)).2
  rw [n3] at c2 hfl
  rw [n4] at d1 d4
  rw [n5, n6] at d4
  have h44 := r7 (by omega) j q hj hq (by rw [ringP_lo (by omega) (by omega) (by omega)]; exact hqj)
  rw [val, if_pos (by omega), show 5 * (q / 5 + 1 - 1) + (mor q - (q / 5 + 1)) - 1 = q by omega, h44] at d4
  rw [n2] at r2
  refine ⟨Mc c s, co_c1 r2, lo_c0 r2 (by omega) (by omega) c3 (by omega) (by omega) c2 (by omega) d1 (by decide) d4 (nI_m1 hj), by omega⟩
