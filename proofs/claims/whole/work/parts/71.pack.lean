/-! QUESTIONS: what both sides know of the reading -/
/-- only corrections and ballot may differ -/
def FC (σ σ1 : Sg) : Prop := ∀ z, z < 72 ∨ 75 < z → σ1 z = σ z
def FQ (σ σ' : Sg) : Prop := (∀ z, z ≠ 79 → z < 84 → σ' z = σ z) ∧ σ' 79 3 = σ 79 3 ∧ σ' 79 5 = σ 79 5
theorem FC.refl (σ : Sg) : FC σ σ := fun _ _ => rfl
theorem FQ.refl (σ : Sg) : FQ σ σ := ⟨fun _ _ _ => rfl, rfl, rfl⟩
theorem FRl.fq {σ σ' : Sg} (h : FRl σ σ') : FQ σ σ' := ⟨fun z h1 h2 => h.1 z h1 (Or.inl h2), h.2 3 (by decide) (by decide), h.2 5 (by decide) (by decide)⟩
theorem FQ.trans {σ σ1 σ2 : Sg} (h : FQ σ σ1) (h2 : FQ σ1 σ2) : FQ σ σ2 := ⟨fun z q1 q2 => (h2.1 z q1 q2).trans (h.1 z q1 q2), h2.2.1.trans h.2.1, h2.2.2.trans h.2.2⟩
theorem Inv_FQ {σ σ' : Sg} (hI : Inv σ) (h : FQ σ σ') : Inv σ' := by
  obtain ⟨s, n, H, len, hR, hRep, hHC, hHR, hRD, t1, t2, t3, t4⟩ := hI
  have e := h.1
  have e80 := e 80 (by decide) (by decide)
  refine ⟨s, n, H, len, by rw [e80]; exact hR, ?_, hHC.of (fun z h1 h2 => e z (by omega) (by omega)), hHR.of h.2.1 (e _ (by decide) (by decide)), ?_, by rw [e _ (by decide) (by decide)]; exact t1, h.2.2.trans t2, t3, fun i hi => ?_⟩
  · rw [e80]; exact hRep.of_eq (e _ (by decide) (by decide)) (e _ (by decide) (by decide)) (e _ (by decide) (by decide))
  · rw [e80]; exact hRD.of (fun z h1 h2 => e z (by omega) (by omega))
  · rw [e 78 (by decide) (by decide), e 83 (by decide) (by decide)]; exact t4 i hi
theorem Inv_FC {σ σ' : Sg} (hI : Inv σ) (h : FC σ σ') : Inv σ' := by
  obtain ⟨s, n, H, len, hR, hRep, hHC, hHR, hRD, t1, t2, t3, t4⟩ := hI
  have e80 := h 80 (by decide)
  refine ⟨s, n, H, len, by rw [e80]; exact hR, ?_, hHC.of (fun z h1 h2 => h z (by omega)), hHR.of (by rw [h 79 (by decide)]) (h _ (by decide)), ?_, by rw [h _ (by decide)]; exact t1, by rw [h _ (by decide)]; exact t2, t3, fun i hi => ?_⟩
  · rw [e80]; exact hRep.of_eq (h _ (by decide)) (h _ (by decide)) (h _ (by decide))
  · rw [e80]; exact hRD.of (fun z h1 h2 => h z (by omega))
  · rw [h 78 (by decide), h 83 (by decide)]; exact t4 i hi
def CPQ (σ : Sg) (v : Int32) : SP := fun w σ1 => w = some (ai v) ∧ FC σ σ1
def RPQ (σ : Sg) (v : Int32) : SP := fun w σ1 => w = some (ai v) ∧ FQ σ σ1
theorem CPQ_of {r : MR} {as : List AV} {σ : Sg} {v : Int32} (h : CM r as σ (Ret v σ)) : CM r as σ (CPQ σ v) := by
  refine CM.mono h ?_
  rintro w σ1 ⟨rfl, rfl⟩
  exact ⟨rfl, FC.refl _⟩
theorem RPQ_of {r : MR} {as : List AV} {σ : Sg} {v : Int32} (h : CM r as σ (Ret v σ)) : CM r as σ (RPQ σ v) := by
  refine CM.mono h ?_
  rintro w σ1 ⟨rfl, rfl⟩
  exact ⟨rfl, FQ.refl _⟩
theorem op_ask {r1 r2 : MR} {As : List AV} {v : Int32} {σ : Sg} (hI : Inv σ) (h1 : CM r1 (ar 0 :: As) σ (CPQ σ v)) (h2 : ∀ σ1, FC σ σ1 → Inv σ1 → CM r2 (ar 79 :: As) σ1 (RPQ σ1 v)) : CM r1 (ar 0 :: As) σ (OP r2 As) := by
  refine CM.mono h1 ?_
  rintro w σ1 ⟨rfl, hf⟩
  have hI1 := Inv_FC hI hf
  refine ⟨v, rfl, CM.mono (h2 σ1 hf hI1) ?_⟩
  rintro w2 σ2 ⟨rfl, hf2⟩
  exact ⟨rfl, Inv_FQ hI1 hf2⟩
noncomputable def ind (p : Prop) : Nat := @ite Nat p (Classical.propDecidable p) 1 0
theorem ind_T {p : Prop} (h : p) : ind p = 1 := by
  unfold ind
  exact if_pos h
theorem ind_F {p : Prop} (h : ¬ p) : ind p = 0 := by
  unfold ind
  exact if_neg h
theorem ind_le (p : Prop) : ind p ≤ 1 := by
  by_cases h : p
  · rw [ind_T h]; exact Nat.le_refl 1
  · rw [ind_F h]; exact Nat.zero_le 1
theorem o1_pos (c : Nat → Nat) : ∀ k l, l < Lc c k → 1 ≤ o1 c k l
  | 0, l, h => absurd h (Nat.not_lt_zero l)
  | k + 1, l, h => by
    rw [Lc] at h
    rw [o1]
    by_cases h4 : 4 ≤ c k
    · rw [if_pos h4] at h ⊢
      by_cases e : l = Lc c k
      · rw [if_pos e]; exact Nat.le_refl 1
      · rw [if_neg e]; exact o1_pos c k l (by omega)
    · rw [if_neg h4] at h ⊢
      have ih := o1_pos c k l h
      split <;> omega
theorem o2_pos (c : Nat → Nat) : ∀ k l, l < Lc c k → 2 ≤ gr c k l → 1 ≤ o2 c k l
  | 0, l, h, _ => absurd h (Nat.not_lt_zero l)
  | k + 1, l, h, hg => by
    rw [Lc] at h
    rw [gr] at hg
    rw [o2]
    by_cases h4 : 4 ≤ c k
    · rw [if_pos h4] at h hg ⊢
      by_cases e : l = Lc c k
      · rw [if_pos e] at hg; omega
      · rw [if_neg e] at hg ⊢; exact o2_pos c k l (by omega) hg
    · rw [if_neg h4] at h hg ⊢
      have gp := gr_pos c k l h
      have ih := o2_pos c k l h
      by_cases h1 : (c k = 1 ∨ c k = 2) ∧ l + 1 = Lc c k ∧ gr c k l = 2
      · rw [if_pos h1]
        have := h1.1
        omega
      · rw [if_neg h1]
        by_cases h2 : c k = 3 ∧ l + 1 = Lc c k ∧ gr c k l = 1
        · rw [if_pos h2]; omega
        · rw [if_neg h2]
          refine ih ?_
          split at hg <;> omega
/-- the class's reading of s strokes: M messages, L letters -/
def CLS (σ : Sg) (s M L : Nat) (c fs f n p d g a b : Nat → Nat) : Prop :=
  (σ 45 7 = nI M ∧ σ 34 5 = nI L ∧ σ 33 8 = nI (lo c s) ∧ M ≤ L ∧ L ≤ s ∧ s ≤ 160) ∧
  (∀ m, m < M → (1 ≤ n m ∧ f m + n m ≤ L) ∧ σ 47 m = nI (fs m) ∧ σ 49 m = nI (f m) ∧ σ 51 m = nI (n m) ∧ σ 53 m = nI (p m) ∧ σ 55 m = nI (d m) ∧ σ 57 m = nI (uF (σ 42) (f m) (n m)) ∧ σ 59 m = sF (σ 42) (f m) (n m)) ∧
  (∀ l, l < L → (1 ≤ g l ∧ g l < 500 ∧ 1 ≤ a l ∧ a l < 500 ∧ (g l = 2 → 1 ≤ b l) ∧ b l < 500) ∧ σ 36 l = nI (g l) ∧ σ 38 l = nI (a l) ∧ σ 40 l = nI (b l) ∧ σ 42 l = val (σ 44) (g l) (a l) (b l))
/-- the reference's reading of the same -/
def REF (σ : Sg) (s M L : Nat) (c fs f n p d g a b : Nat → Nat) (v lc : Nat → Int32) : Prop :=
  (σ 80 3 = nI s ∧ s ≤ 160 ∧ σ 79 11 = nI M ∧ σ 79 12 = nI L ∧ M ≤ L ∧ L ≤ s) ∧
  (∀ m, m < M → σ 93 m = nI (fs m) ∧ σ 92 m = nI (f m) ∧ σ 92 (m + 1) = nI (f m + n m) ∧ f m + n m ≤ L ∧ σ 94 m = nI (p m) ∧ σ 95 m = nI (d m)) ∧
  VAL σ L g a b v ∧ (0 < L → ∀ a b, GD a b → val lc 2 a b = nI (latF (σ 80) (nI (5 * a + b - 6)) 25) ∧ latF (σ 80) (nI (5 * a + b - 6)) 25 < 25) ∧ (∀ i, i < s → σ 85 i = nI (c i) ∧ c i ≤ 5)
theorem JQ {σ : Sg} (hI : Inv σ) : ∃ (s M L : Nat) (c fs f n p d g a b : Nat → Nat), σ 80 3 = nI s ∧ s ≤ 160 ∧ CLS σ s M L c fs f n p d g a b ∧ ∀ σ1, FC σ σ1 → CM mX10_lays [ar 79] σ1 (RelV (fun σ' => REF σ' s M L c fs f n p d g a b (σ 42) (σ 44) ∧ FRl σ1 σ')) := by
  obtain ⟨s, n, H, len, hR, hRep, hHC, hHR, hRD, hT⟩ := hI
  have hs1 := hR.2.1
  have hc5 := kaF_le (tm (σ 80)) (σ 80 0)
  have bL := Mc_le (kaF (tm (σ 80)) (σ 80 0)) s
  refine ⟨s, Mc (kaF (tm (σ 80)) (σ 80 0)) s, Lc (kaF (tm (σ 80)) (σ 80 0)) s, kaF (tm (σ 80)) (σ 80 0), fs (kaF (tm (σ 80)) (σ 80 0)) s, fl (kaF (tm (σ 80)) (σ 80 0)) s, ln (kaF (tm (σ 80)) (σ 80 0)) s, pl (kaF (tm (σ 80)) (σ 80 0)) s, db (kaF (tm (σ 80)) (σ 80 0)) (dbF (tm (σ 80)) (σ 80 0) (σ 80 1)) s, gr (kaF (tm (σ 80)) (σ 80 0)) s, o1 (kaF (tm (σ 80)) (σ 80 0)) s, o2 (kaF (tm (σ 80)) (σ 80 0)) s, hR.1, hs1, ?_, ?_⟩
  · obtain ⟨q1, ⟨q2, q3⟩, q4, q5, q6, q7⟩ := hRD
    refine ⟨⟨q2, q1.1, q4, bL.1, bL.2, hs1⟩, fun m hm => ?_, fun l hl => ?_⟩
    · obtain ⟨a1, a2, a3, a4, a5, a6, a7⟩ := q3 m hm
      exact ⟨⟨ln_pos _ s m hm, flL _ hc5 s m hm⟩, a1, a2, a3, a4, a5, a6, a7⟩
    · obtain ⟨a1, a2, a3⟩ := q1.2 l hl
      have e1 := gr_le (kaF (tm (σ 80)) (σ 80 0)) s l
      have e2 := o1_le (kaF (tm (σ 80)) (σ 80 0)) hc5 s l
      have e3 := o2_le (kaF (tm (σ 80)) (σ 80 0)) hc5 s l
      have e4 := o2_pos (kaF (tm (σ 80)) (σ 80 0)) s l hl
      exact ⟨⟨gr_pos _ s l hl, by omega, o1_pos _ s l hl, by omega, fun e => e4 (by omega), by omega⟩, a1, a2, a3, q6 l hl⟩
  · intro σ1 hf
    have e80 := hf 80 (by decide)
    have hR1 : RowOK (σ1 80) s := by rw [e80]; exact hR
    have hRD1 : RDC σ1 (σ1 80) s := by rw [e80]; exact hRD.of (fun z h1 h2 => hf z (by omega))
    refine CM.mono (lays_sp (σ := σ1) hR1.1 hs1) ?_
    rintro w σ' ⟨rfl, hRR, hfl⟩
    refine ⟨rfl, ?_, hfl⟩
    have hV := VAL_of hR1 hRD1 hRR hfl
    have e80' : σ' 80 = σ 80 := (hfl.1 80 (by decide) (by decide)).trans e80
    rw [e80] at hRR hV
    rw [hf 42 (by decide)] at hV
    obtain ⟨⟨r1, r2, r3⟩, r4⟩ := hRR
    refine ⟨⟨by rw [e80']; exact hR.1, hs1, r2.1, r1.1, bL.1, bL.2⟩, fun m hm => ?_, hV, fun hL0 a b hG => ?_, fun i hi => ?_⟩
    · obtain ⟨a1, a2, a3, a4⟩ := r2.2 m hm
      refine ⟨a1, a2, ?_, flL _ hc5 s m hm, a3, a4⟩
      have e := flln _ hc5 s m hm
      by_cases h2 : m + 1 < Mc (kaF (tm (σ 80)) (σ 80 0)) s
      · rw [if_pos h2] at e
        rw [e]
        exact (r2.2 (m + 1) h2).2.1
      · rw [if_neg h2] at e
        rw [e, show m + 1 = Mc (kaF (tm (σ 80)) (σ 80 0)) s by omega]
        exact r4
    · have hR2 : RowOK (σ' 80) s := by rw [e80']; exact hR
      exact val_good hR2 (by rw [e80']; exact hRD.2.2.2.2.2.1 (by omega)) hG
    · exact ⟨(r3 i hi).2.2.1, hc5 i⟩
