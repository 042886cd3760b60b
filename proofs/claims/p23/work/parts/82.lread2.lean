/-! THE LAW READS: a stroke, all strokes -/
theorem rd_third {e k L I G A B x : Nat} {msg last tk : Int32} {z : Option AV} {σ : Sg} {Q : SP} (hB : XB σ e) (he : e + 7 ≤ 90000) (he2 : 82 ≤ e) (hk : k < 60) (hL : L < 64) (hL0 : 1 ≤ L) (hI : I = G + 256 * A + 65536 * B) (hG : G < 256) (hA : A < 250) (hB2 : B < 250) (hx : σ (e + 0) k = nI x) (hx5 : x ≤ 5) (ht : σ 80 k = tk) (hG0 : 1 ≤ G) (next : ∀ A' B' : Nat, A' = (if G = 1 then A + (if x = 2 then 2 else 1) else A) → B' = (if G = 2 then B + (if x = 2 then 2 else 1) else B) → ∀ y z, WM mL_read Q 213 [some (ar 79), some (ar 80), some (ar (e + 0)), some (ar (e + 1)), some (ar (e + 2)), some (ar (e + 3)), some (ar (e + 4)), some (ar (e + 5)), some (ar (e + 6)), some (ai (nI L)), some (ai msg), some (ai tk), some (ai (nI k)), y, z] [] (up (up (up (up σ (e + 6) (L - 1) (nI (G + 256 * A' + 65536 * B'))) (e + 2) k msg) (e + 3) k (nI (L - 1))) (e + 4) k (nI (G - 1)))) : WM mL_read Q 131 [some (ar 79), some (ar 80), some (ar (e + 0)), some (ar (e + 1)), some (ar (e + 2)), some (ar (e + 3)), some (ar (e + 4)), some (ar (e + 5)), some (ar (e + 6)), some (ai (nI L)), some (ai msg), some (ai last), some (ai (nI k)), some (ai (nI I)), z] [] σ := by
  by_cases h1 : G = 1
  · by_cases h2 : x = 2
    · refine rd_s3a1 hB he he2 hk hL hL0 hI hG hA hB2 hx hx5 ht h1 h2 ?_
      rw [show I + 2 * 2 ^ 8 = G + 256 * (A + 2) + 65536 * B by omega]
      exact next _ _ (by rw [if_pos h1, if_pos h2]) (by rw [if_neg (by omega)]) _ _
    · refine rd_s3a2 hB he he2 hk hL hL0 hI hG hA hB2 hx hx5 ht h1 h2 ?_
      rw [show I + 1 * 2 ^ 8 = G + 256 * (A + 1) + 65536 * B by omega]
      exact next _ _ (by rw [if_pos h1, if_neg h2]) (by rw [if_neg (by omega)]) _ _
  · by_cases h3 : G = 2
    · by_cases h2 : x = 2
      · refine rd_s3b1 hB he he2 hk hL hL0 hI hG hA hB2 hx hx5 ht h3 h2 ?_
        rw [show I + 2 * 2 ^ 16 = G + 256 * A + 65536 * (B + 2) by omega]
        exact next _ _ (by rw [if_neg h1]) (by rw [if_pos h3, if_pos h2]) _ _
      · refine rd_s3b2 hB he he2 hk hL hL0 hI hG hA hB2 hx hx5 ht h3 h2 ?_
        rw [show I + 1 * 2 ^ 16 = G + 256 * A + 65536 * (B + 1) by omega]
        exact next _ _ (by rw [if_neg h1]) (by rw [if_pos h3, if_neg h2]) _ _
    · refine rd_s3c hB he he2 hk hL hL0 hI hG hA hB2 hx hx5 ht (by omega) ?_
      rw [show I + 0 = G + 256 * A + 65536 * B by omega]
      exact next _ _ (by rw [if_neg h1]) (by rw [if_neg h3]) _ _
set_option maxRecDepth 20000 in
set_option maxHeartbeats 2000000 in
theorem rd_ri_old {e k : Nat} {m0 : Int32} {c : Nat → Nat} {gp : Nat → Int32} {σ : Sg} (h : RI e c gp σ k) (h4 : ¬ 4 ≤ c k) (hL0 : 1 ≤ Lc c k) : RI e c gp (up (up (up (up (up (up (up σ (e + 1) k (gp k)) (e + 0) k (nI (c k))) (e + 2) k m0) (e + 6) (Lc c k - 1) (nI (gr c (k + 1) (Lc c k - 1) + 256 * o1 c (k + 1) (Lc c k - 1) + 65536 * o2 c (k + 1) (Lc c k - 1)))) (e + 2) k (nI (Mc c (k + 1) - 1))) (e + 3) k (nI (Lc c k - 1))) (e + 4) k (nI (gr c (k + 1) (Lc c k - 1) - 1))) (k + 1) := by
  have eL : Lc c (k + 1) = Lc c k := by rw [Lc, if_neg h4]
  refine RI_new h (fun i hi => ?_) ⟨?_, ?_, ?_, fun _ => ⟨?_, ?_⟩⟩ (fun l hl hl3 => ?_) (fun l hl hl3 => ?_)
  · have hik : i ≠ k := by omega
    refine ⟨?_, ?_, ?_, ?_, ?_⟩ <;> simp [up_eq, hik]
  · simp [up_eq]
  · simp [up_eq]
  · simp [up_eq]
  · simp [up_eq, eL]
  · simp [up_eq, eL]
  · rw [eL] at hl3
    have el : l = Lc c k - 1 := by omega
    have h5 := (h.2 l (by omega)).1
    refine ⟨?_, ?_⟩
    · rw [mo, if_neg h4, ← h5]
      simp [up_eq]
    · subst el
      simp [up_eq]
  · rw [eL] at hl3
    have hne : l ≠ Lc c k - 1 := by omega
    refine ⟨?_, ?_⟩ <;> simp [up_eq, hne]

set_option maxRecDepth 20000 in
set_option maxHeartbeats 2000000 in
theorem rd_ri_new {e k : Nat} {m0 : Int32} {c : Nat → Nat} {gp : Nat → Int32} {σ : Sg} (h : RI e c gp σ k) (h4 : 4 ≤ c k) : RI e c gp (up (up (up (up (up (up (up (up (up σ (e + 1) k (gp k)) (e + 0) k (nI (c k))) (e + 2) k m0) (e + 5) (Lc c k) (nI (Mc c (k + 1) - 1))) (e + 6) (Lc c k) (nI 0)) (e + 6) (Lc c k + 1 - 1) (nI (gr c (k + 1) (Lc c k + 1 - 1) + 256 * o1 c (k + 1) (Lc c k + 1 - 1) + 65536 * o2 c (k + 1) (Lc c k + 1 - 1)))) (e + 2) k (nI (Mc c (k + 1) - 1))) (e + 3) k (nI (Lc c k + 1 - 1))) (e + 4) k (nI (gr c (k + 1) (Lc c k + 1 - 1) - 1))) (k + 1) := by
  have eL : Lc c (k + 1) = Lc c k + 1 := by rw [Lc, if_pos h4]
  rw [Nat.add_sub_cancel]
  refine RI_new h (fun i hi => ?_) ⟨?_, ?_, ?_, fun _ => ⟨?_, ?_⟩⟩ (fun l hl hl3 => ?_) (fun l hl hl3 => ?_)
  · have hik : i ≠ k := by omega
    refine ⟨?_, ?_, ?_, ?_, ?_⟩ <;> simp [up_eq, hik]
  · simp [up_eq]
  · simp [up_eq]
  · simp [up_eq]
  · simp [up_eq, eL]
  · simp [up_eq, eL]
  · rw [eL] at hl3
    have el : l = Lc c k := by omega
    subst el
    refine ⟨?_, ?_⟩
    · rw [mo, if_pos h4, if_pos rfl]
      simp [up_eq]
    · simp [up_eq]
  · rw [eL] at hl3
    have hne : l ≠ Lc c k := by omega
    refine ⟨?_, ?_⟩ <;> simp [up_eq, hne]

theorem cnt_a {c : Nat → Nat} {k l : Nat} (hx : c k = 1 ∨ c k = 2) (hl : l + 1 = Lc c k) : gr c (k + 1) l = gr c k l ∧ o1 c (k + 1) l = (if gr c k l = 1 then o1 c k l + (if c k = 2 then 2 else 1) else o1 c k l) ∧ o2 c (k + 1) l = (if gr c k l = 2 then o2 c k l + (if c k = 2 then 2 else 1) else o2 c k l) := by
  rcases hx with hx | hx <;> simp [gr, o1, o2, hx, hl]
theorem cnt_b {c : Nat → Nat} {k l : Nat} (hx : c k = 3) (hl : l + 1 = Lc c k) (hg : 1 ≤ gr c k l) : gr c (k + 1) l = gr c k l + 1 ∧ o1 c (k + 1) l = (if gr c k l + 1 = 1 then o1 c k l + (if c k = 2 then 2 else 1) else o1 c k l) ∧ o2 c (k + 1) l = (if gr c k l + 1 = 2 then o2 c k l + (if c k = 2 then 2 else 1) else o2 c k l) := by
  have e1 : ¬ gr c k l + 1 = 1 := by omega
  have e2 : (gr c k l + 1 = 2) = (gr c k l = 1) := by simp
  simp [gr, o1, o2, hx, hl]
  intro q
  omega
theorem cnt_c {c : Nat → Nat} {k : Nat} (hx : 4 ≤ c k) : gr c (k + 1) (Lc c k) = 1 ∧ o1 c (k + 1) (Lc c k) = 1 ∧ o2 c (k + 1) (Lc c k) = 0 := by
  simp [gr, o1, o2, hx]
theorem RI_lt {e k l : Nat} {c : Nat → Nat} {gp : Nat → Int32} {σ : Sg} (h : RI e c gp σ k) (hl : l < Lc c k) : σ (e + 6) l = nI (gr c k l + 256 * o1 c k l + 65536 * o2 c k l) := (h.2 l hl).2
def FE (e : Nat) (σ0 σ : Sg) : Prop := ∀ z, z < e ∨ e + 7 ≤ z → σ z = σ0 z
theorem FE.up {e c k : Nat} {x : Int32} {σ0 σ : Sg} (h : FE e σ0 σ) (h1 : e ≤ c) (h2 : c < e + 7) : FE e σ0 (up σ c k x) := fun z hz => by rw [up_ne (by omega)]; exact h z hz
set_option maxRecDepth 20000 in
set_option maxHeartbeats 2000000 in
theorem rd_ca {e s k : Nat} {c : Nat → Nat} {gp la : Nat → Int32} {σ0 σ : Sg} {Q : SP} {y z : Option AV} (hB : XB σ e) (he : e + 7 ≤ 90000) (he2 : 82 ≤ e) (hs1 : s ≤ 60) (hfr : FE e σ0 σ) (hR : RI e c gp σ k) (hk : k < s) (hc5 : ∀ j, c j ≤ 5) (h80 : σ 80 k = σ0 80 k) (hL0 : 1 ≤ Lc c k) (hx : c k = 1 ∨ c k = 2) (K : ∀ σ', FE e σ0 σ' → RI e c gp σ' (k + 1) → ∀ y z, WM mL_read Q 213 [some (ar 79), some (ar 80), some (ar (e + 0)), some (ar (e + 1)), some (ar (e + 2)), some (ar (e + 3)), some (ar (e + 4)), some (ar (e + 5)), some (ar (e + 6)), some (ai (nI (Lc c (k + 1)))), some (ai (nI (Mc c (k + 1) - 1))), some (ai (la (k + 1))), some (ai (nI k)), y, z] [] σ') (hla : la (k + 1) = σ0 80 k) : WM mL_read Q 66 [some (ar 79), some (ar 80), some (ar (e + 0)), some (ar (e + 1)), some (ar (e + 2)), some (ar (e + 3)), some (ar (e + 4)), some (ar (e + 5)), some (ar (e + 6)), some (ai (nI (Lc c k))), some (ai (nI (Mc c k - 1))), some (ai (la k)), some (ai (nI k)), y, z] [] (up (up (up σ (e + 1) k (gp k)) (e + 0) k (nI (c k))) (e + 2) k (nI (Mc c k - 1))) := by
  obtain ⟨σ1, hσ1⟩ : ∃ z, z = (up (up (up σ (e + 1) k (gp k)) (e + 0) k (nI (c k))) (e + 2) k (nI (Mc c k - 1))) := ⟨_, rfl⟩
  have hB1 : XB σ1 e := by rw [hσ1]; exact (XB.up (by omega) (XB.up (by omega) (XB.up (by omega) hB)))
  have bL := (Mc_le c k).2
  have bM := (Mc_le c k).1
  have hx1 : σ1 (e + 0) k = nI (c k) := by rw [hσ1]; simp [up_eq]
  have h801 : σ1 80 k = σ0 80 k := by rw [hσ1, up_ne (by omega), up_ne (by omega), up_ne (by omega)]; exact h80
  obtain ⟨l, hl⟩ : ∃ l, l + 1 = Lc c k := ⟨Lc c k - 1, by omega⟩
  have eL : Lc c (k + 1) = Lc c k := by rw [Lc, if_neg (by omega)]
  have eM : Mc c (k + 1) = Mc c k := by rw [Mc, if_neg (by omega)]
  have b1 := o1_le c hc5 k l
  have b2 := o2_le c hc5 k l
  have b3 := gr_le c k l
  have g1 := gr_pos c k l (by omega)
  have h6 : σ1 (e + 6) (Lc c k - 1) = nI (gr c k l + 256 * o1 c k l + 65536 * o2 c k l) := by
    rw [show Lc c k - 1 = l by omega, hσ1, ← RI_lt hR (l := l) (by omega)]; simp [up_eq]
  rw [← hσ1]
  refine rd_s2a hB1 he he2 (by omega) (by omega) (by omega) (by omega) hx1 h6 hL0 (by omega) (by omega) ?_
  obtain ⟨n1, n2, n3⟩ := cnt_a hx hl
  refine rd_third (G := gr c k l) (A := o1 c k l) (B := o2 c k l) hB1 he he2 (by omega) (by omega) hL0 (by omega) (by omega) (by omega) (by omega) hx1 (hc5 k) h801 (by omega) (fun A' B' hA' hB' y z => ?_)
  rw [← n2] at hA'
  rw [← n3] at hB'
  subst hA'
  subst hB'
  have K2 := K _ (FE.up (FE.up (FE.up (FE.up (FE.up (FE.up (FE.up hfr (by omega) (by omega)) (by omega) (by omega)) (by omega) (by omega)) (by omega) (by omega)) (by omega) (by omega)) (by omega) (by omega)) (by omega) (by omega)) (rd_ri_old (m0 := (nI (Mc c k - 1))) hR (by omega) hL0) y z
  rw [hla, eL, show Lc c k - 1 = l by omega, ← hσ1, eM, n1] at K2
  rw [show Lc c k - 1 = l by omega]
  exact K2
set_option maxRecDepth 20000 in
set_option maxHeartbeats 2000000 in
theorem rd_cb {e s k : Nat} {c : Nat → Nat} {gp la : Nat → Int32} {σ0 σ : Sg} {Q : SP} {y z : Option AV} (hB : XB σ e) (he : e + 7 ≤ 90000) (he2 : 82 ≤ e) (hs1 : s ≤ 60) (hfr : FE e σ0 σ) (hR : RI e c gp σ k) (hk : k < s) (hc5 : ∀ j, c j ≤ 5) (h80 : σ 80 k = σ0 80 k) (hL0 : 1 ≤ Lc c k) (hx : c k = 3) (K : ∀ σ', FE e σ0 σ' → RI e c gp σ' (k + 1) → ∀ y z, WM mL_read Q 213 [some (ar 79), some (ar 80), some (ar (e + 0)), some (ar (e + 1)), some (ar (e + 2)), some (ar (e + 3)), some (ar (e + 4)), some (ar (e + 5)), some (ar (e + 6)), some (ai (nI (Lc c (k + 1)))), some (ai (nI (Mc c (k + 1) - 1))), some (ai (la (k + 1))), some (ai (nI k)), y, z] [] σ') (hla : la (k + 1) = σ0 80 k) : WM mL_read Q 66 [some (ar 79), some (ar 80), some (ar (e + 0)), some (ar (e + 1)), some (ar (e + 2)), some (ar (e + 3)), some (ar (e + 4)), some (ar (e + 5)), some (ar (e + 6)), some (ai (nI (Lc c k))), some (ai (nI (Mc c k - 1))), some (ai (la k)), some (ai (nI k)), y, z] [] (up (up (up σ (e + 1) k (gp k)) (e + 0) k (nI (c k))) (e + 2) k (nI (Mc c k - 1))) := by
  obtain ⟨σ1, hσ1⟩ : ∃ z, z = (up (up (up σ (e + 1) k (gp k)) (e + 0) k (nI (c k))) (e + 2) k (nI (Mc c k - 1))) := ⟨_, rfl⟩
  have hB1 : XB σ1 e := by rw [hσ1]; exact (XB.up (by omega) (XB.up (by omega) (XB.up (by omega) hB)))
  have bL := (Mc_le c k).2
  have bM := (Mc_le c k).1
  have hx1 : σ1 (e + 0) k = nI (c k) := by rw [hσ1]; simp [up_eq]
  have h801 : σ1 80 k = σ0 80 k := by rw [hσ1, up_ne (by omega), up_ne (by omega), up_ne (by omega)]; exact h80
  obtain ⟨l, hl⟩ : ∃ l, l + 1 = Lc c k := ⟨Lc c k - 1, by omega⟩
  have eL : Lc c (k + 1) = Lc c k := by rw [Lc, if_neg (by omega)]
  have eM : Mc c (k + 1) = Mc c k := by rw [Mc, if_neg (by omega)]
  have b1 := o1_le c hc5 k l
  have b2 := o2_le c hc5 k l
  have b3 := gr_le c k l
  have g1 := gr_pos c k l (by omega)
  have h6 : σ1 (e + 6) (Lc c k - 1) = nI (gr c k l + 256 * o1 c k l + 65536 * o2 c k l) := by
    rw [show Lc c k - 1 = l by omega, hσ1, ← RI_lt hR (l := l) (by omega)]; simp [up_eq]
  rw [← hσ1]
  refine rd_s2b hB1 he he2 (by omega) (by omega) (by omega) (by omega) hx1 h6 hL0 hx ?_
  obtain ⟨n1, n2, n3⟩ := cnt_b hx hl g1
  refine rd_third (G := gr c k l + 1) (A := o1 c k l) (B := o2 c k l) hB1 he he2 (by omega) (by omega) hL0 (by omega) (by omega) (by omega) (by omega) hx1 (hc5 k) h801 (by omega) (fun A' B' hA' hB' y z => ?_)
  rw [← n2] at hA'
  rw [← n3] at hB'
  subst hA'
  subst hB'
  have K2 := K _ (FE.up (FE.up (FE.up (FE.up (FE.up (FE.up (FE.up hfr (by omega) (by omega)) (by omega) (by omega)) (by omega) (by omega)) (by omega) (by omega)) (by omega) (by omega)) (by omega) (by omega)) (by omega) (by omega)) (rd_ri_old (m0 := (nI (Mc c k - 1))) hR (by omega) hL0) y z
  rw [hla, eL, show Lc c k - 1 = l by omega, ← hσ1, eM, n1] at K2
  rw [show Lc c k - 1 = l by omega]
  exact K2
set_option maxRecDepth 20000 in
set_option maxHeartbeats 2000000 in
theorem rd_cc {e s k : Nat} {c : Nat → Nat} {gp la : Nat → Int32} {σ0 σ : Sg} {Q : SP} {y z : Option AV} (hB : XB σ e) (he : e + 7 ≤ 90000) (he2 : 82 ≤ e) (hs1 : s ≤ 60) (hfr : FE e σ0 σ) (hR : RI e c gp σ k) (hk : k < s) (hc5 : ∀ j, c j ≤ 5) (h80 : σ 80 k = σ0 80 k) (hx : c k = 4) (K : ∀ σ', FE e σ0 σ' → RI e c gp σ' (k + 1) → ∀ y z, WM mL_read Q 213 [some (ar 79), some (ar 80), some (ar (e + 0)), some (ar (e + 1)), some (ar (e + 2)), some (ar (e + 3)), some (ar (e + 4)), some (ar (e + 5)), some (ar (e + 6)), some (ai (nI (Lc c (k + 1)))), some (ai (nI (Mc c (k + 1) - 1))), some (ai (la (k + 1))), some (ai (nI k)), y, z] [] σ') (hla : la (k + 1) = σ0 80 k) : WM mL_read Q 66 [some (ar 79), some (ar 80), some (ar (e + 0)), some (ar (e + 1)), some (ar (e + 2)), some (ar (e + 3)), some (ar (e + 4)), some (ar (e + 5)), some (ar (e + 6)), some (ai (nI (Lc c k))), some (ai (nI (Mc c k - 1))), some (ai (la k)), some (ai (nI k)), y, z] [] (up (up (up σ (e + 1) k (gp k)) (e + 0) k (nI (c k))) (e + 2) k (nI (Mc c k - 1))) := by
  obtain ⟨σ1, hσ1⟩ : ∃ z, z = (up (up (up σ (e + 1) k (gp k)) (e + 0) k (nI (c k))) (e + 2) k (nI (Mc c k - 1))) := ⟨_, rfl⟩
  have hB1 : XB σ1 e := by rw [hσ1]; exact (XB.up (by omega) (XB.up (by omega) (XB.up (by omega) hB)))
  have bL := (Mc_le c k).2
  have bM := (Mc_le c k).1
  have hx1 : σ1 (e + 0) k = nI (c k) := by rw [hσ1]; simp [up_eq]
  have h801 : σ1 80 k = σ0 80 k := by rw [hσ1, up_ne (by omega), up_ne (by omega), up_ne (by omega)]; exact h80
  have eL : Lc c (k + 1) = Lc c k + 1 := by rw [Lc, if_pos (by omega)]
  have eM : Mc c (k + 1) - 1 = Mc c k - 1 + 0 := by rw [Mc, if_neg (by omega)]; omega
  rw [← hσ1]
  refine rd_s2c hB1 he he2 (by omega) (by omega) (by omega) hx1 hx ?_
  rw [← eM]
  obtain ⟨σ2, hσ2⟩ : ∃ z, z = (up (up σ1 (e + 5) (Lc c k) (nI (Mc c (k + 1) - 1))) (e + 6) (Lc c k) (nI 0)) := ⟨_, rfl⟩
  have hB2 : XB σ2 e := by rw [hσ2]; exact XB.up (by omega) (XB.up (by omega) hB1)
  have hx2 : σ2 (e + 0) k = nI (c k) := by rw [hσ2, up_ne (by omega), up_ne (by omega)]; exact hx1
  have h802 : σ2 80 k = σ0 80 k := by rw [hσ2, up_ne (by omega), up_ne (by omega)]; exact h801
  rw [← hσ2]
  obtain ⟨n1, n2, n3⟩ := cnt_c (c := c) (k := k) (by omega)
  refine rd_third (G := 1) (A := 0) (B := 0) hB2 he he2 (by omega) (by omega) (by omega) (by omega) (by omega) (by omega) (by omega) hx2 (hc5 k) h802 (by omega) (fun A' B' hA' hB' y z => ?_)
  rw [if_pos rfl, if_neg (by omega)] at hA'
  rw [if_neg (by omega)] at hB'
  subst hA'
  subst hB'
  have K2 := K _ (FE.up (FE.up (FE.up (FE.up (FE.up (FE.up (FE.up (FE.up (FE.up hfr (by omega) (by omega)) (by omega) (by omega)) (by omega) (by omega)) (by omega) (by omega)) (by omega) (by omega)) (by omega) (by omega)) (by omega) (by omega)) (by omega) (by omega)) (by omega) (by omega)) (rd_ri_new (m0 := (nI (Mc c k - 1))) hR (by omega)) y z
  rw [Nat.add_sub_cancel, n1, n2, n3, ← hσ1, ← hσ2, hla, eL] at K2
  rw [Nat.add_sub_cancel]
  exact K2
set_option maxRecDepth 20000 in
set_option maxHeartbeats 2000000 in
theorem rd_cd {e s k : Nat} {c : Nat → Nat} {gp la : Nat → Int32} {σ0 σ : Sg} {Q : SP} {y z : Option AV} (hB : XB σ e) (he : e + 7 ≤ 90000) (he2 : 82 ≤ e) (hs1 : s ≤ 60) (hfr : FE e σ0 σ) (hR : RI e c gp σ k) (hk : k < s) (hc5 : ∀ j, c j ≤ 5) (h80 : σ 80 k = σ0 80 k) (hx : c k = 5) (hM0 : 1 ≤ Mc c k) (K : ∀ σ', FE e σ0 σ' → RI e c gp σ' (k + 1) → ∀ y z, WM mL_read Q 213 [some (ar 79), some (ar 80), some (ar (e + 0)), some (ar (e + 1)), some (ar (e + 2)), some (ar (e + 3)), some (ar (e + 4)), some (ar (e + 5)), some (ar (e + 6)), some (ai (nI (Lc c (k + 1)))), some (ai (nI (Mc c (k + 1) - 1))), some (ai (la (k + 1))), some (ai (nI k)), y, z] [] σ') (hla : la (k + 1) = σ0 80 k) : WM mL_read Q 66 [some (ar 79), some (ar 80), some (ar (e + 0)), some (ar (e + 1)), some (ar (e + 2)), some (ar (e + 3)), some (ar (e + 4)), some (ar (e + 5)), some (ar (e + 6)), some (ai (nI (Lc c k))), some (ai (nI (Mc c k - 1))), some (ai (la k)), some (ai (nI k)), y, z] [] (up (up (up σ (e + 1) k (gp k)) (e + 0) k (nI (c k))) (e + 2) k (nI (Mc c k - 1))) := by
  obtain ⟨σ1, hσ1⟩ : ∃ z, z = (up (up (up σ (e + 1) k (gp k)) (e + 0) k (nI (c k))) (e + 2) k (nI (Mc c k - 1))) := ⟨_, rfl⟩
  have hB1 : XB σ1 e := by rw [hσ1]; exact (XB.up (by omega) (XB.up (by omega) (XB.up (by omega) hB)))
  have bL := (Mc_le c k).2
  have bM := (Mc_le c k).1
  have hx1 : σ1 (e + 0) k = nI (c k) := by rw [hσ1]; simp [up_eq]
  have h801 : σ1 80 k = σ0 80 k := by rw [hσ1, up_ne (by omega), up_ne (by omega), up_ne (by omega)]; exact h80
  have eL : Lc c (k + 1) = Lc c k + 1 := by rw [Lc, if_pos (by omega)]
  have eM : Mc c (k + 1) - 1 = Mc c k - 1 + 1 := by rw [Mc, if_pos hx]; omega
  rw [← hσ1]
  refine rd_s2d hB1 he he2 (by omega) (by omega) (by omega) hx1 hx ?_
  rw [← eM]
  obtain ⟨σ2, hσ2⟩ : ∃ z, z = (up (up σ1 (e + 5) (Lc c k) (nI (Mc c (k + 1) - 1))) (e + 6) (Lc c k) (nI 0)) := ⟨_, rfl⟩
  have hB2 : XB σ2 e := by rw [hσ2]; exact XB.up (by omega) (XB.up (by omega) hB1)
  have hx2 : σ2 (e + 0) k = nI (c k) := by rw [hσ2, up_ne (by omega), up_ne (by omega)]; exact hx1
  have h802 : σ2 80 k = σ0 80 k := by rw [hσ2, up_ne (by omega), up_ne (by omega)]; exact h801
  rw [← hσ2]
  obtain ⟨n1, n2, n3⟩ := cnt_c (c := c) (k := k) (by omega)
  refine rd_third (G := 1) (A := 0) (B := 0) hB2 he he2 (by omega) (by omega) (by omega) (by omega) (by omega) (by omega) (by omega) hx2 (hc5 k) h802 (by omega) (fun A' B' hA' hB' y z => ?_)
  rw [if_pos rfl, if_neg (by omega)] at hA'
  rw [if_neg (by omega)] at hB'
  subst hA'
  subst hB'
  have K2 := K _ (FE.up (FE.up (FE.up (FE.up (FE.up (FE.up (FE.up (FE.up (FE.up hfr (by omega) (by omega)) (by omega) (by omega)) (by omega) (by omega)) (by omega) (by omega)) (by omega) (by omega)) (by omega) (by omega)) (by omega) (by omega)) (by omega) (by omega)) (by omega) (by omega)) (rd_ri_new (m0 := (nI (Mc c k - 1))) hR (by omega)) y z
  rw [Nat.add_sub_cancel, n1, n2, n3, ← hσ1, ← hσ2, hla, eL] at K2
  rw [Nat.add_sub_cancel]
  exact K2
set_option maxRecDepth 20000 in
set_option maxHeartbeats 2000000 in
theorem rd_cz {e s k : Nat} {c : Nat → Nat} {gp la : Nat → Int32} {σ0 σ : Sg} {Q : SP} {y z : Option AV} (hB : XB σ e) (he : e + 7 ≤ 90000) (he2 : 82 ≤ e) (hs1 : s ≤ 60) (hfr : FE e σ0 σ) (hR : RI e c gp σ k) (hk : k < s) (hc5 : ∀ j, c j ≤ 5) (h80 : σ 80 k = σ0 80 k) (hx : c k = 5) (hk0 : k = 0) (K : ∀ σ', FE e σ0 σ' → RI e c gp σ' (k + 1) → ∀ y z, WM mL_read Q 213 [some (ar 79), some (ar 80), some (ar (e + 0)), some (ar (e + 1)), some (ar (e + 2)), some (ar (e + 3)), some (ar (e + 4)), some (ar (e + 5)), some (ar (e + 6)), some (ai (nI (Lc c (k + 1)))), some (ai (nI (Mc c (k + 1) - 1))), some (ai (la (k + 1))), some (ai (nI k)), y, z] [] σ') (hla : la (k + 1) = σ0 80 k) : WM mL_read Q 66 [some (ar 79), some (ar 80), some (ar (e + 0)), some (ar (e + 1)), some (ar (e + 2)), some (ar (e + 3)), some (ar (e + 4)), some (ar (e + 5)), some (ar (e + 6)), some (ai (nI (Lc c k))), some (ai (-1)), some (ai (la k)), some (ai (nI k)), y, z] [] (up (up (up σ (e + 1) k (gp k)) (e + 0) k (nI (c k))) (e + 2) k (-1)) := by
  obtain ⟨σ1, hσ1⟩ : ∃ z, z = (up (up (up σ (e + 1) k (gp k)) (e + 0) k (nI (c k))) (e + 2) k (-1)) := ⟨_, rfl⟩
  have hB1 : XB σ1 e := by rw [hσ1]; exact (XB.up (by omega) (XB.up (by omega) (XB.up (by omega) hB)))
  have bL := (Mc_le c k).2
  have bM := (Mc_le c k).1
  have hx1 : σ1 (e + 0) k = nI (c k) := by rw [hσ1]; simp [up_eq]
  have h801 : σ1 80 k = σ0 80 k := by rw [hσ1, up_ne (by omega), up_ne (by omega), up_ne (by omega)]; exact h80
  have eL : Lc c (k + 1) = Lc c k + 1 := by rw [Lc, if_pos (by omega)]
  have eM : Mc c (k + 1) - 1 = 0 := by rw [Mc, if_pos hx, hk0]; rfl
  rw [← hσ1]
  refine rd_s2z hB1 he he2 (by omega) (by omega) hx1 hx ?_
  skip
  obtain ⟨σ2, hσ2⟩ : ∃ z, z = (up (up σ1 (e + 5) (Lc c k) (nI (0))) (e + 6) (Lc c k) (nI 0)) := ⟨_, rfl⟩
  have hB2 : XB σ2 e := by rw [hσ2]; exact XB.up (by omega) (XB.up (by omega) hB1)
  have hx2 : σ2 (e + 0) k = nI (c k) := by rw [hσ2, up_ne (by omega), up_ne (by omega)]; exact hx1
  have h802 : σ2 80 k = σ0 80 k := by rw [hσ2, up_ne (by omega), up_ne (by omega)]; exact h801
  rw [← hσ2]
  obtain ⟨n1, n2, n3⟩ := cnt_c (c := c) (k := k) (by omega)
  refine rd_third (G := 1) (A := 0) (B := 0) hB2 he he2 (by omega) (by omega) (by omega) (by omega) (by omega) (by omega) (by omega) hx2 (hc5 k) h802 (by omega) (fun A' B' hA' hB' y z => ?_)
  rw [if_pos rfl, if_neg (by omega)] at hA'
  rw [if_neg (by omega)] at hB'
  subst hA'
  subst hB'
  have K2 := K _ (FE.up (FE.up (FE.up (FE.up (FE.up (FE.up (FE.up (FE.up (FE.up hfr (by omega) (by omega)) (by omega) (by omega)) (by omega) (by omega)) (by omega) (by omega)) (by omega) (by omega)) (by omega) (by omega)) (by omega) (by omega)) (by omega) (by omega)) (by omega) (by omega)) (rd_ri_new (m0 := (-1)) hR (by omega)) y z
  rw [Nat.add_sub_cancel, n1, n2, n3, ← hσ1, eM, ← hσ2, hla, eL] at K2
  rw [Nat.add_sub_cancel]
  exact K2
set_option maxRecDepth 20000 in
set_option maxHeartbeats 2000000 in
theorem rd_loop {e s : Nat} {bt : Int32} {c : Nat → Nat} {gp la : Nat → Int32} {σ0 : Sg} {Q : SP} (hB0 : XB σ0 e) (he : e + 7 ≤ 90000) (hs : σ0 79 3 = nI s) (hb : σ0 79 0 = bt) (hs1 : s ≤ 60) (hc0 : c 0 = 5) (hc5 : ∀ j, c j ≤ 5) (hck : ∀ k, 0 < k → cs bt (gp k) = c k) (hgp : ∀ k, k < s → σ0 80 k - la k = gp k) (hla1 : ∀ k, 0 < k → c k = 0 → la (k + 1) = la k) (hla2 : ∀ k, k < s → c k ≠ 0 → la (k + 1) = σ0 80 k) (next : ∀ σ, RI e c gp σ s → FE e σ0 σ → Q (some (ai (nI (Lc c s)))) σ) : ∀ m k, k + m = s → 1 ≤ k → ∀ σ, FE e σ0 σ → RI e c gp σ k → ∀ y z, WM mL_read Q 12 [some (ar 79), some (ar 80), some (ar (e + 0)), some (ar (e + 1)), some (ar (e + 2)), some (ar (e + 3)), some (ar (e + 4)), some (ar (e + 5)), some (ar (e + 6)), some (ai (nI (Lc c k))), some (ai (nI (Mc c k - 1))), some (ai (la k)), some (ai (nI k)), y, z] [] σ := by
  have he2 : 82 ≤ e := hB0.1
  intro m
  induction m with
  | zero =>
    intro k hk hk1 σ hfr hR y z
    obtain rfl : k = s := by omega
    have hs' : σ 79 3 = nI k := by rw [hfr 79 (by omega)]; exact hs
    refine g_iload (p0 := 14) dL_read_12 rfl rfl ?_
    refine g_aload_n (p0 := 15) (i := 0) dL_read_14 rfl rfl rfl ?_
    refine g_iconst (p0 := 16) (v := nI 3) dL_read_15 rfl rfl ?_
    first | ((with_reducible refine isN1 ?_); refine g_aldN (p0 := 17) dL_read_16 (by first | rfl | assumption | exact RW.s (by assumption) | exact TW.s (by assumption)) (by first | decide | assumption) (by omega) (by first | assumption | ((repeat (first | exact up_hit | (apply up_nv; omega) | (apply up_mv; omega))) <;> first | assumption | rfl)) rfl ?_) | refine g_ald (p0 := 17) dL_read_16 (by first | rfl | assumption | exact RW.s (by assumption) | exact TW.s (by assumption)) (by assumption) (by first | assumption | ((repeat (first | exact up_hit | (apply up_nv; omega) | (apply up_mv; omega))) <;> first | assumption | rfl)) rfl ?_
    first | ((with_reducible refine isN2 ?_); refine g_icmpN_ge (tgt := 219) (p1 := 20) dL_read_17 rfl (by omega) (by omega) rfl (fun c_17 => ?_) (fun c_17 => by exfalso; first | omega | contradiction | exact absurd (by assumption) c_17 | (simp_all; done))) | refine g_icmp_ge (tgt := 219) (p1 := 20) dL_read_17 rfl rfl (fun c_17 => ?_) (fun c_17 => by exfalso; first | omega | contradiction | exact absurd (by assumption) c_17 | (simp_all; done))
    refine g_iload (p0 := 221) dL_read_219 rfl rfl ?_
    refine g_ireturn dL_read_221 rfl rfl (?_)
    exact next σ hR hfr
  | succ m ih =>
    intro k hk hk1 σ hfr hR y z
    have hs' : σ 79 3 = nI s := by rw [hfr 79 (by omega)]; exact hs
    have hb' : σ 79 0 = bt := by rw [hfr 79 (by omega)]; exact hb
    have h80 : σ 80 k = σ0 80 k := by rw [hfr 80 (by omega)]
    have hB : XB σ e := hB0.of (hfr 99999 (by omega))
    have K : ∀ σ', FE e σ0 σ' → RI e c gp σ' (k + 1) → ∀ y z, WM mL_read Q 213 [some (ar 79), some (ar 80), some (ar (e + 0)), some (ar (e + 1)), some (ar (e + 2)), some (ar (e + 3)), some (ar (e + 4)), some (ar (e + 5)), some (ar (e + 6)), some (ai (nI (Lc c (k + 1)))), some (ai (nI (Mc c (k + 1) - 1))), some (ai (la (k + 1))), some (ai (nI k)), y, z] [] σ' := by
      intro σ' hfr' hR' y z
      first | refine g_iinc1 (p0 := 216) (ls2 := [_, _, _, _, _, _, _, _, _, _, _, _, _, _, _]) dL_read_213 rfl rfl rfl ?_ | refine g_iinc (p0 := 216) (ls2 := [_, _, _, _, _, _, _, _, _, _, _, _, _, _, _]) dL_read_213 rfl rfl rfl rfl ?_
      refine g_goto (tgt := 12) dL_read_216 rfl ?_
      exact ih (k + 1) (by omega) (by omega) σ' hfr' hR' y z
    have hL0 : 1 ≤ Lc c k := by
      obtain ⟨j, rfl⟩ : ∃ j, k = j + 1 := ⟨k - 1, by omega⟩
      exact Lc_pos hc0 j
    have hM0 : 1 ≤ Mc c k := by
      obtain ⟨j, rfl⟩ : ∃ j, k = j + 1 := ⟨k - 1, by omega⟩
      exact Mc_pos hc0 j
    have bL := (Mc_le c k).2
    refine rd_s1 (x := c k) (g := gp k) hB he he2 hs' hb' (by omega) hs1 (by omega) (by rw [h80]; exact hgp k (by omega)) (hck k (by omega)) (fun h0 => ?_) (fun h0 => ?_)
    · have eL : Lc c (k + 1) = Lc c k := by rw [Lc, if_neg (by omega)]
      have eM : Mc c (k + 1) = Mc c k := by rw [Mc, if_neg (by omega)]
      have K2 := K _ (FE.up (FE.up (FE.up hfr (by omega) (by omega)) (by omega) (by omega)) (by omega) (by omega)) (RI_new (σ' := (up (up (up σ (e + 1) k (gp k)) (e + 0) k (nI (c k))) (e + 2) k (nI (Mc c k - 1)))) hR (fun i hi => ?_) ⟨?_, ?_, ?_, fun h => absurd h0 h⟩ (fun l hl hl3 => ?_) (fun l hl hl3 => ?_)) y z
      · rw [hla1 k (by omega) h0, eL, eM] at K2
        exact K2
      · have hik : i ≠ k := by omega
        refine ⟨?_, ?_, ?_, ?_, ?_⟩ <;> simp [up_eq, hik]
      · simp [up_eq]
      · simp [up_eq]
      · simp [up_eq, eM]
      · have h4 : ¬ 4 ≤ c k := by omega
        rw [eL] at hl
        obtain ⟨a1, a2⟩ := hR.2 l hl
        have e0 : ¬ c k = 1 := by omega
        have e1 : ¬ c k = 2 := by omega
        have e2 : ¬ c k = 3 := by omega
        have g1 : gr c (k + 1) l = gr c k l := by rw [gr, if_neg h4, if_neg (fun q => e2 q.1)]
        have g2 : o1 c (k + 1) l = o1 c k l := by rw [o1, if_neg h4, if_neg (fun q => by omega)]
        have g3 : o2 c (k + 1) l = o2 c k l := by rw [o2, if_neg h4, if_neg (fun q => by omega), if_neg (fun q => e2 q.1)]
        have g4 : mo c (k + 1) l = mo c k l := by rw [mo, if_neg h4]
        rw [g1, g2, g3, g4, ← a1, ← a2]
        refine ⟨?_, ?_⟩ <;> simp [up_eq]
      · refine ⟨?_, ?_⟩ <;> simp [up_eq]
    · have hla := hla2 k (by omega) (by omega)
      by_cases h5 : c k = 5
      · exact rd_cd hB he he2 hs1 hfr hR (by omega) hc5 h80 h5 hM0 K hla
      · by_cases h4 : c k = 4
        · exact rd_cc hB he he2 hs1 hfr hR (by omega) hc5 h80 h4 K hla
        · by_cases h3 : c k = 3
          · exact rd_cb hB he he2 hs1 hfr hR (by omega) hc5 h80 hL0 h3 K hla
          · have := hc5 k
            exact rd_ca hB he he2 hs1 hfr hR (by omega) hc5 h80 hL0 (by omega) K hla
theorem RI_0 {e : Nat} {c : Nat → Nat} {gp : Nat → Int32} {σ : Sg} : RI e c gp σ 0 := ⟨fun i hi => absurd hi (Nat.not_lt_zero i), fun l hl => absurd hl (Nat.not_lt_zero l)⟩
set_option maxRecDepth 20000 in
set_option maxHeartbeats 2000000 in
theorem rd_all {e s : Nat} {bt : Int32} {c : Nat → Nat} {gp la : Nat → Int32} {σ0 : Sg} {Q : SP} (hB0 : XB σ0 e) (he : e + 7 ≤ 90000) (hs : σ0 79 3 = nI s) (hb : σ0 79 0 = bt) (hs1 : s ≤ 60) (hc0 : c 0 = 5) (hc5 : ∀ j, c j ≤ 5) (hck : ∀ k, 0 < k → cs bt (gp k) = c k) (hgp : ∀ k, k < s → σ0 80 k - la k = gp k) (hla1 : ∀ k, 0 < k → c k = 0 → la (k + 1) = la k) (hla2 : ∀ k, k < s → c k ≠ 0 → la (k + 1) = σ0 80 k) (next : ∀ σ, RI e c gp σ s → FE e σ0 σ → Q (some (ai (nI (Lc c s)))) σ) (hla0 : la 0 = nI 0) : WM mL_read Q 0 [some (ar 79), some (ar 80), some (ar (e + 0)), some (ar (e + 1)), some (ar (e + 2)), some (ar (e + 3)), some (ar (e + 4)), some (ar (e + 5)), some (ar (e + 6)), none, none, none, none, none, none] [] σ0 := by
  have he2 : 82 ≤ e := hB0.1
  have hfr : FE e σ0 σ0 := fun _ _ => rfl
  refine g_iconst (p0 := 1) (v := nI 0) dL_read_0 rfl rfl ?_
  refine g_istore (p0 := 3) (i := 9) (ls2 := [_, _, _, _, _, _, _, _, _, _, _, _, _, _, _]) dL_read_1 (Nat.le_of_ble_eq_true rfl) rfl rfl ?_
  refine g_iconst (p0 := 4) (v := -1) dL_read_3 rfl rfl ?_
  refine g_istore (p0 := 6) (i := 10) (ls2 := [_, _, _, _, _, _, _, _, _, _, _, _, _, _, _]) dL_read_4 (Nat.le_of_ble_eq_true rfl) rfl rfl ?_
  refine g_iconst (p0 := 7) (v := nI 0) dL_read_6 rfl rfl ?_
  refine g_istore (p0 := 9) (i := 11) (ls2 := [_, _, _, _, _, _, _, _, _, _, _, _, _, _, _]) dL_read_7 (Nat.le_of_ble_eq_true rfl) rfl rfl ?_
  refine g_iconst (p0 := 10) (v := nI 0) dL_read_9 rfl rfl ?_
  refine g_istore (p0 := 12) (i := 12) (ls2 := [_, _, _, _, _, _, _, _, _, _, _, _, _, _, _]) dL_read_10 (Nat.le_of_ble_eq_true rfl) rfl rfl ?_
  by_cases h0 : s = 0
  · subst h0
    refine g_iload (p0 := 14) dL_read_12 rfl rfl ?_
    refine g_aload_n (p0 := 15) (i := 0) dL_read_14 rfl rfl rfl ?_
    refine g_iconst (p0 := 16) (v := nI 3) dL_read_15 rfl rfl ?_
    first | ((with_reducible refine isN1 ?_); refine g_aldN (p0 := 17) dL_read_16 (by first | rfl | assumption | exact RW.s (by assumption) | exact TW.s (by assumption)) (by first | decide | assumption) (by omega) (by first | assumption | ((repeat (first | exact up_hit | (apply up_nv; omega) | (apply up_mv; omega))) <;> first | assumption | rfl)) rfl ?_) | refine g_ald (p0 := 17) dL_read_16 (by first | rfl | assumption | exact RW.s (by assumption) | exact TW.s (by assumption)) (by assumption) (by first | assumption | ((repeat (first | exact up_hit | (apply up_nv; omega) | (apply up_mv; omega))) <;> first | assumption | rfl)) rfl ?_
    first | ((with_reducible refine isN2 ?_); refine g_icmpN_ge (tgt := 219) (p1 := 20) dL_read_17 rfl (by omega) (by omega) rfl (fun c_17 => ?_) (fun c_17 => by exfalso; first | omega | contradiction | exact absurd (by assumption) c_17 | (simp_all; done))) | refine g_icmp_ge (tgt := 219) (p1 := 20) dL_read_17 rfl rfl (fun c_17 => ?_) (fun c_17 => by exfalso; first | omega | contradiction | exact absurd (by assumption) c_17 | (simp_all; done))
    refine g_iload (p0 := 221) dL_read_219 rfl rfl ?_
    refine g_ireturn dL_read_221 rfl rfl (?_)
    exact next σ0 RI_0 hfr
  · have K : ∀ σ', FE e σ0 σ' → RI e c gp σ' (0 + 1) → ∀ y z, WM mL_read Q 213 [some (ar 79), some (ar 80), some (ar (e + 0)), some (ar (e + 1)), some (ar (e + 2)), some (ar (e + 3)), some (ar (e + 4)), some (ar (e + 5)), some (ar (e + 6)), some (ai (nI (Lc c (0 + 1)))), some (ai (nI (Mc c (0 + 1) - 1))), some (ai (la (0 + 1))), some (ai (nI 0)), y, z] [] σ' := by
      intro σ' hfr' hR' y z
      first | refine g_iinc1 (p0 := 216) (ls2 := [_, _, _, _, _, _, _, _, _, _, _, _, _, _, _]) dL_read_213 rfl rfl rfl ?_ | refine g_iinc (p0 := 216) (ls2 := [_, _, _, _, _, _, _, _, _, _, _, _, _, _, _]) dL_read_213 rfl rfl rfl rfl ?_
      refine g_goto (tgt := 12) dL_read_216 rfl ?_
      exact rd_loop hB0 he hs hb hs1 hc0 hc5 hck hgp hla1 hla2 next (s - 1) 1 (by omega) (Nat.le_refl 1) σ' hfr' hR' y z
    refine rd_s1z (x := c 0) (g := gp 0) hB0 he he2 hs hb (by omega) hs1 (by have h := hgp 0 (by omega); rw [hla0] at h; exact h) hc0 ?_
    have h := rd_cz (k := 0) (y := none) (z := none) hB0 he he2 hs1 hfr RI_0 (by omega) hc5 rfl hc0 rfl K (hla2 0 (by omega) (by rw [hc0]; decide))
    rw [hla0] at h
    exact h
set_option maxRecDepth 20000 in
set_option maxHeartbeats 2000000 in
theorem read_sp {e s : Nat} {ρ : Nat → Int32} {σ : Sg} (hB : XB σ e) (he : e + 7 ≤ 90000) (hs : σ 79 3 = nI s) (hb : σ 79 0 = ρ 0) (hs1 : s ≤ 60) (h80 : ∀ k, k < s → σ 80 k = ρ (29 + k)) : CM mL_read [ar 79, ar 80, ar (e + 0), ar (e + 1), ar (e + 2), ar (e + 3), ar (e + 4), ar (e + 5), ar (e + 6)] σ (RelI (fun v σ' => v = nI (Lc (kaF (tm ρ) (ρ 0)) s) ∧ RI e (kaF (tm ρ) (ρ 0)) (gpF (tm ρ) (ρ 0)) σ' s ∧ FE e σ σ')) := by
  refine CM_in (ls := [some (ar 79), some (ar 80), some (ar (e + 0)), some (ar (e + 1)), some (ar (e + 2)), some (ar (e + 3)), some (ar (e + 4)), some (ar (e + 5)), some (ar (e + 6)), none, none, none, none, none, none]) rfl ?_
  exact rd_all (la := lastF (tm ρ) (ρ 0)) hB he hs hb hs1 rfl (kaF_le (tm ρ) (ρ 0)) (fun k hk => by rw [kaF, if_neg (by omega)]) (fun k hk => by rw [h80 k hk]; rfl) (fun k h0 h => lastF_1 h0 h) (fun k hk h => by rw [h80 k hk]; exact lastF_2 h) (fun σ' h1 h2 => ⟨_, rfl, rfl, h1, h2⟩) rfl
