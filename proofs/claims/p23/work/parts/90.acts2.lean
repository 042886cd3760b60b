/-! THE LAW ACTS: mute, strike, shift -/
theorem ahF_lt {τ : Nat → Int32} {x : Int32} : ∀ n k q, k ≤ q → q < ahF τ x n k → τ q < x
  | 0, k, q, h1, h2 => absurd h2 (by rw [ahF]; omega)
  | n + 1, k, q, h1, h2 => by
    rw [ahF] at h2
    by_cases hc : τ k < x
    · rw [if_pos hc] at h2
      by_cases hq : q = k
      · rw [hq]; exact hc
      · exact ahF_lt n (k + 1) q (by omega) h2
    · rw [if_neg hc] at h2
      omega
theorem ahF_ge {τ : Nat → Int32} {x : Int32} : ∀ n k, ahF τ x n k < k + n → ¬ τ (ahF τ x n k) < x
  | 0, k, h => absurd h (by rw [ahF]; omega)
  | n + 1, k, h => by
    rw [ahF] at h ⊢
    by_cases hc : τ k < x
    · rw [if_pos hc] at h ⊢
      exact ahF_ge n (k + 1) (by omega)
    · rw [if_neg hc]
      exact hc
/-- strokes ahead of X among times that rise -/
theorem ah_nat {τ : Nat → Int32} {s X : Nat} {T : Nat → Nat} (hT : ∀ k, k < s → T k ≤ 9999 ∧ τ k = nI (T k)) (hm : ∀ i j, i < j → j < s → T i < T j) (hX : X ≤ 9999) : ah τ s (nI X) ≤ s ∧ (∀ k, k < ah τ s (nI X) → T k < X) ∧ ∀ k, ah τ s (nI X) ≤ k → k < s → X ≤ T k := by
  have hle := ah_le τ s (nI X)
  refine ⟨hle, fun k hk => ?_, fun k hk hks => ?_⟩
  · have h := ahF_lt s 0 k (Nat.zero_le k) hk
    obtain ⟨h1, h2⟩ := hT k (by omega)
    rw [h2] at h
    exact (nI_lt_iff (by omega) (by omega)).mp h
  · have h := ahF_ge (τ := τ) (x := nI X) s 0 (show ah τ s (nI X) < 0 + s by omega)
    have h0 : ¬ τ (ah τ s (nI X)) < nI X := h
    obtain ⟨h1, h2⟩ := hT (ah τ s (nI X)) (by omega)
    rw [h2, nI_lt_iff (by omega) (by omega)] at h0
    by_cases hq : k = ah τ s (nI X)
    · rw [hq]; omega
    · have := hm (ah τ s (nI X)) k (by omega) hks
      omega
theorem ah_hit {τ : Nat → Int32} {s X k : Nat} {T : Nat → Nat} (hT : ∀ k, k < s → T k ≤ 9999 ∧ τ k = nI (T k)) (hm : ∀ i j, i < j → j < s → T i < T j) (hk : k < s) (hX : T k = X) : ah τ s (nI X) = k := by
  have hX2 : X ≤ 9999 := by rw [← hX]; exact (hT k hk).1
  obtain ⟨h1, h2, h3⟩ := ah_nat hT hm hX2
  by_cases hlt : k < ah τ s (nI X)
  · have := h2 k hlt; omega
  · by_cases heq : ah τ s (nI X) = k
    · exact heq
    · have a1 := h3 (ah τ s (nI X)) (Nat.le_refl _) (by omega)
      have a2 := hm (ah τ s (nI X)) k (by omega) hk
      omega
theorem HS_T {σ : Sg} {ρ : Nat → Int32} {s X k : Nat} {T : Nat → Nat} (hK : KI σ ρ s) (hT : ∀ k, k < s → T k ≤ 9999 ∧ ρ (29 + k) = nI (T k)) (hm : ∀ i j, i < j → j < s → T i < T j) (hk : k < s) (hX : T k = X) : CM mX8_hasStrokeAt [ar 1, ai (nI X)] σ (Ret (nI 1) σ) := by
  have ht : ∀ k, k < s → T k ≤ 9999 ∧ σ (1 + 2) k = nI (T k) := fun k hk => ⟨(hT k hk).1, by rw [hK.2.1.2.2.2.2.2 k hk]; exact (hT k hk).2⟩
  have e := ah_hit ht hm hk hX
  have hs1 := hK.1.2.1
  exact hasStrokeAt_T TW1 hK.2.1.1 hs1 (by rw [e]; exact hk) (by rw [e, (ht k hk).2, hX])
theorem HS_F {σ : Sg} {ρ : Nat → Int32} {s X : Nat} {T : Nat → Nat} (hK : KI σ ρ s) (hT : ∀ k, k < s → T k ≤ 9999 ∧ ρ (29 + k) = nI (T k)) (hX : X ≤ 9999) (hne : ∀ k, k < s → T k ≠ X) : CM mX8_hasStrokeAt [ar 1, ai (nI X)] σ (Ret (nI 0) σ) := by
  have hs1 := hK.1.2.1
  refine hasStrokeAt_F TW1 hK.2.1.1 hs1 (fun h q => ?_)
  rw [hK.2.1.2.2.2.2.2 _ h, (hT _ h).2, nI_inj (by have := (hT _ h).1; omega) (by omega)] at q
  exact hne _ h q
theorem strike_K {σ : Sg} {ρ : Nat → Int32} {s X : Nat} {T : Nat → Nat} (hK : KI σ ρ s) (hs : s < 160) (hT : ∀ k, k < s → T k ≤ 9999 ∧ ρ (29 + k) = nI (T k)) (hX : X ≤ 9999) (hne : ∀ k, k < s → T k ≠ X) : CM mX9_strike [ar 0, ai (nI X)] σ (KO σ (INS ρ s (nI X)) (s + 1) (nI (ah (tm ρ) s (nI X)))) :=
  KO_of hK (RowOK_ins hK.1 hs ⟨X, hX, rfl⟩) (fun _ _ hHC h65 => strike_c hK.1 hK.2.1 hHC h65 hX hs (HS_F hK hT hX hne))
theorem shift_K {σ : Sg} {ρ : Nat → Int32} {s p X : Nat} {x : Int32} {T : Nat → Nat} (hK : KI σ ρ s) (hp : p < s) (h0 : ¬ x = 0) (h2 : ¬ x < -99) (h3 : ¬ nI 99 < x) (ht : ρ (29 + p) + x = nI X) (hT : ∀ k, k < s → T k ≤ 9999 ∧ ρ (29 + k) = nI (T k)) (hX : X ≤ 9999) (hne : ∀ k, k < s → T k ≠ X) : CM mX9_shift [ar 0, ai (nI p), ai x] σ (KO σ (INS (REM ρ s p) (s - 1) (nI X)) (s - 1 + 1) (nI (ah (tm (REM ρ s p)) (s - 1) (nI X)))) :=
  KO_of hK (RowOK_ins (RowOK_rem hK.1) (by have := hK.1.2.1; omega) ⟨X, hX, rfl⟩) (fun _ _ hHC h65 => shift_c hK.1 hK.2.1 hHC h65 hp h0 h2 h3 ht hX (HS_F hK hT hX hne))
theorem GL.of {σ σ' : Sg} {ρ : Nat → Int32} {s : Nat} (h : GL σ ρ s) (f : ∀ z, 72 ≤ z → σ' z = σ z) : GL σ' ρ s := by
  obtain ⟨g, h81, h80⟩ := h
  refine ⟨?_, ?_, ?_⟩
  · rw [f 79 (by decide)]; exact g
  · rw [f 81 (by decide)]; exact h81
  · rw [f 80 (by decide)]; exact h80
theorem GL_rem {σ : Sg} {ρ : Nat → Int32} {s p : Nat} (hG : GL σ ρ s) : GL (setR (up σ 79 3 (nI (s - 1))) 80 (remR (σ 80) s p)) (REM ρ s p) (s - 1) := by
  obtain ⟨⟨g0, g1, g2, g3⟩, h81, h80⟩ := hG
  refine ⟨⟨?_, ?_, ?_, ?_⟩, fun l hl => ?_, fun q hq => ?_⟩
  · rw [setR_ne (by decide), up_miss (by decide), REM_lo (by decide) (by decide)]; exact g0
  · rw [setR_ne (by decide), up_miss (by decide), REM_lo (by decide) (by decide)]; exact g1
  · rw [setR_ne (by decide), up_miss (by decide), REM_lo (by decide) (by decide)]; exact g2
  · rw [setR_ne (by decide), up_hit]
  · rw [setR_ne (by decide), up_ne (by decide), REM_lo (by omega) (by omega)]; exact h81 l hl
  · rw [setR_hit, REM_hi, remR, remR]
    by_cases h : p ≤ q ∧ q + 1 < s
    · rw [if_pos h, if_pos h]; exact h80 (q + 1) h.2
    · rw [if_neg h, if_neg h]; exact h80 q (by omega)
theorem SRT_rem {ρ : Nat → Int32} {s p : Nat} (h : SRT ρ s) : SRT (REM ρ s p) (s - 1) := by
  obtain ⟨⟨b, hb1, hb2, hb3⟩, T, h1, h2⟩ := h
  refine ⟨⟨b, hb1, hb2, by rw [REM_lo (by decide) (by decide)]; exact hb3⟩, fun q => if p ≤ q then T (q + 1) else T q, fun q hq => ?_, fun i j hij hj => ?_⟩
  · dsimp only
    rw [REM_hi, remR]
    by_cases h : p ≤ q
    · rw [if_pos h, if_pos ⟨h, by omega⟩]; exact h1 (q + 1) (by omega)
    · rw [if_neg h, if_neg (fun z => h z.1)]; exact h1 q (by omega)
  · dsimp only
    by_cases hi : p ≤ i
    · rw [if_pos hi, if_pos (show p ≤ j by omega)]; exact h2 (i + 1) (j + 1) (by omega) (by omega)
    · rw [if_neg hi]
      by_cases hj2 : p ≤ j
      · rw [if_pos hj2]; exact h2 i (j + 1) (by omega) (by omega)
      · rw [if_neg hj2]; exact h2 i j hij (by omega)
theorem GL_ins {σ : Sg} {ρ : Nat → Int32} {s : Nat} {x : Int32} (hG : GL σ ρ s) : GL (up (setR σ 80 (insR (σ 80) s (ah (tm ρ) s x) x)) 79 3 (nI (s + 1))) (INS ρ s x) (s + 1) := by
  obtain ⟨⟨g0, g1, g2, g3⟩, h81, h80⟩ := hG
  have hle := ah_le (tm ρ) s x
  refine ⟨⟨?_, ?_, ?_, ?_⟩, fun l hl => ?_, fun q hq => ?_⟩
  · rw [up_miss (by decide), setR_ne (by decide), INS_lo (by decide) (by decide)]; exact g0
  · rw [up_miss (by decide), setR_ne (by decide), INS_lo (by decide) (by decide)]; exact g1
  · rw [up_miss (by decide), setR_ne (by decide), INS_lo (by decide) (by decide)]; exact g2
  · rw [up_hit]
  · rw [up_ne (by decide), setR_ne (by decide), INS_lo (by omega) (by omega)]; exact h81 l hl
  · rw [up_ne (by decide), setR_hit, INS_hi, insR, insR]
    by_cases h : q < ah (tm ρ) s x
    · rw [if_pos h, if_pos h]; exact h80 q (by omega)
    · rw [if_neg h, if_neg h]
      by_cases h2 : q = ah (tm ρ) s x
      · rw [if_pos h2, if_pos h2]
      · rw [if_neg h2, if_neg h2, if_pos (by omega), if_pos (by omega)]; exact h80 (q - 1) (by omega)
theorem SRT_ins {ρ : Nat → Int32} {s X : Nat} {T : Nat → Nat} (hb : ∃ b, 4 ≤ b ∧ b ≤ 20 ∧ ρ 0 = nI b) (hT : ∀ k, k < s → T k ≤ 9999 ∧ ρ (29 + k) = nI (T k)) (hm : ∀ i j, i < j → j < s → T i < T j) (hX : X ≤ 9999) (hne : ∀ k, k < s → T k ≠ X) : SRT (INS ρ s (nI X)) (s + 1) := by
  obtain ⟨b, hb1, hb2, hb3⟩ := hb
  obtain ⟨h1, h2, h3⟩ := ah_nat (τ := tm ρ) hT hm hX
  obtain ⟨p, hp⟩ : ∃ p, p = ah (tm ρ) s (nI X) := ⟨_, rfl⟩
  rw [← hp] at h1 h2 h3
  refine ⟨⟨b, hb1, hb2, by rw [INS_lo (by decide) (by decide)]; exact hb3⟩, fun q => if q < p then T q else if q = p then X else T (q - 1), fun q hq => ?_, fun i j hij hj => ?_⟩
  · dsimp only
    rw [INS_hi, ← hp, insR]
    by_cases h : q < p
    · rw [if_pos h, if_pos h]; exact hT q (by omega)
    · rw [if_neg h, if_neg h]
      by_cases h4 : q = p
      · rw [if_pos h4, if_pos h4]; exact ⟨hX, rfl⟩
      · rw [if_neg h4, if_neg h4, if_pos (by omega)]; exact hT (q - 1) (by omega)
  · dsimp only
    by_cases hi : i < p
    · rw [if_pos hi]
      by_cases hj1 : j < p
      · rw [if_pos hj1]; exact hm i j hij (by omega)
      · rw [if_neg hj1]
        have a := h2 i hi
        by_cases hj2 : j = p
        · rw [if_pos hj2]; exact a
        · rw [if_neg hj2]
          have c := h3 (j - 1) (by omega) (by omega)
          omega
    · rw [if_neg hi, if_neg (show ¬ j < p by omega), if_neg (show ¬ j = p by omega)]
      by_cases hi2 : i = p
      · rw [if_pos hi2]
        have c := h3 (j - 1) (by omega) (by omega)
        have d := hne (j - 1) (by omega)
        omega
      · rw [if_neg hi2]; exact hm (i - 1) (j - 1) (by omega) (by omega)
/-- the law's insertion -/
theorem put_K {σ : Sg} {ρ : Nat → Int32} {s X : Nat} {T : Nat → Nat} (hG : GL σ ρ s) (hs : s < 64) (hT : ∀ k, k < s → T k ≤ 9999 ∧ ρ (29 + k) = nI (T k)) (hm : ∀ i j, i < j → j < s → T i < T j) (hX : X ≤ 9999) (hne : ∀ k, k < s → T k ≠ X) : CM mL_put [ar 79, ar 80, ai (nI X)] σ (RetV (up (setR σ 80 (insR (σ 80) s (ah (tm ρ) s (nI X)) (nI X))) 79 3 (nI (s + 1)))) := by
  obtain ⟨h1, h2, h3⟩ := ah_nat (τ := tm ρ) hT hm hX
  refine lput_sp hG.1.2.2.2 hs h1 (fun k hk hks => ?_) (fun h0 => ?_)
  · rw [hG.2.2 k hks, (hT k hks).2, nI_lt_iff (by omega) (by have := (hT k hks).1; omega)]
    have a := h3 k hk hks
    have c := hne k hks
    omega
  · have hk : ah (tm ρ) s (nI X) - 1 < s := by omega
    rw [hG.2.2 _ hk, (hT _ hk).2, nI_le_iff (by have := (hT _ hk).1; omega) (by omega)]
    have a := h2 (ah (tm ρ) s (nI X) - 1) (by omega)
    omega
/-- the law finds what it inserted -/
theorem place_K {σ : Sg} {ρ : Nat → Int32} {s X : Nat} {T : Nat → Nat} (hG : GL σ (INS ρ s (nI X)) (s + 1)) (hs : s + 1 ≤ 64) (hT : ∀ k, k < s → T k ≤ 9999 ∧ ρ (29 + k) = nI (T k)) (hm : ∀ i j, i < j → j < s → T i < T j) (hX : X ≤ 9999) : CM mL_place [ar 79, ar 80, ai (nI X)] σ (Ret (nI (ah (tm ρ) s (nI X))) σ) := by
  obtain ⟨h1, h2, h3⟩ := ah_nat (τ := tm ρ) hT hm hX
  refine place_T hG.1.2.2.2 hs (by omega) ?_ (fun k hk => ?_)
  · rw [hG.2.2 _ (by omega), INS_hi, insR, if_neg (by omega), if_pos rfl]
  · rw [hG.2.2 k (by omega), INS_hi, insR, if_pos hk]
    show ¬ ρ (29 + k) = nI X
    have hks : k < s := by omega
    rw [(hT k hks).2, nI_inj (by have := (hT k hks).1; omega) (by omega)]
    have a := h2 k hk
    omega
theorem placeN_K {σ : Sg} {ρ : Nat → Int32} {s X : Nat} {T : Nat → Nat} (hG : GL σ ρ s) (hs : s ≤ 64) (hT : ∀ k, k < s → T k ≤ 9999 ∧ ρ (29 + k) = nI (T k)) (hX : X ≤ 9999) (hne : ∀ k, k < s → T k ≠ X) : CM mL_place [ar 79, ar 80, ai (nI X)] σ (Ret (-1) σ) := by
  refine place_F hG.1.2.2.2 hs (fun k hk q => ?_)
  rw [hG.2.2 k hk, (hT k hk).2, nI_inj (by have := (hT k hk).1; omega) (by omega)] at q
  exact hne k hk q
theorem placeY_K {σ : Sg} {ρ : Nat → Int32} {s X p : Nat} {T : Nat → Nat} (hG : GL σ ρ s) (hs : s ≤ 64) (hT : ∀ k, k < s → T k ≤ 9999 ∧ ρ (29 + k) = nI (T k)) (hm : ∀ i j, i < j → j < s → T i < T j) (hp : p < s) (hX : T p = X) : CM mL_place [ar 79, ar 80, ai (nI X)] σ (Ret (nI p) σ) := by
  refine place_T hG.1.2.2.2 hs hp (by rw [hG.2.2 p hp, (hT p hp).2, hX]) (fun k hk q => ?_)
  have hks : k < s := by omega
  rw [hG.2.2 k hks, (hT k hks).2, nI_inj (by have := (hT k hks).1; omega) (by have := (hT p hp).1; omega)] at q
  have := hm k p hk hp
  omega
set_option maxRecDepth 20000 in
set_option maxHeartbeats 2000000 in
theorem act_muteE {s v w : Nat} {zz : Int32} {ρ : Nat → Int32} {σ : Sg} {Q : SP} {x7 x8 x9 x10 : Option AV} (hK : KI σ ρ s) (hG : GL σ ρ s) (hS : SRT ρ s) (hs : s ≤ 60) (hv : v < 10000000) (next : ∀ σ', gN σ' = gN σ → LJ σ' → Q (some (ai (nI 1))) σ') (hk : v % (s + 1) = s) : WM mL_acts Q 211 [some (ar 0), some (ar 79), some (ar 80), some (ar 81), some (ai zz), some (ai (nI v)), some (ai (nI w)), x7, x8, x9, x10] [] σ := by
  obtain ⟨⟨g0, g1, g2, g3⟩, h81, h80⟩ := id hG
  have hns := hasStroke_F2 (x := nI s) TW1 hK.2.1.1 (nI_pos (by omega)) (Int32.le_refl _)
  refine g_iload (p0 := 213) dL_acts_211 rfl rfl ?_
  refine g_aload_n (p0 := 214) (i := 1) dL_acts_213 rfl rfl rfl ?_
  refine g_iconst (p0 := 215) (v := nI 3) dL_acts_214 rfl rfl ?_
  first | ((with_reducible refine isN1 ?_); refine g_aldN (p0 := 216) dL_acts_215 (by first | rfl | assumption | exact RW.s (by assumption) | exact TW.s (by assumption)) (by first | decide | assumption) (by omega) (by first | assumption | ((repeat (first | exact up_hit | (apply up_nv; omega) | (apply up_mv; omega))) <;> first | assumption | rfl)) rfl ?_) | refine g_ald (p0 := 216) dL_acts_215 (by first | rfl | assumption | exact RW.s (by assumption) | exact TW.s (by assumption)) (by assumption) (by first | assumption | ((repeat (first | exact up_hit | (apply up_nv; omega) | (apply up_mv; omega))) <;> first | assumption | rfl)) rfl ?_
  refine g_iconst (p0 := 217) (v := nI 1) dL_acts_216 rfl rfl ?_
  first | ((with_reducible refine isN2 ?_); refine g_iaddN (p0 := 218) dL_acts_217 rfl ?_) | refine g_iadd (p0 := 218) dL_acts_217 rfl ?_
  first | ((with_reducible refine isN2 ?_); refine g_iremN (p0 := 219) dL_acts_218 (by omega) (by omega) (by omega) rfl ?_) | refine g_irem (p0 := 219) dL_acts_218 (by decide) rfl ?_
  rw [hk]
  refine g_istore (p0 := 221) (i := 7) (ls2 := [_, _, _, _, _, _, _, _, _, _, _]) dL_acts_219 (Nat.le_of_ble_eq_true rfl) rfl rfl ?_
  refine g_iload (p0 := 223) dL_acts_221 rfl rfl ?_
  refine g_aload_n (p0 := 224) (i := 1) dL_acts_223 rfl rfl rfl ?_
  refine g_iconst (p0 := 225) (v := nI 3) dL_acts_224 rfl rfl ?_
  first | ((with_reducible refine isN1 ?_); refine g_aldN (p0 := 226) dL_acts_225 (by first | rfl | assumption | exact RW.s (by assumption) | exact TW.s (by assumption)) (by first | decide | assumption) (by omega) (by first | assumption | ((repeat (first | exact up_hit | (apply up_nv; omega) | (apply up_mv; omega))) <;> first | assumption | rfl)) rfl ?_) | refine g_ald (p0 := 226) dL_acts_225 (by first | rfl | assumption | exact RW.s (by assumption) | exact TW.s (by assumption)) (by assumption) (by first | assumption | ((repeat (first | exact up_hit | (apply up_nv; omega) | (apply up_mv; omega))) <;> first | assumption | rfl)) rfl ?_
  first | ((with_reducible refine isN2 ?_); refine g_icmpN_ne (tgt := 258) (p1 := 229) dL_acts_226 rfl (by omega) (by omega) rfl (fun c_226 => by exfalso; first | exact c_226 rfl | omega | contradiction) (fun c_226 => ?_)) | refine g_icmp_ne (tgt := 258) (p1 := 229) dL_acts_226 rfl rfl (fun c_226 => by exfalso; first | exact c_226 rfl | omega | contradiction) (fun c_226 => ?_)
  refine g_aload_n (p0 := 230) (i := 0) dL_acts_229 rfl rfl rfl ?_
  refine g_iload (p0 := 232) dL_acts_230 rfl rfl ?_
  refine g_cV1R (p0 := 235) (r1 := mX9_mute) dL_acts_232 lL_52 vX9_mute (by first | rfl | assumption | exact RW.s (by assumption) | exact TW.s (by assumption)) ⟨_, _, rfl⟩ (FITi rfl rfl) (Nat.le_of_ble_eq_true rfl) (mute_cF hns) rfl ?_
  refine g_ldc (p0 := 237) dL_acts_235 qL_51 rfl ?_
  first | ((with_reducible refine isN2 ?_); refine g_icmpN_ne (tgt := 256) (p1 := 240) dL_acts_237 rfl (by omega) (by omega) rfl (fun c_237 => by exfalso; first | exact c_237 rfl | omega | contradiction) (fun c_237 => ?_)) | refine g_icmp_ne (tgt := 256) (p1 := 240) dL_acts_237 rfl rfl (fun c_237 => by exfalso; first | exact c_237 rfl | omega | contradiction) (fun c_237 => ?_)
  refine g_aload_n (p0 := 241) (i := 0) dL_acts_240 rfl rfl rfl ?_
  refine g_iload (p0 := 243) dL_acts_241 rfl rfl ?_
  refine g_iconst (p0 := 244) (v := nI 1) dL_acts_243 rfl rfl ?_
  refine g_cV2R (p0 := 247) (r1 := mX9_shift) dL_acts_244 lL_55 vX9_shift (by first | rfl | assumption | exact RW.s (by assumption) | exact TW.s (by assumption)) ⟨_, _, rfl⟩ (FITi rfl rfl) (Nat.le_of_ble_eq_true rfl) (shift_ca hns) rfl ?_
  refine g_ldc (p0 := 249) dL_acts_247 qL_51 rfl ?_
  first | ((with_reducible refine isN2 ?_); refine g_icmpN_ne (tgt := 256) (p1 := 252) dL_acts_249 rfl (by omega) (by omega) rfl (fun c_249 => by exfalso; first | exact c_249 rfl | omega | contradiction) (fun c_249 => ?_)) | refine g_icmp_ne (tgt := 256) (p1 := 252) dL_acts_249 rfl rfl (fun c_249 => by exfalso; first | exact c_249 rfl | omega | contradiction) (fun c_249 => ?_)
  refine g_iconst (p0 := 253) (v := nI 1) dL_acts_252 rfl rfl ?_
  refine g_goto (tgt := 257) dL_acts_253 rfl ?_
  refine g_ireturn dL_acts_257 rfl (by first | rfl | exact bool_narrow (by first | exact Or.inl rfl | exact Or.inr rfl | assumption | (split <;> first | exact Or.inl rfl | exact Or.inr rfl))) (?_)
  exact next σ rfl ⟨ρ, s, hK, hG, hS, hs⟩
set_option maxRecDepth 20000 in
set_option maxHeartbeats 2000000 in
theorem act_muteN {s v w : Nat} {zz : Int32} {ρ : Nat → Int32} {σ : Sg} {Q : SP} {x7 x8 x9 x10 : Option AV} (hK : KI σ ρ s) (hG : GL σ ρ s) (hS : SRT ρ s) (hs : s ≤ 60) (hv : v < 10000000) (next : ∀ σ', gN σ' = gN σ → LJ σ' → Q (some (ai (nI 1))) σ') {k : Nat} (hk : v % (s + 1) = k) (hks : k < s) : WM mL_acts Q 211 [some (ar 0), some (ar 79), some (ar 80), some (ar 81), some (ai zz), some (ai (nI v)), some (ai (nI w)), x7, x8, x9, x10] [] σ := by
  obtain ⟨⟨g0, g1, g2, g3⟩, h81, h80⟩ := id hG
  have hx := h80 k hks
  have hKm := mute_K hK hks
  refine g_iload (p0 := 213) dL_acts_211 rfl rfl ?_
  refine g_aload_n (p0 := 214) (i := 1) dL_acts_213 rfl rfl rfl ?_
  refine g_iconst (p0 := 215) (v := nI 3) dL_acts_214 rfl rfl ?_
  first | ((with_reducible refine isN1 ?_); refine g_aldN (p0 := 216) dL_acts_215 (by first | rfl | assumption | exact RW.s (by assumption) | exact TW.s (by assumption)) (by first | decide | assumption) (by omega) (by first | assumption | ((repeat (first | exact up_hit | (apply up_nv; omega) | (apply up_mv; omega))) <;> first | assumption | rfl)) rfl ?_) | refine g_ald (p0 := 216) dL_acts_215 (by first | rfl | assumption | exact RW.s (by assumption) | exact TW.s (by assumption)) (by assumption) (by first | assumption | ((repeat (first | exact up_hit | (apply up_nv; omega) | (apply up_mv; omega))) <;> first | assumption | rfl)) rfl ?_
  refine g_iconst (p0 := 217) (v := nI 1) dL_acts_216 rfl rfl ?_
  first | ((with_reducible refine isN2 ?_); refine g_iaddN (p0 := 218) dL_acts_217 rfl ?_) | refine g_iadd (p0 := 218) dL_acts_217 rfl ?_
  first | ((with_reducible refine isN2 ?_); refine g_iremN (p0 := 219) dL_acts_218 (by omega) (by omega) (by omega) rfl ?_) | refine g_irem (p0 := 219) dL_acts_218 (by decide) rfl ?_
  rw [hk]
  refine g_istore (p0 := 221) (i := 7) (ls2 := [_, _, _, _, _, _, _, _, _, _, _]) dL_acts_219 (Nat.le_of_ble_eq_true rfl) rfl rfl ?_
  refine g_iload (p0 := 223) dL_acts_221 rfl rfl ?_
  refine g_aload_n (p0 := 224) (i := 1) dL_acts_223 rfl rfl rfl ?_
  refine g_iconst (p0 := 225) (v := nI 3) dL_acts_224 rfl rfl ?_
  first | ((with_reducible refine isN1 ?_); refine g_aldN (p0 := 226) dL_acts_225 (by first | rfl | assumption | exact RW.s (by assumption) | exact TW.s (by assumption)) (by first | decide | assumption) (by omega) (by first | assumption | ((repeat (first | exact up_hit | (apply up_nv; omega) | (apply up_mv; omega))) <;> first | assumption | rfl)) rfl ?_) | refine g_ald (p0 := 226) dL_acts_225 (by first | rfl | assumption | exact RW.s (by assumption) | exact TW.s (by assumption)) (by assumption) (by first | assumption | ((repeat (first | exact up_hit | (apply up_nv; omega) | (apply up_mv; omega))) <;> first | assumption | rfl)) rfl ?_
  first | ((with_reducible refine isN2 ?_); refine g_icmpN_ne (tgt := 258) (p1 := 229) dL_acts_226 rfl (by omega) (by omega) rfl (fun c_226 => ?_) (fun c_226 => by exfalso; first | exact c_226 rfl | omega | contradiction)) | refine g_icmp_ne (tgt := 258) (p1 := 229) dL_acts_226 rfl rfl (fun c_226 => ?_) (fun c_226 => by exfalso; first | exact c_226 rfl | omega | contradiction)
  refine g_aload_n (p0 := 259) (i := 0) dL_acts_258 rfl rfl rfl ?_
  refine g_iload (p0 := 261) dL_acts_259 rfl rfl ?_
  refine g_cV1I (p0 := 264) (r1 := mX9_mute) dL_acts_261 lL_52 vX9_mute (by first | rfl | assumption | exact RW.s (by assumption) | exact TW.s (by assumption)) ⟨_, _, rfl⟩ (FITi rfl rfl) (Nat.le_of_ble_eq_true rfl) (hKm) rfl ?_
  rintro u σ3 ⟨rfl, hK4, hf3⟩
  have hG3 : GL σ3 ρ s := hG.of hf3
  have hx3 : σ3 80 k = ρ (29 + k) := hG3.2.2 k hks
  refine g_aload_n (p0 := 265) (i := 1) dL_acts_264 rfl rfl rfl ?_
  refine g_aload_n (p0 := 266) (i := 2) dL_acts_265 rfl rfl rfl ?_
  refine g_iload (p0 := 268) dL_acts_266 rfl rfl ?_
  refine g_cS3R (p0 := 271) (r1 := mL_mute) dL_acts_268 (Or.inl lL_58) vL_mute (FITi rfl rfl) (Nat.le_of_ble_eq_true rfl) (lmute_sp hG3.1.2.2.2 (by omega) hks hx3) rfl ?_
  first | ((with_reducible refine isN2 ?_); refine g_icmpN_ne (tgt := 278) (p1 := 274) dL_acts_271 rfl (by omega) (by omega) rfl (fun c_271 => by exfalso; first | exact c_271 rfl | omega | contradiction) (fun c_271 => ?_)) | refine g_icmp_ne (tgt := 278) (p1 := 274) dL_acts_271 rfl rfl (fun c_271 => by exfalso; first | exact c_271 rfl | omega | contradiction) (fun c_271 => ?_)
  refine g_iconst (p0 := 275) (v := nI 1) dL_acts_274 rfl rfl ?_
  refine g_goto (tgt := 279) dL_acts_275 rfl ?_
  refine g_ireturn dL_acts_279 rfl (by first | rfl | exact bool_narrow (by first | exact Or.inl rfl | exact Or.inr rfl | assumption | (split <;> first | exact Or.inl rfl | exact Or.inr rfl))) (?_)
  exact next _ (gN_of (by rw [setR_ne (by decide), up_ne (by decide), hf3 99999 (by decide)])) ⟨_, s - 1, hK4.of (fun z hz => by rw [setR_ne (by omega), up_ne (by omega)]), GL_rem hG3, SRT_rem hS, by omega⟩
set_option maxRecDepth 20000 in
set_option maxHeartbeats 2000000 in
theorem act_strikeT {s v w : Nat} {zz : Int32} {ρ : Nat → Int32} {σ : Sg} {Q : SP} {x7 x8 x9 x10 : Option AV} (hK : KI σ ρ s) (hG : GL σ ρ s) (hS : SRT ρ s) (hs : s ≤ 60) (hv : v < 10000000) (next : ∀ σ', gN σ' = gN σ → LJ σ' → Q (some (ai (nI 1))) σ') {X p : Nat} {T : Nat → Nat} (hX : v % 1500 = X) (hT : ∀ k, k < s → T k ≤ 9999 ∧ ρ (29 + k) = nI (T k)) (hm : ∀ i j, i < j → j < s → T i < T j) (hp : p < s) (hpX : T p = X) : WM mL_acts Q 608 [some (ar 0), some (ar 79), some (ar 80), some (ar 81), some (ai zz), some (ai (nI v)), some (ai (nI w)), x7, x8, x9, x10] [] σ := by
  obtain ⟨⟨g0, g1, g2, g3⟩, h81, h80⟩ := id hG
  refine g_iload (p0 := 610) dL_acts_608 rfl rfl ?_
  refine g_sipush (p0 := 613) (v := nI 1500) dL_acts_610 (by decide) rfl ?_
  first | ((with_reducible refine isN2 ?_); refine g_iremN (p0 := 614) dL_acts_613 (by omega) (by omega) (by omega) rfl ?_) | refine g_irem (p0 := 614) dL_acts_613 (by decide) rfl ?_
  rw [hX]
  refine g_istore (p0 := 616) (i := 7) (ls2 := [_, _, _, _, _, _, _, _, _, _, _]) dL_acts_614 (Nat.le_of_ble_eq_true rfl) rfl rfl ?_
  refine g_aload_n (p0 := 617) (i := 1) dL_acts_616 rfl rfl rfl ?_
  refine g_aload_n (p0 := 618) (i := 2) dL_acts_617 rfl rfl rfl ?_
  refine g_iload (p0 := 620) dL_acts_618 rfl rfl ?_
  refine g_cS3R (p0 := 623) (r1 := mL_place) dL_acts_620 (Or.inl lL_72) vL_place (FITi rfl rfl) (Nat.le_of_ble_eq_true rfl) (placeY_K hG (by omega) hT hm hp hpX) rfl ?_
  first | ((with_reducible refine isN1 ?_); refine g_ifN_lt (tgt := 643) (p1 := 626) dL_acts_623 rfl (by omega) rfl (fun c_623 => by exfalso; first | exact c_623 rfl | omega | contradiction) (fun c_623 => ?_)) | refine g_if_lt (tgt := 643) (p1 := 626) dL_acts_623 rfl rfl (fun c_623 => by exfalso; first | exact c_623 rfl | omega | contradiction) (fun c_623 => ?_)
  refine g_aload_n (p0 := 627) (i := 0) dL_acts_626 rfl rfl rfl ?_
  refine g_iload (p0 := 629) dL_acts_627 rfl rfl ?_
  refine g_cV1R (p0 := 632) (r1 := mX9_strike) dL_acts_629 lL_75 vX9_strike (by first | rfl | assumption | exact RW.s (by assumption) | exact TW.s (by assumption)) ⟨_, _, rfl⟩ (FITi rfl rfl) (Nat.le_of_ble_eq_true rfl) (strike_cT (by omega) (HS_T hK hT hm hp hpX)) rfl ?_
  refine g_ldc (p0 := 634) dL_acts_632 qL_71 rfl ?_
  first | ((with_reducible refine isN2 ?_); refine g_icmpN_ne (tgt := 641) (p1 := 637) dL_acts_634 rfl (by omega) (by omega) rfl (fun c_634 => by exfalso; first | exact c_634 rfl | omega | contradiction) (fun c_634 => ?_)) | refine g_icmp_ne (tgt := 641) (p1 := 637) dL_acts_634 rfl rfl (fun c_634 => by exfalso; first | exact c_634 rfl | omega | contradiction) (fun c_634 => ?_)
  refine g_iconst (p0 := 638) (v := nI 1) dL_acts_637 rfl rfl ?_
  refine g_goto (tgt := 642) dL_acts_638 rfl ?_
  refine g_ireturn dL_acts_642 rfl (by first | rfl | exact bool_narrow (by first | exact Or.inl rfl | exact Or.inr rfl | assumption | (split <;> first | exact Or.inl rfl | exact Or.inr rfl))) (?_)
  exact next σ rfl ⟨ρ, s, hK, hG, hS, hs⟩
set_option maxRecDepth 20000 in
set_option maxHeartbeats 2000000 in
theorem act_strikeN {s v w : Nat} {zz : Int32} {ρ : Nat → Int32} {σ : Sg} {Q : SP} {x7 x8 x9 x10 : Option AV} (hK : KI σ ρ s) (hG : GL σ ρ s) (hS : SRT ρ s) (hs : s ≤ 60) (hv : v < 10000000) (next : ∀ σ', gN σ' = gN σ → LJ σ' → Q (some (ai (nI 1))) σ') {X : Nat} {T : Nat → Nat} (hX : v % 1500 = X) (hs5 : s ≤ 50) (hT : ∀ k, k < s → T k ≤ 9999 ∧ ρ (29 + k) = nI (T k)) (hm : ∀ i j, i < j → j < s → T i < T j) (hne : ∀ k, k < s → T k ≠ X) : WM mL_acts Q 608 [some (ar 0), some (ar 79), some (ar 80), some (ar 81), some (ai zz), some (ai (nI v)), some (ai (nI w)), x7, x8, x9, x10] [] σ := by
  obtain ⟨⟨g0, g1, g2, g3⟩, h81, h80⟩ := id hG
  have hK1 : KI (up (setR σ 80 (insR (σ 80) s (ah (tm ρ) s (nI X)) (nI X))) 79 3 (nI (s + 1))) ρ s := hK.of (fun z hz => by rw [up_ne (by omega), setR_ne (by omega)])
  refine g_iload (p0 := 610) dL_acts_608 rfl rfl ?_
  refine g_sipush (p0 := 613) (v := nI 1500) dL_acts_610 (by decide) rfl ?_
  first | ((with_reducible refine isN2 ?_); refine g_iremN (p0 := 614) dL_acts_613 (by omega) (by omega) (by omega) rfl ?_) | refine g_irem (p0 := 614) dL_acts_613 (by decide) rfl ?_
  rw [hX]
  refine g_istore (p0 := 616) (i := 7) (ls2 := [_, _, _, _, _, _, _, _, _, _, _]) dL_acts_614 (Nat.le_of_ble_eq_true rfl) rfl rfl ?_
  refine g_aload_n (p0 := 617) (i := 1) dL_acts_616 rfl rfl rfl ?_
  refine g_aload_n (p0 := 618) (i := 2) dL_acts_617 rfl rfl rfl ?_
  refine g_iload (p0 := 620) dL_acts_618 rfl rfl ?_
  refine g_cS3R (p0 := 623) (r1 := mL_place) dL_acts_620 (Or.inl lL_72) vL_place (FITi rfl rfl) (Nat.le_of_ble_eq_true rfl) (placeN_K hG (by omega) hT (by omega) hne) rfl ?_
  first | ((with_reducible refine isN1 ?_); refine g_ifN_lt (tgt := 643) (p1 := 626) dL_acts_623 rfl (by omega) rfl (fun c_623 => ?_) (fun c_623 => by exfalso; first | exact c_623 rfl | omega | contradiction | exact c_623 (by decide))) | refine g_if_lt (tgt := 643) (p1 := 626) dL_acts_623 rfl rfl (fun c_623 => ?_) (fun c_623 => by exfalso; first | exact c_623 rfl | omega | contradiction | exact c_623 (by decide))
  refine g_aload_n (p0 := 644) (i := 1) dL_acts_643 rfl rfl rfl ?_
  refine g_aload_n (p0 := 645) (i := 2) dL_acts_644 rfl rfl rfl ?_
  refine g_iload (p0 := 647) dL_acts_645 rfl rfl ?_
  refine g_cS3V (p0 := 650) (r1 := mL_put) dL_acts_647 (Or.inl lL_34) vL_put (FITi rfl rfl) (Nat.le_of_ble_eq_true rfl) (put_K hG (by omega) hT hm (by omega) hne) rfl ?_
  refine g_aload_n (p0 := 651) (i := 0) dL_acts_650 rfl rfl rfl ?_
  refine g_iload (p0 := 653) dL_acts_651 rfl rfl ?_
  refine g_cV1I (p0 := 656) (r1 := mX9_strike) dL_acts_653 lL_75 vX9_strike (by first | rfl | assumption | exact RW.s (by assumption) | exact TW.s (by assumption)) ⟨_, _, rfl⟩ (FITi rfl rfl) (Nat.le_of_ble_eq_true rfl) (strike_K hK1 (by omega) hT (by omega) hne) rfl ?_
  rintro u σ3 ⟨rfl, hK4, hf3⟩
  have hG3 : GL σ3 (INS ρ s (nI X)) (s + 1) := (GL_ins hG).of hf3
  refine g_aload_n (p0 := 657) (i := 1) dL_acts_656 rfl rfl rfl ?_
  refine g_aload_n (p0 := 658) (i := 2) dL_acts_657 rfl rfl rfl ?_
  refine g_iload (p0 := 660) dL_acts_658 rfl rfl ?_
  refine g_cS3R (p0 := 663) (r1 := mL_place) dL_acts_660 (Or.inl lL_72) vL_place (FITi rfl rfl) (Nat.le_of_ble_eq_true rfl) (place_K hG3 (by omega) hT hm (by omega)) rfl ?_
  first | ((with_reducible refine isN2 ?_); refine g_icmpN_ne (tgt := 670) (p1 := 666) dL_acts_663 rfl (by omega) (by omega) rfl (fun c_663 => by exfalso; first | exact c_663 rfl | omega | contradiction | exact c_663 (by decide)) (fun c_663 => ?_)) | refine g_icmp_ne (tgt := 670) (p1 := 666) dL_acts_663 rfl rfl (fun c_663 => by exfalso; first | exact c_663 rfl | omega | contradiction | exact c_663 (by decide)) (fun c_663 => ?_)
  refine g_iconst (p0 := 667) (v := nI 1) dL_acts_666 rfl rfl ?_
  refine g_goto (tgt := 671) dL_acts_667 rfl ?_
  refine g_ireturn dL_acts_671 rfl (by first | rfl | exact bool_narrow (by first | exact Or.inl rfl | exact Or.inr rfl | assumption | (split <;> first | exact Or.inl rfl | exact Or.inr rfl))) (?_)
  exact next σ3 (gN_of (by rw [hf3 99999 (by decide), up_ne (by decide), setR_ne (by decide)])) ⟨_, s + 1, hK4, hG3, SRT_ins hS.1 hT hm (by omega) hne, by omega⟩
