/-! THE LAW ACTS: ring, all -/
theorem nxt_N {ρ : Nat → Int32} {s b pz T : Nat} (hb : ρ 0 = nI b) (hz : ρ 2 = nI pz) (hpz : pz ≤ 1) (hT : 0 < s → tm ρ (s - 1) = nI T) : nxt (tm ρ) s (ρ 2) (ρ 0) = nI (t0L s b pz T) := by
  rw [nxt, t0L]
  by_cases h : s = 0
  · rw [if_pos h, if_pos h]
  · rw [if_neg h, if_neg h, hT (by omega), hb, hz]
    by_cases h0 : pz = 0
    · subst h0
      rw [if_pos (show nI 0 = (0 : Int32) from rfl), pk_mul, nI_add]
      rfl
    · have h1 : pz = 1 := by omega
      subst h1
      rw [if_neg (show ¬ nI 1 = (0 : Int32) by decide), pk_mul, nI_add]
      exact congrArg nI (by omega)
theorem ringP_in {ρ : Nat → Int32} {s b pz T c i : Nat} (hb : ρ 0 = nI b) (hz : ρ 2 = nI pz) (hpz : pz ≤ 1) (hT : 0 < s → tm ρ (s - 1) = nI T) (hi : i < mor c) : ringP ρ s c (29 + (s + i)) = nI (t0L s b pz T + fo (c / 5 + 1) i * b) := by
  rw [ringP, upd_ne (by omega), rgP, if_neg (by omega), if_pos (by omega), nxt_N hb hz hpz hT, show 29 + (s + i) - (29 + s) = i by omega, hb, pk_mul, nI_add]
  rfl
theorem ringP_out {ρ : Nat → Int32} {s c q : Nat} (hq : q < s) : ringP ρ s c (29 + q) = ρ (29 + q) := by
  rw [ringP, upd_ne (by omega), rgP, if_neg (by omega), if_neg (by omega)]
theorem ROOM_N {ρ : Nat → Int32} {s b pz T c : Nat} (hs : s ≤ 52) (hc : c < 25) (hb1 : b ≤ 20) (hb : ρ 0 = nI b) (hz : ρ 2 = nI pz) (hpz : pz ≤ 1) (hT : 0 < s → tm ρ (s - 1) = nI T) (hT8 : T ≤ 8000) : ROOM ρ s c ∧ nI (t0L s b pz T + (mor c + 1) * b) = endT (tm ρ) s (ρ 2) (ρ 0) (mor c) ∧ t0L s b pz T + (mor c + 1) * b ≤ 9999 := by
  have hm : mor c ≤ 10 := by simp only [mor]; omega
  have hbp : 6 * b * pz ≤ 120 := by
    calc 6 * b * pz ≤ 120 * 1 := Nat.mul_le_mul (by omega) hpz
      _ = 120 := rfl
  have h1 : (mor c + 1) * b ≤ 220 := by
    calc (mor c + 1) * b ≤ 11 * 20 := Nat.mul_le_mul (by omega) hb1
      _ = 220 := rfl
  have h2 : t0L s b pz T ≤ 8240 := by
    unfold t0L
    split <;> omega
  have e : nI (t0L s b pz T + (mor c + 1) * b) = endT (tm ρ) s (ρ 2) (ρ 0) (mor c) := by
    rw [endT, nxt_N hb hz hpz hT, hb, pk_mul, nI_add]
  refine ⟨⟨by omega, ?_⟩, e, by omega⟩
  rw [← e, nI_lt_iff (by omega) (by omega)]
  omega
theorem ring_K {σ : Sg} {ρ : Nat → Int32} {s b pz T c j : Nat} (hK : KI σ ρ s) (hs : s ≤ 52) (hj : j < 25) (hc : ρ (4 + j) = nI c) (hc1 : c < 25) (hb1 : b ≤ 20) (hb : ρ 0 = nI b) (hz : ρ 2 = nI pz) (hpz : pz ≤ 1) (hT : 0 < s → tm ρ (s - 1) = nI T) (hT8 : T ≤ 8000) : CM mX9_ring [ar 0, ai (nI j)] σ (KO σ (ringP ρ s c) (s + mor c) (nI s)) := by
  obtain ⟨hR, he, hl⟩ := ROOM_N hs hc1 hb1 hb hz hpz hT hT8
  obtain ⟨r2, r3, r4, r5, rc, rt⟩ := id hK.2.1
  refine KO_of hK (RowOK_ring hK.1 hc1 hR) (fun _ _ hHC h65 => ring_c hK.1 hK.2.1 hHC h65 hj hc hc1 hR ?_)
  refine hasRoom_T TW1 r2 (by omega) hj (by rw [rc j hj]; exact hc) hc1 hR.1 ?_
  have e2 : endT (σ (1 + 2)) s (σ 1 5) (σ 1 3) (mor c) = endT (tm ρ) s (ρ 2) (ρ 0) (mor c) := by
    rw [endT, endT, r5, r3, nxt_congr (fun q hq => rt q hq)]
  rw [e2]
  exact hR.2
theorem GL_ring {σ σ1 : Sg} {ρ : Nat → Int32} {s b pz T c : Nat} (hG : GL σ ρ s) (hR : RGQ σ s b pz T c σ1) (hb : ρ 0 = nI b) (hz : ρ 2 = nI pz) (hpz : pz ≤ 1) (hT : 0 < s → tm ρ (s - 1) = nI T) : GL σ1 (ringP ρ s c) (s + mor c) := by
  obtain ⟨⟨g0, g1, g2, g3⟩, h81, h80⟩ := hG
  obtain ⟨q1, q2, q3, q4, q5, q6⟩ := hR
  refine ⟨⟨?_, ?_, ?_, q4⟩, fun l hl => ?_, fun q hq => ?_⟩
  · rw [q2 0 (by decide) (by decide), ringP_lo (by decide) (by decide) (by decide)]; exact g0
  · rw [q2 1 (by decide) (by decide), ringP_lo (by decide) (by decide) (by decide)]; exact g1
  · rw [q3, ringP_2]
  · rw [q1 81 (by decide) (by decide), ringP_lo (by omega) (by omega) (by omega)]; exact h81 l hl
  · by_cases h : q < s
    · rw [q5 q h, ringP_out h]; exact h80 q h
    · obtain ⟨i, rfl⟩ : ∃ i, q = s + i := ⟨q - s, by omega⟩
      rw [q6 i (by omega), ringP_in hb hz hpz hT (by omega)]
theorem SRT_ring {ρ : Nat → Int32} {s b pz c : Nat} {T : Nat → Nat} (hs : s ≤ 52) (hc : c < 25) (hb4 : 4 ≤ b) (hb1 : b ≤ 20) (hb : ρ 0 = nI b) (hz : ρ 2 = nI pz) (hpz : pz ≤ 1) (hT : ∀ k, k < s → T k ≤ 9999 ∧ ρ (29 + k) = nI (T k)) (hm : ∀ i j, i < j → j < s → T i < T j) (hT8 : 0 < s → T (s - 1) ≤ 8000) : SRT (ringP ρ s c) (s + mor c) := by
  have hm10 : mor c ≤ 10 := by simp only [mor]; omega
  have hbp : 6 * b * pz ≤ 120 := by
    calc 6 * b * pz ≤ 120 * 1 := Nat.mul_le_mul (by omega) hpz
      _ = 120 := rfl
  have ht0 : t0L s b pz (T (s - 1)) ≤ 8240 := by
    unfold t0L
    split
    · omega
    · have := hT8 (by omega); omega
  have hfo : ∀ i, i < mor c → fo (c / 5 + 1) i * b ≤ 240 := fun i hi => by
    have h6 : fo (c / 5 + 1) i ≤ 12 := by unfold fo; split <;> omega
    calc fo (c / 5 + 1) i * b ≤ 12 * 20 := Nat.mul_le_mul h6 hb1
      _ = 240 := rfl
  refine ⟨⟨b, hb4, hb1, by rw [ringP_lo (by decide) (by decide) (by decide)]; exact hb⟩, fun q => if q < s then T q else t0L s b pz (T (s - 1)) + fo (c / 5 + 1) (q - s) * b, fun q hq => ?_, fun i j hij hj => ?_⟩
  · dsimp only
    by_cases h : q < s
    · rw [if_pos h, ringP_out h]; exact hT q h
    · obtain ⟨i, rfl⟩ : ∃ i, q = s + i := ⟨q - s, by omega⟩
      rw [if_neg h, show s + i - s = i by omega]
      have := hfo i (by omega)
      exact ⟨by omega, ringP_in hb hz hpz (fun h0 => (hT (s - 1) (by omega)).2) (by omega)⟩
  · dsimp only
    by_cases hi : i < s
    · rw [if_pos hi]
      by_cases hj1 : j < s
      · rw [if_pos hj1]; exact hm i j hij hj1
      · rw [if_neg hj1]
        have h1 : T i ≤ T (s - 1) := by
          by_cases e : i = s - 1
          · rw [e]; exact Nat.le_refl _
          · exact Nat.le_of_lt (hm i (s - 1) (by omega) (by omega))
        have h2 : t0L s b pz (T (s - 1)) = T (s - 1) + 6 * b + 6 * b * pz := by rw [t0L, if_neg (by omega)]
        omega
    · rw [if_neg hi, if_neg (show ¬ j < s by omega)]
      have h1 := fo_lt (r := c / 5 + 1) (show i - s < j - s by omega)
      have h2 : fo (c / 5 + 1) (i - s) * b < fo (c / 5 + 1) (j - s) * b := Nat.mul_lt_mul_of_pos_right h1 (by omega)
      omega
set_option maxRecDepth 20000 in
set_option maxHeartbeats 2000000 in
theorem act_ringR {s v w : Nat} {zz : Int32} {ρ : Nat → Int32} {σ : Sg} {Q : SP} {x7 x8 x9 x10 : Option AV} (hK : KI σ ρ s) (hG : GL σ ρ s) (hS : SRT ρ s) (hs : s ≤ 60) (hv : v < 10000000) (next : ∀ σ', gN σ' = gN σ → LJ σ' → Q (some (ai (nI 1))) σ') {T : Nat → Nat} (hT : ∀ k, k < s → T k ≤ 9999 ∧ ρ (29 + k) = nI (T k)) (hm : ∀ i j, i < j → j < s → T i < T j) (h0 : 0 < s) (hb8 : 8000 < T (s - 1)) : WM mL_acts Q 287 [some (ar 0), some (ar 79), some (ar 80), some (ar 81), some (ai zz), some (ai (nI v)), some (ai (nI w)), x7, x8, x9, x10] [] σ := by
  obtain ⟨⟨g0, g1, g2, g3⟩, h81, h80⟩ := id hG
  have hx : σ 80 (s - 1) = nI (T (s - 1)) := by rw [h80 (s - 1) (by omega)]; exact (hT (s - 1) (by omega)).2
  have hTk := (hT (s - 1) (by omega)).1
  refine g_aload_n (p0 := 288) (i := 1) dL_acts_287 rfl rfl rfl ?_
  refine g_iconst (p0 := 289) (v := nI 3) dL_acts_288 rfl rfl ?_
  first | ((with_reducible refine isN1 ?_); refine g_aldN (p0 := 290) dL_acts_289 (by first | rfl | assumption | exact RW.s (by assumption) | exact TW.s (by assumption)) (by first | decide | assumption) (by omega) (by first | assumption | ((repeat (first | exact up_hit | (apply up_nv; omega) | (apply up_mv; omega))) <;> first | assumption | rfl)) rfl ?_) | refine g_ald (p0 := 290) dL_acts_289 (by first | rfl | assumption | exact RW.s (by assumption) | exact TW.s (by assumption)) (by assumption) (by first | assumption | ((repeat (first | exact up_hit | (apply up_nv; omega) | (apply up_mv; omega))) <;> first | assumption | rfl)) rfl ?_
  refine g_istore (p0 := 292) (i := 7) (ls2 := [_, _, _, _, _, _, _, _, _, _, _]) dL_acts_290 (Nat.le_of_ble_eq_true rfl) rfl rfl ?_
  refine g_iload (p0 := 294) dL_acts_292 rfl rfl ?_
  refine g_bipush (p0 := 296) (v := nI 25) dL_acts_294 (by decide) rfl ?_
  first | ((with_reducible refine isN2 ?_); refine g_iremN (p0 := 297) dL_acts_296 (by omega) (by omega) (by omega) rfl ?_) | refine g_irem (p0 := 297) dL_acts_296 (by decide) rfl ?_
  refine g_istore (p0 := 299) (i := 8) (ls2 := [_, _, _, _, _, _, _, _, _, _, _]) dL_acts_297 (Nat.le_of_ble_eq_true rfl) rfl rfl ?_
  refine g_iload (p0 := 301) dL_acts_299 rfl rfl ?_
  first | ((with_reducible refine isN1 ?_); refine g_ifN_le (tgt := 343) (p1 := 304) dL_acts_301 rfl (by omega) rfl (fun c_301 => by exfalso; first | exact c_301 rfl | omega | contradiction) (fun c_301 => ?_)) | refine g_if_le (tgt := 343) (p1 := 304) dL_acts_301 rfl rfl (fun c_301 => by exfalso; first | exact c_301 rfl | omega | contradiction) (fun c_301 => ?_)
  refine g_aload_n (p0 := 305) (i := 2) dL_acts_304 rfl rfl rfl ?_
  refine g_iload (p0 := 307) dL_acts_305 rfl rfl ?_
  refine g_iconst (p0 := 308) (v := nI 1) dL_acts_307 rfl rfl ?_
  first | ((with_reducible refine isN2 ?_); refine g_isubN (p0 := 309) dL_acts_308 (by omega) rfl ?_) | refine g_isub (p0 := 309) dL_acts_308 rfl ?_
  first | ((with_reducible refine isN1 ?_); refine g_aldN (p0 := 310) dL_acts_309 (by first | rfl | assumption | exact RW.s (by assumption) | exact TW.s (by assumption)) (by first | decide | assumption) (by omega) (by first | assumption | ((repeat (first | exact up_hit | (apply up_nv; omega) | (apply up_mv; omega))) <;> first | assumption | rfl)) rfl ?_) | refine g_ald (p0 := 310) dL_acts_309 (by first | rfl | assumption | exact RW.s (by assumption) | exact TW.s (by assumption)) (by assumption) (by first | assumption | ((repeat (first | exact up_hit | (apply up_nv; omega) | (apply up_mv; omega))) <;> first | assumption | rfl)) rfl ?_
  refine g_sipush (p0 := 313) (v := nI 8000) dL_acts_310 (by decide) rfl ?_
  first | ((with_reducible refine isN2 ?_); refine g_icmpN_le (tgt := 343) (p1 := 316) dL_acts_313 rfl (by omega) (by omega) rfl (fun c_313 => by exfalso; first | exact c_313 rfl | omega | contradiction) (fun c_313 => ?_)) | refine g_icmp_le (tgt := 343) (p1 := 316) dL_acts_313 rfl rfl (fun c_313 => by exfalso; first | exact c_313 rfl | omega | contradiction) (fun c_313 => ?_)
  refine g_aload_n (p0 := 317) (i := 0) dL_acts_316 rfl rfl rfl ?_
  refine g_bipush (p0 := 319) (v := nI 25) dL_acts_317 (by decide) rfl ?_
  refine g_cV1R (p0 := 322) (r1 := mX9_ring) dL_acts_319 lL_61 vX9_ring (by first | rfl | assumption | exact RW.s (by assumption) | exact TW.s (by assumption)) ⟨_, _, rfl⟩ (FITi rfl rfl) (Nat.le_of_ble_eq_true rfl) (ring_cL (cIsLetter_F2 (j := 25) (by decide) (by decide))) rfl ?_
  refine g_ldc (p0 := 324) dL_acts_322 qL_51 rfl ?_
  first | ((with_reducible refine isN2 ?_); refine g_icmpN_ne (tgt := 341) (p1 := 327) dL_acts_324 rfl (by omega) (by omega) rfl (fun c_324 => by exfalso; first | exact c_324 rfl | omega | contradiction) (fun c_324 => ?_)) | refine g_icmp_ne (tgt := 341) (p1 := 327) dL_acts_324 rfl rfl (fun c_324 => by exfalso; first | exact c_324 rfl | omega | contradiction) (fun c_324 => ?_)
  refine g_aload_n (p0 := 328) (i := 0) dL_acts_327 rfl rfl rfl ?_
  refine g_iconst (p0 := 329) (v := -1) dL_acts_328 rfl rfl ?_
  refine g_cV1R (p0 := 332) (r1 := mX9_ring) dL_acts_329 lL_61 vX9_ring (by first | rfl | assumption | exact RW.s (by assumption) | exact TW.s (by assumption)) ⟨_, _, rfl⟩ (FITi rfl rfl) (Nat.le_of_ble_eq_true rfl) (ring_cL (cIsLetter_F1 (x := -1) (by decide))) rfl ?_
  refine g_ldc (p0 := 334) dL_acts_332 qL_51 rfl ?_
  first | ((with_reducible refine isN2 ?_); refine g_icmpN_ne (tgt := 341) (p1 := 337) dL_acts_334 rfl (by omega) (by omega) rfl (fun c_334 => by exfalso; first | exact c_334 rfl | omega | contradiction) (fun c_334 => ?_)) | refine g_icmp_ne (tgt := 341) (p1 := 337) dL_acts_334 rfl rfl (fun c_334 => by exfalso; first | exact c_334 rfl | omega | contradiction) (fun c_334 => ?_)
  refine g_iconst (p0 := 338) (v := nI 1) dL_acts_337 rfl rfl ?_
  refine g_goto (tgt := 342) dL_acts_338 rfl ?_
  refine g_ireturn dL_acts_342 rfl (by first | rfl | exact bool_narrow (by first | exact Or.inl rfl | exact Or.inr rfl | assumption | (split <;> first | exact Or.inl rfl | exact Or.inr rfl))) (?_)
  exact next σ rfl ⟨ρ, s, hK, hG, hS, hs⟩
set_option maxRecDepth 20000 in
set_option maxHeartbeats 2000000 in
theorem act_ringG {s v w : Nat} {zz : Int32} {ρ : Nat → Int32} {σ : Sg} {Q : SP} {x7 x8 x9 x10 : Option AV} (hK : KI σ ρ s) (hG : GL σ ρ s) (hS : SRT ρ s) (hs : s ≤ 60) (hv : v < 10000000) (next : ∀ σ', gN σ' = gN σ → LJ σ' → Q (some (ai (nI 1))) σ') {T : Nat → Nat} (hT : ∀ k, k < s → T k ≤ 9999 ∧ ρ (29 + k) = nI (T k)) (hm : ∀ i j, i < j → j < s → T i < T j) (hs5 : s ≤ 50) (hb8 : 0 < s → T (s - 1) ≤ 8000) : WM mL_acts Q 343 [some (ar 0), some (ar 79), some (ar 80), some (ar 81), some (ai zz), some (ai (nI v)), some (ai (nI w)), some (ai (nI s)), some (ai (nI (v % 25))), x9, x10] [] σ := by
  obtain ⟨⟨g0, g1, g2, g3⟩, h81, h80⟩ := id hG
  obtain ⟨⟨b, hb4, hb20, hb⟩, _⟩ := id hS
  obtain ⟨cf, hcf, hinj⟩ := hK.1.2.2.2.1
  obtain ⟨pz, hpz, hz⟩ : ∃ pz, pz ≤ 1 ∧ ρ 2 = nI pz := by
    rcases hK.1.2.2.1 with h | h
    · exact ⟨0, by decide, h⟩
    · exact ⟨1, Nat.le_refl 1, h⟩
  obtain ⟨j, hj0⟩ : ∃ j, j = v % 25 := ⟨_, rfl⟩
  have hj : j < 25 := by rw [hj0]; exact Nat.mod_lt _ (by decide)
  obtain ⟨c, hc0⟩ : ∃ c, c = cf j := ⟨_, rfl⟩
  have hc := (hcf j hj).1
  have hc1 := (hcf j hj).2
  rw [← hc0] at hc hc1
  rw [hb] at g0
  rw [hz] at g2
  have hTt : 0 < s → tm ρ (s - 1) = nI (T (s - 1)) := fun h => (hT (s - 1) (by omega)).2
  have hT9 : T (s - 1) ≤ 9999 ∨ s = 0 := by
    by_cases h : s = 0
    · exact Or.inr h
    · exact Or.inl (hT (s - 1) (by omega)).1
  obtain ⟨TT, hTT⟩ : ∃ t, t = if s = 0 then 0 else T (s - 1) := ⟨_, rfl⟩
  have hTT8 : TT ≤ 8000 := by
    rw [hTT]
    split
    · omega
    · exact hb8 (by omega)
  have hTT2 : 0 < s → tm ρ (s - 1) = nI TT := fun h => by
    rw [hTt h, hTT, if_neg (by omega)]
  have et : t0L s b pz TT = t0L s b pz (T (s - 1)) := by
    rw [hTT]
    by_cases h : s = 0
    · rw [t0L, t0L, if_pos h, if_pos h]
    · rw [if_neg h]
  have hrg := lring_sp (σ := σ) (by omega) hb20 hpz (show TT ≤ 9999 by omega) g0 g2 g3 hj (by rw [h81 j hj]; exact hc) hc1 (fun h => by rw [h80 (s - 1) (by omega)]; exact hTT2 h)
  rw [← hj0]
  refine g_aload_n (p0 := 344) (i := 1) dL_acts_343 rfl rfl rfl ?_
  refine g_aload_n (p0 := 345) (i := 2) dL_acts_344 rfl rfl rfl ?_
  refine g_aload_n (p0 := 346) (i := 3) dL_acts_345 rfl rfl rfl ?_
  refine g_iload (p0 := 348) dL_acts_346 rfl rfl ?_
  refine g_cS4P (p0 := 351) (r1 := mL_ring) dL_acts_348 (Or.inl lL_64) vL_ring (FITi rfl rfl) (Nat.le_of_ble_eq_true rfl) (hrg) rfl ?_
  intro σ1 hQ
  have hG1 := GL_ring hG hQ hb hz hpz hTT2
  have hK1 : KI σ1 ρ s := hK.of (fun z hz => hQ.1 z (by omega) (by omega))
  refine g_aload_n (p0 := 352) (i := 0) dL_acts_351 rfl rfl rfl ?_
  refine g_iload (p0 := 354) dL_acts_352 rfl rfl ?_
  refine g_cV1I (p0 := 357) (r1 := mX9_ring) dL_acts_354 lL_61 vX9_ring (by first | rfl | assumption | exact RW.s (by assumption) | exact TW.s (by assumption)) ⟨_, _, rfl⟩ (FITi rfl rfl) (Nat.le_of_ble_eq_true rfl) (ring_K hK1 (by omega) hj hc hc1 hb20 hb hz hpz hTT2 hTT8) rfl ?_
  rintro u σ3 ⟨rfl, hK4, hf3⟩
  refine g_iload (p0 := 359) dL_acts_357 rfl rfl ?_
  first | ((with_reducible refine isN2 ?_); refine g_icmpN_ne (tgt := 366) (p1 := 362) dL_acts_359 rfl (by omega) (by omega) rfl (fun c_359 => by exfalso; first | exact c_359 rfl | omega | contradiction) (fun c_359 => ?_)) | refine g_icmp_ne (tgt := 366) (p1 := 362) dL_acts_359 rfl rfl (fun c_359 => by exfalso; first | exact c_359 rfl | omega | contradiction) (fun c_359 => ?_)
  refine g_iconst (p0 := 363) (v := nI 1) dL_acts_362 rfl rfl ?_
  refine g_goto (tgt := 367) dL_acts_363 rfl ?_
  refine g_ireturn dL_acts_367 rfl (by first | rfl | exact bool_narrow (by first | exact Or.inl rfl | exact Or.inr rfl | assumption | (split <;> first | exact Or.inl rfl | exact Or.inr rfl))) (?_)
  have hm10 : mor c ≤ 10 := by simp only [mor]; omega
  exact next σ3 (gN_of (by rw [hf3 99999 (by decide)]; exact hQ.1 _ (by decide) (by decide))) ⟨_, s + mor c, hK4, hG1.of hf3, SRT_ring (by omega) hc1 hb4 hb20 hb hz hpz hT hm hb8, by omega⟩
set_option maxRecDepth 20000 in
set_option maxHeartbeats 2000000 in
theorem act_ringZ {s v w : Nat} {zz : Int32} {ρ : Nat → Int32} {σ : Sg} {Q : SP} {x7 x8 x9 x10 : Option AV} (hK : KI σ ρ s) (hG : GL σ ρ s) (hS : SRT ρ s) (hs : s ≤ 60) (hv : v < 10000000) (next : ∀ σ', gN σ' = gN σ → LJ σ' → Q (some (ai (nI 1))) σ') {T : Nat → Nat} (hT : ∀ k, k < s → T k ≤ 9999 ∧ ρ (29 + k) = nI (T k)) (hm : ∀ i j, i < j → j < s → T i < T j) (h0 : s = 0) : WM mL_acts Q 287 [some (ar 0), some (ar 79), some (ar 80), some (ar 81), some (ai zz), some (ai (nI v)), some (ai (nI w)), x7, x8, x9, x10] [] σ := by
  obtain ⟨⟨g0, g1, g2, g3⟩, h81, h80⟩ := id hG
  have hgo := act_ringG (x7 := none) (x8 := none) (x9 := x9) (x10 := x10) (w := w) (zz := zz) hK hG hS hs hv next hT hm (by omega) (fun h => absurd h (by omega))
  rw [h0] at hgo
  rw [h0] at g3
  refine g_aload_n (p0 := 288) (i := 1) dL_acts_287 rfl rfl rfl ?_
  refine g_iconst (p0 := 289) (v := nI 3) dL_acts_288 rfl rfl ?_
  first | ((with_reducible refine isN1 ?_); refine g_aldN (p0 := 290) dL_acts_289 (by first | rfl | assumption | exact RW.s (by assumption) | exact TW.s (by assumption)) (by first | decide | assumption) (by omega) (by first | assumption | ((repeat (first | exact up_hit | (apply up_nv; omega) | (apply up_mv; omega))) <;> first | assumption | rfl)) rfl ?_) | refine g_ald (p0 := 290) dL_acts_289 (by first | rfl | assumption | exact RW.s (by assumption) | exact TW.s (by assumption)) (by assumption) (by first | assumption | ((repeat (first | exact up_hit | (apply up_nv; omega) | (apply up_mv; omega))) <;> first | assumption | rfl)) rfl ?_
  refine g_istore (p0 := 292) (i := 7) (ls2 := [_, _, _, _, _, _, _, _, _, _, _]) dL_acts_290 (Nat.le_of_ble_eq_true rfl) rfl rfl ?_
  refine g_iload (p0 := 294) dL_acts_292 rfl rfl ?_
  refine g_bipush (p0 := 296) (v := nI 25) dL_acts_294 (by decide) rfl ?_
  first | ((with_reducible refine isN2 ?_); refine g_iremN (p0 := 297) dL_acts_296 (by omega) (by omega) (by omega) rfl ?_) | refine g_irem (p0 := 297) dL_acts_296 (by decide) rfl ?_
  refine g_istore (p0 := 299) (i := 8) (ls2 := [_, _, _, _, _, _, _, _, _, _, _]) dL_acts_297 (Nat.le_of_ble_eq_true rfl) rfl rfl ?_
  refine g_iload (p0 := 301) dL_acts_299 rfl rfl ?_
  first | ((with_reducible refine isN1 ?_); refine g_ifN_le (tgt := 343) (p1 := 304) dL_acts_301 rfl (by omega) rfl (fun c_301 => ?_) (fun c_301 => by exfalso; first | exact c_301 rfl | omega | contradiction)) | refine g_if_le (tgt := 343) (p1 := 304) dL_acts_301 rfl rfl (fun c_301 => ?_) (fun c_301 => by exfalso; first | exact c_301 rfl | omega | contradiction)
  exact hgo
set_option maxRecDepth 20000 in
set_option maxHeartbeats 2000000 in
theorem act_ringP {s v w : Nat} {zz : Int32} {ρ : Nat → Int32} {σ : Sg} {Q : SP} {x7 x8 x9 x10 : Option AV} (hK : KI σ ρ s) (hG : GL σ ρ s) (hS : SRT ρ s) (hs : s ≤ 60) (hv : v < 10000000) (next : ∀ σ', gN σ' = gN σ → LJ σ' → Q (some (ai (nI 1))) σ') {T : Nat → Nat} (hT : ∀ k, k < s → T k ≤ 9999 ∧ ρ (29 + k) = nI (T k)) (hm : ∀ i j, i < j → j < s → T i < T j) (h0 : 0 < s) (hs5 : s ≤ 50) (hb8 : T (s - 1) ≤ 8000) : WM mL_acts Q 287 [some (ar 0), some (ar 79), some (ar 80), some (ar 81), some (ai zz), some (ai (nI v)), some (ai (nI w)), x7, x8, x9, x10] [] σ := by
  obtain ⟨⟨g0, g1, g2, g3⟩, h81, h80⟩ := id hG
  have hgo := act_ringG (x7 := none) (x8 := none) (x9 := x9) (x10 := x10) (w := w) (zz := zz) hK hG hS hs hv next hT hm hs5 (fun _ => hb8)
  have hx : σ 80 (s - 1) = nI (T (s - 1)) := by rw [h80 (s - 1) (by omega)]; exact (hT (s - 1) (by omega)).2
  refine g_aload_n (p0 := 288) (i := 1) dL_acts_287 rfl rfl rfl ?_
  refine g_iconst (p0 := 289) (v := nI 3) dL_acts_288 rfl rfl ?_
  first | ((with_reducible refine isN1 ?_); refine g_aldN (p0 := 290) dL_acts_289 (by first | rfl | assumption | exact RW.s (by assumption) | exact TW.s (by assumption)) (by first | decide | assumption) (by omega) (by first | assumption | ((repeat (first | exact up_hit | (apply up_nv; omega) | (apply up_mv; omega))) <;> first | assumption | rfl)) rfl ?_) | refine g_ald (p0 := 290) dL_acts_289 (by first | rfl | assumption | exact RW.s (by assumption) | exact TW.s (by assumption)) (by assumption) (by first | assumption | ((repeat (first | exact up_hit | (apply up_nv; omega) | (apply up_mv; omega))) <;> first | assumption | rfl)) rfl ?_
  refine g_istore (p0 := 292) (i := 7) (ls2 := [_, _, _, _, _, _, _, _, _, _, _]) dL_acts_290 (Nat.le_of_ble_eq_true rfl) rfl rfl ?_
  refine g_iload (p0 := 294) dL_acts_292 rfl rfl ?_
  refine g_bipush (p0 := 296) (v := nI 25) dL_acts_294 (by decide) rfl ?_
  first | ((with_reducible refine isN2 ?_); refine g_iremN (p0 := 297) dL_acts_296 (by omega) (by omega) (by omega) rfl ?_) | refine g_irem (p0 := 297) dL_acts_296 (by decide) rfl ?_
  refine g_istore (p0 := 299) (i := 8) (ls2 := [_, _, _, _, _, _, _, _, _, _, _]) dL_acts_297 (Nat.le_of_ble_eq_true rfl) rfl rfl ?_
  refine g_iload (p0 := 301) dL_acts_299 rfl rfl ?_
  first | ((with_reducible refine isN1 ?_); refine g_ifN_le (tgt := 343) (p1 := 304) dL_acts_301 rfl (by omega) rfl (fun c_301 => by exfalso; first | exact c_301 rfl | omega | contradiction) (fun c_301 => ?_)) | refine g_if_le (tgt := 343) (p1 := 304) dL_acts_301 rfl rfl (fun c_301 => by exfalso; first | exact c_301 rfl | omega | contradiction) (fun c_301 => ?_)
  refine g_aload_n (p0 := 305) (i := 2) dL_acts_304 rfl rfl rfl ?_
  refine g_iload (p0 := 307) dL_acts_305 rfl rfl ?_
  refine g_iconst (p0 := 308) (v := nI 1) dL_acts_307 rfl rfl ?_
  first | ((with_reducible refine isN2 ?_); refine g_isubN (p0 := 309) dL_acts_308 (by omega) rfl ?_) | refine g_isub (p0 := 309) dL_acts_308 rfl ?_
  first | ((with_reducible refine isN1 ?_); refine g_aldN (p0 := 310) dL_acts_309 (by first | rfl | assumption | exact RW.s (by assumption) | exact TW.s (by assumption)) (by first | decide | assumption) (by omega) (by first | assumption | ((repeat (first | exact up_hit | (apply up_nv; omega) | (apply up_mv; omega))) <;> first | assumption | rfl)) rfl ?_) | refine g_ald (p0 := 310) dL_acts_309 (by first | rfl | assumption | exact RW.s (by assumption) | exact TW.s (by assumption)) (by assumption) (by first | assumption | ((repeat (first | exact up_hit | (apply up_nv; omega) | (apply up_mv; omega))) <;> first | assumption | rfl)) rfl ?_
  refine g_sipush (p0 := 313) (v := nI 8000) dL_acts_310 (by decide) rfl ?_
  first | ((with_reducible refine isN2 ?_); refine g_icmpN_le (tgt := 343) (p1 := 316) dL_acts_313 rfl (by omega) (by omega) rfl (fun c_313 => ?_) (fun c_313 => by exfalso; first | exact c_313 rfl | omega | contradiction)) | refine g_icmp_le (tgt := 343) (p1 := 316) dL_acts_313 rfl rfl (fun c_313 => ?_) (fun c_313 => by exfalso; first | exact c_313 rfl | omega | contradiction)
  exact hgo
set_option maxRecDepth 20000 in
set_option maxHeartbeats 2000000 in
theorem act_280 {s v w : Nat} {zz : Int32} {ρ : Nat → Int32} {σ : Sg} {Q : SP} {x7 x8 x9 x10 : Option AV} (hK : KI σ ρ s) (hG : GL σ ρ s) (hS : SRT ρ s) (hs : s ≤ 60) (hv : v < 10000000) (next : ∀ σ', gN σ' = gN σ → LJ σ' → Q (some (ai (nI 1))) σ') (hw : w < 24) (hs5 : s ≤ 50) : WM mL_acts Q 280 [some (ar 0), some (ar 79), some (ar 80), some (ar 81), some (ai zz), some (ai (nI v)), some (ai (nI w)), x7, x8, x9, x10] [] σ := by
  obtain ⟨⟨g0, g1, g2, g3⟩, h81, h80⟩ := id hG
  obtain ⟨hbt, T, hT, hm⟩ := id hS
  have hst : WM mL_acts Q 608 [some (ar 0), some (ar 79), some (ar 80), some (ar 81), some (ai zz), some (ai (nI v)), some (ai (nI w)), x7, x8, x9, x10] [] σ := by
    by_cases ho : ∃ p, p < s ∧ T p = v % 1500
    · obtain ⟨p, h1, h2⟩ := ho
      exact act_strikeT hK hG hS hs hv next rfl hT hm h1 h2
    · exact act_strikeN hK hG hS hs hv next rfl hs5 hT hm (fun q hq e => ho ⟨q, hq, e⟩)
  by_cases h10 : w < 10
  · have hri : WM mL_acts Q 287 [some (ar 0), some (ar 79), some (ar 80), some (ar 81), some (ai zz), some (ai (nI v)), some (ai (nI w)), x7, x8, x9, x10] [] σ := by
      by_cases h0 : s = 0
      · exact act_ringZ hK hG hS hs hv next hT hm h0
      · by_cases h8 : 8000 < T (s - 1)
        · exact act_ringR hK hG hS hs hv next hT hm (by omega) h8
        · exact act_ringP hK hG hS hs hv next hT hm (by omega) hs5 (by omega)
    refine g_iload (p0 := 282) dL_acts_280 rfl rfl ?_
    refine g_bipush (p0 := 284) (v := nI 10) dL_acts_282 (by decide) rfl ?_
    first | ((with_reducible refine isN2 ?_); refine g_icmpN_ge (tgt := 368) (p1 := 287) dL_acts_284 rfl (by omega) (by omega) rfl (fun c_284 => by exfalso; first | exact c_284 rfl | omega | contradiction) (fun c_284 => ?_)) | refine g_icmp_ge (tgt := 368) (p1 := 287) dL_acts_284 rfl rfl (fun c_284 => by exfalso; first | exact c_284 rfl | omega | contradiction) (fun c_284 => ?_)
    exact hri
  · by_cases h13 : w < 13
    · have hpa : WM mL_acts Q 375 [some (ar 0), some (ar 79), some (ar 80), some (ar 81), some (ai zz), some (ai (nI v)), some (ai (nI w)), x7, x8, x9, x10] [] σ := by
        rcases hK.1.2.2.1 with hz | hz
        · by_cases h0 : s = 0
          · exact act_pause0 hK hG hS hs hv next hz h0
          · exact act_pauseY hK hG hS hs hv next hz (by omega)
        · exact act_pauseP hK hG hS hs hv next hz
      refine g_iload (p0 := 282) dL_acts_280 rfl rfl ?_
      refine g_bipush (p0 := 284) (v := nI 10) dL_acts_282 (by decide) rfl ?_
      first | ((with_reducible refine isN2 ?_); refine g_icmpN_ge (tgt := 368) (p1 := 287) dL_acts_284 rfl (by omega) (by omega) rfl (fun c_284 => ?_) (fun c_284 => by exfalso; first | exact c_284 rfl | omega | contradiction)) | refine g_icmp_ge (tgt := 368) (p1 := 287) dL_acts_284 rfl rfl (fun c_284 => ?_) (fun c_284 => by exfalso; first | exact c_284 rfl | omega | contradiction)
      refine g_iload (p0 := 370) dL_acts_368 rfl rfl ?_
      refine g_bipush (p0 := 372) (v := nI 13) dL_acts_370 (by decide) rfl ?_
      first | ((with_reducible refine isN2 ?_); refine g_icmpN_ge (tgt := 435) (p1 := 375) dL_acts_372 rfl (by omega) (by omega) rfl (fun c_372 => by exfalso; first | exact c_372 rfl | omega | contradiction) (fun c_372 => ?_)) | refine g_icmp_ge (tgt := 435) (p1 := 375) dL_acts_372 rfl rfl (fun c_372 => by exfalso; first | exact c_372 rfl | omega | contradiction) (fun c_372 => ?_)
      exact hpa
    · by_cases h17 : w < 17
      · by_cases h0 : s = 0
        · rw [h0] at g3
          refine g_iload (p0 := 282) dL_acts_280 rfl rfl ?_
          refine g_bipush (p0 := 284) (v := nI 10) dL_acts_282 (by decide) rfl ?_
          first | ((with_reducible refine isN2 ?_); refine g_icmpN_ge (tgt := 368) (p1 := 287) dL_acts_284 rfl (by omega) (by omega) rfl (fun c_284 => ?_) (fun c_284 => by exfalso; first | exact c_284 rfl | omega | contradiction)) | refine g_icmp_ge (tgt := 368) (p1 := 287) dL_acts_284 rfl rfl (fun c_284 => ?_) (fun c_284 => by exfalso; first | exact c_284 rfl | omega | contradiction)
          refine g_iload (p0 := 370) dL_acts_368 rfl rfl ?_
          refine g_bipush (p0 := 372) (v := nI 13) dL_acts_370 (by decide) rfl ?_
          first | ((with_reducible refine isN2 ?_); refine g_icmpN_ge (tgt := 435) (p1 := 375) dL_acts_372 rfl (by omega) (by omega) rfl (fun c_372 => ?_) (fun c_372 => by exfalso; first | exact c_372 rfl | omega | contradiction)) | refine g_icmp_ge (tgt := 435) (p1 := 375) dL_acts_372 rfl rfl (fun c_372 => ?_) (fun c_372 => by exfalso; first | exact c_372 rfl | omega | contradiction)
          refine g_iload (p0 := 437) dL_acts_435 rfl rfl ?_
          refine g_bipush (p0 := 439) (v := nI 17) dL_acts_437 (by decide) rfl ?_
          first | ((with_reducible refine isN2 ?_); refine g_icmpN_ge (tgt := 608) (p1 := 442) dL_acts_439 rfl (by omega) (by omega) rfl (fun c_439 => by exfalso; first | exact c_439 rfl | omega | contradiction) (fun c_439 => ?_)) | refine g_icmp_ge (tgt := 608) (p1 := 442) dL_acts_439 rfl rfl (fun c_439 => by exfalso; first | exact c_439 rfl | omega | contradiction) (fun c_439 => ?_)
          refine g_aload_n (p0 := 443) (i := 1) dL_acts_442 rfl rfl rfl ?_
          refine g_iconst (p0 := 444) (v := nI 3) dL_acts_443 rfl rfl ?_
          first | ((with_reducible refine isN1 ?_); refine g_aldN (p0 := 445) dL_acts_444 (by first | rfl | assumption | exact RW.s (by assumption) | exact TW.s (by assumption)) (by first | decide | assumption) (by omega) (by first | assumption | ((repeat (first | exact up_hit | (apply up_nv; omega) | (apply up_mv; omega))) <;> first | assumption | rfl)) rfl ?_) | refine g_ald (p0 := 445) dL_acts_444 (by first | rfl | assumption | exact RW.s (by assumption) | exact TW.s (by assumption)) (by assumption) (by first | assumption | ((repeat (first | exact up_hit | (apply up_nv; omega) | (apply up_mv; omega))) <;> first | assumption | rfl)) rfl ?_
          first | ((with_reducible refine isN1 ?_); refine g_ifN_le (tgt := 608) (p1 := 448) dL_acts_445 rfl (by omega) rfl (fun c_445 => ?_) (fun c_445 => by exfalso; first | exact c_445 rfl | omega | contradiction)) | refine g_if_le (tgt := 608) (p1 := 448) dL_acts_445 rfl rfl (fun c_445 => ?_) (fun c_445 => by exfalso; first | exact c_445 rfl | omega | contradiction)
          exact hst
        · have hsh := act_shift (x7 := x7) (x8 := x8) (x9 := x9) (x10 := x10) (w := w) (zz := zz) hK hG hS hs hv next (by omega)
          refine g_iload (p0 := 282) dL_acts_280 rfl rfl ?_
          refine g_bipush (p0 := 284) (v := nI 10) dL_acts_282 (by decide) rfl ?_
          first | ((with_reducible refine isN2 ?_); refine g_icmpN_ge (tgt := 368) (p1 := 287) dL_acts_284 rfl (by omega) (by omega) rfl (fun c_284 => ?_) (fun c_284 => by exfalso; first | exact c_284 rfl | omega | contradiction)) | refine g_icmp_ge (tgt := 368) (p1 := 287) dL_acts_284 rfl rfl (fun c_284 => ?_) (fun c_284 => by exfalso; first | exact c_284 rfl | omega | contradiction)
          refine g_iload (p0 := 370) dL_acts_368 rfl rfl ?_
          refine g_bipush (p0 := 372) (v := nI 13) dL_acts_370 (by decide) rfl ?_
          first | ((with_reducible refine isN2 ?_); refine g_icmpN_ge (tgt := 435) (p1 := 375) dL_acts_372 rfl (by omega) (by omega) rfl (fun c_372 => ?_) (fun c_372 => by exfalso; first | exact c_372 rfl | omega | contradiction)) | refine g_icmp_ge (tgt := 435) (p1 := 375) dL_acts_372 rfl rfl (fun c_372 => ?_) (fun c_372 => by exfalso; first | exact c_372 rfl | omega | contradiction)
          refine g_iload (p0 := 437) dL_acts_435 rfl rfl ?_
          refine g_bipush (p0 := 439) (v := nI 17) dL_acts_437 (by decide) rfl ?_
          first | ((with_reducible refine isN2 ?_); refine g_icmpN_ge (tgt := 608) (p1 := 442) dL_acts_439 rfl (by omega) (by omega) rfl (fun c_439 => by exfalso; first | exact c_439 rfl | omega | contradiction) (fun c_439 => ?_)) | refine g_icmp_ge (tgt := 608) (p1 := 442) dL_acts_439 rfl rfl (fun c_439 => by exfalso; first | exact c_439 rfl | omega | contradiction) (fun c_439 => ?_)
          refine g_aload_n (p0 := 443) (i := 1) dL_acts_442 rfl rfl rfl ?_
          refine g_iconst (p0 := 444) (v := nI 3) dL_acts_443 rfl rfl ?_
          first | ((with_reducible refine isN1 ?_); refine g_aldN (p0 := 445) dL_acts_444 (by first | rfl | assumption | exact RW.s (by assumption) | exact TW.s (by assumption)) (by first | decide | assumption) (by omega) (by first | assumption | ((repeat (first | exact up_hit | (apply up_nv; omega) | (apply up_mv; omega))) <;> first | assumption | rfl)) rfl ?_) | refine g_ald (p0 := 445) dL_acts_444 (by first | rfl | assumption | exact RW.s (by assumption) | exact TW.s (by assumption)) (by assumption) (by first | assumption | ((repeat (first | exact up_hit | (apply up_nv; omega) | (apply up_mv; omega))) <;> first | assumption | rfl)) rfl ?_
          first | ((with_reducible refine isN1 ?_); refine g_ifN_le (tgt := 608) (p1 := 448) dL_acts_445 rfl (by omega) rfl (fun c_445 => by exfalso; first | exact c_445 rfl | omega | contradiction) (fun c_445 => ?_)) | refine g_if_le (tgt := 608) (p1 := 448) dL_acts_445 rfl rfl (fun c_445 => by exfalso; first | exact c_445 rfl | omega | contradiction) (fun c_445 => ?_)
          exact hsh
      · refine g_iload (p0 := 282) dL_acts_280 rfl rfl ?_
        refine g_bipush (p0 := 284) (v := nI 10) dL_acts_282 (by decide) rfl ?_
        first | ((with_reducible refine isN2 ?_); refine g_icmpN_ge (tgt := 368) (p1 := 287) dL_acts_284 rfl (by omega) (by omega) rfl (fun c_284 => ?_) (fun c_284 => by exfalso; first | exact c_284 rfl | omega | contradiction)) | refine g_icmp_ge (tgt := 368) (p1 := 287) dL_acts_284 rfl rfl (fun c_284 => ?_) (fun c_284 => by exfalso; first | exact c_284 rfl | omega | contradiction)
        refine g_iload (p0 := 370) dL_acts_368 rfl rfl ?_
        refine g_bipush (p0 := 372) (v := nI 13) dL_acts_370 (by decide) rfl ?_
        first | ((with_reducible refine isN2 ?_); refine g_icmpN_ge (tgt := 435) (p1 := 375) dL_acts_372 rfl (by omega) (by omega) rfl (fun c_372 => ?_) (fun c_372 => by exfalso; first | exact c_372 rfl | omega | contradiction)) | refine g_icmp_ge (tgt := 435) (p1 := 375) dL_acts_372 rfl rfl (fun c_372 => ?_) (fun c_372 => by exfalso; first | exact c_372 rfl | omega | contradiction)
        refine g_iload (p0 := 437) dL_acts_435 rfl rfl ?_
        refine g_bipush (p0 := 439) (v := nI 17) dL_acts_437 (by decide) rfl ?_
        first | ((with_reducible refine isN2 ?_); refine g_icmpN_ge (tgt := 608) (p1 := 442) dL_acts_439 rfl (by omega) (by omega) rfl (fun c_439 => ?_) (fun c_439 => by exfalso; first | exact c_439 rfl | omega | contradiction)) | refine g_icmp_ge (tgt := 608) (p1 := 442) dL_acts_439 rfl rfl (fun c_439 => ?_) (fun c_439 => by exfalso; first | exact c_439 rfl | omega | contradiction)
        exact hst
set_option maxRecDepth 20000 in
set_option maxHeartbeats 2000000 in
theorem act_20 {s v w : Nat} {zz : Int32} {ρ : Nat → Int32} {σ : Sg} {Q : SP} {x7 x8 x9 x10 : Option AV} (hK : KI σ ρ s) (hG : GL σ ρ s) (hS : SRT ρ s) (hs : s ≤ 60) (hv : v < 10000000) (next : ∀ σ', gN σ' = gN σ → LJ σ' → Q (some (ai (nI 1))) σ') (hw : w < 24) : WM mL_acts Q 20 [some (ar 0), some (ar 79), some (ar 80), some (ar 81), some (ai zz), some (ai (nI v)), some (ai (nI w)), x7, x8, x9, x10] [] σ := by
  obtain ⟨⟨g0, g1, g2, g3⟩, h81, h80⟩ := id hG
  by_cases h0 : w = 0
  · subst h0
    have h25 : WM mL_acts Q 25 [some (ar 0), some (ar 79), some (ar 80), some (ar 81), some (ai zz), some (ai (nI v)), some (ai (nI 0)), x7, x8, x9, x10] [] σ := by
      by_cases hk : v % 2 = 0
      · exact act_set0 hK hG hS hs hv next hk
      · exact act_set1 hK hG hS hs hv next (by omega)
    refine g_iload (p0 := 22) dL_acts_20 rfl rfl ?_
    first | ((with_reducible refine isN1 ?_); refine g_ifN_ne (tgt := 85) (p1 := 25) dL_acts_22 rfl (by omega) rfl (fun c_22 => by exfalso; first | exact c_22 rfl | omega | contradiction) (fun c_22 => ?_)) | refine g_if_ne (tgt := 85) (p1 := 25) dL_acts_22 rfl rfl (fun c_22 => by exfalso; first | exact c_22 rfl | omega | contradiction) (fun c_22 => ?_)
    exact h25
  · by_cases h1 : w = 1
    · subst h1
      have h91 : WM mL_acts Q 91 [some (ar 0), some (ar 79), some (ar 80), some (ar 81), some (ai zz), some (ai (nI v)), some (ai (nI 1)), x7, x8, x9, x10] [] σ := by
        by_cases hk : v % 25 = v / 25 % 25
        · exact act_swapE hK hG hS hs hv next hk.symm
        · exact act_swapN hK hG hS hs hv next hk
      refine g_iload (p0 := 22) dL_acts_20 rfl rfl ?_
      first | ((with_reducible refine isN1 ?_); refine g_ifN_ne (tgt := 85) (p1 := 25) dL_acts_22 rfl (by omega) rfl (fun c_22 => ?_) (fun c_22 => by exfalso; first | exact c_22 rfl | omega | contradiction)) | refine g_if_ne (tgt := 85) (p1 := 25) dL_acts_22 rfl rfl (fun c_22 => ?_) (fun c_22 => by exfalso; first | exact c_22 rfl | omega | contradiction)
      refine g_iload (p0 := 87) dL_acts_85 rfl rfl ?_
      refine g_iconst (p0 := 88) (v := nI 1) dL_acts_87 rfl rfl ?_
      first | ((with_reducible refine isN2 ?_); refine g_icmpN_ne (tgt := 190) (p1 := 91) dL_acts_88 rfl (by omega) (by omega) rfl (fun c_88 => by exfalso; first | exact c_88 rfl | omega | contradiction) (fun c_88 => ?_)) | refine g_icmp_ne (tgt := 190) (p1 := 91) dL_acts_88 rfl rfl (fun c_88 => by exfalso; first | exact c_88 rfl | omega | contradiction) (fun c_88 => ?_)
      exact h91
    · have h211 : WM mL_acts Q 211 [some (ar 0), some (ar 79), some (ar 80), some (ar 81), some (ai zz), some (ai (nI v)), some (ai (nI w)), x7, x8, x9, x10] [] σ := by
        have hl : v % (s + 1) < s + 1 := Nat.mod_lt _ (by omega)
        by_cases hk : v % (s + 1) = s
        · exact act_muteE hK hG hS hs hv next hk
        · exact act_muteN hK hG hS hs hv next rfl (by omega)
      by_cases h50 : 50 < s
      · refine g_iload (p0 := 22) dL_acts_20 rfl rfl ?_
        first | ((with_reducible refine isN1 ?_); refine g_ifN_ne (tgt := 85) (p1 := 25) dL_acts_22 rfl (by omega) rfl (fun c_22 => ?_) (fun c_22 => by exfalso; first | exact c_22 rfl | omega | contradiction)) | refine g_if_ne (tgt := 85) (p1 := 25) dL_acts_22 rfl rfl (fun c_22 => ?_) (fun c_22 => by exfalso; first | exact c_22 rfl | omega | contradiction)
        refine g_iload (p0 := 87) dL_acts_85 rfl rfl ?_
        refine g_iconst (p0 := 88) (v := nI 1) dL_acts_87 rfl rfl ?_
        first | ((with_reducible refine isN2 ?_); refine g_icmpN_ne (tgt := 190) (p1 := 91) dL_acts_88 rfl (by omega) (by omega) rfl (fun c_88 => ?_) (fun c_88 => by exfalso; first | exact c_88 rfl | omega | contradiction)) | refine g_icmp_ne (tgt := 190) (p1 := 91) dL_acts_88 rfl rfl (fun c_88 => ?_) (fun c_88 => by exfalso; first | exact c_88 rfl | omega | contradiction)
        refine g_aload_n (p0 := 191) (i := 1) dL_acts_190 rfl rfl rfl ?_
        refine g_iconst (p0 := 192) (v := nI 3) dL_acts_191 rfl rfl ?_
        first | ((with_reducible refine isN1 ?_); refine g_aldN (p0 := 193) dL_acts_192 (by first | rfl | assumption | exact RW.s (by assumption) | exact TW.s (by assumption)) (by first | decide | assumption) (by omega) (by first | assumption | ((repeat (first | exact up_hit | (apply up_nv; omega) | (apply up_mv; omega))) <;> first | assumption | rfl)) rfl ?_) | refine g_ald (p0 := 193) dL_acts_192 (by first | rfl | assumption | exact RW.s (by assumption) | exact TW.s (by assumption)) (by assumption) (by first | assumption | ((repeat (first | exact up_hit | (apply up_nv; omega) | (apply up_mv; omega))) <;> first | assumption | rfl)) rfl ?_
        refine g_bipush (p0 := 195) (v := nI 50) dL_acts_193 (by decide) rfl ?_
        first | ((with_reducible refine isN2 ?_); refine g_icmpN_gt (tgt := 211) (p1 := 198) dL_acts_195 rfl (by omega) (by omega) rfl (fun c_195 => ?_) (fun c_195 => by exfalso; first | exact c_195 rfl | omega | contradiction)) | refine g_icmp_gt (tgt := 211) (p1 := 198) dL_acts_195 rfl rfl (fun c_195 => ?_) (fun c_195 => by exfalso; first | exact c_195 rfl | omega | contradiction)
        exact h211
      · have h280 := act_280 (x7 := x7) (x8 := x8) (x9 := x9) (x10 := x10) (w := w) (zz := zz) hK hG hS hs hv next hw (by omega)
        by_cases h20 : 20 < w
        · by_cases hs0 : s = 0
          · rw [hs0] at g3
            refine g_iload (p0 := 22) dL_acts_20 rfl rfl ?_
            first | ((with_reducible refine isN1 ?_); refine g_ifN_ne (tgt := 85) (p1 := 25) dL_acts_22 rfl (by omega) rfl (fun c_22 => ?_) (fun c_22 => by exfalso; first | exact c_22 rfl | omega | contradiction)) | refine g_if_ne (tgt := 85) (p1 := 25) dL_acts_22 rfl rfl (fun c_22 => ?_) (fun c_22 => by exfalso; first | exact c_22 rfl | omega | contradiction)
            refine g_iload (p0 := 87) dL_acts_85 rfl rfl ?_
            refine g_iconst (p0 := 88) (v := nI 1) dL_acts_87 rfl rfl ?_
            first | ((with_reducible refine isN2 ?_); refine g_icmpN_ne (tgt := 190) (p1 := 91) dL_acts_88 rfl (by omega) (by omega) rfl (fun c_88 => ?_) (fun c_88 => by exfalso; first | exact c_88 rfl | omega | contradiction)) | refine g_icmp_ne (tgt := 190) (p1 := 91) dL_acts_88 rfl rfl (fun c_88 => ?_) (fun c_88 => by exfalso; first | exact c_88 rfl | omega | contradiction)
            refine g_aload_n (p0 := 191) (i := 1) dL_acts_190 rfl rfl rfl ?_
            refine g_iconst (p0 := 192) (v := nI 3) dL_acts_191 rfl rfl ?_
            first | ((with_reducible refine isN1 ?_); refine g_aldN (p0 := 193) dL_acts_192 (by first | rfl | assumption | exact RW.s (by assumption) | exact TW.s (by assumption)) (by first | decide | assumption) (by omega) (by first | assumption | ((repeat (first | exact up_hit | (apply up_nv; omega) | (apply up_mv; omega))) <;> first | assumption | rfl)) rfl ?_) | refine g_ald (p0 := 193) dL_acts_192 (by first | rfl | assumption | exact RW.s (by assumption) | exact TW.s (by assumption)) (by assumption) (by first | assumption | ((repeat (first | exact up_hit | (apply up_nv; omega) | (apply up_mv; omega))) <;> first | assumption | rfl)) rfl ?_
            refine g_bipush (p0 := 195) (v := nI 50) dL_acts_193 (by decide) rfl ?_
            first | ((with_reducible refine isN2 ?_); refine g_icmpN_gt (tgt := 211) (p1 := 198) dL_acts_195 rfl (by omega) (by omega) rfl (fun c_195 => by exfalso; first | exact c_195 rfl | omega | contradiction) (fun c_195 => ?_)) | refine g_icmp_gt (tgt := 211) (p1 := 198) dL_acts_195 rfl rfl (fun c_195 => by exfalso; first | exact c_195 rfl | omega | contradiction) (fun c_195 => ?_)
            refine g_iload (p0 := 200) dL_acts_198 rfl rfl ?_
            refine g_bipush (p0 := 202) (v := nI 20) dL_acts_200 (by decide) rfl ?_
            first | ((with_reducible refine isN2 ?_); refine g_icmpN_le (tgt := 280) (p1 := 205) dL_acts_202 rfl (by omega) (by omega) rfl (fun c_202 => by exfalso; first | exact c_202 rfl | omega | contradiction) (fun c_202 => ?_)) | refine g_icmp_le (tgt := 280) (p1 := 205) dL_acts_202 rfl rfl (fun c_202 => by exfalso; first | exact c_202 rfl | omega | contradiction) (fun c_202 => ?_)
            refine g_aload_n (p0 := 206) (i := 1) dL_acts_205 rfl rfl rfl ?_
            refine g_iconst (p0 := 207) (v := nI 3) dL_acts_206 rfl rfl ?_
            first | ((with_reducible refine isN1 ?_); refine g_aldN (p0 := 208) dL_acts_207 (by first | rfl | assumption | exact RW.s (by assumption) | exact TW.s (by assumption)) (by first | decide | assumption) (by omega) (by first | assumption | ((repeat (first | exact up_hit | (apply up_nv; omega) | (apply up_mv; omega))) <;> first | assumption | rfl)) rfl ?_) | refine g_ald (p0 := 208) dL_acts_207 (by first | rfl | assumption | exact RW.s (by assumption) | exact TW.s (by assumption)) (by assumption) (by first | assumption | ((repeat (first | exact up_hit | (apply up_nv; omega) | (apply up_mv; omega))) <;> first | assumption | rfl)) rfl ?_
            first | ((with_reducible refine isN1 ?_); refine g_ifN_le (tgt := 280) (p1 := 211) dL_acts_208 rfl (by omega) rfl (fun c_208 => ?_) (fun c_208 => by exfalso; first | exact c_208 rfl | omega | contradiction)) | refine g_if_le (tgt := 280) (p1 := 211) dL_acts_208 rfl rfl (fun c_208 => ?_) (fun c_208 => by exfalso; first | exact c_208 rfl | omega | contradiction)
            exact h280
          · refine g_iload (p0 := 22) dL_acts_20 rfl rfl ?_
            first | ((with_reducible refine isN1 ?_); refine g_ifN_ne (tgt := 85) (p1 := 25) dL_acts_22 rfl (by omega) rfl (fun c_22 => ?_) (fun c_22 => by exfalso; first | exact c_22 rfl | omega | contradiction)) | refine g_if_ne (tgt := 85) (p1 := 25) dL_acts_22 rfl rfl (fun c_22 => ?_) (fun c_22 => by exfalso; first | exact c_22 rfl | omega | contradiction)
            refine g_iload (p0 := 87) dL_acts_85 rfl rfl ?_
            refine g_iconst (p0 := 88) (v := nI 1) dL_acts_87 rfl rfl ?_
            first | ((with_reducible refine isN2 ?_); refine g_icmpN_ne (tgt := 190) (p1 := 91) dL_acts_88 rfl (by omega) (by omega) rfl (fun c_88 => ?_) (fun c_88 => by exfalso; first | exact c_88 rfl | omega | contradiction)) | refine g_icmp_ne (tgt := 190) (p1 := 91) dL_acts_88 rfl rfl (fun c_88 => ?_) (fun c_88 => by exfalso; first | exact c_88 rfl | omega | contradiction)
            refine g_aload_n (p0 := 191) (i := 1) dL_acts_190 rfl rfl rfl ?_
            refine g_iconst (p0 := 192) (v := nI 3) dL_acts_191 rfl rfl ?_
            first | ((with_reducible refine isN1 ?_); refine g_aldN (p0 := 193) dL_acts_192 (by first | rfl | assumption | exact RW.s (by assumption) | exact TW.s (by assumption)) (by first | decide | assumption) (by omega) (by first | assumption | ((repeat (first | exact up_hit | (apply up_nv; omega) | (apply up_mv; omega))) <;> first | assumption | rfl)) rfl ?_) | refine g_ald (p0 := 193) dL_acts_192 (by first | rfl | assumption | exact RW.s (by assumption) | exact TW.s (by assumption)) (by assumption) (by first | assumption | ((repeat (first | exact up_hit | (apply up_nv; omega) | (apply up_mv; omega))) <;> first | assumption | rfl)) rfl ?_
            refine g_bipush (p0 := 195) (v := nI 50) dL_acts_193 (by decide) rfl ?_
            first | ((with_reducible refine isN2 ?_); refine g_icmpN_gt (tgt := 211) (p1 := 198) dL_acts_195 rfl (by omega) (by omega) rfl (fun c_195 => by exfalso; first | exact c_195 rfl | omega | contradiction) (fun c_195 => ?_)) | refine g_icmp_gt (tgt := 211) (p1 := 198) dL_acts_195 rfl rfl (fun c_195 => by exfalso; first | exact c_195 rfl | omega | contradiction) (fun c_195 => ?_)
            refine g_iload (p0 := 200) dL_acts_198 rfl rfl ?_
            refine g_bipush (p0 := 202) (v := nI 20) dL_acts_200 (by decide) rfl ?_
            first | ((with_reducible refine isN2 ?_); refine g_icmpN_le (tgt := 280) (p1 := 205) dL_acts_202 rfl (by omega) (by omega) rfl (fun c_202 => by exfalso; first | exact c_202 rfl | omega | contradiction) (fun c_202 => ?_)) | refine g_icmp_le (tgt := 280) (p1 := 205) dL_acts_202 rfl rfl (fun c_202 => by exfalso; first | exact c_202 rfl | omega | contradiction) (fun c_202 => ?_)
            refine g_aload_n (p0 := 206) (i := 1) dL_acts_205 rfl rfl rfl ?_
            refine g_iconst (p0 := 207) (v := nI 3) dL_acts_206 rfl rfl ?_
            first | ((with_reducible refine isN1 ?_); refine g_aldN (p0 := 208) dL_acts_207 (by first | rfl | assumption | exact RW.s (by assumption) | exact TW.s (by assumption)) (by first | decide | assumption) (by omega) (by first | assumption | ((repeat (first | exact up_hit | (apply up_nv; omega) | (apply up_mv; omega))) <;> first | assumption | rfl)) rfl ?_) | refine g_ald (p0 := 208) dL_acts_207 (by first | rfl | assumption | exact RW.s (by assumption) | exact TW.s (by assumption)) (by assumption) (by first | assumption | ((repeat (first | exact up_hit | (apply up_nv; omega) | (apply up_mv; omega))) <;> first | assumption | rfl)) rfl ?_
            first | ((with_reducible refine isN1 ?_); refine g_ifN_le (tgt := 280) (p1 := 211) dL_acts_208 rfl (by omega) rfl (fun c_208 => by exfalso; first | exact c_208 rfl | omega | contradiction) (fun c_208 => ?_)) | refine g_if_le (tgt := 280) (p1 := 211) dL_acts_208 rfl rfl (fun c_208 => by exfalso; first | exact c_208 rfl | omega | contradiction) (fun c_208 => ?_)
            exact h211
        · refine g_iload (p0 := 22) dL_acts_20 rfl rfl ?_
          first | ((with_reducible refine isN1 ?_); refine g_ifN_ne (tgt := 85) (p1 := 25) dL_acts_22 rfl (by omega) rfl (fun c_22 => ?_) (fun c_22 => by exfalso; first | exact c_22 rfl | omega | contradiction)) | refine g_if_ne (tgt := 85) (p1 := 25) dL_acts_22 rfl rfl (fun c_22 => ?_) (fun c_22 => by exfalso; first | exact c_22 rfl | omega | contradiction)
          refine g_iload (p0 := 87) dL_acts_85 rfl rfl ?_
          refine g_iconst (p0 := 88) (v := nI 1) dL_acts_87 rfl rfl ?_
          first | ((with_reducible refine isN2 ?_); refine g_icmpN_ne (tgt := 190) (p1 := 91) dL_acts_88 rfl (by omega) (by omega) rfl (fun c_88 => ?_) (fun c_88 => by exfalso; first | exact c_88 rfl | omega | contradiction)) | refine g_icmp_ne (tgt := 190) (p1 := 91) dL_acts_88 rfl rfl (fun c_88 => ?_) (fun c_88 => by exfalso; first | exact c_88 rfl | omega | contradiction)
          refine g_aload_n (p0 := 191) (i := 1) dL_acts_190 rfl rfl rfl ?_
          refine g_iconst (p0 := 192) (v := nI 3) dL_acts_191 rfl rfl ?_
          first | ((with_reducible refine isN1 ?_); refine g_aldN (p0 := 193) dL_acts_192 (by first | rfl | assumption | exact RW.s (by assumption) | exact TW.s (by assumption)) (by first | decide | assumption) (by omega) (by first | assumption | ((repeat (first | exact up_hit | (apply up_nv; omega) | (apply up_mv; omega))) <;> first | assumption | rfl)) rfl ?_) | refine g_ald (p0 := 193) dL_acts_192 (by first | rfl | assumption | exact RW.s (by assumption) | exact TW.s (by assumption)) (by assumption) (by first | assumption | ((repeat (first | exact up_hit | (apply up_nv; omega) | (apply up_mv; omega))) <;> first | assumption | rfl)) rfl ?_
          refine g_bipush (p0 := 195) (v := nI 50) dL_acts_193 (by decide) rfl ?_
          first | ((with_reducible refine isN2 ?_); refine g_icmpN_gt (tgt := 211) (p1 := 198) dL_acts_195 rfl (by omega) (by omega) rfl (fun c_195 => by exfalso; first | exact c_195 rfl | omega | contradiction) (fun c_195 => ?_)) | refine g_icmp_gt (tgt := 211) (p1 := 198) dL_acts_195 rfl rfl (fun c_195 => by exfalso; first | exact c_195 rfl | omega | contradiction) (fun c_195 => ?_)
          refine g_iload (p0 := 200) dL_acts_198 rfl rfl ?_
          refine g_bipush (p0 := 202) (v := nI 20) dL_acts_200 (by decide) rfl ?_
          first | ((with_reducible refine isN2 ?_); refine g_icmpN_le (tgt := 280) (p1 := 205) dL_acts_202 rfl (by omega) (by omega) rfl (fun c_202 => ?_) (fun c_202 => by exfalso; first | exact c_202 rfl | omega | contradiction)) | refine g_icmp_le (tgt := 280) (p1 := 205) dL_acts_202 rfl rfl (fun c_202 => ?_) (fun c_202 => by exfalso; first | exact c_202 rfl | omega | contradiction)
          exact h280
set_option maxRecDepth 20000 in
set_option maxHeartbeats 2000000 in
theorem acts_sp {zz : Int32} {σ : Sg} (hJ : LJ σ) : CM mL_acts [ar 0, ar 79, ar 80, ar 81, ai zz] σ (fun w σ' => w = some (ai (nI 1)) ∧ gN σ' = gN σ ∧ LJ σ') := by
  obtain ⟨ρ, s, hK, hG, hS, hs⟩ := hJ
  obtain ⟨v, hv, hv2⟩ := low_ex (zz >>> (nI 5 &&& 31)) 10000000 (by decide) (by decide)
  obtain ⟨w, hw, hw2⟩ := low_ex zz 24 (by decide) (by decide)
  have hl1 : CM mL_low [ai (zz >>> (nI 5 &&& 31)), ai (10000000)] σ (Ret (nI v) σ) := hv2 σ
  have h20 := act_20 (Q := fun w σ' => w = some (ai (nI 1)) ∧ gN σ' = gN σ ∧ LJ σ') (zz := zz) (x7 := none) (x8 := none) (x9 := none) (x10 := none) hK hG hS hs hv (fun σ' h1 h2 => ⟨rfl, h1, h2⟩) hw
  refine CM_in (ls := [some (ar 0), some (ar 79), some (ar 80), some (ar 81), some (ai zz), none, none, none, none, none, none]) rfl ?_
  refine g_iload (p0 := 2) dL_acts_0 rfl rfl ?_
  refine g_iconst (p0 := 3) (v := nI 5) dL_acts_2 rfl rfl ?_
  refine g_ishr (p0 := 4) dL_acts_3 rfl ?_
  refine g_ldc (p0 := 6) dL_acts_4 qL_38 rfl ?_
  refine g_cS2R (p0 := 9) (r1 := mL_low) dL_acts_6 (Or.inl lL_39) vL_low (FITi rfl rfl) (Nat.le_of_ble_eq_true rfl) (hl1) rfl ?_
  refine g_istore (p0 := 11) (i := 5) (ls2 := [_, _, _, _, _, _, _, _, _, _, _]) dL_acts_9 (Nat.le_of_ble_eq_true rfl) rfl rfl ?_
  refine g_iload (p0 := 13) dL_acts_11 rfl rfl ?_
  refine g_bipush (p0 := 15) (v := nI 24) dL_acts_13 (by decide) rfl ?_
  refine g_cS2R (p0 := 18) (r1 := mL_low) dL_acts_15 (Or.inl lL_39) vL_low (FITi rfl rfl) (Nat.le_of_ble_eq_true rfl) (hw2 σ) rfl ?_
  refine g_istore (p0 := 20) (i := 6) (ls2 := [_, _, _, _, _, _, _, _, _, _, _]) dL_acts_18 (Nat.le_of_ble_eq_true rfl) rfl rfl ?_
  exact h20
