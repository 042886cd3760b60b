/-! THE LAW RINGS -/
/-- how many beats behind the first stroke the stroke q of a letter comes, whose first group has r -/
def fo (r q : Nat) : Nat := if q < r then q else q + 2
/-- behind i strokes of a letter, over s that were there; σ0 as it was ahead -/
def RR (σ0 : Sg) (s t0 b r i : Nat) (σ : Sg) : Prop := (∀ z, z ≠ 79 → z ≠ 80 → σ z = σ0 z) ∧ (∀ j, j ≠ 3 → σ 79 j = σ0 79 j) ∧ σ 79 3 = nI (s + i) ∧ (∀ q, q < s → σ 80 q = σ0 80 q) ∧ ∀ q, q < i → σ 80 (s + q) = nI (t0 + fo r q * b)
theorem fo_lt {r p q : Nat} (h : p < q) : fo r p < fo r q := by
  unfold fo
  split <;> split <;> omega
theorem rr_put {σ0 σ : Sg} {s t0 b r i : Nat} (h : RR σ0 s t0 b r i σ) (hs : s + i < 64) (hb : b ≤ 20) (hr : r ≤ 5) (ht0 : t0 < 100000) (hlast : 0 < s → ∃ t, t ≤ t0 ∧ σ0 80 (s - 1) = nI t) (hi : i ≤ 10) : CM mL_put [ar 79, ar 80, ai (nI (t0 + fo r i * b))] σ (RelV (fun σ' => RR σ0 s t0 b r (i + 1) σ')) := by
  obtain ⟨h1, h2, h3, h4, h5⟩ := h
  have hfo : ∀ q, q ≤ i → fo r q * b ≤ 240 := fun q hq => by
    have h6 : fo r q ≤ 12 := by unfold fo; split <;> omega
    calc fo r q * b ≤ 12 * 20 := Nat.mul_le_mul h6 hb
      _ = 240 := rfl
  refine CM.mono (lput_sp (p := s + i) h3 hs (Nat.le_refl _) (fun k hk1 hk2 => absurd hk2 (by omega)) (fun hp => ?_)) ?_
  · by_cases hi0 : i = 0
    · subst hi0
      obtain ⟨t, ht1, ht2⟩ := hlast (by omega)
      rw [show s + 0 - 1 = s - 1 by omega, h4 (s - 1) (by omega), ht2]
      have := hfo 0 (Nat.le_refl 0)
      exact (nI_le_iff (by omega) (by omega)).mpr (by omega)
    · have e := h5 (i - 1) (by omega)
      rw [show s + i - 1 = s + (i - 1) by omega, e]
      have h7 := hfo i (Nat.le_refl i)
      have h8 := hfo (i - 1) (by omega)
      have h9 : fo r (i - 1) * b ≤ fo r i * b := Nat.mul_le_mul (Nat.le_of_lt (fo_lt (by omega))) (Nat.le_refl b)
      exact (nI_le_iff (by omega) (by omega)).mpr (by omega)
  · rintro w σ' ⟨rfl, rfl⟩
    refine ⟨rfl, fun z hz1 hz2 => ?_, fun j hj => ?_, up_hit, fun q hq => ?_, fun q hq => ?_⟩
    · rw [up_ne hz1, setR_ne hz2]; exact h1 z hz1 hz2
    · rw [up_miss hj, setR_ne (by decide)]; exact h2 j hj
    · rw [up_ne (by decide), setR_hit, insR, if_pos (by omega)]; exact h4 q hq
    · rw [up_ne (by decide), setR_hit, insR]
      by_cases hqi : q = i
      · subst hqi
        rw [if_neg (by omega), if_pos rfl]
      · rw [if_pos (by omega)]; exact h5 q (by omega)
set_option maxRecDepth 20000 in
set_option maxHeartbeats 2000000 in
theorem lring_l1 {s t0 b r jl : Nat} {σ0 : Sg} {Q : SP} (hs : s ≤ 52) (hb : b ≤ 20) (hb0 : σ0 79 0 = nI b) (hr : r ≤ 5) (ht0 : t0 < 100000) (hlast : 0 < s → ∃ t, t ≤ t0 ∧ σ0 80 (s - 1) = nI t) (hr1 : 1 ≤ r) (next : ∀ σ y, RR σ0 s t0 b r r σ → WM mL_ring Q 83 [some (ar 79), some (ar 80), some (ar 81), some (ai (nI jl)), some (ai (nI (t0 + fo r r * b))), y] [] σ) : ∀ m i, i + m + 1 = r → ∀ σ, RR σ0 s t0 b r i σ → WM mL_ring Q 44 [some (ar 79), some (ar 80), some (ar 81), some (ai (nI jl)), some (ai (nI (t0 + fo r i * b))), some (ai (nI m))] [] σ := by
  intro m
  induction m with
  | zero =>
    intro i hi σ hR
    have hput := rr_put hR (by omega) hb hr ht0 hlast (by omega)
    have ef : t0 + fo r i * b + 3 * b = t0 + fo r r * b := by
      have e1 : fo r i = i := by rw [fo, if_pos (by omega)]
      have e2 : fo r r = i + 3 := by rw [fo, if_neg (by omega)]; omega
      rw [e1, e2, Nat.add_mul]
      omega
    refine g_iload (p0 := 46) dL_ring_44 rfl rfl ?_
    first | ((with_reducible refine isN1 ?_); refine g_ifN_lt (tgt := 83) (p1 := 49) dL_ring_46 rfl (by omega) rfl (fun c_46 => by exfalso; first | omega | contradiction | exact absurd (by assumption) c_46 | (simp_all; done)) (fun c_46 => ?_)) | refine g_if_lt (tgt := 83) (p1 := 49) dL_ring_46 rfl rfl (fun c_46 => by exfalso; first | omega | contradiction | exact absurd (by assumption) c_46 | (simp_all; done)) (fun c_46 => ?_)
    refine g_aload_n (p0 := 50) (i := 0) dL_ring_49 rfl rfl rfl ?_
    refine g_aload_n (p0 := 51) (i := 1) dL_ring_50 rfl rfl rfl ?_
    refine g_iload (p0 := 53) dL_ring_51 rfl rfl ?_
    refine g_cS3P (p0 := 56) (r1 := mL_put) dL_ring_53 (Or.inl lL_34) vL_put (FITi rfl rfl) (Nat.le_of_ble_eq_true rfl) (hput) rfl ?_
    intro σ1 hR1
    have hb1 : σ1 79 0 = nI b := by rw [hR1.2.1 0 (by decide)]; exact hb0
    refine g_iload (p0 := 58) dL_ring_56 rfl rfl ?_
    refine g_iload (p0 := 60) dL_ring_58 rfl rfl ?_
    first | ((with_reducible refine isN1 ?_); refine g_ifN_ne (tgt := 71) (p1 := 63) dL_ring_60 rfl (by omega) rfl (fun c_60 => by exfalso; first | omega | contradiction | exact absurd (by assumption) c_60 | (simp_all; done)) (fun c_60 => ?_)) | refine g_if_ne (tgt := 71) (p1 := 63) dL_ring_60 rfl rfl (fun c_60 => by exfalso; first | omega | contradiction | exact absurd (by assumption) c_60 | (simp_all; done)) (fun c_60 => ?_)
    refine g_iconst (p0 := 64) (v := nI 3) dL_ring_63 rfl rfl ?_
    refine g_aload_n (p0 := 65) (i := 0) dL_ring_64 rfl rfl rfl ?_
    refine g_iconst (p0 := 66) (v := nI 0) dL_ring_65 rfl rfl ?_
    first | ((with_reducible refine isN1 ?_); refine g_aldN (p0 := 67) dL_ring_66 (by first | rfl | assumption | exact RW.s (by assumption) | exact TW.s (by assumption)) (by first | decide | assumption) (by omega) (by first | assumption | ((repeat (first | exact up_hit | (apply up_nv; omega) | (apply up_mv; omega))) <;> first | assumption | rfl)) rfl ?_) | refine g_ald (p0 := 67) dL_ring_66 (by first | rfl | assumption | exact RW.s (by assumption) | exact TW.s (by assumption)) (by assumption) (by first | assumption | ((repeat (first | exact up_hit | (apply up_nv; omega) | (apply up_mv; omega))) <;> first | assumption | rfl)) rfl ?_
    first | ((with_reducible refine isN2 ?_); refine g_imulN (p0 := 68) dL_ring_67 rfl ?_) | refine g_imul (p0 := 68) dL_ring_67 rfl ?_
    refine g_goto (tgt := 74) dL_ring_68 rfl ?_
    first | ((with_reducible refine isN2 ?_); refine g_iaddN (p0 := 75) dL_ring_74 rfl ?_) | refine g_iadd (p0 := 75) dL_ring_74 rfl ?_
    rw [ef]
    refine g_istore (p0 := 77) (i := 4) (ls2 := [_, _, _, _, _, _]) dL_ring_75 (Nat.le_of_ble_eq_true rfl) rfl rfl ?_
    first | refine g_iincM (p0 := 80) (ls2 := [_, _, _, _, _, _]) dL_ring_77 rfl (by omega) rfl rfl ?_ | refine g_iinc (p0 := 80) (ls2 := [_, _, _, _, _, _]) dL_ring_77 rfl rfl rfl rfl ?_
    refine g_goto (tgt := 44) dL_ring_80 rfl ?_
    have hR2 : RR σ0 s t0 b r r σ1 := by have h9 := hR1; rw [show i + 1 = r by omega] at h9; exact h9
    have hn := next σ1 (some (ai (nI 0 + Int32.ofInt (-1)))) hR2
    refine g_iload (p0 := 46) dL_ring_44 rfl rfl ?_
    first | ((with_reducible refine isN1 ?_); refine g_ifN_lt (tgt := 83) (p1 := 49) dL_ring_46 rfl (by omega) rfl (fun c_46 => ?_) (fun c_46 => by exfalso; first | omega | exact c_46 (by decide))) | refine g_if_lt (tgt := 83) (p1 := 49) dL_ring_46 rfl rfl (fun c_46 => ?_) (fun c_46 => by exfalso; first | omega | exact c_46 (by decide))
    exact hn
  | succ m ih =>
    intro i hi σ hR
    have hput := rr_put hR (by omega) hb hr ht0 hlast (by omega)
    have ef : t0 + fo r i * b + b = t0 + fo r (i + 1) * b := by
      have e1 : fo r i = i := by rw [fo, if_pos (by omega)]
      have e2 : fo r (i + 1) = i + 1 := by rw [fo, if_pos (by omega)]
      rw [e1, e2, Nat.add_mul]
      omega
    refine g_iload (p0 := 46) dL_ring_44 rfl rfl ?_
    first | ((with_reducible refine isN1 ?_); refine g_ifN_lt (tgt := 83) (p1 := 49) dL_ring_46 rfl (by omega) rfl (fun c_46 => by exfalso; first | omega | contradiction | exact absurd (by assumption) c_46 | (simp_all; done)) (fun c_46 => ?_)) | refine g_if_lt (tgt := 83) (p1 := 49) dL_ring_46 rfl rfl (fun c_46 => by exfalso; first | omega | contradiction | exact absurd (by assumption) c_46 | (simp_all; done)) (fun c_46 => ?_)
    refine g_aload_n (p0 := 50) (i := 0) dL_ring_49 rfl rfl rfl ?_
    refine g_aload_n (p0 := 51) (i := 1) dL_ring_50 rfl rfl rfl ?_
    refine g_iload (p0 := 53) dL_ring_51 rfl rfl ?_
    refine g_cS3P (p0 := 56) (r1 := mL_put) dL_ring_53 (Or.inl lL_34) vL_put (FITi rfl rfl) (Nat.le_of_ble_eq_true rfl) (hput) rfl ?_
    intro σ1 hR1
    have hb1 : σ1 79 0 = nI b := by rw [hR1.2.1 0 (by decide)]; exact hb0
    refine g_iload (p0 := 58) dL_ring_56 rfl rfl ?_
    refine g_iload (p0 := 60) dL_ring_58 rfl rfl ?_
    first | ((with_reducible refine isN1 ?_); refine g_ifN_ne (tgt := 71) (p1 := 63) dL_ring_60 rfl (by omega) rfl (fun c_60 => ?_) (fun c_60 => by exfalso; first | omega | contradiction | exact absurd (by assumption) c_60 | (simp_all; done))) | refine g_if_ne (tgt := 71) (p1 := 63) dL_ring_60 rfl rfl (fun c_60 => ?_) (fun c_60 => by exfalso; first | omega | contradiction | exact absurd (by assumption) c_60 | (simp_all; done))
    refine g_aload_n (p0 := 72) (i := 0) dL_ring_71 rfl rfl rfl ?_
    refine g_iconst (p0 := 73) (v := nI 0) dL_ring_72 rfl rfl ?_
    first | ((with_reducible refine isN1 ?_); refine g_aldN (p0 := 74) dL_ring_73 (by first | rfl | assumption | exact RW.s (by assumption) | exact TW.s (by assumption)) (by first | decide | assumption) (by omega) (by first | assumption | ((repeat (first | exact up_hit | (apply up_nv; omega) | (apply up_mv; omega))) <;> first | assumption | rfl)) rfl ?_) | refine g_ald (p0 := 74) dL_ring_73 (by first | rfl | assumption | exact RW.s (by assumption) | exact TW.s (by assumption)) (by assumption) (by first | assumption | ((repeat (first | exact up_hit | (apply up_nv; omega) | (apply up_mv; omega))) <;> first | assumption | rfl)) rfl ?_
    first | ((with_reducible refine isN2 ?_); refine g_iaddN (p0 := 75) dL_ring_74 rfl ?_) | refine g_iadd (p0 := 75) dL_ring_74 rfl ?_
    rw [ef]
    refine g_istore (p0 := 77) (i := 4) (ls2 := [_, _, _, _, _, _]) dL_ring_75 (Nat.le_of_ble_eq_true rfl) rfl rfl ?_
    first | refine g_iincM (p0 := 80) (ls2 := [_, _, _, _, _, _]) dL_ring_77 rfl (by omega) rfl rfl ?_ | refine g_iinc (p0 := 80) (ls2 := [_, _, _, _, _, _]) dL_ring_77 rfl rfl rfl rfl ?_
    refine g_goto (tgt := 44) dL_ring_80 rfl ?_
    exact ih (i + 1) (by omega) σ1 hR1
set_option maxRecDepth 20000 in
set_option maxHeartbeats 2000000 in
theorem lring_l2 {s t0 b r jl : Nat} {σ0 : Sg} {Q : SP} (hs : s ≤ 52) (hb : b ≤ 20) (hb0 : σ0 79 0 = nI b) (hr : r ≤ 5) (ht0 : t0 < 100000) (hlast : 0 < s → ∃ t, t ≤ t0 ∧ σ0 80 (s - 1) = nI t) {N : Nat} (hN : N ≤ 10) (next : ∀ σ t y, RR σ0 s t0 b r N σ → WM mL_ring Q 116 [some (ar 79), some (ar 80), some (ar 81), some (ai (nI jl)), some (ai t), y] [] σ) : ∀ m i, i + m + 1 = N → r ≤ i → ∀ σ, RR σ0 s t0 b r i σ → WM mL_ring Q 90 [some (ar 79), some (ar 80), some (ar 81), some (ai (nI jl)), some (ai (nI (t0 + fo r i * b))), some (ai (nI m))] [] σ := by
  intro m
  induction m with
  | zero =>
    intro i hi hri σ hR
    have hput := rr_put hR (by omega) hb hr ht0 hlast (by omega)
    refine g_iload (p0 := 92) dL_ring_90 rfl rfl ?_
    first | ((with_reducible refine isN1 ?_); refine g_ifN_lt (tgt := 116) (p1 := 95) dL_ring_92 rfl (by omega) rfl (fun c_92 => by exfalso; first | omega | contradiction | exact absurd (by assumption) c_92 | (simp_all; done)) (fun c_92 => ?_)) | refine g_if_lt (tgt := 116) (p1 := 95) dL_ring_92 rfl rfl (fun c_92 => by exfalso; first | omega | contradiction | exact absurd (by assumption) c_92 | (simp_all; done)) (fun c_92 => ?_)
    refine g_aload_n (p0 := 96) (i := 0) dL_ring_95 rfl rfl rfl ?_
    refine g_aload_n (p0 := 97) (i := 1) dL_ring_96 rfl rfl rfl ?_
    refine g_iload (p0 := 99) dL_ring_97 rfl rfl ?_
    refine g_cS3P (p0 := 102) (r1 := mL_put) dL_ring_99 (Or.inl lL_34) vL_put (FITi rfl rfl) (Nat.le_of_ble_eq_true rfl) (hput) rfl ?_
    intro σ1 hR1
    have hb1 : σ1 79 0 = nI b := by rw [hR1.2.1 0 (by decide)]; exact hb0
    refine g_iload (p0 := 104) dL_ring_102 rfl rfl ?_
    refine g_aload_n (p0 := 105) (i := 0) dL_ring_104 rfl rfl rfl ?_
    refine g_iconst (p0 := 106) (v := nI 0) dL_ring_105 rfl rfl ?_
    first | ((with_reducible refine isN1 ?_); refine g_aldN (p0 := 107) dL_ring_106 (by first | rfl | assumption | exact RW.s (by assumption) | exact TW.s (by assumption)) (by first | decide | assumption) (by omega) (by first | assumption | ((repeat (first | exact up_hit | (apply up_nv; omega) | (apply up_mv; omega))) <;> first | assumption | rfl)) rfl ?_) | refine g_ald (p0 := 107) dL_ring_106 (by first | rfl | assumption | exact RW.s (by assumption) | exact TW.s (by assumption)) (by assumption) (by first | assumption | ((repeat (first | exact up_hit | (apply up_nv; omega) | (apply up_mv; omega))) <;> first | assumption | rfl)) rfl ?_
    first | ((with_reducible refine isN2 ?_); refine g_iaddN (p0 := 108) dL_ring_107 rfl ?_) | refine g_iadd (p0 := 108) dL_ring_107 rfl ?_
    refine g_istore (p0 := 110) (i := 4) (ls2 := [_, _, _, _, _, _]) dL_ring_108 (Nat.le_of_ble_eq_true rfl) rfl rfl ?_
    first | refine g_iincM (p0 := 113) (ls2 := [_, _, _, _, _, _]) dL_ring_110 rfl (by omega) rfl rfl ?_ | refine g_iinc (p0 := 113) (ls2 := [_, _, _, _, _, _]) dL_ring_110 rfl rfl rfl rfl ?_
    refine g_goto (tgt := 90) dL_ring_113 rfl ?_
    have hR2 : RR σ0 s t0 b r N σ1 := by have h9 := hR1; rw [show i + 1 = N by omega] at h9; exact h9
    have hn := next σ1 (nI (t0 + fo r i * b + b)) (some (ai (nI 0 + Int32.ofInt (-1)))) hR2
    refine g_iload (p0 := 92) dL_ring_90 rfl rfl ?_
    first | ((with_reducible refine isN1 ?_); refine g_ifN_lt (tgt := 116) (p1 := 95) dL_ring_92 rfl (by omega) rfl (fun c_92 => ?_) (fun c_92 => by exfalso; first | omega | exact c_92 (by decide))) | refine g_if_lt (tgt := 116) (p1 := 95) dL_ring_92 rfl rfl (fun c_92 => ?_) (fun c_92 => by exfalso; first | omega | exact c_92 (by decide))
    exact hn
  | succ m ih =>
    intro i hi hri σ hR
    have hput := rr_put hR (by omega) hb hr ht0 hlast (by omega)
    have ef : t0 + fo r i * b + b = t0 + fo r (i + 1) * b := by
      have e1 : fo r (i + 1) = fo r i + 1 := by rw [fo, if_neg (by omega), fo, if_neg (by omega)]
      rw [e1, Nat.add_mul]
      omega
    refine g_iload (p0 := 92) dL_ring_90 rfl rfl ?_
    first | ((with_reducible refine isN1 ?_); refine g_ifN_lt (tgt := 116) (p1 := 95) dL_ring_92 rfl (by omega) rfl (fun c_92 => by exfalso; first | omega | contradiction | exact absurd (by assumption) c_92 | (simp_all; done)) (fun c_92 => ?_)) | refine g_if_lt (tgt := 116) (p1 := 95) dL_ring_92 rfl rfl (fun c_92 => by exfalso; first | omega | contradiction | exact absurd (by assumption) c_92 | (simp_all; done)) (fun c_92 => ?_)
    refine g_aload_n (p0 := 96) (i := 0) dL_ring_95 rfl rfl rfl ?_
    refine g_aload_n (p0 := 97) (i := 1) dL_ring_96 rfl rfl rfl ?_
    refine g_iload (p0 := 99) dL_ring_97 rfl rfl ?_
    refine g_cS3P (p0 := 102) (r1 := mL_put) dL_ring_99 (Or.inl lL_34) vL_put (FITi rfl rfl) (Nat.le_of_ble_eq_true rfl) (hput) rfl ?_
    intro σ1 hR1
    have hb1 : σ1 79 0 = nI b := by rw [hR1.2.1 0 (by decide)]; exact hb0
    refine g_iload (p0 := 104) dL_ring_102 rfl rfl ?_
    refine g_aload_n (p0 := 105) (i := 0) dL_ring_104 rfl rfl rfl ?_
    refine g_iconst (p0 := 106) (v := nI 0) dL_ring_105 rfl rfl ?_
    first | ((with_reducible refine isN1 ?_); refine g_aldN (p0 := 107) dL_ring_106 (by first | rfl | assumption | exact RW.s (by assumption) | exact TW.s (by assumption)) (by first | decide | assumption) (by omega) (by first | assumption | ((repeat (first | exact up_hit | (apply up_nv; omega) | (apply up_mv; omega))) <;> first | assumption | rfl)) rfl ?_) | refine g_ald (p0 := 107) dL_ring_106 (by first | rfl | assumption | exact RW.s (by assumption) | exact TW.s (by assumption)) (by assumption) (by first | assumption | ((repeat (first | exact up_hit | (apply up_nv; omega) | (apply up_mv; omega))) <;> first | assumption | rfl)) rfl ?_
    first | ((with_reducible refine isN2 ?_); refine g_iaddN (p0 := 108) dL_ring_107 rfl ?_) | refine g_iadd (p0 := 108) dL_ring_107 rfl ?_
    rw [ef]
    refine g_istore (p0 := 110) (i := 4) (ls2 := [_, _, _, _, _, _]) dL_ring_108 (Nat.le_of_ble_eq_true rfl) rfl rfl ?_
    first | refine g_iincM (p0 := 113) (ls2 := [_, _, _, _, _, _]) dL_ring_110 rfl (by omega) rfl rfl ?_ | refine g_iinc (p0 := 113) (ls2 := [_, _, _, _, _, _]) dL_ring_110 rfl rfl rfl rfl ?_
    refine g_goto (tgt := 90) dL_ring_113 rfl ?_
    exact ih (i + 1) (by omega) (by omega) σ1 hR1
/-- when the law's next letter begins -/
def t0L (s b pz T : Nat) : Nat := if s = 0 then 0 else T + 6 * b + 6 * b * pz
def RGQ (σ : Sg) (s b pz T c : Nat) : Sg → Prop := fun σ' => (∀ z, z ≠ 79 → z ≠ 80 → σ' z = σ z) ∧ (∀ j, j ≠ 3 → j ≠ 2 → σ' 79 j = σ 79 j) ∧ σ' 79 2 = nI 0 ∧ σ' 79 3 = nI (s + mor c) ∧ (∀ q, q < s → σ' 80 q = σ 80 q) ∧ ∀ q, q < mor c → σ' 80 (s + q) = nI (t0L s b pz T + fo (c / 5 + 1) q * b)
set_option maxRecDepth 20000 in
set_option maxHeartbeats 2000000 in
theorem lring_sp {s b pz T c jl : Nat} {σ : Sg} (hs : s ≤ 52) (hb : b ≤ 20) (hpz : pz ≤ 1) (hT : T ≤ 9999) (g0 : σ 79 0 = nI b) (g2 : σ 79 2 = nI pz) (g3 : σ 79 3 = nI s) (hj : jl < 25) (hc : σ 81 jl = nI c) (hc1 : c < 25) (hlast : 0 < s → σ 80 (s - 1) = nI T) : CM mL_ring [ar 79, ar 80, ar 81, ai (nI jl)] σ (RelV (RGQ σ s b pz T c)) := by
  have hbp : 6 * b * pz ≤ 120 := by
    calc 6 * b * pz ≤ 120 * 1 := Nat.mul_le_mul (by omega) hpz
      _ = 120 := rfl
  have ht0 : t0L s b pz T < 100000 := by
    unfold t0L
    split <;> omega
  have hl : 0 < s → ∃ t, t ≤ t0L s b pz T ∧ σ 80 (s - 1) = nI t := fun h => ⟨T, by rw [t0L, if_neg (by omega)]; omega, hlast h⟩
  have hR0 : RR σ s (t0L s b pz T) b (c / 5 + 1) 0 σ := ⟨fun _ _ _ => rfl, fun _ _ => rfl, g3, fun _ _ => rfl, fun q hq => absurd hq (Nat.not_lt_zero q)⟩
  have hm : mor c ≤ 10 := by simp only [mor]; omega
  have hmc : mor c = c / 5 + 1 + (c % 5 + 1) := rfl
  refine CM_in (ls := [some (ar 79), some (ar 80), some (ar 81), some (ai (nI jl)), none, none]) rfl ?_
  have h116 : ∀ σ1 t y, RR σ s (t0L s b pz T) b (c / 5 + 1) (mor c) σ1 → WM mL_ring (RelV (RGQ σ s b pz T c)) 116 [some (ar 79), some (ar 80), some (ar 81), some (ai (nI jl)), some (ai t), y] [] σ1 := by
    rintro σ1 t y ⟨r1, r2, r3, r4, r5⟩
    refine g_aload_n (p0 := 117) (i := 0) dL_ring_116 rfl rfl rfl ?_
    refine g_iconst (p0 := 118) (v := nI 2) dL_ring_117 rfl rfl ?_
    refine g_iconst (p0 := 119) (v := nI 0) dL_ring_118 rfl rfl ?_
    first | ((with_reducible refine isNS ?_); refine g_astN (p0 := 120) dL_ring_119 (by first | rfl | assumption | exact RW.s (by assumption) | exact TW.s (by assumption)) (by first | decide | assumption) (by omega) rfl ?_) | refine g_ast (p0 := 120) dL_ring_119 (by first | rfl | assumption | exact RW.s (by assumption) | exact TW.s (by assumption)) (by assumption) rfl ?_
    refine g_return dL_ring_120 rfl ?_
    refine ⟨rfl, fun z hz1 hz2 => ?_, fun j hj1 hj2 => ?_, up_hit, ?_, fun q hq => ?_, fun q hq => ?_⟩
    · rw [up_ne hz1]; exact r1 z hz1 hz2
    · rw [up_miss hj2]; exact r2 j hj1
    · rw [up_miss (by decide)]; exact r3
    · rw [up_ne (by decide)]; exact r4 q hq
    · rw [up_ne (by decide)]; exact r5 q hq
  have h83 : ∀ σ1 y, RR σ s (t0L s b pz T) b (c / 5 + 1) (c / 5 + 1) σ1 → WM mL_ring (RelV (RGQ σ s b pz T c)) 83 [some (ar 79), some (ar 80), some (ar 81), some (ai (nI jl)), some (ai (nI (t0L s b pz T + fo (c / 5 + 1) (c / 5 + 1) * b))), y] [] σ1 := by
    intro σ1 y hR1
    have hc' : σ1 81 jl = nI c := by rw [hR1.1 81 (by decide) (by decide)]; exact hc
    have h90 := lring_l2 (jl := jl) hs hb g0 (by omega) ht0 hl hm h116 (c % 5) (c / 5 + 1) (by omega) (Nat.le_refl _) σ1 hR1
    refine g_aload_n (p0 := 84) (i := 2) dL_ring_83 rfl rfl rfl ?_
    refine g_iload_n (p0 := 85) (i := 3) dL_ring_84 rfl rfl rfl ?_
    first | ((with_reducible refine isN1 ?_); refine g_aldN (p0 := 86) dL_ring_85 (by first | rfl | assumption | exact RW.s (by assumption) | exact TW.s (by assumption)) (by first | decide | assumption) (by omega) (by first | assumption | ((repeat (first | exact up_hit | (apply up_nv; omega) | (apply up_mv; omega))) <;> first | assumption | rfl)) rfl ?_) | refine g_ald (p0 := 86) dL_ring_85 (by first | rfl | assumption | exact RW.s (by assumption) | exact TW.s (by assumption)) (by assumption) (by first | assumption | ((repeat (first | exact up_hit | (apply up_nv; omega) | (apply up_mv; omega))) <;> first | assumption | rfl)) rfl ?_
    refine g_iconst (p0 := 87) (v := nI 5) dL_ring_86 rfl rfl ?_
    first | ((with_reducible refine isN2 ?_); refine g_iremN (p0 := 88) dL_ring_87 (by omega) (by omega) (by omega) rfl ?_) | refine g_irem (p0 := 88) dL_ring_87 (by decide) rfl ?_
    refine g_istore (p0 := 90) (i := 5) (ls2 := [_, _, _, _, _, _]) dL_ring_88 (Nat.le_of_ble_eq_true rfl) rfl rfl ?_
    exact h90
  have h44 := lring_l1 (jl := jl) (r := c / 5 + 1) hs hb g0 (by omega) ht0 hl (by omega) h83 (c / 5) 0 (by omega) σ hR0
  have ez : t0L s b pz T + fo (c / 5 + 1) 0 * b = t0L s b pz T := by rw [fo, if_pos (by omega), Nat.zero_mul]; rfl
  rw [ez] at h44
  have h35 : WM mL_ring (RelV (RGQ σ s b pz T c)) 35 [some (ar 79), some (ar 80), some (ar 81), some (ai (nI jl)), none, none] [ai (nI (t0L s b pz T))] σ := by
    refine g_istore (p0 := 37) (i := 4) (ls2 := [_, _, _, _, _, _]) dL_ring_35 (Nat.le_of_ble_eq_true rfl) rfl rfl ?_
    refine g_aload_n (p0 := 38) (i := 2) dL_ring_37 rfl rfl rfl ?_
    refine g_iload_n (p0 := 39) (i := 3) dL_ring_38 rfl rfl rfl ?_
    first | ((with_reducible refine isN1 ?_); refine g_aldN (p0 := 40) dL_ring_39 (by first | rfl | assumption | exact RW.s (by assumption) | exact TW.s (by assumption)) (by first | decide | assumption) (by omega) (by first | assumption | ((repeat (first | exact up_hit | (apply up_nv; omega) | (apply up_mv; omega))) <;> first | assumption | rfl)) rfl ?_) | refine g_ald (p0 := 40) dL_ring_39 (by first | rfl | assumption | exact RW.s (by assumption) | exact TW.s (by assumption)) (by assumption) (by first | assumption | ((repeat (first | exact up_hit | (apply up_nv; omega) | (apply up_mv; omega))) <;> first | assumption | rfl)) rfl ?_
    refine g_iconst (p0 := 41) (v := nI 5) dL_ring_40 rfl rfl ?_
    first | ((with_reducible refine isN2 ?_); refine g_idivN (p0 := 42) dL_ring_41 (by omega) (by omega) (by omega) rfl ?_) | refine g_idiv (p0 := 42) dL_ring_41 (by decide) rfl ?_
    refine g_istore (p0 := 44) (i := 5) (ls2 := [_, _, _, _, _, _]) dL_ring_42 (Nat.le_of_ble_eq_true rfl) rfl rfl ?_
    exact h44
  by_cases h0 : s = 0
  · have e : t0L s b pz T = 0 := by rw [t0L, if_pos h0]
    rw [e] at h35
    refine g_aload_n (p0 := 1) (i := 0) dL_ring_0 rfl rfl rfl ?_
    refine g_iconst (p0 := 2) (v := nI 3) dL_ring_1 rfl rfl ?_
    first | ((with_reducible refine isN1 ?_); refine g_aldN (p0 := 3) dL_ring_2 (by first | rfl | assumption | exact RW.s (by assumption) | exact TW.s (by assumption)) (by first | decide | assumption) (by omega) (by first | assumption | ((repeat (first | exact up_hit | (apply up_nv; omega) | (apply up_mv; omega))) <;> first | assumption | rfl)) rfl ?_) | refine g_ald (p0 := 3) dL_ring_2 (by first | rfl | assumption | exact RW.s (by assumption) | exact TW.s (by assumption)) (by assumption) (by first | assumption | ((repeat (first | exact up_hit | (apply up_nv; omega) | (apply up_mv; omega))) <;> first | assumption | rfl)) rfl ?_
    first | ((with_reducible refine isN1 ?_); refine g_ifN_ne (tgt := 10) (p1 := 6) dL_ring_3 rfl (by omega) rfl (fun c_3 => by exfalso; first | omega | contradiction | exact absurd (by assumption) c_3 | (simp_all; done)) (fun c_3 => ?_)) | refine g_if_ne (tgt := 10) (p1 := 6) dL_ring_3 rfl rfl (fun c_3 => by exfalso; first | omega | contradiction | exact absurd (by assumption) c_3 | (simp_all; done)) (fun c_3 => ?_)
    refine g_iconst (p0 := 7) (v := nI 0) dL_ring_6 rfl rfl ?_
    refine g_goto (tgt := 35) dL_ring_7 rfl ?_
    exact h35
  · have e : t0L s b pz T = T + 6 * b + 6 * b * pz := by rw [t0L, if_neg h0]
    have hl2 := hlast (by omega)
    rw [e] at h35
    refine g_aload_n (p0 := 1) (i := 0) dL_ring_0 rfl rfl rfl ?_
    refine g_iconst (p0 := 2) (v := nI 3) dL_ring_1 rfl rfl ?_
    first | ((with_reducible refine isN1 ?_); refine g_aldN (p0 := 3) dL_ring_2 (by first | rfl | assumption | exact RW.s (by assumption) | exact TW.s (by assumption)) (by first | decide | assumption) (by omega) (by first | assumption | ((repeat (first | exact up_hit | (apply up_nv; omega) | (apply up_mv; omega))) <;> first | assumption | rfl)) rfl ?_) | refine g_ald (p0 := 3) dL_ring_2 (by first | rfl | assumption | exact RW.s (by assumption) | exact TW.s (by assumption)) (by assumption) (by first | assumption | ((repeat (first | exact up_hit | (apply up_nv; omega) | (apply up_mv; omega))) <;> first | assumption | rfl)) rfl ?_
    first | ((with_reducible refine isN1 ?_); refine g_ifN_ne (tgt := 10) (p1 := 6) dL_ring_3 rfl (by omega) rfl (fun c_3 => ?_) (fun c_3 => by exfalso; first | omega | contradiction | exact absurd (by assumption) c_3 | (simp_all; done))) | refine g_if_ne (tgt := 10) (p1 := 6) dL_ring_3 rfl rfl (fun c_3 => ?_) (fun c_3 => by exfalso; first | omega | contradiction | exact absurd (by assumption) c_3 | (simp_all; done))
    refine g_aload_n (p0 := 11) (i := 1) dL_ring_10 rfl rfl rfl ?_
    refine g_aload_n (p0 := 12) (i := 0) dL_ring_11 rfl rfl rfl ?_
    refine g_iconst (p0 := 13) (v := nI 3) dL_ring_12 rfl rfl ?_
    first | ((with_reducible refine isN1 ?_); refine g_aldN (p0 := 14) dL_ring_13 (by first | rfl | assumption | exact RW.s (by assumption) | exact TW.s (by assumption)) (by first | decide | assumption) (by omega) (by first | assumption | ((repeat (first | exact up_hit | (apply up_nv; omega) | (apply up_mv; omega))) <;> first | assumption | rfl)) rfl ?_) | refine g_ald (p0 := 14) dL_ring_13 (by first | rfl | assumption | exact RW.s (by assumption) | exact TW.s (by assumption)) (by assumption) (by first | assumption | ((repeat (first | exact up_hit | (apply up_nv; omega) | (apply up_mv; omega))) <;> first | assumption | rfl)) rfl ?_
    refine g_iconst (p0 := 15) (v := nI 1) dL_ring_14 rfl rfl ?_
    first | ((with_reducible refine isN2 ?_); refine g_isubN (p0 := 16) dL_ring_15 (by omega) rfl ?_) | refine g_isub (p0 := 16) dL_ring_15 rfl ?_
    first | ((with_reducible refine isN1 ?_); refine g_aldN (p0 := 17) dL_ring_16 (by first | rfl | assumption | exact RW.s (by assumption) | exact TW.s (by assumption)) (by first | decide | assumption) (by omega) (by first | assumption | ((repeat (first | exact up_hit | (apply up_nv; omega) | (apply up_mv; omega))) <;> first | assumption | rfl)) rfl ?_) | refine g_ald (p0 := 17) dL_ring_16 (by first | rfl | assumption | exact RW.s (by assumption) | exact TW.s (by assumption)) (by assumption) (by first | assumption | ((repeat (first | exact up_hit | (apply up_nv; omega) | (apply up_mv; omega))) <;> first | assumption | rfl)) rfl ?_
    refine g_bipush (p0 := 19) (v := nI 6) dL_ring_17 (by decide) rfl ?_
    refine g_aload_n (p0 := 20) (i := 0) dL_ring_19 rfl rfl rfl ?_
    refine g_iconst (p0 := 21) (v := nI 0) dL_ring_20 rfl rfl ?_
    first | ((with_reducible refine isN1 ?_); refine g_aldN (p0 := 22) dL_ring_21 (by first | rfl | assumption | exact RW.s (by assumption) | exact TW.s (by assumption)) (by first | decide | assumption) (by omega) (by first | assumption | ((repeat (first | exact up_hit | (apply up_nv; omega) | (apply up_mv; omega))) <;> first | assumption | rfl)) rfl ?_) | refine g_ald (p0 := 22) dL_ring_21 (by first | rfl | assumption | exact RW.s (by assumption) | exact TW.s (by assumption)) (by assumption) (by first | assumption | ((repeat (first | exact up_hit | (apply up_nv; omega) | (apply up_mv; omega))) <;> first | assumption | rfl)) rfl ?_
    first | ((with_reducible refine isN2 ?_); refine g_imulN (p0 := 23) dL_ring_22 rfl ?_) | refine g_imul (p0 := 23) dL_ring_22 rfl ?_
    first | ((with_reducible refine isN2 ?_); refine g_iaddN (p0 := 24) dL_ring_23 rfl ?_) | refine g_iadd (p0 := 24) dL_ring_23 rfl ?_
    refine g_bipush (p0 := 26) (v := nI 6) dL_ring_24 (by decide) rfl ?_
    refine g_aload_n (p0 := 27) (i := 0) dL_ring_26 rfl rfl rfl ?_
    refine g_iconst (p0 := 28) (v := nI 0) dL_ring_27 rfl rfl ?_
    first | ((with_reducible refine isN1 ?_); refine g_aldN (p0 := 29) dL_ring_28 (by first | rfl | assumption | exact RW.s (by assumption) | exact TW.s (by assumption)) (by first | decide | assumption) (by omega) (by first | assumption | ((repeat (first | exact up_hit | (apply up_nv; omega) | (apply up_mv; omega))) <;> first | assumption | rfl)) rfl ?_) | refine g_ald (p0 := 29) dL_ring_28 (by first | rfl | assumption | exact RW.s (by assumption) | exact TW.s (by assumption)) (by assumption) (by first | assumption | ((repeat (first | exact up_hit | (apply up_nv; omega) | (apply up_mv; omega))) <;> first | assumption | rfl)) rfl ?_
    first | ((with_reducible refine isN2 ?_); refine g_imulN (p0 := 30) dL_ring_29 rfl ?_) | refine g_imul (p0 := 30) dL_ring_29 rfl ?_
    refine g_aload_n (p0 := 31) (i := 0) dL_ring_30 rfl rfl rfl ?_
    refine g_iconst (p0 := 32) (v := nI 2) dL_ring_31 rfl rfl ?_
    first | ((with_reducible refine isN1 ?_); refine g_aldN (p0 := 33) dL_ring_32 (by first | rfl | assumption | exact RW.s (by assumption) | exact TW.s (by assumption)) (by first | decide | assumption) (by omega) (by first | assumption | ((repeat (first | exact up_hit | (apply up_nv; omega) | (apply up_mv; omega))) <;> first | assumption | rfl)) rfl ?_) | refine g_ald (p0 := 33) dL_ring_32 (by first | rfl | assumption | exact RW.s (by assumption) | exact TW.s (by assumption)) (by assumption) (by first | assumption | ((repeat (first | exact up_hit | (apply up_nv; omega) | (apply up_mv; omega))) <;> first | assumption | rfl)) rfl ?_
    first | ((with_reducible refine isN2 ?_); refine g_imulN (p0 := 34) dL_ring_33 rfl ?_) | refine g_imul (p0 := 34) dL_ring_33 rfl ?_
    first | ((with_reducible refine isN2 ?_); refine g_iaddN (p0 := 35) dL_ring_34 rfl ?_) | refine g_iadd (p0 := 35) dL_ring_34 rfl ?_
    exact h35
