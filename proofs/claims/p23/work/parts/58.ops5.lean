/-! THE CLASS: out of the rows of whole -/
theorem ahF_congr {τ τ' : Nat → Int32} {x : Int32} : ∀ n k, (∀ q, q < k + n → τ q = τ' q) → ahF τ x n k = ahF τ' x n k
  | 0, k, _ => rfl
  | n + 1, k, h => by
    rw [ahF, ahF, h k (by omega), ahF_congr n (k + 1) (fun q hq => h q (by omega))]
theorem ah_congr {τ τ' : Nat → Int32} {x : Int32} {s : Nat} (h : ∀ q, q < s → τ q = τ' q) : ah τ s x = ah τ' s x := ahF_congr s 0 (fun q hq => h q (by omega))
def REM (ρ : Nat → Int32) (s p : Nat) : Nat → Int32 := remR (upd ρ 3 (nI (s - 1))) (29 + s) (29 + p)
theorem REM_lo {ρ : Nat → Int32} {s p k : Nat} (h : k < 29) (h3 : k ≠ 3) : REM ρ s p k = ρ k := by
  rw [REM, remR, if_neg (by omega), upd_ne h3]
theorem REM_3 {ρ : Nat → Int32} {s p : Nat} : REM ρ s p 3 = nI (s - 1) := by
  rw [REM, remR, if_neg (by omega), upd_hit]
theorem REM_hi {ρ : Nat → Int32} {s p k : Nat} : REM ρ s p (29 + k) = remR (tm ρ) s p k := by
  rw [REM, remR, remR]
  by_cases h : p ≤ k ∧ k + 1 < s
  · rw [if_pos h, if_pos (by omega), upd_ne (by omega)]; rfl
  · rw [if_neg h, if_neg (by omega), upd_ne (by omega)]
theorem RowOK_lo {ρ ρ' : Nat → Int32} {s s' : Nat} (h : RowOK ρ s) (hs : s' ≤ 160) (h3 : ρ' 3 = nI s') (h2 : ρ' 2 = nI 0 ∨ ρ' 2 = nI 1) (hlo : ∀ k, 4 ≤ k → k < 29 → ρ' k = ρ k) (ht : TIM ρ' s') : RowOK ρ' s' := by
  obtain ⟨a1, a2, a3, ⟨cf, a4, a5⟩, _⟩ := h
  exact ⟨h3, hs, h2, ⟨cf, fun l hl => by rw [hlo (4 + l) (by omega) (by omega)]; exact a4 l hl, a5⟩, ht⟩
theorem TIM_rem {ρ : Nat → Int32} {s p : Nat} (h : TIM ρ s) : TIM (REM ρ s p) (s - 1) := by
  refine ⟨by rw [REM_lo (by decide) (by decide)]; exact h.1, fun k hk => ?_⟩
  rw [REM_hi, remR]
  split
  · exact h.2 (k + 1) (by omega)
  · exact h.2 k (by omega)
theorem RowOK_rem {ρ : Nat → Int32} {s p : Nat} (h : RowOK ρ s) : RowOK (REM ρ s p) (s - 1) :=
  RowOK_lo h (by have := h.2.1; omega) REM_3 (by rw [REM_lo (by decide) (by decide)]; exact h.2.2.1) (fun k h1 h2 => REM_lo h2 (by omega)) (TIM_rem h.2.2.2.2)
abbrev remS (σ : Sg) (s p : Nat) : Sg := setR (setR σ 3 (remR (σ 3) s p)) 1 (upd (σ 1) 2 (nI (s - 1)))
theorem remS_1 {σ : Sg} {s p : Nat} : remS σ s p 1 = upd (σ 1) 2 (nI (s - 1)) := setR_hit
theorem remS_3 {σ : Sg} {s p : Nat} : remS σ s p 3 = remR (σ 3) s p := (setR_ne (by decide)).trans setR_hit
theorem remS_ne {σ : Sg} {s p : Nat} {z : Nat} (h1 : z ≠ 1) (h3 : z ≠ 3) : remS σ s p z = σ z := (setR_ne h1).trans (setR_ne h3)
theorem Rep_rem {σ1 : Sg} {ρ : Nat → Int32} {s p : Nat} (h : Rep σ1 1 ρ s) (hp : p < s) : Rep (remS σ1 s p) 1 (REM ρ s p) (s - 1) := by
  obtain ⟨b1, b2, b3, b4, b5, b6⟩ := h
  have b6 : ∀ q, q < s → σ1 3 q = tm ρ q := b6
  refine ⟨by rw [remS_1, upd_hit], by rw [remS_1, upd_ne (by decide), REM_lo (by decide) (by decide)]; exact b2, by rw [remS_1, upd_ne (by decide), REM_lo (by decide) (by decide)]; exact b3, by rw [remS_1, upd_ne (by decide), REM_lo (by decide) (by decide)]; exact b4, fun l hl => by rw [remS_ne (by decide) (by decide), REM_lo (by omega) (by omega)]; exact b5 l hl, fun q hq => ?_⟩
  show remS _ _ _ 3 q = _
  rw [remS_3, REM_hi, remR, remR]
  by_cases h2 : p ≤ q ∧ q + 1 < s
  · rw [if_pos h2, if_pos h2]; exact b6 _ (by omega)
  · rw [if_neg h2, if_neg h2]; exact b6 _ (by omega)
def INS (ρ : Nat → Int32) (s : Nat) (x : Int32) : Nat → Int32 := upd (insR ρ (29 + s) (29 + ah (tm ρ) s x) x) 3 (nI (s + 1))
theorem INS_lo {ρ : Nat → Int32} {s k : Nat} {x : Int32} (h : k < 29) (h3 : k ≠ 3) : INS ρ s x k = ρ k := by
  rw [INS, upd_ne h3, insR, if_pos (by omega)]
theorem INS_hi {ρ : Nat → Int32} {s k : Nat} {x : Int32} : INS ρ s x (29 + k) = insR (tm ρ) s (ah (tm ρ) s x) x k := by
  rw [INS, upd_ne (by omega), insR, insR]
  by_cases h : k < ah (tm ρ) s x
  · rw [if_pos h, if_pos (by omega)]
  · rw [if_neg h, if_neg (by omega)]
    by_cases h2 : k = ah (tm ρ) s x
    · rw [if_pos h2, if_pos (by omega)]
    · rw [if_neg h2, if_neg (by omega)]
      by_cases h3 : k ≤ s
      · rw [if_pos h3, if_pos (by omega)]
        show ρ (29 + k - 1) = ρ (29 + (k - 1))
        congr 1
        omega
      · rw [if_neg h3, if_neg (by omega)]
theorem TIM_ins {ρ : Nat → Int32} {s : Nat} {x : Int32} (h : TIM ρ s) (hx : ∃ t, t ≤ 9999 ∧ x = nI t) : TIM (INS ρ s x) (s + 1) := by
  refine ⟨by rw [INS_lo (by decide) (by decide)]; exact h.1, fun k hk => ?_⟩
  have ha := ah_le (tm ρ) s x
  rw [INS_hi, insR]
  by_cases h1 : k < ah (tm ρ) s x
  · rw [if_pos h1]; exact h.2 k (by omega)
  · rw [if_neg h1]
    by_cases h2 : k = ah (tm ρ) s x
    · rw [if_pos h2]; exact hx
    · rw [if_neg h2, if_pos (by omega)]; exact h.2 (k - 1) (by omega)
theorem RowOK_ins {ρ : Nat → Int32} {s : Nat} {x : Int32} (h : RowOK ρ s) (hs : s < 160) (hx : ∃ t, t ≤ 9999 ∧ x = nI t) : RowOK (INS ρ s x) (s + 1) :=
  RowOK_lo h (by omega) upd_hit (by rw [INS_lo (by decide) (by decide)]; exact h.2.2.1) (fun k h1 h2 => INS_lo h2 (by omega)) (TIM_ins h.2.2.2.2 hx)
abbrev insS (σ : Sg) (s : Nat) (x : Int32) : Sg := setR (setR σ 3 (insR (σ 3) s (ah (σ 3) s x) x)) 1 (upd (σ 1) 2 (nI (s + 1)))
theorem insS_1 {σ : Sg} {s : Nat} {x : Int32} : insS σ s x 1 = upd (σ 1) 2 (nI (s + 1)) := setR_hit
theorem insS_3 {σ : Sg} {s : Nat} {x : Int32} : insS σ s x 3 = insR (σ 3) s (ah (σ 3) s x) x := (setR_ne (by decide)).trans setR_hit
theorem insS_ne {σ : Sg} {s : Nat} {x : Int32} {z : Nat} (h1 : z ≠ 1) (h3 : z ≠ 3) : insS σ s x z = σ z := (setR_ne h1).trans (setR_ne h3)
theorem Rep_ins {σ1 : Sg} {ρ : Nat → Int32} {s : Nat} {x : Int32} (h : Rep σ1 1 ρ s) : Rep (insS σ1 s x) 1 (INS ρ s x) (s + 1) := by
  obtain ⟨b1, b2, b3, b4, b5, b6⟩ := h
  have b6 : ∀ q, q < s → σ1 3 q = tm ρ q := b6
  have ea : ah (σ1 3) s x = ah (tm ρ) s x := ah_congr b6
  have hle := ah_le (tm ρ) s x
  refine ⟨by rw [insS_1, upd_hit], by rw [insS_1, upd_ne (by decide), INS_lo (by decide) (by decide)]; exact b2, by rw [insS_1, upd_ne (by decide), INS_lo (by decide) (by decide)]; exact b3, by rw [insS_1, upd_ne (by decide), INS_lo (by decide) (by decide)]; exact b4, fun l hl => by rw [insS_ne (by decide) (by decide), INS_lo (by omega) (by omega)]; exact b5 l hl, fun q hq => ?_⟩
  show insS _ _ _ 3 q = _
  rw [insS_3, INS_hi, ea, insR, insR]
  by_cases h1 : q < ah (tm ρ) s x
  · rw [if_pos h1, if_pos h1]; exact b6 _ (by omega)
  · rw [if_neg h1, if_neg h1]
    by_cases h2 : q = ah (tm ρ) s x
    · rw [if_pos h2, if_pos h2]
    · rw [if_neg h2, if_neg h2, if_pos (by omega), if_pos (by omega)]; exact b6 _ (by omega)
set_option maxRecDepth 20000 in
set_option maxHeartbeats 2000000 in
theorem mute_cF {x : Int32} {σ : Sg} (h : CM mX8_hasStroke [ar 1, ai x] σ (Ret (nI 0) σ)) : CM mX9_mute [ar 0, ai x] σ (Ret (-1000001) σ) := by
  refine CM_in (ls := [some (ar 0), some (ai x), none]) rfl ?_
  refine g_aload_n (p0 := 1) (i := 0) dX9_mute_0 rfl rfl rfl ?_
  refine g_getR (p0 := 4) dX9_mute_1 fX9_10 (by first | rfl | assumption | exact RW.s (by assumption) | exact TW.s (by assumption)) rfl rfl ?_
  refine g_iload_n (p0 := 5) (i := 1) dX9_mute_4 rfl rfl rfl ?_
  refine g_cV1R (p0 := 8) (r1 := mX8_hasStroke) dX9_mute_5 lX9_107 vX8_hasStroke (by first | rfl | assumption | exact RW.s (by assumption) | exact TW.s (by assumption)) ⟨_, _, rfl⟩ (FITi rfl rfl) (Nat.le_of_ble_eq_true rfl) (h) rfl ?_
  first | ((with_reducible refine isN1 ?_); refine g_ifN_ne (tgt := 14) (p1 := 11) dX9_mute_8 rfl (by omega) rfl (fun c_8 => by exfalso; first | omega | contradiction | exact absurd (by assumption) c_8 | (simp_all; done)) (fun c_8 => ?_)) | refine g_if_ne (tgt := 14) (p1 := 11) dX9_mute_8 rfl rfl (fun c_8 => by exfalso; first | omega | contradiction | exact absurd (by assumption) c_8 | (simp_all; done)) (fun c_8 => ?_)
  refine g_ldc (p0 := 13) dX9_mute_11 qX9_68 rfl ?_
  refine g_ireturn dX9_mute_13 rfl rfl (?_)
  exact ⟨rfl, rfl⟩
set_option maxRecDepth 20000 in
set_option maxHeartbeats 2000000 in
theorem mute_c {ρ : Nat → Int32} {s n : Nat} {H : Nat → (Nat → Int32) × Nat} {σ : Sg} (hR : RowOK ρ s) (hRep : Rep σ 1 ρ s) (hHC : HC σ n H) (h65 : σ 65 0 = nI 0) {p : Nat} (hp : p < s) : CM mX9_mute [ar 0, ai (nI p)] σ (CPost ρ σ n H s (REM ρ s p) (s - 1) (ρ (29 + p))) := by
  have hs1 := hR.2.1
  have v1 : σ 3 p = ρ (29 + p) := hRep.2.2.2.2.2 p hp
  refine CM_in (ls := [some (ar 0), some (ai (nI p)), none]) rfl ?_
  refine g_aload_n (p0 := 1) (i := 0) dX9_mute_0 rfl rfl rfl ?_
  refine g_getR (p0 := 4) dX9_mute_1 fX9_10 (by first | rfl | assumption | exact RW.s (by assumption) | exact TW.s (by assumption)) rfl rfl ?_
  refine g_iload_n (p0 := 5) (i := 1) dX9_mute_4 rfl rfl rfl ?_
  refine g_cV1R (p0 := 8) (r1 := mX8_hasStroke) dX9_mute_5 lX9_107 vX8_hasStroke (by first | rfl | assumption | exact RW.s (by assumption) | exact TW.s (by assumption)) ⟨_, _, rfl⟩ (FITi rfl rfl) (Nat.le_of_ble_eq_true rfl) (hasStroke_T TW1 hRep.1 hs1 hp) rfl ?_
  first | ((with_reducible refine isN1 ?_); refine g_ifN_ne (tgt := 14) (p1 := 11) dX9_mute_8 rfl (by omega) rfl (fun c_8 => ?_) (fun c_8 => by exfalso; first | omega | contradiction | exact absurd (by assumption) c_8 | (simp_all; done))) | refine g_if_ne (tgt := 14) (p1 := 11) dX9_mute_8 rfl rfl (fun c_8 => ?_) (fun c_8 => by exfalso; first | omega | contradiction | exact absurd (by assumption) c_8 | (simp_all; done))
  refine g_aload_n (p0 := 15) (i := 0) dX9_mute_14 rfl rfl rfl ?_
  refine g_getR (p0 := 18) dX9_mute_15 fX9_10 (by first | rfl | assumption | exact RW.s (by assumption) | exact TW.s (by assumption)) rfl rfl ?_
  refine g_getR (p0 := 21) dX9_mute_18 fX9_110 (by first | rfl | assumption | exact RW.s (by assumption) | exact TW.s (by assumption)) rfl rfl ?_
  refine g_iload_n (p0 := 22) (i := 1) dX9_mute_21 rfl rfl rfl ?_
  refine g_cV1R (p0 := 25) (r1 := mX7_at) dX9_mute_22 lX9_114 vX7_at (by first | rfl | assumption | exact RW.s (by assumption) | exact TW.s (by assumption)) ⟨_, _, rfl⟩ (FITi rfl rfl) (Nat.le_of_ble_eq_true rfl) (at_N (by first | exact ⟨rfl, rfl, by decide⟩ | assumption) (by omega) v1) rfl ?_
  refine g_istore_n (p0 := 26) (i := 2) (ls2 := [_, _, _]) dX9_mute_25 rfl (Nat.le_of_ble_eq_true rfl) rfl rfl ?_
  refine g_aload_n (p0 := 27) (i := 0) dX9_mute_26 rfl rfl rfl ?_
  refine g_getR (p0 := 30) dX9_mute_27 fX9_22 (by first | rfl | assumption | exact RW.s (by assumption) | exact TW.s (by assumption)) rfl rfl ?_
  refine g_aload_n (p0 := 31) (i := 0) dX9_mute_30 rfl rfl rfl ?_
  refine g_getR (p0 := 34) dX9_mute_31 fX9_10 (by first | rfl | assumption | exact RW.s (by assumption) | exact TW.s (by assumption)) rfl rfl ?_
  refine g_cV1P (p0 := 37) (r1 := mX2_record) dX9_mute_34 lX9_58 vX2_record (by first | rfl | assumption | exact RW.s (by assumption) | exact TW.s (by assumption)) ⟨_, _, rfl⟩ (FITi rfl rfl) (Nat.le_of_ble_eq_true rfl) (record_rel hHC hR hRep) rfl ?_
  rintro σ1 ⟨fr1, hHC1⟩
  have hRep1 : Rep σ1 1 ρ s := hRep.of_eq (fr1 _ (by decide) (by decide)) (fr1 _ (by decide) (by decide)) (fr1 _ (by decide) (by decide))
  have hrm : CM mX8_removeStroke [ar 1, ai (nI p)] σ1 (RetV (remS σ1 s p)) := removeStroke_sp TW1 hRep1.1 hs1 hp
  have h652 : (remS σ1 s p) 65 0 = nI 0 := by rw [remS_ne (by decide) (by decide), fr1 _ (by decide) (by decide)]; exact h65
  refine g_aload_n (p0 := 38) (i := 0) dX9_mute_37 rfl rfl rfl ?_
  refine g_getR (p0 := 41) dX9_mute_38 fX9_10 (by first | rfl | assumption | exact RW.s (by assumption) | exact TW.s (by assumption)) rfl rfl ?_
  refine g_iload_n (p0 := 42) (i := 1) dX9_mute_41 rfl rfl rfl ?_
  refine g_cV1V (p0 := 45) (r1 := mX8_removeStroke) dX9_mute_42 lX9_119 vX8_removeStroke (by first | rfl | assumption | exact RW.s (by assumption) | exact TW.s (by assumption)) ⟨_, _, rfl⟩ (FITi rfl rfl) (Nat.le_of_ble_eq_true rfl) (hrm) rfl ?_
  refine g_aload_n (p0 := 46) (i := 0) dX9_mute_45 rfl rfl rfl ?_
  refine g_getR (p0 := 49) dX9_mute_46 fX9_29 (by first | rfl | assumption | exact RW.s (by assumption) | exact TW.s (by assumption)) rfl rfl ?_
  refine g_aload_n (p0 := 50) (i := 0) dX9_mute_49 rfl rfl rfl ?_
  refine g_getR (p0 := 53) dX9_mute_50 fX9_10 (by first | rfl | assumption | exact RW.s (by assumption) | exact TW.s (by assumption)) rfl rfl ?_
  refine g_cV1P (p0 := 56) (r1 := mX6_refresh) dX9_mute_53 lX9_62 vX6_refresh (by first | rfl | assumption | exact RW.s (by assumption) | exact TW.s (by assumption)) ⟨_, _, rfl⟩ (FITi rfl rfl) (Nat.le_of_ble_eq_true rfl) (refresh_sp (Rep_rem hRep1 hp) (RowOK_rem hR) h652) rfl ?_
  rintro σ2 ⟨hRD2, fr2⟩
  refine g_iload_n (p0 := 57) (i := 2) dX9_mute_56 rfl rfl rfl ?_
  refine g_ireturn dX9_mute_57 rfl rfl (?_)
  exact cchg fr1 hHC1 (fun z hz => remS_ne (by omega) (by omega)) (Rep_rem hRep1 hp) hRD2 fr2
