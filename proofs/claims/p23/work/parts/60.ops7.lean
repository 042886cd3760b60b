/-! THE CLASS: out of the rows of whole -/
theorem nxt_congr {τ τ' : Nat → Int32} {s : Nat} {pz bt : Int32} (h : ∀ q, q < s → τ q = τ' q) : nxt τ s pz bt = nxt τ' s pz bt := by
  rw [nxt, nxt]
  by_cases hs : s = 0
  · rw [if_pos hs, if_pos hs]
  · rw [if_neg hs, if_neg hs, h (s - 1) (by omega)]
def ROOM (ρ : Nat → Int32) (s c : Nat) : Prop := s + mor c ≤ 160 ∧ ¬ nI 9999 < endT (tm ρ) s (ρ 2) (ρ 0) (mor c)
theorem ringP_2 {ρ : Nat → Int32} {s c : Nat} : ringP ρ s c 2 = nI 0 := upd_hit
theorem ringP_3 {ρ : Nat → Int32} {s c : Nat} : ringP ρ s c 3 = nI (s + mor c) := by
  rw [ringP, upd_ne (by decide), rgP, if_pos rfl]
theorem ringP_lo {ρ : Nat → Int32} {s c k : Nat} (h : k < 29) (h2 : k ≠ 2) (h3 : k ≠ 3) : ringP ρ s c k = ρ k := by
  rw [ringP, upd_ne h2, rgP, if_neg h3, if_neg (by omega)]
theorem ringP_hi {ρ : Nat → Int32} {s c q : Nat} {τ : Nat → Int32} {pz bt : Int32} (hτ : ∀ k, k < s → τ k = tm ρ k) (hz : pz = ρ 2) (hb : bt = ρ 0) (hq : q < s + mor c) : ringR τ s pz bt c q = ringP ρ s c (29 + q) := by
  subst hz; subst hb
  have hm : mor c = c / 5 + 1 + (c % 5 + 1) := rfl
  rw [ringP, upd_ne (by omega), rgP, if_neg (by omega), ringR, rgR, nxt_congr hτ]
  have e1 : 29 + q - (29 + s) = q - s := by omega
  rw [e1]
  by_cases h1 : q < s
  · rw [if_neg (by omega), if_neg (by omega), rgR, if_neg (by omega)]
    exact hτ q h1
  · rw [if_pos (show 29 + s ≤ 29 + q ∧ 29 + q < 29 + s + mor c by omega)]
    by_cases h2 : q - s < c / 5 + 1
    · rw [if_pos h2, if_neg (by omega), rgR, if_pos (by omega)]
    · rw [if_neg h2, if_pos (by omega)]
      have e2 : q - s + 2 = c / 5 + 1 + 2 + (q - (s + (c / 5 + 1))) := by omega
      have e3 : ∀ (a b : Nat) (t x : Int32), t + nI a * x + nI b * x = t + nI (a + b) * x := by
        intro a b t x
        rw [← nI_add a b, Int32.add_mul, Int32.add_assoc]
      rw [e2, e3]
theorem TIM_ring {ρ : Nat → Int32} {s c : Nat} (h : TIM ρ s) (hc : c < 25) (hz : ρ 2 = nI 0 ∨ ρ 2 = nI 1) (hr : ROOM ρ s c) : TIM (ringP ρ s c) (s + mor c) := by
  obtain ⟨⟨b, hb, eb⟩, ht⟩ := h
  obtain ⟨hs, he⟩ := hr
  have hm : mor c = c / 5 + 1 + (c % 5 + 1) := rfl
  have hm10 : mor c ≤ 10 := by omega
  have hn : ∃ t, t ≤ 10239 ∧ nxt (tm ρ) s (ρ 2) (ρ 0) = nI t := by
    rw [nxt]
    by_cases h0 : s = 0
    · rw [if_pos h0]; exact ⟨0, by decide, rfl⟩
    · rw [if_neg h0]
      obtain ⟨t, h1, h2⟩ := ht (s - 1) (by omega)
      have h2 : tm ρ (s - 1) = nI t := h2
      rw [h2, eb]
      rcases hz with hz | hz
      · rw [hz, if_pos nI_0, pk_mul, nI_add]
        exact ⟨t + 6 * b, by omega, rfl⟩
      · rw [hz, if_neg (by decide), pk_mul, nI_add]
        exact ⟨t + 12 * b, by omega, rfl⟩
  obtain ⟨t, h1, h2⟩ := hn
  have hmb : (mor c + 1) * b ≤ 11 * 20 := Nat.mul_le_mul (by omega) hb
  rw [endT, h2, eb, pk_mul, nI_add, nI_lt_iff (by omega) (by omega)] at he
  refine ⟨by rw [ringP_lo (by decide) (by decide) (by decide)]; exact ⟨b, hb, eb⟩, fun q hq => ?_⟩
  by_cases hqs : q < s
  · have e : ringP ρ s c (29 + q) = ρ (29 + q) := by rw [ringP, upd_ne (by omega), rgP, if_neg (by omega), if_neg (by omega)]
    rw [e]
    exact ht q hqs
  · rw [ringP, upd_ne (by omega), rgP, if_neg (by omega), if_pos (by omega), h2, eb, pk_mul, nI_add]
    refine ⟨_, ?_, rfl⟩
    have hi : (if 29 + q - (29 + s) < c / 5 + 1 then 29 + q - (29 + s) else 29 + q - (29 + s) + 2) ≤ mor c + 1 := by split <;> omega
    have := Nat.mul_le_mul_right b hi
    omega
theorem RowOK_ring {ρ : Nat → Int32} {s c : Nat} (h : RowOK ρ s) (hc : c < 25) (hr : ROOM ρ s c) : RowOK (ringP ρ s c) (s + mor c) :=
  RowOK_lo h hr.1 ringP_3 (Or.inl ringP_2) (fun k h1 h2 => ringP_lo h2 (by omega) (by omega)) (TIM_ring h.2.2.2.2 hc h.2.2.1 hr)
theorem ringS_1 {σ : Sg} {s c : Nat} : ringS σ 1 s c 1 = upd (upd (σ 1) 2 (nI (s + mor c))) 5 (nI 0) := setR_hit
theorem ringS_3 {σ : Sg} {s c : Nat} : ringS σ 1 s c 3 = ringR (σ 3) s (σ 1 5) (σ 1 3) c := (setR_ne (by decide)).trans setR_hit
theorem ringS_ne {σ : Sg} {s c z : Nat} (h1 : z ≠ 1) (h3 : z ≠ 3) : ringS σ 1 s c z = σ z := (setR_ne h1).trans (setR_ne h3)
theorem Rep_ring {σ1 : Sg} {ρ : Nat → Int32} {s c : Nat} (h : Rep σ1 1 ρ s) : Rep (ringS σ1 1 s c) 1 (ringP ρ s c) (s + mor c) := by
  obtain ⟨b1, b2, b3, b4, b5, b6⟩ := h
  refine ⟨by rw [ringS_1, upd_ne (by decide), upd_hit], by rw [ringS_1, upd_ne (by decide), upd_ne (by decide), ringP_lo (by decide) (by decide) (by decide)]; exact b2, by rw [ringS_1, upd_ne (by decide), upd_ne (by decide), ringP_lo (by decide) (by decide) (by decide)]; exact b3, by rw [ringS_1, upd_hit, ringP_2], fun l hl => by rw [ringS_ne (by decide) (by decide), ringP_lo (by omega) (by omega) (by omega)]; exact b5 l hl, fun q hq => ?_⟩
  show ringS σ1 1 s c 3 q = _
  rw [ringS_3]
  exact ringP_hi b6 b4 b2 hq
set_option maxRecDepth 20000 in
set_option maxHeartbeats 2000000 in
theorem ring_cL {x : Int32} {σ : Sg} (h : CM mX9_isLetter [ai x] σ (Ret (nI 0) σ)) : CM mX9_ring [ar 0, ai x] σ (Ret (-1000001) σ) := by
  refine CM_in (ls := [some (ar 0), some (ai x), none]) rfl ?_
  refine g_iload_n (p0 := 1) (i := 1) dX9_ring_0 rfl rfl rfl ?_
  refine g_cS1R (p0 := 4) (r1 := mX9_isLetter) dX9_ring_1 (Or.inl lX9_69) vX9_isLetter (FITi rfl rfl) (Nat.le_of_ble_eq_true rfl) (h) rfl ?_
  first | ((with_reducible refine isN1 ?_); refine g_ifN_ne (tgt := 10) (p1 := 7) dX9_ring_4 rfl (by omega) rfl (fun c_4 => by exfalso; first | omega | contradiction | exact absurd (by assumption) c_4 | (simp_all; done)) (fun c_4 => ?_)) | refine g_if_ne (tgt := 10) (p1 := 7) dX9_ring_4 rfl rfl (fun c_4 => by exfalso; first | omega | contradiction | exact absurd (by assumption) c_4 | (simp_all; done)) (fun c_4 => ?_)
  refine g_ldc (p0 := 9) dX9_ring_7 qX9_68 rfl ?_
  refine g_ireturn dX9_ring_9 rfl rfl (?_)
  exact ⟨rfl, rfl⟩
set_option maxRecDepth 20000 in
set_option maxHeartbeats 2000000 in
theorem ring_c {ρ : Nat → Int32} {s n : Nat} {H : Nat → (Nat → Int32) × Nat} {σ : Sg} (hR : RowOK ρ s) (hRep : Rep σ 1 ρ s) (hHC : HC σ n H) (h65 : σ 65 0 = nI 0) {j c : Nat} (hj : j < 25) (hc : ρ (4 + j) = nI c) (hc1 : c < 25) (hr : ROOM ρ s c) (h : CM mX8_hasRoomFor [ar 1, ai (nI j)] σ (Ret (nI 1) σ)) : CM mX9_ring [ar 0, ai (nI j)] σ (CPost ρ σ n H s (ringP ρ s c) (s + mor c) (nI s)) := by
  have v1 : σ 1 2 = nI s := hRep.1
  refine CM_in (ls := [some (ar 0), some (ai (nI j)), none]) rfl ?_
  refine g_iload_n (p0 := 1) (i := 1) dX9_ring_0 rfl rfl rfl ?_
  refine g_cS1R (p0 := 4) (r1 := mX9_isLetter) dX9_ring_1 (Or.inl lX9_69) vX9_isLetter (FITi rfl rfl) (Nat.le_of_ble_eq_true rfl) (cIsLetter_T hj) rfl ?_
  first | ((with_reducible refine isN1 ?_); refine g_ifN_ne (tgt := 10) (p1 := 7) dX9_ring_4 rfl (by omega) rfl (fun c_4 => ?_) (fun c_4 => by exfalso; first | omega | contradiction | exact absurd (by assumption) c_4 | (simp_all; done))) | refine g_if_ne (tgt := 10) (p1 := 7) dX9_ring_4 rfl rfl (fun c_4 => ?_) (fun c_4 => by exfalso; first | omega | contradiction | exact absurd (by assumption) c_4 | (simp_all; done))
  refine g_aload_n (p0 := 11) (i := 0) dX9_ring_10 rfl rfl rfl ?_
  refine g_getR (p0 := 14) dX9_ring_11 fX9_10 (by first | rfl | assumption | exact RW.s (by assumption) | exact TW.s (by assumption)) rfl rfl ?_
  refine g_iload_n (p0 := 15) (i := 1) dX9_ring_14 rfl rfl rfl ?_
  refine g_cV1R (p0 := 18) (r1 := mX8_hasRoomFor) dX9_ring_15 lX9_81 vX8_hasRoomFor (by first | rfl | assumption | exact RW.s (by assumption) | exact TW.s (by assumption)) ⟨_, _, rfl⟩ (FITi rfl rfl) (Nat.le_of_ble_eq_true rfl) (h) rfl ?_
  first | ((with_reducible refine isN1 ?_); refine g_ifN_ne (tgt := 24) (p1 := 21) dX9_ring_18 rfl (by omega) rfl (fun c_18 => ?_) (fun c_18 => by exfalso; first | omega | contradiction | exact absurd (by assumption) c_18 | (simp_all; done))) | refine g_if_ne (tgt := 24) (p1 := 21) dX9_ring_18 rfl rfl (fun c_18 => ?_) (fun c_18 => by exfalso; first | omega | contradiction | exact absurd (by assumption) c_18 | (simp_all; done))
  refine g_aload_n (p0 := 25) (i := 0) dX9_ring_24 rfl rfl rfl ?_
  refine g_getR (p0 := 28) dX9_ring_25 fX9_10 (by first | rfl | assumption | exact RW.s (by assumption) | exact TW.s (by assumption)) rfl rfl ?_
  refine g_getI (p0 := 31) dX9_ring_28 fX9_85 (by first | rfl | assumption | exact RW.s (by assumption) | exact TW.s (by assumption)) rfl (by first | assumption | ((repeat (first | exact up_hit | refine up_nv (by decide) ?_ | refine up_mv (by first | decide | omega) ?_)) <;> first | assumption | rfl)) rfl ?_
  refine g_istore_n (p0 := 32) (i := 2) (ls2 := [_, _, _]) dX9_ring_31 rfl (Nat.le_of_ble_eq_true rfl) rfl rfl ?_
  refine g_aload_n (p0 := 33) (i := 0) dX9_ring_32 rfl rfl rfl ?_
  refine g_getR (p0 := 36) dX9_ring_33 fX9_22 (by first | rfl | assumption | exact RW.s (by assumption) | exact TW.s (by assumption)) rfl rfl ?_
  refine g_aload_n (p0 := 37) (i := 0) dX9_ring_36 rfl rfl rfl ?_
  refine g_getR (p0 := 40) dX9_ring_37 fX9_10 (by first | rfl | assumption | exact RW.s (by assumption) | exact TW.s (by assumption)) rfl rfl ?_
  refine g_cV1P (p0 := 43) (r1 := mX2_record) dX9_ring_40 lX9_58 vX2_record (by first | rfl | assumption | exact RW.s (by assumption) | exact TW.s (by assumption)) ⟨_, _, rfl⟩ (FITi rfl rfl) (Nat.le_of_ble_eq_true rfl) (record_rel hHC hR hRep) rfl ?_
  rintro σ1 ⟨fr1, hHC1⟩
  have hRep1 : Rep σ1 1 ρ s := hRep.of_eq (fr1 _ (by decide) (by decide)) (fr1 _ (by decide) (by decide)) (fr1 _ (by decide) (by decide))
  have hrl : CM mX8_ringLetter [ar 1, ai (nI j)] σ1 (RetV (ringS σ1 1 s c)) := ringLetter_sp TW1 hRep1.1 hR.2.1 hj ((hRep1.2.2.2.2.1 j hj).trans hc) hc1 hr.1
  have h652 : (ringS σ1 1 s c) 65 0 = nI 0 := by rw [ringS_ne (by decide) (by decide), fr1 _ (by decide) (by decide)]; exact h65
  refine g_aload_n (p0 := 44) (i := 0) dX9_ring_43 rfl rfl rfl ?_
  refine g_getR (p0 := 47) dX9_ring_44 fX9_10 (by first | rfl | assumption | exact RW.s (by assumption) | exact TW.s (by assumption)) rfl rfl ?_
  refine g_iload_n (p0 := 48) (i := 1) dX9_ring_47 rfl rfl rfl ?_
  refine g_cV1V (p0 := 51) (r1 := mX8_ringLetter) dX9_ring_48 lX9_88 vX8_ringLetter (by first | rfl | assumption | exact RW.s (by assumption) | exact TW.s (by assumption)) ⟨_, _, rfl⟩ (FITi rfl rfl) (Nat.le_of_ble_eq_true rfl) (hrl) rfl ?_
  refine g_aload_n (p0 := 52) (i := 0) dX9_ring_51 rfl rfl rfl ?_
  refine g_getR (p0 := 55) dX9_ring_52 fX9_29 (by first | rfl | assumption | exact RW.s (by assumption) | exact TW.s (by assumption)) rfl rfl ?_
  refine g_aload_n (p0 := 56) (i := 0) dX9_ring_55 rfl rfl rfl ?_
  refine g_getR (p0 := 59) dX9_ring_56 fX9_10 (by first | rfl | assumption | exact RW.s (by assumption) | exact TW.s (by assumption)) rfl rfl ?_
  refine g_cV1P (p0 := 62) (r1 := mX6_refresh) dX9_ring_59 lX9_62 vX6_refresh (by first | rfl | assumption | exact RW.s (by assumption) | exact TW.s (by assumption)) ⟨_, _, rfl⟩ (FITi rfl rfl) (Nat.le_of_ble_eq_true rfl) (refresh_sp (Rep_ring hRep1) (RowOK_ring hR hc1 hr) h652) rfl ?_
  rintro σ2 ⟨hRD2, fr2⟩
  refine g_iload_n (p0 := 63) (i := 2) dX9_ring_62 rfl rfl rfl ?_
  refine g_ireturn dX9_ring_63 rfl rfl (?_)
  exact cchg fr1 hHC1 (fun z hz => ringS_ne (by omega) (by omega)) (Rep_ring hRep1) hRD2 fr2
