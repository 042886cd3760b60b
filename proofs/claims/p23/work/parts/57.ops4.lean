/-! THE CLASS: out of the rows of whole -/
theorem cchg {ρ : Nat → Int32} {σ σ1 σ2 σ3 : Sg} {n s s' : Nat} {H : Nat → (Nat → Int32) × Nat} {ρ' : Nat → Int32} {v : Int32} (fr1 : ∀ c, c ≠ 11 → (c < 13 ∨ 33 ≤ c) → σ1 c = σ c) (hHC1 : HC σ1 (pn n) (push n H (ρ, s))) (f2 : ∀ z, 5 < z → σ2 z = σ1 z) (hRep2 : Rep σ2 1 ρ' s') (hRD : RDC σ3 ρ' s') (fr2 : ∀ z, (z < 33 ∨ 72 ≤ z) → σ3 z = σ2 z) : CPost ρ σ n H s ρ' s' v (some (ai v)) σ3 := by
  refine ⟨rfl, hRep2.of_eq (fr2 _ (by decide)) (fr2 _ (by decide)) (fr2 _ (by decide)), hHC1.of (fun z h3 h4 => ?_), hRD, fun z hz => ?_⟩
  · rw [fr2 z (by omega), f2 z (by omega)]
  · rw [fr2 z (by omega), f2 z (by omega), fr1 z (by omega) (by omega)]
def pm (i j l : Nat) : Nat := if l = j then i else if l = i then j else l
theorem pm_c (i j l : Nat) : (l = j ∧ pm i j l = i) ∨ (l ≠ j ∧ l = i ∧ pm i j l = j) ∨ (l ≠ j ∧ l ≠ i ∧ pm i j l = l) := by
  by_cases h1 : l = j
  · exact Or.inl ⟨h1, by rw [pm, if_pos h1]⟩
  · by_cases h2 : l = i
    · exact Or.inr (Or.inl ⟨h1, h2, by rw [pm, if_neg h1, if_pos h2]⟩)
    · exact Or.inr (Or.inr ⟨h1, h2, by rw [pm, if_neg h1, if_neg h2]⟩)
def SWP (ρ : Nat → Int32) (i j : Nat) : Nat → Int32 := upd (upd ρ (4 + i) (ρ (4 + j))) (4 + j) (ρ (4 + i))
theorem SWP_c {ρ : Nat → Int32} {i j : Nat} (l : Nat) : SWP ρ i j (4 + l) = ρ (4 + pm i j l) := by
  rw [SWP]
  rcases pm_c i j l with ⟨h1, h2⟩ | ⟨h1, h2, h3⟩ | ⟨h1, h2, h3⟩
  · rw [h2, h1, upd_hit]
  · rw [h3, h2, upd_ne (by omega), upd_hit]
  · rw [h3, upd_ne (by omega), upd_ne (by omega)]
theorem SWP_ne {ρ : Nat → Int32} {i j k : Nat} (h : k < 4 ∨ 29 ≤ k) (hi : i < 25) (hj : j < 25) : SWP ρ i j k = ρ k := by
  rw [SWP, upd_ne (by omega), upd_ne (by omega)]
theorem RowOK_swp {ρ : Nat → Int32} {s i j : Nat} (h : RowOK ρ s) (hi : i < 25) (hj : j < 25) : RowOK (SWP ρ i j) s := by
  obtain ⟨h1, h2, h3, ⟨cf, h4, h5⟩, h6, h7⟩ := h
  have hp : ∀ l, l < 25 → pm i j l < 25 := by
    intro l hl
    rcases pm_c i j l with q | q | q <;> omega
  refine ⟨by rw [SWP_ne (by omega) hi hj]; exact h1, h2, by rw [SWP_ne (by omega) hi hj]; exact h3, ⟨fun l => cf (pm i j l), fun l hl => by rw [SWP_c]; exact h4 _ (hp l hl), fun l m hl hm e => ?_⟩, by rw [SWP_ne (by omega) hi hj]; exact h6, fun q hq => by rw [SWP_ne (by omega) hi hj]; exact h7 q hq⟩
  have e2 := h5 _ _ (hp l hl) (hp m hm) e
  rcases pm_c i j l with q | q | q <;> rcases pm_c i j m with q2 | q2 | q2 <;> omega
theorem Rep_swp {σ1 : Sg} {ρ : Nat → Int32} {s i j : Nat} (h : Rep σ1 1 ρ s) (hi : i < 25) (hj : j < 25) : Rep (up (up σ1 5 i (σ1 5 j)) 5 j (σ1 5 i)) 1 (SWP ρ i j) s := by
  obtain ⟨b1, b2, b3, b4, b5, b6⟩ := h
  have b5 : ∀ l, l < 25 → σ1 5 l = ρ (4 + l) := b5
  refine ⟨by rw [up_ne (by decide), up_ne (by decide)]; exact b1, by rw [up_ne (by decide), up_ne (by decide), SWP_ne (by omega) hi hj]; exact b2, by rw [up_ne (by decide), up_ne (by decide), SWP_ne (by omega) hi hj]; exact b3, by rw [up_ne (by decide), up_ne (by decide), SWP_ne (by omega) hi hj]; exact b4, fun l hl => ?_, fun q hq => by rw [up_ne (by decide), up_ne (by decide), SWP_ne (by omega) hi hj]; exact b6 q hq⟩
  rw [SWP_c]
  show up (up σ1 5 i (σ1 5 j)) 5 j (σ1 5 i) 5 l = _
  rcases pm_c i j l with ⟨h1, h2⟩ | ⟨h1, h2, h3⟩ | ⟨h1, h2, h3⟩
  · rw [h2, h1, up_hit]; exact b5 i hi
  · rw [h3, h2, up_miss (by omega), up_hit]; exact b5 j hj
  · rw [h3, up_miss h1, up_miss h2]; exact b5 l hl
set_option maxRecDepth 20000 in
set_option maxHeartbeats 2000000 in
theorem swap_c {ρ : Nat → Int32} {s n : Nat} {H : Nat → (Nat → Int32) × Nat} {σ : Sg} (hR : RowOK ρ s) (hRep : Rep σ 1 ρ s) (hHC : HC σ n H) (h65 : σ 65 0 = nI 0) {i j c : Nat} (hi : i < 25) (hj : j < 25) (hij : i ≠ j) (hc : ρ (4 + j) = nI c) (hc1 : c < 25) : CM mX9_swap [ar 0, ai (nI i), ai (nI j)] σ (CPost ρ σ n H s (SWP ρ i j) s (nI (10 * (c / 5 + 1) + (c % 5 + 1)))) := by
  refine CM_in (ls := [some (ar 0), some (ai (nI i)), some (ai (nI j))]) rfl ?_
  refine g_iload_n (p0 := 1) (i := 1) dX9_swap_0 rfl rfl rfl ?_
  refine g_cS1R (p0 := 4) (r1 := mX9_isLetter) dX9_swap_1 (Or.inl lX9_69) vX9_isLetter (FITi rfl rfl) (Nat.le_of_ble_eq_true rfl) (cIsLetter_T hi) rfl ?_
  first | ((with_reducible refine isN1 ?_); refine g_ifN_eq (tgt := 19) (p1 := 7) dX9_swap_4 rfl (by omega) rfl (fun c_4 => by exfalso; first | omega | contradiction | exact absurd (by assumption) c_4 | (simp_all; done)) (fun c_4 => ?_)) | refine g_if_eq (tgt := 19) (p1 := 7) dX9_swap_4 rfl rfl (fun c_4 => by exfalso; first | omega | contradiction | exact absurd (by assumption) c_4 | (simp_all; done)) (fun c_4 => ?_)
  refine g_iload_n (p0 := 8) (i := 2) dX9_swap_7 rfl rfl rfl ?_
  refine g_cS1R (p0 := 11) (r1 := mX9_isLetter) dX9_swap_8 (Or.inl lX9_69) vX9_isLetter (FITi rfl rfl) (Nat.le_of_ble_eq_true rfl) (cIsLetter_T hj) rfl ?_
  first | ((with_reducible refine isN1 ?_); refine g_ifN_eq (tgt := 19) (p1 := 14) dX9_swap_11 rfl (by omega) rfl (fun c_11 => by exfalso; first | omega | contradiction | exact absurd (by assumption) c_11 | (simp_all; done)) (fun c_11 => ?_)) | refine g_if_eq (tgt := 19) (p1 := 14) dX9_swap_11 rfl rfl (fun c_11 => by exfalso; first | omega | contradiction | exact absurd (by assumption) c_11 | (simp_all; done)) (fun c_11 => ?_)
  refine g_iload_n (p0 := 15) (i := 1) dX9_swap_14 rfl rfl rfl ?_
  refine g_iload_n (p0 := 16) (i := 2) dX9_swap_15 rfl rfl rfl ?_
  first | ((with_reducible refine isN2 ?_); refine g_icmpN_ne (tgt := 22) (p1 := 19) dX9_swap_16 rfl (by omega) (by omega) rfl (fun c_16 => ?_) (fun c_16 => by exfalso; first | omega | contradiction | exact absurd (by assumption) c_16 | (simp_all; done))) | refine g_icmp_ne (tgt := 22) (p1 := 19) dX9_swap_16 rfl rfl (fun c_16 => ?_) (fun c_16 => by exfalso; first | omega | contradiction | exact absurd (by assumption) c_16 | (simp_all; done))
  refine g_aload_n (p0 := 23) (i := 0) dX9_swap_22 rfl rfl rfl ?_
  refine g_getR (p0 := 26) dX9_swap_23 fX9_22 (by first | rfl | assumption | exact RW.s (by assumption) | exact TW.s (by assumption)) rfl rfl ?_
  refine g_aload_n (p0 := 27) (i := 0) dX9_swap_26 rfl rfl rfl ?_
  refine g_getR (p0 := 30) dX9_swap_27 fX9_10 (by first | rfl | assumption | exact RW.s (by assumption) | exact TW.s (by assumption)) rfl rfl ?_
  refine g_cV1P (p0 := 33) (r1 := mX2_record) dX9_swap_30 lX9_58 vX2_record (by first | rfl | assumption | exact RW.s (by assumption) | exact TW.s (by assumption)) ⟨_, _, rfl⟩ (FITi rfl rfl) (Nat.le_of_ble_eq_true rfl) (record_rel hHC hR hRep) rfl ?_
  rintro σ1 ⟨fr1, hHC1⟩
  have hRep1 : Rep σ1 1 ρ s := hRep.of_eq (fr1 _ (by decide) (by decide)) (fr1 _ (by decide) (by decide)) (fr1 _ (by decide) (by decide))
  have hex : CM mX8_exchange [ar 1, ai (nI i), ai (nI j)] σ1 (RetV (up (up σ1 5 i (σ1 5 j)) 5 j (σ1 5 i))) := exchange_sp TW1 hi hj
  have h652 : (up (up σ1 5 i (σ1 5 j)) 5 j (σ1 5 i)) 65 0 = nI 0 := by rw [up_ne (by decide), up_ne (by decide), fr1 _ (by decide) (by decide)]; exact h65
  refine g_aload_n (p0 := 34) (i := 0) dX9_swap_33 rfl rfl rfl ?_
  refine g_getR (p0 := 37) dX9_swap_34 fX9_10 (by first | rfl | assumption | exact RW.s (by assumption) | exact TW.s (by assumption)) rfl rfl ?_
  refine g_iload_n (p0 := 38) (i := 1) dX9_swap_37 rfl rfl rfl ?_
  refine g_iload_n (p0 := 39) (i := 2) dX9_swap_38 rfl rfl rfl ?_
  refine g_cV2V (p0 := 42) (r1 := mX8_exchange) dX9_swap_39 lX9_73 vX8_exchange (by first | rfl | assumption | exact RW.s (by assumption) | exact TW.s (by assumption)) ⟨_, _, rfl⟩ (FITi rfl rfl) (Nat.le_of_ble_eq_true rfl) (hex) rfl ?_
  refine g_aload_n (p0 := 43) (i := 0) dX9_swap_42 rfl rfl rfl ?_
  refine g_getR (p0 := 46) dX9_swap_43 fX9_29 (by first | rfl | assumption | exact RW.s (by assumption) | exact TW.s (by assumption)) rfl rfl ?_
  refine g_aload_n (p0 := 47) (i := 0) dX9_swap_46 rfl rfl rfl ?_
  refine g_getR (p0 := 50) dX9_swap_47 fX9_10 (by first | rfl | assumption | exact RW.s (by assumption) | exact TW.s (by assumption)) rfl rfl ?_
  refine g_cV1P (p0 := 53) (r1 := mX6_refresh) dX9_swap_50 lX9_62 vX6_refresh (by first | rfl | assumption | exact RW.s (by assumption) | exact TW.s (by assumption)) ⟨_, _, rfl⟩ (FITi rfl rfl) (Nat.le_of_ble_eq_true rfl) (refresh_sp (Rep_swp hRep1 hi hj) (RowOK_swp hR hi hj) h652) rfl ?_
  rintro σ2 ⟨hRD2, fr2⟩
  have hv3 : σ2 5 i = nI c := by rw [fr2 5 (by decide), up_miss hij, up_hit]; exact (hRep1.2.2.2.2.1 j hj).trans hc
  refine g_aload_n (p0 := 54) (i := 0) dX9_swap_53 rfl rfl rfl ?_
  refine g_getR (p0 := 57) dX9_swap_54 fX9_10 (by first | rfl | assumption | exact RW.s (by assumption) | exact TW.s (by assumption)) rfl rfl ?_
  refine g_iload_n (p0 := 58) (i := 1) dX9_swap_57 rfl rfl rfl ?_
  refine g_cV1R (p0 := 61) (r1 := mX8_tablePlace) dX9_swap_58 lX9_77 vX8_tablePlace (by first | rfl | assumption | exact RW.s (by assumption) | exact TW.s (by assumption)) ⟨_, _, rfl⟩ (FITi rfl rfl) (Nat.le_of_ble_eq_true rfl) (tablePlace_sp TW1 hi hv3 hc1) rfl ?_
  refine g_ireturn dX9_swap_61 rfl rfl (?_)
  exact cchg fr1 hHC1 (fun z hz => by rw [up_ne (by omega), up_ne (by omega)]) (Rep_swp hRep1 hi hj) hRD2 fr2
set_option maxRecDepth 20000 in
set_option maxHeartbeats 2000000 in
theorem swap_cF3 {i : Nat} {σ : Sg} (hi : i < 25) : CM mX9_swap [ar 0, ai (nI i), ai (nI i)] σ (Ret (-1000001) σ) := by
  refine CM_in (ls := [some (ar 0), some (ai (nI i)), some (ai (nI i))]) rfl ?_
  refine g_iload_n (p0 := 1) (i := 1) dX9_swap_0 rfl rfl rfl ?_
  refine g_cS1R (p0 := 4) (r1 := mX9_isLetter) dX9_swap_1 (Or.inl lX9_69) vX9_isLetter (FITi rfl rfl) (Nat.le_of_ble_eq_true rfl) (cIsLetter_T hi) rfl ?_
  first | ((with_reducible refine isN1 ?_); refine g_ifN_eq (tgt := 19) (p1 := 7) dX9_swap_4 rfl (by omega) rfl (fun c_4 => by exfalso; first | omega | contradiction | exact absurd (by assumption) c_4 | (simp_all; done)) (fun c_4 => ?_)) | refine g_if_eq (tgt := 19) (p1 := 7) dX9_swap_4 rfl rfl (fun c_4 => by exfalso; first | omega | contradiction | exact absurd (by assumption) c_4 | (simp_all; done)) (fun c_4 => ?_)
  refine g_iload_n (p0 := 8) (i := 2) dX9_swap_7 rfl rfl rfl ?_
  refine g_cS1R (p0 := 11) (r1 := mX9_isLetter) dX9_swap_8 (Or.inl lX9_69) vX9_isLetter (FITi rfl rfl) (Nat.le_of_ble_eq_true rfl) (cIsLetter_T hi) rfl ?_
  first | ((with_reducible refine isN1 ?_); refine g_ifN_eq (tgt := 19) (p1 := 14) dX9_swap_11 rfl (by omega) rfl (fun c_11 => by exfalso; first | omega | contradiction | exact absurd (by assumption) c_11 | (simp_all; done)) (fun c_11 => ?_)) | refine g_if_eq (tgt := 19) (p1 := 14) dX9_swap_11 rfl rfl (fun c_11 => by exfalso; first | omega | contradiction | exact absurd (by assumption) c_11 | (simp_all; done)) (fun c_11 => ?_)
  refine g_iload_n (p0 := 15) (i := 1) dX9_swap_14 rfl rfl rfl ?_
  refine g_iload_n (p0 := 16) (i := 2) dX9_swap_15 rfl rfl rfl ?_
  first | ((with_reducible refine isN2 ?_); refine g_icmpN_ne (tgt := 22) (p1 := 19) dX9_swap_16 rfl (by omega) (by omega) rfl (fun c_16 => by exfalso; first | omega | contradiction | exact absurd (by assumption) c_16 | (simp_all; done)) (fun c_16 => ?_)) | refine g_icmp_ne (tgt := 22) (p1 := 19) dX9_swap_16 rfl rfl (fun c_16 => by exfalso; first | omega | contradiction | exact absurd (by assumption) c_16 | (simp_all; done)) (fun c_16 => ?_)
  refine g_ldc (p0 := 21) dX9_swap_19 qX9_68 rfl ?_
  refine g_ireturn dX9_swap_21 rfl rfl (?_)
  exact ⟨rfl, rfl⟩
