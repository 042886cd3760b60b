/-! OPERATIONS: swap, mute, strike, ring -/
theorem cchg {σ σ1 σ2 σ3 : Sg} {n s s' : Nat} {H : Nat → (Nat → Int32) × Nat} {ρ' : Nat → Int32} {v : Int32} (fr1 : ∀ c, c ≠ 11 → (c < 13 ∨ 33 ≤ c) → σ1 c = σ c) (hHC1 : HC σ1 (pn n) (push n H (σ 80, s))) (f2 : ∀ z, 5 < z → σ2 z = σ1 z) (hRep2 : Rep σ2 1 ρ' s') (hRD : RDC σ3 ρ' s') (fr2 : ∀ z, (z < 33 ∨ 72 ≤ z) → σ3 z = σ2 z) : CPost σ n H s ρ' s' v (some (ai v)) σ3 := by
  refine ⟨rfl, hRep2.of_eq (fr2 _ (by decide)) (fr2 _ (by decide)) (fr2 _ (by decide)), hHC1.of (fun z h3 h4 => ?_), hRD, fun z hz => ?_⟩
  · rw [fr2 z (by omega), f2 z (by omega)]
  · rw [fr2 z (by omega), f2 z (by omega), fr1 z (by omega) (by omega)]
theorem rchg {σ σ3 σ4 σ5 : Sg} {n s : Nat} {H : Nat → (Nat → Int32) × Nat} {ρ' : Nat → Int32} {v : Int32} (hH4 : HRf σ4 (pn n) (push n H (σ 80, s))) (fr4 : ∀ z, z ≠ 79 → z ≠ 81 → σ4 z = σ3 z) (fr79 : ∀ j, j ≠ 3 → σ4 79 j = σ3 79 j) (f5 : ∀ z, z ≠ 80 → σ5 z = σ4 z) (h80 : σ5 80 = ρ') : RPost σ σ3 n H s ρ' v (some (ai v)) σ5 := by
  refine ⟨rfl, h80, hH4.of (by rw [f5 79 (by decide)]) (f5 _ (by decide)), fun z hz => ?_, ?_, ?_⟩
  · rw [f5 z (by omega), fr4 z (by omega) (by omega)]
  · rw [f5 79 (by decide), fr79 5 (by decide)]
  · rw [f5 83 (by decide), fr4 83 (by decide) (by decide)]
def pm (i j l : Nat) : Nat := if l = j then i else if l = i then j else l
theorem pm_c (i j l : Nat) : (l = j ∧ pm i j l = i) ∨ (l ≠ j ∧ l = i ∧ pm i j l = j) ∨ (l ≠ j ∧ l ≠ i ∧ pm i j l = l) := by
  by_cases h1 : l = j
  · exact Or.inl ⟨h1, by rw [pm, if_pos h1]⟩
  · by_cases h2 : l = i
    · exact Or.inr (Or.inl ⟨h1, h2, by rw [pm, if_neg h1, if_pos h2]⟩)
    · exact Or.inr (Or.inr ⟨h1, h2, by rw [pm, if_neg h1, if_neg h2]⟩)
def SWP (ρ : Nat → Int32) (i j : Nat) : Nat → Int32 := upd (upd ρ (4 + i) (ρ (4 + j))) (4 + j) (ρ (4 + i))
theorem SWP_c {ρ : Nat → Int32} {i j : Nat} (l : Nat) : SWP ρ i j (4 + l) = ρ (4 + pm i j l) := by
  rw [SWP]
  rcases pm_c i j l with ⟨h1, h2⟩ | ⟨h1, h2, h3⟩ | ⟨h1, h2, h3⟩
  · rw [h2, h1, upd_hit]
  · rw [h3, h2, upd_ne (by omega), upd_hit]
  · rw [h3, upd_ne (by omega), upd_ne (by omega)]
theorem SWP_ne {ρ : Nat → Int32} {i j k : Nat} (h : k < 4 ∨ 29 ≤ k) (hi : i < 25) (hj : j < 25) : SWP ρ i j k = ρ k := by
  rw [SWP, upd_ne (by omega), upd_ne (by omega)]
theorem RowOK_swp {ρ : Nat → Int32} {s i j : Nat} (h : RowOK ρ s) (hi : i < 25) (hj : j < 25) : RowOK (SWP ρ i j) s := by
  obtain ⟨h1, h2, h3, ⟨cf, h4, h5⟩, h6, h7⟩ := h
  have hp : ∀ l, l < 25 → pm i j l < 25 := by
    intro l hl
    rcases pm_c i j l with q | q | q <;> omega
  refine ⟨by rw [SWP_ne (by omega) hi hj]; exact h1, h2, by rw [SWP_ne (by omega) hi hj]; exact h3, ⟨fun l => cf (pm i j l), fun l hl => by rw [SWP_c]; exact h4 _ (hp l hl), fun l m hl hm e => ?_⟩, by rw [SWP_ne (by omega) hi hj]; exact h6, fun q hq => by rw [SWP_ne (by omega) hi hj]; exact h7 q hq⟩
  have e2 := h5 _ _ (hp l hl) (hp m hm) e
  rcases pm_c i j l with q | q | q <;> rcases pm_c i j m with q2 | q2 | q2 <;> omega
theorem Rep_swp {σ1 : Sg} {ρ : Nat → Int32} {s i j : Nat} (h : Rep σ1 1 ρ s) (hi : i < 25) (hj : j < 25) : Rep (up (up σ1 5 i (σ1 5 j)) 5 j (σ1 5 i)) 1 (SWP ρ i j) s := by
  obtain ⟨b1, b2, b3, b4, b5, b6⟩ := h
  have b5 : ∀ l, l < 25 → σ1 5 l = ρ (4 + l) := b5
  refine ⟨by rw [up_ne (by decide), up_ne (by decide)]; exact b1, by rw [up_ne (by decide), up_ne (by decide), SWP_ne (by omega) hi hj]; exact b2, by rw [up_ne (by decide), up_ne (by decide), SWP_ne (by omega) hi hj]; exact b3, by rw [up_ne (by decide), up_ne (by decide), SWP_ne (by omega) hi hj]; exact b4, fun l hl => ?_, fun q hq => by rw [up_ne (by decide), up_ne (by decide), SWP_ne (by omega) hi hj]; exact b6 q hq⟩
  rw [SWP_c]
  show up (up σ1 5 i (σ1 5 j)) 5 j (σ1 5 i) 5 l = _
  rcases pm_c i j l with ⟨h1, h2⟩ | ⟨h1, h2, h3⟩ | ⟨h1, h2, h3⟩
  · rw [h2, h1, up_hit]; exact b5 i hi
  · rw [h3, h2, up_miss (by omega), up_hit]; exact b5 j hj
  · rw [h3, up_miss h1, up_miss h2]; exact b5 l hl
set_option maxRecDepth 20000 in
set_option maxHeartbeats 2000000 in
theorem swap_c {s n : Nat} {H : Nat → (Nat → Int32) × Nat} {σ : Sg} (hR : RowOK (σ 80) s) (hRep : Rep σ 1 (σ 80) s) (hHC : HC σ n H) (h65 : σ 65 0 = nI 0) {i j c : Nat} (hi : i < 25) (hj : j < 25) (hij : i ≠ j) (hc : σ 80 (4 + j) = nI c) (hc1 : c < 25) : CM mX9_swap [ar 0, ai (nI i), ai (nI j)] σ (CPost σ n H s (SWP (σ 80) i j) s (nI (10 * (c / 5 + 1) + (c % 5 + 1)))) := by
  refine CM_in (ls := [some (ar 0), some (ai (nI i)), some (ai (nI j))]) rfl ?_
  refine g_iload_n (p0 := 1) (i := 1) dX9_swap_0 rfl rfl rfl ?_
  refine g_cS1R (p0 := 4) (r1 := mX9_isLetter) dX9_swap_1 (Or.inl lX9_69) vX9_isLetter (FITi rfl rfl) (Nat.le_of_ble_eq_true rfl) (cIsLetter_T hi) rfl ?_
  first | ((with_reducible refine isN1 ?_); refine g_ifN_eq (tgt := 19) (p1 := 7) dX9_swap_4 rfl (by omega) rfl (fun c_4 => by exfalso; first | omega | contradiction | exact absurd (by assumption) c_4 | (simp_all; done)) (fun c_4 => ?_)) | refine g_if_eq (tgt := 19) (p1 := 7) dX9_swap_4 rfl rfl (fun c_4 => by exfalso; first | omega | contradiction | exact absurd (by assumption) c_4 | (simp_all; done)) (fun c_4 => ?_)
  refine g_iload_n (p0 := 8) (i := 2) dX9_swap_7 rfl rfl rfl ?_
  refine g_cS1R (p0 := 11) (r1 := mX9_isLetter) dX9_swap_8 (Or.inl lX9_69) vX9_isLetter (FITi rfl rfl) (Nat.le_of_ble_eq_true rfl) (cIsLetter_T hj) rfl ?_
  first | ((with_reducible refine isN1 ?_); refine g_ifN_eq (tgt := 19) (p1 := 14) dX9_swap_11 rfl (by omega) rfl (fun c_11 => by exfalso; first | omega | contradiction | exact absurd (by assumption) c_11 | (simp_all; done)) (fun c_11 => ?_)) | refine g_if_eq (tgt := 19) (p1 := 14) dX9_swap_11 rfl rfl (fun c_11 => by exfalso; first | omega | contradiction | exact absurd (by assumption) c_11 | (simp_all; done)) (fun c_11 => ?_)
  refine g_iload_n (p0 := 15) (i := 1) dX9_swap_14 rfl rfl rfl ?_
  refine g_iload_n (p0 := 16) (i := 2) dX9_swap_15 rfl rfl rfl ?_
  first | ((with_reducible refine isN2 ?_); refine g_icmpN_ne (tgt := 22) (p1 := 19) dX9_swap_16 rfl (by omega) (by omega) rfl (fun c_16 => ?_) (fun c_16 => by exfalso; first | omega | contradiction | exact absurd (by assumption) c_16 | (simp_all; done))) | refine g_icmp_ne (tgt := 22) (p1 := 19) dX9_swap_16 rfl rfl (fun c_16 => ?_) (fun c_16 => by exfalso; first | omega | contradiction | exact absurd (by assumption) c_16 | (simp_all; done))
  refine g_aload_n (p0 := 23) (i := 0) dX9_swap_22 rfl rfl rfl ?_
  refine g_getR (p0 := 26) dX9_swap_23 fX9_22 (by first | rfl | assumption | exact RW.s (by assumption) | exact TW.s (by assumption)) rfl rfl ?_
  refine g_aload_n (p0 := 27) (i := 0) dX9_swap_26 rfl rfl rfl ?_
  refine g_getR (p0 := 30) dX9_swap_27 fX9_10 (by first | rfl | assumption | exact RW.s (by assumption) | exact TW.s (by assumption)) rfl rfl ?_
  refine g_cV1P (p0 := 33) (r1 := mX2_record) dX9_swap_30 lX9_58 vX2_record (by first | rfl | assumption | exact RW.s (by assumption) | exact TW.s (by assumption)) ⟨_, _, rfl⟩ (FITi rfl rfl) (Nat.le_of_ble_eq_true rfl) (record_rel hHC hR hRep) rfl ?_
  rintro σ1 ⟨fr1, hHC1⟩
  have hRep1 : Rep σ1 1 (σ 80) s := hRep.of_eq (fr1 _ (by decide) (by decide)) (fr1 _ (by decide) (by decide)) (fr1 _ (by decide) (by decide))
  have hex : CM mX8_exchange [ar 1, ai (nI i), ai (nI j)] σ1 (RetV (up (up σ1 5 i (σ1 5 j)) 5 j (σ1 5 i))) := exchange_sp TW1 hi hj
  have h652 : (up (up σ1 5 i (σ1 5 j)) 5 j (σ1 5 i)) 65 0 = nI 0 := by rw [up_ne (by decide), up_ne (by decide), fr1 _ (by decide) (by decide)]; exact h65
  refine g_aload_n (p0 := 34) (i := 0) dX9_swap_33 rfl rfl rfl ?_
  refine g_getR (p0 := 37) dX9_swap_34 fX9_10 (by first | rfl | assumption | exact RW.s (by assumption) | exact TW.s (by assumption)) rfl rfl ?_
  refine g_iload_n (p0 := 38) (i := 1) dX9_swap_37 rfl rfl rfl ?_
  refine g_iload_n (p0 := 39) (i := 2) dX9_swap_38 rfl rfl rfl ?_
  refine g_cV2V (p0 := 42) (r1 := mX8_exchange) dX9_swap_39 lX9_73 vX8_exchange (by first | rfl | assumption | exact RW.s (by assumption) | exact TW.s (by assumption)) ⟨_, _, rfl⟩ (FITi rfl rfl) (Nat.le_of_ble_eq_true rfl) (hex) rfl ?_
  refine g_aload_n (p0 := 43) (i := 0) dX9_swap_42 rfl rfl rfl ?_
  refine g_getR (p0 := 46) dX9_swap_43 fX9_29 (by first | rfl | assumption | exact RW.s (by assumption) | exact TW.s (by assumption)) rfl rfl ?_
  refine g_aload_n (p0 := 47) (i := 0) dX9_swap_46 rfl rfl rfl ?_
  refine g_getR (p0 := 50) dX9_swap_47 fX9_10 (by first | rfl | assumption | exact RW.s (by assumption) | exact TW.s (by assumption)) rfl rfl ?_
  refine g_cV1P (p0 := 53) (r1 := mX6_refresh) dX9_swap_50 lX9_62 vX6_refresh (by first | rfl | assumption | exact RW.s (by assumption) | exact TW.s (by assumption)) ⟨_, _, rfl⟩ (FITi rfl rfl) (Nat.le_of_ble_eq_true rfl) (refresh_sp (Rep_swp hRep1 hi hj) (RowOK_swp hR hi hj) h652) rfl ?_
  rintro σ2 ⟨hRD2, fr2⟩
  have hv3 : σ2 5 i = nI c := by rw [fr2 5 (by decide), up_miss hij, up_hit]; exact (hRep1.2.2.2.2.1 j hj).trans hc
  refine g_aload_n (p0 := 54) (i := 0) dX9_swap_53 rfl rfl rfl ?_
  refine g_getR (p0 := 57) dX9_swap_54 fX9_10 (by first | rfl | assumption | exact RW.s (by assumption) | exact TW.s (by assumption)) rfl rfl ?_
  refine g_iload_n (p0 := 58) (i := 1) dX9_swap_57 rfl rfl rfl ?_
  refine g_cV1R (p0 := 61) (r1 := mX8_tablePlace) dX9_swap_58 lX9_77 vX8_tablePlace (by first | rfl | assumption | exact RW.s (by assumption) | exact TW.s (by assumption)) ⟨_, _, rfl⟩ (FITi rfl rfl) (Nat.le_of_ble_eq_true rfl) (tablePlace_sp TW1 hi hv3 hc1) rfl ?_
  refine g_ireturn dX9_swap_61 rfl rfl (?_)
  exact cchg fr1 hHC1 (fun z hz => by rw [up_ne (by omega), up_ne (by omega)]) (Rep_swp hRep1 hi hj) hRD2 fr2
set_option maxRecDepth 20000 in
set_option maxHeartbeats 2000000 in
theorem swap_r {s n : Nat} {H : Nat → (Nat → Int32) × Nat} {σ σ3 : Sg} (hR : RowOK (σ 80) s) (hHR : HRf σ n H) (hn : n ≤ 4) (e : ∀ z, 72 ≤ z → σ3 z = σ z) {i j c : Nat} (hi : i < 25) (hj : j < 25) (hij : i ≠ j) (hc : σ 80 (4 + j) = nI c) (hc1 : c < 25) : CM mX10_swap [ar 79, ai (nI i), ai (nI j)] σ3 (RPost σ σ3 n H s (SWP (σ 80) i j) (nI (10 * (c / 5 + 1) + (c % 5 + 1)))) := by
  have hHR3 : HRf σ3 n H := hHR.of (by rw [e 79 (by decide)]) (e 81 (by decide))
  have hx : ∀ q, q < 189 → σ3 80 q = ((σ 80, s) : (Nat → Int32) × Nat).1 q := fun q _ => by rw [e 80 (by decide)]
  have e380 : σ3 80 = σ 80 := e 80 (by decide)
  refine CM_in (ls := [some (ar 79), some (ai (nI i)), some (ai (nI j)), none]) rfl ?_
  refine g_iload_n (p0 := 1) (i := 1) dX10_swap_0 rfl rfl rfl ?_
  refine g_cS1R (p0 := 4) (r1 := mX10_isLetter) dX10_swap_1 (Or.inl lX10_80) vX10_isLetter (FITi rfl rfl) (Nat.le_of_ble_eq_true rfl) (isLetter_T hi) rfl ?_
  first | ((with_reducible refine isN1 ?_); refine g_ifN_eq (tgt := 19) (p1 := 7) dX10_swap_4 rfl (by omega) rfl (fun c_4 => by exfalso; first | omega | contradiction | exact absurd (by assumption) c_4 | (simp_all; done)) (fun c_4 => ?_)) | refine g_if_eq (tgt := 19) (p1 := 7) dX10_swap_4 rfl rfl (fun c_4 => by exfalso; first | omega | contradiction | exact absurd (by assumption) c_4 | (simp_all; done)) (fun c_4 => ?_)
  refine g_iload_n (p0 := 8) (i := 2) dX10_swap_7 rfl rfl rfl ?_
  refine g_cS1R (p0 := 11) (r1 := mX10_isLetter) dX10_swap_8 (Or.inl lX10_80) vX10_isLetter (FITi rfl rfl) (Nat.le_of_ble_eq_true rfl) (isLetter_T hj) rfl ?_
  first | ((with_reducible refine isN1 ?_); refine g_ifN_eq (tgt := 19) (p1 := 14) dX10_swap_11 rfl (by omega) rfl (fun c_11 => by exfalso; first | omega | contradiction | exact absurd (by assumption) c_11 | (simp_all; done)) (fun c_11 => ?_)) | refine g_if_eq (tgt := 19) (p1 := 14) dX10_swap_11 rfl rfl (fun c_11 => by exfalso; first | omega | contradiction | exact absurd (by assumption) c_11 | (simp_all; done)) (fun c_11 => ?_)
  refine g_iload_n (p0 := 15) (i := 1) dX10_swap_14 rfl rfl rfl ?_
  refine g_iload_n (p0 := 16) (i := 2) dX10_swap_15 rfl rfl rfl ?_
  first | ((with_reducible refine isN2 ?_); refine g_icmpN_ne (tgt := 22) (p1 := 19) dX10_swap_16 rfl (by omega) (by omega) rfl (fun c_16 => ?_) (fun c_16 => by exfalso; first | omega | contradiction | exact absurd (by assumption) c_16 | (simp_all; done))) | refine g_icmp_ne (tgt := 22) (p1 := 19) dX10_swap_16 rfl rfl (fun c_16 => ?_) (fun c_16 => by exfalso; first | omega | contradiction | exact absurd (by assumption) c_16 | (simp_all; done))
  refine g_aload_n (p0 := 23) (i := 0) dX10_swap_22 rfl rfl rfl ?_
  refine g_cV0P (p0 := 26) (r1 := mX10_changes) dX10_swap_23 lX10_77 vX10_changes (by first | rfl | assumption | exact RW.s (by assumption) | exact TW.s (by assumption)) ⟨_, _, rfl⟩ (FITi rfl rfl) (Nat.le_of_ble_eq_true rfl) (changes_rel (σ 80, s) hHR3 hn hx) rfl ?_
  rintro σ4 ⟨hH4, fr4, fr79⟩
  have e480 : σ4 80 = σ 80 := by rw [fr4 80 (by decide) (by decide)]; exact e380
  have w1 : σ4 80 (4 + i) = σ 80 (4 + i) := by rw [e480]
  have w2 : σ4 80 (4 + j) = σ 80 (4 + j) := by rw [e480]
  have hv5 : up (up σ4 80 (4 + i) (σ 80 (4 + j))) 80 (4 + j) (σ 80 (4 + i)) 80 (4 + i) = nI c := by rw [up_miss (by omega), up_hit]; exact hc
  refine g_aload_n (p0 := 27) (i := 0) dX10_swap_26 rfl rfl rfl ?_
  refine g_getR (p0 := 30) dX10_swap_27 fX10_7 (by first | rfl | assumption | exact RW.s (by assumption) | exact TW.s (by assumption)) rfl rfl ?_
  refine g_iconst (p0 := 31) (v := nI 4) dX10_swap_30 rfl rfl ?_
  refine g_iload_n (p0 := 32) (i := 1) dX10_swap_31 rfl rfl rfl ?_
  first | ((with_reducible refine isN2 ?_); refine g_iaddN (p0 := 33) dX10_swap_32 rfl ?_) | refine g_iadd (p0 := 33) dX10_swap_32 rfl ?_
  first | ((with_reducible refine isN1 ?_); refine g_aldN (p0 := 34) dX10_swap_33 (by first | rfl | assumption | exact RW.s (by assumption) | exact TW.s (by assumption)) (by first | decide | assumption) (by omega) (by first | assumption | ((repeat (first | exact up_hit | refine up_nv (by decide) ?_ | refine up_mv (by first | decide | omega) ?_)) <;> first | assumption | rfl)) rfl ?_) | refine g_ald (p0 := 34) dX10_swap_33 (by first | rfl | assumption | exact RW.s (by assumption) | exact TW.s (by assumption)) (by assumption) (by first | assumption | ((repeat (first | exact up_hit | refine up_nv (by decide) ?_ | refine up_mv (by first | decide | omega) ?_)) <;> first | assumption | rfl)) rfl ?_
  refine g_istore_n (p0 := 35) (i := 3) (ls2 := [_, _, _, _]) dX10_swap_34 rfl (Nat.le_of_ble_eq_true rfl) rfl rfl ?_
  refine g_aload_n (p0 := 36) (i := 0) dX10_swap_35 rfl rfl rfl ?_
  refine g_getR (p0 := 39) dX10_swap_36 fX10_7 (by first | rfl | assumption | exact RW.s (by assumption) | exact TW.s (by assumption)) rfl rfl ?_
  refine g_iconst (p0 := 40) (v := nI 4) dX10_swap_39 rfl rfl ?_
  refine g_iload_n (p0 := 41) (i := 1) dX10_swap_40 rfl rfl rfl ?_
  first | ((with_reducible refine isN2 ?_); refine g_iaddN (p0 := 42) dX10_swap_41 rfl ?_) | refine g_iadd (p0 := 42) dX10_swap_41 rfl ?_
  refine g_aload_n (p0 := 43) (i := 0) dX10_swap_42 rfl rfl rfl ?_
  refine g_getR (p0 := 46) dX10_swap_43 fX10_7 (by first | rfl | assumption | exact RW.s (by assumption) | exact TW.s (by assumption)) rfl rfl ?_
  refine g_iconst (p0 := 47) (v := nI 4) dX10_swap_46 rfl rfl ?_
  refine g_iload_n (p0 := 48) (i := 2) dX10_swap_47 rfl rfl rfl ?_
  first | ((with_reducible refine isN2 ?_); refine g_iaddN (p0 := 49) dX10_swap_48 rfl ?_) | refine g_iadd (p0 := 49) dX10_swap_48 rfl ?_
  first | ((with_reducible refine isN1 ?_); refine g_aldN (p0 := 50) dX10_swap_49 (by first | rfl | assumption | exact RW.s (by assumption) | exact TW.s (by assumption)) (by first | decide | assumption) (by omega) (by first | assumption | ((repeat (first | exact up_hit | refine up_nv (by decide) ?_ | refine up_mv (by first | decide | omega) ?_)) <;> first | assumption | rfl)) rfl ?_) | refine g_ald (p0 := 50) dX10_swap_49 (by first | rfl | assumption | exact RW.s (by assumption) | exact TW.s (by assumption)) (by assumption) (by first | assumption | ((repeat (first | exact up_hit | refine up_nv (by decide) ?_ | refine up_mv (by first | decide | omega) ?_)) <;> first | assumption | rfl)) rfl ?_
  first | ((with_reducible refine isNS ?_); refine g_astN (p0 := 51) dX10_swap_50 (by first | rfl | assumption | exact RW.s (by assumption) | exact TW.s (by assumption)) (by first | decide | assumption) (by omega) rfl ?_) | refine g_ast (p0 := 51) dX10_swap_50 (by first | rfl | assumption | exact RW.s (by assumption) | exact TW.s (by assumption)) (by assumption) rfl ?_
  refine g_aload_n (p0 := 52) (i := 0) dX10_swap_51 rfl rfl rfl ?_
  refine g_getR (p0 := 55) dX10_swap_52 fX10_7 (by first | rfl | assumption | exact RW.s (by assumption) | exact TW.s (by assumption)) rfl rfl ?_
  refine g_iconst (p0 := 56) (v := nI 4) dX10_swap_55 rfl rfl ?_
  refine g_iload_n (p0 := 57) (i := 2) dX10_swap_56 rfl rfl rfl ?_
  first | ((with_reducible refine isN2 ?_); refine g_iaddN (p0 := 58) dX10_swap_57 rfl ?_) | refine g_iadd (p0 := 58) dX10_swap_57 rfl ?_
  refine g_iload_n (p0 := 59) (i := 3) dX10_swap_58 rfl rfl rfl ?_
  first | ((with_reducible refine isNS ?_); refine g_astN (p0 := 60) dX10_swap_59 (by first | rfl | assumption | exact RW.s (by assumption) | exact TW.s (by assumption)) (by first | decide | assumption) (by omega) rfl ?_) | refine g_ast (p0 := 60) dX10_swap_59 (by first | rfl | assumption | exact RW.s (by assumption) | exact TW.s (by assumption)) (by assumption) rfl ?_
  refine g_aload_n (p0 := 61) (i := 0) dX10_swap_60 rfl rfl rfl ?_
  refine g_iload_n (p0 := 62) (i := 1) dX10_swap_61 rfl rfl rfl ?_
  refine g_cV1R (p0 := 65) (r1 := mX10_toldPlace) dX10_swap_62 lX10_84 vX10_toldPlace (by first | rfl | assumption | exact RW.s (by assumption) | exact TW.s (by assumption)) ⟨_, _, rfl⟩ (FITi rfl rfl) (Nat.le_of_ble_eq_true rfl) (toldPlace_sp hi hv5 hc1) rfl ?_
  refine g_ireturn dX10_swap_65 rfl rfl (?_)
  exact rchg hH4 fr4 fr79 (fun z hz => by rw [up_ne hz, up_ne hz]) (by rw [up_self, up_self, e480]; rfl)
set_option maxRecDepth 20000 in
set_option maxHeartbeats 2000000 in
theorem swap_cF1 {x y : Int32} {σ : Sg} (h : CM mX9_isLetter [ai x] σ (Ret (nI 0) σ)) : CM mX9_swap [ar 0, ai x, ai y] σ (Ret (-1000001) σ) := by
  refine CM_in (ls := [some (ar 0), some (ai x), some (ai y)]) rfl ?_
  refine g_iload_n (p0 := 1) (i := 1) dX9_swap_0 rfl rfl rfl ?_
  refine g_cS1R (p0 := 4) (r1 := mX9_isLetter) dX9_swap_1 (Or.inl lX9_69) vX9_isLetter (FITi rfl rfl) (Nat.le_of_ble_eq_true rfl) (h) rfl ?_
  first | ((with_reducible refine isN1 ?_); refine g_ifN_eq (tgt := 19) (p1 := 7) dX9_swap_4 rfl (by omega) rfl (fun c_4 => ?_) (fun c_4 => by exfalso; first | omega | contradiction | exact absurd (by assumption) c_4 | (simp_all; done))) | refine g_if_eq (tgt := 19) (p1 := 7) dX9_swap_4 rfl rfl (fun c_4 => ?_) (fun c_4 => by exfalso; first | omega | contradiction | exact absurd (by assumption) c_4 | (simp_all; done))
  refine g_ldc (p0 := 21) dX9_swap_19 qX9_68 rfl ?_
  refine g_ireturn dX9_swap_21 rfl rfl (?_)
  exact ⟨rfl, rfl⟩
set_option maxRecDepth 20000 in
set_option maxHeartbeats 2000000 in
theorem swap_rF1 {x y : Int32} {σ : Sg} (h : CM mX10_isLetter [ai x] σ (Ret (nI 0) σ)) : CM mX10_swap [ar 79, ai x, ai y] σ (Ret (-1000001) σ) := by
  refine CM_in (ls := [some (ar 79), some (ai x), some (ai y), none]) rfl ?_
  refine g_iload_n (p0 := 1) (i := 1) dX10_swap_0 rfl rfl rfl ?_
  refine g_cS1R (p0 := 4) (r1 := mX10_isLetter) dX10_swap_1 (Or.inl lX10_80) vX10_isLetter (FITi rfl rfl) (Nat.le_of_ble_eq_true rfl) (h) rfl ?_
  first | ((with_reducible refine isN1 ?_); refine g_ifN_eq (tgt := 19) (p1 := 7) dX10_swap_4 rfl (by omega) rfl (fun c_4 => ?_) (fun c_4 => by exfalso; first | omega | contradiction | exact absurd (by assumption) c_4 | (simp_all; done))) | refine g_if_eq (tgt := 19) (p1 := 7) dX10_swap_4 rfl rfl (fun c_4 => ?_) (fun c_4 => by exfalso; first | omega | contradiction | exact absurd (by assumption) c_4 | (simp_all; done))
  refine g_ldc (p0 := 21) dX10_swap_19 qX10_76 rfl ?_
  refine g_ireturn dX10_swap_21 rfl rfl (?_)
  exact ⟨rfl, rfl⟩
set_option maxRecDepth 20000 in
set_option maxHeartbeats 2000000 in
theorem swap_cF2 {y : Int32} {i : Nat} {σ : Sg} (hi : i < 25) (h : CM mX9_isLetter [ai y] σ (Ret (nI 0) σ)) : CM mX9_swap [ar 0, ai (nI i), ai y] σ (Ret (-1000001) σ) := by
  refine CM_in (ls := [some (ar 0), some (ai (nI i)), some (ai y)]) rfl ?_
  refine g_iload_n (p0 := 1) (i := 1) dX9_swap_0 rfl rfl rfl ?_
  refine g_cS1R (p0 := 4) (r1 := mX9_isLetter) dX9_swap_1 (Or.inl lX9_69) vX9_isLetter (FITi rfl rfl) (Nat.le_of_ble_eq_true rfl) (cIsLetter_T hi) rfl ?_
  first | ((with_reducible refine isN1 ?_); refine g_ifN_eq (tgt := 19) (p1 := 7) dX9_swap_4 rfl (by omega) rfl (fun c_4 => by exfalso; first | omega | contradiction | exact absurd (by assumption) c_4 | (simp_all; done)) (fun c_4 => ?_)) | refine g_if_eq (tgt := 19) (p1 := 7) dX9_swap_4 rfl rfl (fun c_4 => by exfalso; first | omega | contradiction | exact absurd (by assumption) c_4 | (simp_all; done)) (fun c_4 => ?_)
  refine g_iload_n (p0 := 8) (i := 2) dX9_swap_7 rfl rfl rfl ?_
  refine g_cS1R (p0 := 11) (r1 := mX9_isLetter) dX9_swap_8 (Or.inl lX9_69) vX9_isLetter (FITi rfl rfl) (Nat.le_of_ble_eq_true rfl) (h) rfl ?_
  first | ((with_reducible refine isN1 ?_); refine g_ifN_eq (tgt := 19) (p1 := 14) dX9_swap_11 rfl (by omega) rfl (fun c_11 => ?_) (fun c_11 => by exfalso; first | omega | contradiction | exact absurd (by assumption) c_11 | (simp_all; done))) | refine g_if_eq (tgt := 19) (p1 := 14) dX9_swap_11 rfl rfl (fun c_11 => ?_) (fun c_11 => by exfalso; first | omega | contradiction | exact absurd (by assumption) c_11 | (simp_all; done))
  refine g_ldc (p0 := 21) dX9_swap_19 qX9_68 rfl ?_
  refine g_ireturn dX9_swap_21 rfl rfl (?_)
  exact ⟨rfl, rfl⟩
set_option maxRecDepth 20000 in
set_option maxHeartbeats 2000000 in
theorem swap_rF2 {y : Int32} {i : Nat} {σ : Sg} (hi : i < 25) (h : CM mX10_isLetter [ai y] σ (Ret (nI 0) σ)) : CM mX10_swap [ar 79, ai (nI i), ai y] σ (Ret (-1000001) σ) := by
  refine CM_in (ls := [some (ar 79), some (ai (nI i)), some (ai y), none]) rfl ?_
  refine g_iload_n (p0 := 1) (i := 1) dX10_swap_0 rfl rfl rfl ?_
  refine g_cS1R (p0 := 4) (r1 := mX10_isLetter) dX10_swap_1 (Or.inl lX10_80) vX10_isLetter (FITi rfl rfl) (Nat.le_of_ble_eq_true rfl) (isLetter_T hi) rfl ?_
  first | ((with_reducible refine isN1 ?_); refine g_ifN_eq (tgt := 19) (p1 := 7) dX10_swap_4 rfl (by omega) rfl (fun c_4 => by exfalso; first | omega | contradiction | exact absurd (by assumption) c_4 | (simp_all; done)) (fun c_4 => ?_)) | refine g_if_eq (tgt := 19) (p1 := 7) dX10_swap_4 rfl rfl (fun c_4 => by exfalso; first | omega | contradiction | exact absurd (by assumption) c_4 | (simp_all; done)) (fun c_4 => ?_)
  refine g_iload_n (p0 := 8) (i := 2) dX10_swap_7 rfl rfl rfl ?_
  refine g_cS1R (p0 := 11) (r1 := mX10_isLetter) dX10_swap_8 (Or.inl lX10_80) vX10_isLetter (FITi rfl rfl) (Nat.le_of_ble_eq_true rfl) (h) rfl ?_
  first | ((with_reducible refine isN1 ?_); refine g_ifN_eq (tgt := 19) (p1 := 14) dX10_swap_11 rfl (by omega) rfl (fun c_11 => ?_) (fun c_11 => by exfalso; first | omega | contradiction | exact absurd (by assumption) c_11 | (simp_all; done))) | refine g_if_eq (tgt := 19) (p1 := 14) dX10_swap_11 rfl rfl (fun c_11 => ?_) (fun c_11 => by exfalso; first | omega | contradiction | exact absurd (by assumption) c_11 | (simp_all; done))
  refine g_ldc (p0 := 21) dX10_swap_19 qX10_76 rfl ?_
  refine g_ireturn dX10_swap_21 rfl rfl (?_)
  exact ⟨rfl, rfl⟩
set_option maxRecDepth 20000 in
set_option maxHeartbeats 2000000 in
theorem swap_cF3 {i : Nat} {σ : Sg} (hi : i < 25) : CM mX9_swap [ar 0, ai (nI i), ai (nI i)] σ (Ret (-1000001) σ) := by
  refine CM_in (ls := [some (ar 0), some (ai (nI i)), some (ai (nI i))]) rfl ?_
  refine g_iload_n (p0 := 1) (i := 1) dX9_swap_0 rfl rfl rfl ?_
  refine g_cS1R (p0 := 4) (r1 := mX9_isLetter) dX9_swap_1 (Or.inl lX9_69) vX9_isLetter (FITi rfl rfl) (Nat.le_of_ble_eq_true rfl) (cIsLetter_T hi) rfl ?_
  first | ((with_reducible refine isN1 ?_); refine g_ifN_eq (tgt := 19) (p1 := 7) dX9_swap_4 rfl (by omega) rfl (fun c_4 => by exfalso; first | omega | contradiction | exact absurd (by assumption) c_4 | (simp_all; done)) (fun c_4 => ?_)) | refine g_if_eq (tgt := 19) (p1 := 7) dX9_swap_4 rfl rfl (fun c_4 => by exfalso; first | omega | contradiction | exact absurd (by assumption) c_4 | (simp_all; done)) (fun c_4 => ?_)
  refine g_iload_n (p0 := 8) (i := 2) dX9_swap_7 rfl rfl rfl ?_
  refine g_cS1R (p0 := 11) (r1 := mX9_isLetter) dX9_swap_8 (Or.inl lX9_69) vX9_isLetter (FITi rfl rfl) (Nat.le_of_ble_eq_true rfl) (cIsLetter_T hi) rfl ?_
  first | ((with_reducible refine isN1 ?_); refine g_ifN_eq (tgt := 19) (p1 := 14) dX9_swap_11 rfl (by omega) rfl (fun c_11 => by exfalso; first | omega | contradiction | exact absurd (by assumption) c_11 | (simp_all; done)) (fun c_11 => ?_)) | refine g_if_eq (tgt := 19) (p1 := 14) dX9_swap_11 rfl rfl (fun c_11 => by exfalso; first | omega | contradiction | exact absurd (by assumption) c_11 | (simp_all; done)) (fun c_11 => ?_)
  refine g_iload_n (p0 := 15) (i := 1) dX9_swap_14 rfl rfl rfl ?_
  refine g_iload_n (p0 := 16) (i := 2) dX9_swap_15 rfl rfl rfl ?_
  first | ((with_reducible refine isN2 ?_); refine g_icmpN_ne (tgt := 22) (p1 := 19) dX9_swap_16 rfl (by omega) (by omega) rfl (fun c_16 => by exfalso; first | omega | contradiction | exact absurd (by assumption) c_16 | (simp_all; done)) (fun c_16 => ?_)) | refine g_icmp_ne (tgt := 22) (p1 := 19) dX9_swap_16 rfl rfl (fun c_16 => by exfalso; first | omega | contradiction | exact absurd (by assumption) c_16 | (simp_all; done)) (fun c_16 => ?_)
  refine g_ldc (p0 := 21) dX9_swap_19 qX9_68 rfl ?_
  refine g_ireturn dX9_swap_21 rfl rfl (?_)
  exact ⟨rfl, rfl⟩
set_option maxRecDepth 20000 in
set_option maxHeartbeats 2000000 in
theorem swap_rF3 {i : Nat} {σ : Sg} (hi : i < 25) : CM mX10_swap [ar 79, ai (nI i), ai (nI i)] σ (Ret (-1000001) σ) := by
  refine CM_in (ls := [some (ar 79), some (ai (nI i)), some (ai (nI i)), none]) rfl ?_
  refine g_iload_n (p0 := 1) (i := 1) dX10_swap_0 rfl rfl rfl ?_
  refine g_cS1R (p0 := 4) (r1 := mX10_isLetter) dX10_swap_1 (Or.inl lX10_80) vX10_isLetter (FITi rfl rfl) (Nat.le_of_ble_eq_true rfl) (isLetter_T hi) rfl ?_
  first | ((with_reducible refine isN1 ?_); refine g_ifN_eq (tgt := 19) (p1 := 7) dX10_swap_4 rfl (by omega) rfl (fun c_4 => by exfalso; first | omega | contradiction | exact absurd (by assumption) c_4 | (simp_all; done)) (fun c_4 => ?_)) | refine g_if_eq (tgt := 19) (p1 := 7) dX10_swap_4 rfl rfl (fun c_4 => by exfalso; first | omega | contradiction | exact absurd (by assumption) c_4 | (simp_all; done)) (fun c_4 => ?_)
  refine g_iload_n (p0 := 8) (i := 2) dX10_swap_7 rfl rfl rfl ?_
  refine g_cS1R (p0 := 11) (r1 := mX10_isLetter) dX10_swap_8 (Or.inl lX10_80) vX10_isLetter (FITi rfl rfl) (Nat.le_of_ble_eq_true rfl) (isLetter_T hi) rfl ?_
  first | ((with_reducible refine isN1 ?_); refine g_ifN_eq (tgt := 19) (p1 := 14) dX10_swap_11 rfl (by omega) rfl (fun c_11 => by exfalso; first | omega | contradiction | exact absurd (by assumption) c_11 | (simp_all; done)) (fun c_11 => ?_)) | refine g_if_eq (tgt := 19) (p1 := 14) dX10_swap_11 rfl rfl (fun c_11 => by exfalso; first | omega | contradiction | exact absurd (by assumption) c_11 | (simp_all; done)) (fun c_11 => ?_)
  refine g_iload_n (p0 := 15) (i := 1) dX10_swap_14 rfl rfl rfl ?_
  refine g_iload_n (p0 := 16) (i := 2) dX10_swap_15 rfl rfl rfl ?_
  first | ((with_reducible refine isN2 ?_); refine g_icmpN_ne (tgt := 22) (p1 := 19) dX10_swap_16 rfl (by omega) (by omega) rfl (fun c_16 => by exfalso; first | omega | contradiction | exact absurd (by assumption) c_16 | (simp_all; done)) (fun c_16 => ?_)) | refine g_icmp_ne (tgt := 22) (p1 := 19) dX10_swap_16 rfl rfl (fun c_16 => by exfalso; first | omega | contradiction | exact absurd (by assumption) c_16 | (simp_all; done)) (fun c_16 => ?_)
  refine g_ldc (p0 := 21) dX10_swap_19 qX10_76 rfl ?_
  refine g_ireturn dX10_swap_21 rfl rfl (?_)
  exact ⟨rfl, rfl⟩
theorem op_swap (x0 x1 : Int32) : OpOK Inv mX9_swap mX10_swap [ai x0, ai x1] := by
  intro σ hI
  rcases letter_c x0 with ⟨i, hi, rfl⟩ | ⟨h1, h2⟩
  · rcases letter_c x1 with ⟨j, hj, rfl⟩ | ⟨h1, h2⟩
    · by_cases hij : i = j
      · subst hij
        exact op_same hI (swap_cF3 hi) (swap_rF3 hi)
      · obtain ⟨s, n, H, len, hR, hRep, hHC, hHR, hRD, hT⟩ := id hI
        obtain ⟨cf, hcf, hinj⟩ := hR.2.2.2.1
        exact op_change hT (RowOK_swp hR hi hj) (swap_c hR hRep hHC hRD.2.2.2.2.2.2 hi hj hij (hcf j hj).1 (hcf j hj).2) (fun σ3 e => swap_r hR hHR (HC_le hHC) e hi hj hij (hcf j hj).1 (hcf j hj).2)
    · exact op_same hI (swap_cF2 hi (h1 σ)) (swap_rF2 hi (h2 σ))
  · exact op_same hI (swap_cF1 (h1 σ)) (swap_rF1 (h2 σ))
