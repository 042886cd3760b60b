/-! THE CLASS: out of the rows of whole -/
def CPost (ρ : Nat → Int32) (σ : Sg) (n : Nat) (H : Nat → (Nat → Int32) × Nat) (s : Nat) (ρ' : Nat → Int32) (s' : Nat) (v : Int32) : SP := fun w σ3 => w = some (ai v) ∧ Rep σ3 1 ρ' s' ∧ HC σ3 (pn n) (push n H (ρ, s)) ∧ RDC σ3 ρ' s' ∧ ∀ z, 72 ≤ z → σ3 z = σ z
theorem HC_le {σ : Sg} {n : Nat} {H : Nat → (Nat → Int32) × Nat} (h : HC σ n H) : n ≤ 4 := by
  obtain ⟨_, _, _, _, h3, _⟩ := h
  exact h3
theorem RowOK.upd {ρ : Nat → Int32} {s k : Nat} {x : Int32} (h : RowOK ρ s) (hk : k < 2) (hx : k = 0 → ∃ b, b ≤ 20 ∧ x = nI b) : RowOK (upd ρ k x) s := by
  obtain ⟨h1, h2, h3, ⟨cf, h4, h5⟩, ⟨b, hb1, hb2⟩, h6⟩ := h
  refine ⟨by rw [upd_ne (by omega)]; exact h1, h2, by rw [upd_ne (by omega)]; exact h3, ⟨cf, fun l hl => by rw [upd_ne (by omega)]; exact h4 l hl, h5⟩, ?_, fun q hq => by rw [upd_ne (by omega)]; exact h6 q hq⟩
  by_cases hk0 : k = 0
  · obtain ⟨b', hb3, hb4⟩ := hx hk0
    exact ⟨b', hb3, by rw [hk0, upd_hit]; exact hb4⟩
  · exact ⟨b, hb1, by rw [upd_ne (by omega)]; exact hb2⟩
set_option maxRecDepth 20000 in
set_option maxHeartbeats 2000000 in
theorem set_c0 {ρ : Nat → Int32} {s n j : Nat} {H : Nat → (Nat → Int32) × Nat} {σ : Sg} (hR : RowOK ρ s) (hRep : Rep σ 1 ρ s) (hHC : HC σ n H) (h65 : σ 65 0 = nI 0) (h1 : 4 ≤ j) (h2 : j ≤ 20) : CM mX9_set [ar 0, ai (nI 0), ai (nI j)] σ (CPost ρ σ n H s (upd ρ 0 (nI j)) s (ρ 0)) := by
  have v1 : σ 1 3 = ρ 0 := hRep.2.1
  refine CM_in (ls := [some (ar 0), some (ai (nI 0)), some (ai (nI j)), none]) rfl ?_
  refine g_iload_n (p0 := 1) (i := 1) dX9_set_0 rfl rfl rfl ?_
  first | ((with_reducible refine isN1 ?_); refine g_ifN_ne (tgt := 55) (p1 := 4) dX9_set_1 rfl (by omega) rfl (fun c_1 => by exfalso; first | omega | contradiction | exact absurd (by assumption) c_1 | (simp_all; done)) (fun c_1 => ?_)) | refine g_if_ne (tgt := 55) (p1 := 4) dX9_set_1 rfl rfl (fun c_1 => by exfalso; first | omega | contradiction | exact absurd (by assumption) c_1 | (simp_all; done)) (fun c_1 => ?_)
  refine g_iload_n (p0 := 5) (i := 2) dX9_set_4 rfl rfl rfl ?_
  refine g_iconst (p0 := 6) (v := nI 4) dX9_set_5 rfl rfl ?_
  first | ((with_reducible refine isN2 ?_); refine g_icmpN_lt (tgt := 55) (p1 := 9) dX9_set_6 rfl (by omega) (by omega) rfl (fun c_6 => by exfalso; first | omega | contradiction | exact absurd (by assumption) c_6 | (simp_all; done)) (fun c_6 => ?_)) | refine g_icmp_lt (tgt := 55) (p1 := 9) dX9_set_6 rfl rfl (fun c_6 => by exfalso; first | omega | contradiction | exact absurd (by assumption) c_6 | (simp_all; done)) (fun c_6 => ?_)
  refine g_iload_n (p0 := 10) (i := 2) dX9_set_9 rfl rfl rfl ?_
  refine g_bipush (p0 := 12) (v := nI 20) dX9_set_10 (by decide) rfl ?_
  first | ((with_reducible refine isN2 ?_); refine g_icmpN_gt (tgt := 55) (p1 := 15) dX9_set_12 rfl (by omega) (by omega) rfl (fun c_12 => by exfalso; first | omega | contradiction | exact absurd (by assumption) c_12 | (simp_all; done)) (fun c_12 => ?_)) | refine g_icmp_gt (tgt := 55) (p1 := 15) dX9_set_12 rfl rfl (fun c_12 => by exfalso; first | omega | contradiction | exact absurd (by assumption) c_12 | (simp_all; done)) (fun c_12 => ?_)
  refine g_aload_n (p0 := 16) (i := 0) dX9_set_15 rfl rfl rfl ?_
  refine g_getR (p0 := 19) dX9_set_16 fX9_10 (by first | rfl | assumption | exact RW.s (by assumption) | exact TW.s (by assumption)) rfl rfl ?_
  refine g_getI (p0 := 22) dX9_set_19 fX9_54 (by first | rfl | assumption | exact RW.s (by assumption) | exact TW.s (by assumption)) rfl (by first | assumption | ((repeat (first | exact up_hit | refine up_nv (by decide) ?_ | refine up_mv (by first | decide | omega) ?_)) <;> first | assumption | rfl)) rfl ?_
  refine g_istore_n (p0 := 23) (i := 3) (ls2 := [_, _, _, _]) dX9_set_22 rfl (Nat.le_of_ble_eq_true rfl) rfl rfl ?_
  refine g_aload_n (p0 := 24) (i := 0) dX9_set_23 rfl rfl rfl ?_
  refine g_getR (p0 := 27) dX9_set_24 fX9_22 (by first | rfl | assumption | exact RW.s (by assumption) | exact TW.s (by assumption)) rfl rfl ?_
  refine g_aload_n (p0 := 28) (i := 0) dX9_set_27 rfl rfl rfl ?_
  refine g_getR (p0 := 31) dX9_set_28 fX9_10 (by first | rfl | assumption | exact RW.s (by assumption) | exact TW.s (by assumption)) rfl rfl ?_
  refine g_cV1P (p0 := 34) (r1 := mX2_record) dX9_set_31 lX9_58 vX2_record (by first | rfl | assumption | exact RW.s (by assumption) | exact TW.s (by assumption)) ⟨_, _, rfl⟩ (FITi rfl rfl) (Nat.le_of_ble_eq_true rfl) (record_rel hHC hR hRep) rfl ?_
  rintro σ1 ⟨fr1, hHC1⟩
  have hRep1 : Rep σ1 1 ρ s := hRep.of_eq (fr1 _ (by decide) (by decide)) (fr1 _ (by decide) (by decide)) (fr1 _ (by decide) (by decide))
  have hRep2 : Rep (up σ1 1 3 (nI j)) 1 (upd ρ 0 (nI j)) s := by
    obtain ⟨b1, b2, b3, b4, b5, b6⟩ := hRep1
    refine ⟨by rw [up_miss (by decide)]; exact b1, by rw [up_hit, upd_hit], by rw [up_miss (by decide), upd_ne (by decide)]; exact b3, by rw [up_miss (by decide), upd_ne (by decide)]; exact b4, fun l hl => by rw [up_ne (by decide), upd_ne (by omega)]; exact b5 l hl, fun q hq => by rw [up_ne (by decide), upd_ne (by omega)]; exact b6 q hq⟩
  have h652 : (up σ1 1 3 (nI j)) 65 0 = nI 0 := by rw [up_ne (by decide), fr1 _ (by decide) (by decide)]; exact h65
  refine g_aload_n (p0 := 35) (i := 0) dX9_set_34 rfl rfl rfl ?_
  refine g_getR (p0 := 38) dX9_set_35 fX9_10 (by first | rfl | assumption | exact RW.s (by assumption) | exact TW.s (by assumption)) rfl rfl ?_
  refine g_iload_n (p0 := 39) (i := 2) dX9_set_38 rfl rfl rfl ?_
  refine g_put (p0 := 42) dX9_set_39 fX9_54 (by first | rfl | assumption | exact RW.s (by assumption) | exact TW.s (by assumption)) rfl nX8_3 (pX8_3 _) rfl ?_
  refine g_aload_n (p0 := 43) (i := 0) dX9_set_42 rfl rfl rfl ?_
  refine g_getR (p0 := 46) dX9_set_43 fX9_29 (by first | rfl | assumption | exact RW.s (by assumption) | exact TW.s (by assumption)) rfl rfl ?_
  refine g_aload_n (p0 := 47) (i := 0) dX9_set_46 rfl rfl rfl ?_
  refine g_getR (p0 := 50) dX9_set_47 fX9_10 (by first | rfl | assumption | exact RW.s (by assumption) | exact TW.s (by assumption)) rfl rfl ?_
  refine g_cV1P (p0 := 53) (r1 := mX6_refresh) dX9_set_50 lX9_62 vX6_refresh (by first | rfl | assumption | exact RW.s (by assumption) | exact TW.s (by assumption)) ⟨_, _, rfl⟩ (FITi rfl rfl) (Nat.le_of_ble_eq_true rfl) (refresh_sp hRep2 (hR.upd (by decide) (fun _ => ⟨j, h2, rfl⟩)) h652) rfl ?_
  rintro σ2 ⟨hRD2, fr2⟩
  refine g_iload_n (p0 := 54) (i := 3) dX9_set_53 rfl rfl rfl ?_
  refine g_ireturn dX9_set_54 rfl rfl (?_)
  refine ⟨rfl, hRep2.of_eq (fr2 _ (by decide)) (fr2 _ (by decide)) (fr2 _ (by decide)), ?_, hRD2, fun z hz => ?_⟩
  · refine hHC1.of (fun z h3 h4 => ?_)
    rw [fr2 z (by omega), up_ne (by omega)]
  · rw [fr2 z (by omega), up_ne (by omega), fr1 z (by omega) (by omega)]
set_option maxRecDepth 20000 in
set_option maxHeartbeats 2000000 in
theorem set_c1 {ρ : Nat → Int32} {s n j : Nat} {H : Nat → (Nat → Int32) × Nat} {σ : Sg} (hR : RowOK ρ s) (hRep : Rep σ 1 ρ s) (hHC : HC σ n H) (h65 : σ 65 0 = nI 0) (h1 : 0 ≤ j) (h2 : j ≤ 3) : CM mX9_set [ar 0, ai (nI 1), ai (nI j)] σ (CPost ρ σ n H s (upd ρ 1 (nI j)) s (ρ 1)) := by
  have v1 : σ 1 4 = ρ 1 := hRep.2.2.1
  refine CM_in (ls := [some (ar 0), some (ai (nI 1)), some (ai (nI j)), none]) rfl ?_
  refine g_iload_n (p0 := 1) (i := 1) dX9_set_0 rfl rfl rfl ?_
  first | ((with_reducible refine isN1 ?_); refine g_ifN_ne (tgt := 55) (p1 := 4) dX9_set_1 rfl (by omega) rfl (fun c_1 => ?_) (fun c_1 => by exfalso; first | omega | contradiction | exact absurd (by assumption) c_1 | (simp_all; done))) | refine g_if_ne (tgt := 55) (p1 := 4) dX9_set_1 rfl rfl (fun c_1 => ?_) (fun c_1 => by exfalso; first | omega | contradiction | exact absurd (by assumption) c_1 | (simp_all; done))
  refine g_iload_n (p0 := 56) (i := 1) dX9_set_55 rfl rfl rfl ?_
  refine g_iconst (p0 := 57) (v := nI 1) dX9_set_56 rfl rfl ?_
  first | ((with_reducible refine isN2 ?_); refine g_icmpN_ne (tgt := 109) (p1 := 60) dX9_set_57 rfl (by omega) (by omega) rfl (fun c_57 => by exfalso; first | omega | contradiction | exact absurd (by assumption) c_57 | (simp_all; done)) (fun c_57 => ?_)) | refine g_icmp_ne (tgt := 109) (p1 := 60) dX9_set_57 rfl rfl (fun c_57 => by exfalso; first | omega | contradiction | exact absurd (by assumption) c_57 | (simp_all; done)) (fun c_57 => ?_)
  refine g_iload_n (p0 := 61) (i := 2) dX9_set_60 rfl rfl rfl ?_
  first | ((with_reducible refine isN1 ?_); refine g_ifN_lt (tgt := 109) (p1 := 64) dX9_set_61 rfl (by omega) rfl (fun c_61 => by exfalso; first | omega | contradiction | exact absurd (by assumption) c_61 | (simp_all; done)) (fun c_61 => ?_)) | refine g_if_lt (tgt := 109) (p1 := 64) dX9_set_61 rfl rfl (fun c_61 => by exfalso; first | omega | contradiction | exact absurd (by assumption) c_61 | (simp_all; done)) (fun c_61 => ?_)
  refine g_iload_n (p0 := 65) (i := 2) dX9_set_64 rfl rfl rfl ?_
  refine g_iconst (p0 := 66) (v := nI 3) dX9_set_65 rfl rfl ?_
  first | ((with_reducible refine isN2 ?_); refine g_icmpN_gt (tgt := 109) (p1 := 69) dX9_set_66 rfl (by omega) (by omega) rfl (fun c_66 => by exfalso; first | omega | contradiction | exact absurd (by assumption) c_66 | (simp_all; done)) (fun c_66 => ?_)) | refine g_icmp_gt (tgt := 109) (p1 := 69) dX9_set_66 rfl rfl (fun c_66 => by exfalso; first | omega | contradiction | exact absurd (by assumption) c_66 | (simp_all; done)) (fun c_66 => ?_)
  refine g_aload_n (p0 := 70) (i := 0) dX9_set_69 rfl rfl rfl ?_
  refine g_getR (p0 := 73) dX9_set_70 fX9_10 (by first | rfl | assumption | exact RW.s (by assumption) | exact TW.s (by assumption)) rfl rfl ?_
  refine g_getI (p0 := 76) dX9_set_73 fX9_65 (by first | rfl | assumption | exact RW.s (by assumption) | exact TW.s (by assumption)) rfl (by first | assumption | ((repeat (first | exact up_hit | refine up_nv (by decide) ?_ | refine up_mv (by first | decide | omega) ?_)) <;> first | assumption | rfl)) rfl ?_
  refine g_istore_n (p0 := 77) (i := 3) (ls2 := [_, _, _, _]) dX9_set_76 rfl (Nat.le_of_ble_eq_true rfl) rfl rfl ?_
  refine g_aload_n (p0 := 78) (i := 0) dX9_set_77 rfl rfl rfl ?_
  refine g_getR (p0 := 81) dX9_set_78 fX9_22 (by first | rfl | assumption | exact RW.s (by assumption) | exact TW.s (by assumption)) rfl rfl ?_
  refine g_aload_n (p0 := 82) (i := 0) dX9_set_81 rfl rfl rfl ?_
  refine g_getR (p0 := 85) dX9_set_82 fX9_10 (by first | rfl | assumption | exact RW.s (by assumption) | exact TW.s (by assumption)) rfl rfl ?_
  refine g_cV1P (p0 := 88) (r1 := mX2_record) dX9_set_85 lX9_58 vX2_record (by first | rfl | assumption | exact RW.s (by assumption) | exact TW.s (by assumption)) ⟨_, _, rfl⟩ (FITi rfl rfl) (Nat.le_of_ble_eq_true rfl) (record_rel hHC hR hRep) rfl ?_
  rintro σ1 ⟨fr1, hHC1⟩
  have hRep1 : Rep σ1 1 ρ s := hRep.of_eq (fr1 _ (by decide) (by decide)) (fr1 _ (by decide) (by decide)) (fr1 _ (by decide) (by decide))
  have hRep2 : Rep (up σ1 1 4 (nI j)) 1 (upd ρ 1 (nI j)) s := by
    obtain ⟨b1, b2, b3, b4, b5, b6⟩ := hRep1
    refine ⟨by rw [up_miss (by decide)]; exact b1, by rw [up_miss (by decide), upd_ne (by decide)]; exact b2, by rw [up_hit, upd_hit], by rw [up_miss (by decide), upd_ne (by decide)]; exact b4, fun l hl => by rw [up_ne (by decide), upd_ne (by omega)]; exact b5 l hl, fun q hq => by rw [up_ne (by decide), upd_ne (by omega)]; exact b6 q hq⟩
  have h652 : (up σ1 1 4 (nI j)) 65 0 = nI 0 := by rw [up_ne (by decide), fr1 _ (by decide) (by decide)]; exact h65
  refine g_aload_n (p0 := 89) (i := 0) dX9_set_88 rfl rfl rfl ?_
  refine g_getR (p0 := 92) dX9_set_89 fX9_10 (by first | rfl | assumption | exact RW.s (by assumption) | exact TW.s (by assumption)) rfl rfl ?_
  refine g_iload_n (p0 := 93) (i := 2) dX9_set_92 rfl rfl rfl ?_
  refine g_put (p0 := 96) dX9_set_93 fX9_65 (by first | rfl | assumption | exact RW.s (by assumption) | exact TW.s (by assumption)) rfl nX8_4 (pX8_4 _) rfl ?_
  refine g_aload_n (p0 := 97) (i := 0) dX9_set_96 rfl rfl rfl ?_
  refine g_getR (p0 := 100) dX9_set_97 fX9_29 (by first | rfl | assumption | exact RW.s (by assumption) | exact TW.s (by assumption)) rfl rfl ?_
  refine g_aload_n (p0 := 101) (i := 0) dX9_set_100 rfl rfl rfl ?_
  refine g_getR (p0 := 104) dX9_set_101 fX9_10 (by first | rfl | assumption | exact RW.s (by assumption) | exact TW.s (by assumption)) rfl rfl ?_
  refine g_cV1P (p0 := 107) (r1 := mX6_refresh) dX9_set_104 lX9_62 vX6_refresh (by first | rfl | assumption | exact RW.s (by assumption) | exact TW.s (by assumption)) ⟨_, _, rfl⟩ (FITi rfl rfl) (Nat.le_of_ble_eq_true rfl) (refresh_sp hRep2 (hR.upd (by decide) (fun z => absurd z (by decide))) h652) rfl ?_
  rintro σ2 ⟨hRD2, fr2⟩
  refine g_iload_n (p0 := 108) (i := 3) dX9_set_107 rfl rfl rfl ?_
  refine g_ireturn dX9_set_108 rfl rfl (?_)
  refine ⟨rfl, hRep2.of_eq (fr2 _ (by decide)) (fr2 _ (by decide)) (fr2 _ (by decide)), ?_, hRD2, fun z hz => ?_⟩
  · refine hHC1.of (fun z h3 h4 => ?_)
    rw [fr2 z (by omega), up_ne (by omega)]
  · rw [fr2 z (by omega), up_ne (by omega), fr1 z (by omega) (by omega)]
