/-! THE CLASS: out of the rows of whole -/
theorem RDC.upd2 {σ : Sg} {ρ : Nat → Int32} {s : Nat} {x : Int32} (h : RDC σ ρ s) : RDC σ (upd ρ 2 x) s := by
  have e1 : tm (upd ρ 2 x) = tm ρ := by
    funext k
    exact upd_ne (by omega)
  have e2 : upd ρ 2 x 0 = ρ 0 := upd_ne (by decide)
  have e3 : upd ρ 2 x 1 = ρ 1 := upd_ne (by decide)
  unfold RDC at h ⊢
  rw [e1, e2, e3]
  obtain ⟨h1, h2, h3, h4, h5, h6, h7⟩ := h
  refine ⟨h1, h2, h3, h4, h5, fun hs0 l x hl hx hlx => ?_, h7⟩
  rw [upd_ne (by omega)] at hlx
  exact h6 hs0 l x hl hx hlx
theorem RowOK_upd2 {ρ : Nat → Int32} {s : Nat} (h : RowOK ρ s) : RowOK (upd ρ 2 (nI 1)) s := by
  obtain ⟨h1, h2, h3, ⟨cf, h4, h5⟩, h6, h7⟩ := h
  refine ⟨by rw [upd_ne (by omega)]; exact h1, h2, by rw [upd_hit]; exact Or.inr rfl, ⟨cf, fun l hl => by rw [upd_ne (by omega)]; exact h4 l hl, h5⟩, by rw [upd_ne (by omega)]; exact h6, fun q hq => by rw [upd_ne (by omega)]; exact h7 q hq⟩
set_option maxRecDepth 20000 in
set_option maxHeartbeats 2000000 in
theorem pause_cP {σ : Sg} (h : σ 1 5 = nI 1) : CM mX9_pause [ar 0] σ (Ret (-1000002) σ) := by
  refine CM_in (ls := [some (ar 0)]) rfl ?_
  refine g_aload_n (p0 := 1) (i := 0) dX9_pause_0 rfl rfl rfl ?_
  refine g_getR (p0 := 4) dX9_pause_1 fX9_10 (by first | rfl | assumption | exact RW.s (by assumption) | exact TW.s (by assumption)) rfl rfl ?_
  refine g_getI (p0 := 7) dX9_pause_4 fX9_92 (by first | rfl | assumption | exact RW.s (by assumption) | exact TW.s (by assumption)) rfl (by first | assumption | ((repeat (first | exact up_hit | refine up_nv (by decide) ?_ | refine up_mv (by first | decide | omega) ?_)) <;> first | assumption | rfl)) rfl ?_
  first | ((with_reducible refine isN1 ?_); refine g_ifN_ne (tgt := 20) (p1 := 10) dX9_pause_7 rfl (by omega) rfl (fun c_7 => ?_) (fun c_7 => by exfalso; first | omega | contradiction | exact absurd (by assumption) c_7 | (simp_all; done))) | refine g_if_ne (tgt := 20) (p1 := 10) dX9_pause_7 rfl rfl (fun c_7 => ?_) (fun c_7 => by exfalso; first | omega | contradiction | exact absurd (by assumption) c_7 | (simp_all; done))
  refine g_ldc (p0 := 22) dX9_pause_20 qX9_96 rfl ?_
  refine g_ireturn dX9_pause_22 rfl rfl (?_)
  exact ⟨rfl, rfl⟩
set_option maxRecDepth 20000 in
set_option maxHeartbeats 2000000 in
theorem pause_c0 {σ : Sg} (h : σ 1 5 = nI 0) (h2 : σ 1 2 = nI 0) : CM mX9_pause [ar 0] σ (Ret (-1000002) σ) := by
  refine CM_in (ls := [some (ar 0)]) rfl ?_
  refine g_aload_n (p0 := 1) (i := 0) dX9_pause_0 rfl rfl rfl ?_
  refine g_getR (p0 := 4) dX9_pause_1 fX9_10 (by first | rfl | assumption | exact RW.s (by assumption) | exact TW.s (by assumption)) rfl rfl ?_
  refine g_getI (p0 := 7) dX9_pause_4 fX9_92 (by first | rfl | assumption | exact RW.s (by assumption) | exact TW.s (by assumption)) rfl (by first | assumption | ((repeat (first | exact up_hit | refine up_nv (by decide) ?_ | refine up_mv (by first | decide | omega) ?_)) <;> first | assumption | rfl)) rfl ?_
  first | ((with_reducible refine isN1 ?_); refine g_ifN_ne (tgt := 20) (p1 := 10) dX9_pause_7 rfl (by omega) rfl (fun c_7 => by exfalso; first | omega | contradiction | exact absurd (by assumption) c_7 | (simp_all; done)) (fun c_7 => ?_)) | refine g_if_ne (tgt := 20) (p1 := 10) dX9_pause_7 rfl rfl (fun c_7 => by exfalso; first | omega | contradiction | exact absurd (by assumption) c_7 | (simp_all; done)) (fun c_7 => ?_)
  refine g_aload_n (p0 := 11) (i := 0) dX9_pause_10 rfl rfl rfl ?_
  refine g_getR (p0 := 14) dX9_pause_11 fX9_10 (by first | rfl | assumption | exact RW.s (by assumption) | exact TW.s (by assumption)) rfl rfl ?_
  refine g_getI (p0 := 17) dX9_pause_14 fX9_85 (by first | rfl | assumption | exact RW.s (by assumption) | exact TW.s (by assumption)) rfl (by first | assumption | ((repeat (first | exact up_hit | refine up_nv (by decide) ?_ | refine up_mv (by first | decide | omega) ?_)) <;> first | assumption | rfl)) rfl ?_
  first | ((with_reducible refine isN1 ?_); refine g_ifN_ne (tgt := 23) (p1 := 20) dX9_pause_17 rfl (by omega) rfl (fun c_17 => by exfalso; first | omega | contradiction | exact absurd (by assumption) c_17 | (simp_all; done)) (fun c_17 => ?_)) | refine g_if_ne (tgt := 23) (p1 := 20) dX9_pause_17 rfl rfl (fun c_17 => by exfalso; first | omega | contradiction | exact absurd (by assumption) c_17 | (simp_all; done)) (fun c_17 => ?_)
  refine g_ldc (p0 := 22) dX9_pause_20 qX9_96 rfl ?_
  refine g_ireturn dX9_pause_22 rfl rfl (?_)
  exact ⟨rfl, rfl⟩
set_option maxRecDepth 20000 in
set_option maxHeartbeats 2000000 in
theorem pause_c {ρ : Nat → Int32} {s n : Nat} {H : Nat → (Nat → Int32) × Nat} {σ : Sg} (hR : RowOK ρ s) (hRep : Rep σ 1 ρ s) (hHC : HC σ n H) (hRD : RDC σ ρ s) (hz : ρ 2 = nI 0) (hs : 0 < s) : CM mX9_pause [ar 0] σ (CPost ρ σ n H s (upd ρ 2 (nI 1)) s (nI s)) := by
  have v1 : σ 1 5 = nI 0 := hRep.2.2.2.1.trans hz
  have v2 : σ 1 2 = nI s := hRep.1
  have hs1 := hR.2.1
  refine CM_in (ls := [some (ar 0)]) rfl ?_
  refine g_aload_n (p0 := 1) (i := 0) dX9_pause_0 rfl rfl rfl ?_
  refine g_getR (p0 := 4) dX9_pause_1 fX9_10 (by first | rfl | assumption | exact RW.s (by assumption) | exact TW.s (by assumption)) rfl rfl ?_
  refine g_getI (p0 := 7) dX9_pause_4 fX9_92 (by first | rfl | assumption | exact RW.s (by assumption) | exact TW.s (by assumption)) rfl (by first | assumption | ((repeat (first | exact up_hit | refine up_nv (by decide) ?_ | refine up_mv (by first | decide | omega) ?_)) <;> first | assumption | rfl)) rfl ?_
  first | ((with_reducible refine isN1 ?_); refine g_ifN_ne (tgt := 20) (p1 := 10) dX9_pause_7 rfl (by omega) rfl (fun c_7 => by exfalso; first | omega | contradiction | exact absurd (by assumption) c_7 | (simp_all; done)) (fun c_7 => ?_)) | refine g_if_ne (tgt := 20) (p1 := 10) dX9_pause_7 rfl rfl (fun c_7 => by exfalso; first | omega | contradiction | exact absurd (by assumption) c_7 | (simp_all; done)) (fun c_7 => ?_)
  refine g_aload_n (p0 := 11) (i := 0) dX9_pause_10 rfl rfl rfl ?_
  refine g_getR (p0 := 14) dX9_pause_11 fX9_10 (by first | rfl | assumption | exact RW.s (by assumption) | exact TW.s (by assumption)) rfl rfl ?_
  refine g_getI (p0 := 17) dX9_pause_14 fX9_85 (by first | rfl | assumption | exact RW.s (by assumption) | exact TW.s (by assumption)) rfl (by first | assumption | ((repeat (first | exact up_hit | refine up_nv (by decide) ?_ | refine up_mv (by first | decide | omega) ?_)) <;> first | assumption | rfl)) rfl ?_
  first | ((with_reducible refine isN1 ?_); refine g_ifN_ne (tgt := 23) (p1 := 20) dX9_pause_17 rfl (by omega) rfl (fun c_17 => ?_) (fun c_17 => by exfalso; first | omega | contradiction | exact absurd (by assumption) c_17 | (simp_all; done))) | refine g_if_ne (tgt := 23) (p1 := 20) dX9_pause_17 rfl rfl (fun c_17 => ?_) (fun c_17 => by exfalso; first | omega | contradiction | exact absurd (by assumption) c_17 | (simp_all; done))
  refine g_aload_n (p0 := 24) (i := 0) dX9_pause_23 rfl rfl rfl ?_
  refine g_getR (p0 := 27) dX9_pause_24 fX9_22 (by first | rfl | assumption | exact RW.s (by assumption) | exact TW.s (by assumption)) rfl rfl ?_
  refine g_aload_n (p0 := 28) (i := 0) dX9_pause_27 rfl rfl rfl ?_
  refine g_getR (p0 := 31) dX9_pause_28 fX9_10 (by first | rfl | assumption | exact RW.s (by assumption) | exact TW.s (by assumption)) rfl rfl ?_
  refine g_cV1P (p0 := 34) (r1 := mX2_record) dX9_pause_31 lX9_58 vX2_record (by first | rfl | assumption | exact RW.s (by assumption) | exact TW.s (by assumption)) ⟨_, _, rfl⟩ (FITi rfl rfl) (Nat.le_of_ble_eq_true rfl) (record_rel hHC hR hRep) rfl ?_
  rintro σ1 ⟨fr1, hHC1⟩
  have v3 : σ1 1 2 = nI s := by rw [fr1 1 (by decide) (by decide)]; exact v2
  have hRep1 : Rep σ1 1 ρ s := hRep.of_eq (fr1 _ (by decide) (by decide)) (fr1 _ (by decide) (by decide)) (fr1 _ (by decide) (by decide))
  obtain ⟨b1, b2, b3, b4, b5, b6⟩ := hRep1
  refine g_aload_n (p0 := 35) (i := 0) dX9_pause_34 rfl rfl rfl ?_
  refine g_getR (p0 := 38) dX9_pause_35 fX9_10 (by first | rfl | assumption | exact RW.s (by assumption) | exact TW.s (by assumption)) rfl rfl ?_
  refine g_iconst (p0 := 39) (v := nI 1) dX9_pause_38 rfl rfl ?_
  refine g_put (p0 := 42) dX9_pause_39 fX9_92 (by first | rfl | assumption | exact RW.s (by assumption) | exact TW.s (by assumption)) rfl nX8_5 (pX8_5 (by first | decide | assumption)) rfl ?_
  refine g_aload_n (p0 := 43) (i := 0) dX9_pause_42 rfl rfl rfl ?_
  refine g_getR (p0 := 46) dX9_pause_43 fX9_10 (by first | rfl | assumption | exact RW.s (by assumption) | exact TW.s (by assumption)) rfl rfl ?_
  refine g_getI (p0 := 49) dX9_pause_46 fX9_85 (by first | rfl | assumption | exact RW.s (by assumption) | exact TW.s (by assumption)) rfl (by first | assumption | ((repeat (first | exact up_hit | refine up_nv (by decide) ?_ | refine up_mv (by first | decide | omega) ?_)) <;> first | assumption | rfl)) rfl ?_
  refine g_ireturn dX9_pause_49 rfl rfl (?_)
  refine ⟨rfl, ⟨?_, ?_, ?_, ?_, fun l hl => ?_, fun q hq => ?_⟩, hHC1.of (fun z h1 h2 => up_ne (by omega)), (hRD.of (fun z h1 h2 => ?_)).upd2, fun z hz => ?_⟩
  · rw [up_miss (by decide)]; exact b1
  · rw [up_miss (by decide), upd_ne (by decide)]; exact b2
  · rw [up_miss (by decide), upd_ne (by decide)]; exact b3
  · rw [up_hit, upd_hit]
  · rw [up_ne (by decide), upd_ne (by omega)]; exact b5 l hl
  · rw [up_ne (by decide), upd_ne (by omega)]; exact b6 q hq
  · rw [up_ne (by omega), fr1 z (by omega) (by omega)]
  · rw [up_ne (by omega), fr1 z (by omega) (by omega)]
