/-! OPERATIONS: pause -/
theorem RDC.upd2 {σ : Sg} {ρ : Nat → Int32} {s : Nat} {x : Int32} (h : RDC σ ρ s) : RDC σ (upd ρ 2 x) s := by
  have e1 : tm (upd ρ 2 x) = tm ρ := by
    funext k
    exact upd_ne (by omega)
  have e2 : upd ρ 2 x 0 = ρ 0 := upd_ne (by decide)
  have e3 : upd ρ 2 x 1 = ρ 1 := upd_ne (by decide)
  unfold RDC at h ⊢
  rw [e1, e2, e3]
  obtain ⟨h1, h2, h3, h4, h5, h6, h7⟩ := h
  refine ⟨h1, h2, h3, h4, h5, fun hs0 l x hl hx hlx => ?_, h7⟩
  rw [upd_ne (by omega)] at hlx
  exact h6 hs0 l x hl hx hlx
theorem RowOK_upd2 {ρ : Nat → Int32} {s : Nat} (h : RowOK ρ s) : RowOK (upd ρ 2 (nI 1)) s := by
  obtain ⟨h1, h2, h3, ⟨cf, h4, h5⟩, h6, h7⟩ := h
  refine ⟨by rw [upd_ne (by omega)]; exact h1, h2, by rw [upd_hit]; exact Or.inr rfl, ⟨cf, fun l hl => by rw [upd_ne (by omega)]; exact h4 l hl, h5⟩, by rw [upd_ne (by omega)]; exact h6, fun q hq => by rw [upd_ne (by omega)]; exact h7 q hq⟩
set_option maxRecDepth 20000 in
set_option maxHeartbeats 2000000 in
theorem pause_cP {σ : Sg} (h : σ 1 5 = nI 1) : CM mX9_pause [ar 0] σ (Ret (-1000002) σ) := by
  refine CM_in (ls := [some (ar 0)]) rfl ?_
  refine g_aload_n (p0 := 1) (i := 0) dX9_pause_0 rfl rfl rfl ?_
  refine g_getR (p0 := 4) dX9_pause_1 fX9_10 (by first | rfl | assumption | exact RW.s (by assumption) | exact TW.s (by assumption)) rfl rfl ?_
  refine g_getI (p0 := 7) dX9_pause_4 fX9_92 (by first | rfl | assumption | exact RW.s (by assumption) | exact TW.s (by assumption)) rfl (by first | assumption | ((repeat (first | exact up_hit | refine up_nv (by decide) ?_ | refine up_mv (by first | decide | omega) ?_)) <;> first | assumption | rfl)) rfl ?_
  first | ((with_reducible refine isN1 ?_); refine g_ifN_ne (tgt := 20) (p1 := 10) dX9_pause_7 rfl (by omega) rfl (fun c_7 => ?_) (fun c_7 => by exfalso; first | omega | contradiction | exact absurd (by assumption) c_7 | (simp_all; done))) | refine g_if_ne (tgt := 20) (p1 := 10) dX9_pause_7 rfl rfl (fun c_7 => ?_) (fun c_7 => by exfalso; first | omega | contradiction | exact absurd (by assumption) c_7 | (simp_all; done))
  refine g_ldc (p0 := 22) dX9_pause_20 qX9_96 rfl ?_
  refine g_ireturn dX9_pause_22 rfl rfl (?_)
  exact ⟨rfl, rfl⟩
set_option maxRecDepth 20000 in
set_option maxHeartbeats 2000000 in
theorem pause_rP {σ : Sg} (h : σ 80 2 = nI 1) : CM mX10_pause [ar 79] σ (Ret (-1000002) σ) := by
  refine CM_in (ls := [some (ar 79)]) rfl ?_
  refine g_aload_n (p0 := 1) (i := 0) dX10_pause_0 rfl rfl rfl ?_
  refine g_getR (p0 := 4) dX10_pause_1 fX10_7 (by first | rfl | assumption | exact RW.s (by assumption) | exact TW.s (by assumption)) rfl rfl ?_
  refine g_iconst (p0 := 5) (v := nI 2) dX10_pause_4 rfl rfl ?_
  first | ((with_reducible refine isN1 ?_); refine g_aldN (p0 := 6) dX10_pause_5 (by first | rfl | assumption | exact RW.s (by assumption) | exact TW.s (by assumption)) (by first | decide | assumption) (by omega) (by first | assumption | ((repeat (first | exact up_hit | refine up_nv (by decide) ?_ | refine up_mv (by first | decide | omega) ?_)) <;> first | assumption | rfl)) rfl ?_) | refine g_ald (p0 := 6) dX10_pause_5 (by first | rfl | assumption | exact RW.s (by assumption) | exact TW.s (by assumption)) (by assumption) (by first | assumption | ((repeat (first | exact up_hit | refine up_nv (by decide) ?_ | refine up_mv (by first | decide | omega) ?_)) <;> first | assumption | rfl)) rfl ?_
  refine g_iconst (p0 := 7) (v := nI 1) dX10_pause_6 rfl rfl ?_
  first | ((with_reducible refine isN2 ?_); refine g_icmpN_eq (tgt := 19) (p1 := 10) dX10_pause_7 rfl (by omega) (by omega) rfl (fun c_7 => ?_) (fun c_7 => by exfalso; first | omega | contradiction | exact absurd (by assumption) c_7 | (simp_all; done))) | refine g_icmp_eq (tgt := 19) (p1 := 10) dX10_pause_7 rfl rfl (fun c_7 => ?_) (fun c_7 => by exfalso; first | omega | contradiction | exact absurd (by assumption) c_7 | (simp_all; done))
  refine g_ldc (p0 := 21) dX10_pause_19 qX10_102 rfl ?_
  refine g_ireturn dX10_pause_21 rfl rfl (?_)
  exact ⟨rfl, rfl⟩
set_option maxRecDepth 20000 in
set_option maxHeartbeats 2000000 in
theorem pause_c0 {σ : Sg} (h : σ 1 5 = nI 0) (h2 : σ 1 2 = nI 0) : CM mX9_pause [ar 0] σ (Ret (-1000002) σ) := by
  refine CM_in (ls := [some (ar 0)]) rfl ?_
  refine g_aload_n (p0 := 1) (i := 0) dX9_pause_0 rfl rfl rfl ?_
  refine g_getR (p0 := 4) dX9_pause_1 fX9_10 (by first | rfl | assumption | exact RW.s (by assumption) | exact TW.s (by assumption)) rfl rfl ?_
  refine g_getI (p0 := 7) dX9_pause_4 fX9_92 (by first | rfl | assumption | exact RW.s (by assumption) | exact TW.s (by assumption)) rfl (by first | assumption | ((repeat (first | exact up_hit | refine up_nv (by decide) ?_ | refine up_mv (by first | decide | omega) ?_)) <;> first | assumption | rfl)) rfl ?_
  first | ((with_reducible refine isN1 ?_); refine g_ifN_ne (tgt := 20) (p1 := 10) dX9_pause_7 rfl (by omega) rfl (fun c_7 => by exfalso; first | omega | contradiction | exact absurd (by assumption) c_7 | (simp_all; done)) (fun c_7 => ?_)) | refine g_if_ne (tgt := 20) (p1 := 10) dX9_pause_7 rfl rfl (fun c_7 => by exfalso; first | omega | contradiction | exact absurd (by assumption) c_7 | (simp_all; done)) (fun c_7 => ?_)
  refine g_aload_n (p0 := 11) (i := 0) dX9_pause_10 rfl rfl rfl ?_
  refine g_getR (p0 := 14) dX9_pause_11 fX9_10 (by first | rfl | assumption | exact RW.s (by assumption) | exact TW.s (by assumption)) rfl rfl ?_
  refine g_getI (p0 := 17) dX9_pause_14 fX9_85 (by first | rfl | assumption | exact RW.s (by assumption) | exact TW.s (by assumption)) rfl (by first | assumption | ((repeat (first | exact up_hit | refine up_nv (by decide) ?_ | refine up_mv (by first | decide | omega) ?_)) <;> first | assumption | rfl)) rfl ?_
  first | ((with_reducible refine isN1 ?_); refine g_ifN_ne (tgt := 23) (p1 := 20) dX9_pause_17 rfl (by omega) rfl (fun c_17 => by exfalso; first | omega | contradiction | exact absurd (by assumption) c_17 | (simp_all; done)) (fun c_17 => ?_)) | refine g_if_ne (tgt := 23) (p1 := 20) dX9_pause_17 rfl rfl (fun c_17 => by exfalso; first | omega | contradiction | exact absurd (by assumption) c_17 | (simp_all; done)) (fun c_17 => ?_)
  refine g_ldc (p0 := 22) dX9_pause_20 qX9_96 rfl ?_
  refine g_ireturn dX9_pause_22 rfl rfl (?_)
  exact ⟨rfl, rfl⟩
set_option maxRecDepth 20000 in
set_option maxHeartbeats 2000000 in
theorem pause_r0 {σ : Sg} (h : σ 80 2 = nI 0) (h2 : σ 80 3 = nI 0) : CM mX10_pause [ar 79] σ (Ret (-1000002) σ) := by
  refine CM_in (ls := [some (ar 79)]) rfl ?_
  refine g_aload_n (p0 := 1) (i := 0) dX10_pause_0 rfl rfl rfl ?_
  refine g_getR (p0 := 4) dX10_pause_1 fX10_7 (by first | rfl | assumption | exact RW.s (by assumption) | exact TW.s (by assumption)) rfl rfl ?_
  refine g_iconst (p0 := 5) (v := nI 2) dX10_pause_4 rfl rfl ?_
  first | ((with_reducible refine isN1 ?_); refine g_aldN (p0 := 6) dX10_pause_5 (by first | rfl | assumption | exact RW.s (by assumption) | exact TW.s (by assumption)) (by first | decide | assumption) (by omega) (by first | assumption | ((repeat (first | exact up_hit | refine up_nv (by decide) ?_ | refine up_mv (by first | decide | omega) ?_)) <;> first | assumption | rfl)) rfl ?_) | refine g_ald (p0 := 6) dX10_pause_5 (by first | rfl | assumption | exact RW.s (by assumption) | exact TW.s (by assumption)) (by assumption) (by first | assumption | ((repeat (first | exact up_hit | refine up_nv (by decide) ?_ | refine up_mv (by first | decide | omega) ?_)) <;> first | assumption | rfl)) rfl ?_
  refine g_iconst (p0 := 7) (v := nI 1) dX10_pause_6 rfl rfl ?_
  first | ((with_reducible refine isN2 ?_); refine g_icmpN_eq (tgt := 19) (p1 := 10) dX10_pause_7 rfl (by omega) (by omega) rfl (fun c_7 => by exfalso; first | omega | contradiction | exact absurd (by assumption) c_7 | (simp_all; done)) (fun c_7 => ?_)) | refine g_icmp_eq (tgt := 19) (p1 := 10) dX10_pause_7 rfl rfl (fun c_7 => by exfalso; first | omega | contradiction | exact absurd (by assumption) c_7 | (simp_all; done)) (fun c_7 => ?_)
  refine g_aload_n (p0 := 11) (i := 0) dX10_pause_10 rfl rfl rfl ?_
  refine g_getR (p0 := 14) dX10_pause_11 fX10_7 (by first | rfl | assumption | exact RW.s (by assumption) | exact TW.s (by assumption)) rfl rfl ?_
  refine g_iconst (p0 := 15) (v := nI 3) dX10_pause_14 rfl rfl ?_
  first | ((with_reducible refine isN1 ?_); refine g_aldN (p0 := 16) dX10_pause_15 (by first | rfl | assumption | exact RW.s (by assumption) | exact TW.s (by assumption)) (by first | decide | assumption) (by omega) (by first | assumption | ((repeat (first | exact up_hit | refine up_nv (by decide) ?_ | refine up_mv (by first | decide | omega) ?_)) <;> first | assumption | rfl)) rfl ?_) | refine g_ald (p0 := 16) dX10_pause_15 (by first | rfl | assumption | exact RW.s (by assumption) | exact TW.s (by assumption)) (by assumption) (by first | assumption | ((repeat (first | exact up_hit | refine up_nv (by decide) ?_ | refine up_mv (by first | decide | omega) ?_)) <;> first | assumption | rfl)) rfl ?_
  first | ((with_reducible refine isN1 ?_); refine g_ifN_ne (tgt := 22) (p1 := 19) dX10_pause_16 rfl (by omega) rfl (fun c_16 => by exfalso; first | omega | contradiction | exact absurd (by assumption) c_16 | (simp_all; done)) (fun c_16 => ?_)) | refine g_if_ne (tgt := 22) (p1 := 19) dX10_pause_16 rfl rfl (fun c_16 => by exfalso; first | omega | contradiction | exact absurd (by assumption) c_16 | (simp_all; done)) (fun c_16 => ?_)
  refine g_ldc (p0 := 21) dX10_pause_19 qX10_102 rfl ?_
  refine g_ireturn dX10_pause_21 rfl rfl (?_)
  exact ⟨rfl, rfl⟩
set_option maxRecDepth 20000 in
set_option maxHeartbeats 2000000 in
theorem pause_c {s n : Nat} {H : Nat → (Nat → Int32) × Nat} {σ : Sg} (hR : RowOK (σ 80) s) (hRep : Rep σ 1 (σ 80) s) (hHC : HC σ n H) (hRD : RDC σ (σ 80) s) (hz : σ 80 2 = nI 0) (hs : 0 < s) : CM mX9_pause [ar 0] σ (CPost σ n H s (upd (σ 80) 2 (nI 1)) s (nI s)) := by
  have v1 : σ 1 5 = nI 0 := hRep.2.2.2.1.trans hz
  have v2 : σ 1 2 = nI s := hRep.1
  have hs1 := hR.2.1
  refine CM_in (ls := [some (ar 0)]) rfl ?_
  refine g_aload_n (p0 := 1) (i := 0) dX9_pause_0 rfl rfl rfl ?_
  refine g_getR (p0 := 4) dX9_pause_1 fX9_10 (by first | rfl | assumption | exact RW.s (by assumption) | exact TW.s (by assumption)) rfl rfl ?_
  refine g_getI (p0 := 7) dX9_pause_4 fX9_92 (by first | rfl | assumption | exact RW.s (by assumption) | exact TW.s (by assumption)) rfl (by first | assumption | ((repeat (first | exact up_hit | refine up_nv (by decide) ?_ | refine up_mv (by first | decide | omega) ?_)) <;> first | assumption | rfl)) rfl ?_
  first | ((with_reducible refine isN1 ?_); refine g_ifN_ne (tgt := 20) (p1 := 10) dX9_pause_7 rfl (by omega) rfl (fun c_7 => by exfalso; first | omega | contradiction | exact absurd (by assumption) c_7 | (simp_all; done)) (fun c_7 => ?_)) | refine g_if_ne (tgt := 20) (p1 := 10) dX9_pause_7 rfl rfl (fun c_7 => by exfalso; first | omega | contradiction | exact absurd (by assumption) c_7 | (simp_all; done)) (fun c_7 => ?_)
  refine g_aload_n (p0 := 11) (i := 0) dX9_pause_10 rfl rfl rfl ?_
  refine g_getR (p0 := 14) dX9_pause_11 fX9_10 (by first | rfl | assumption | exact RW.s (by assumption) | exact TW.s (by assumption)) rfl rfl ?_
  refine g_getI (p0 := 17) dX9_pause_14 fX9_85 (by first | rfl | assumption | exact RW.s (by assumption) | exact TW.s (by assumption)) rfl (by first | assumption | ((repeat (first | exact up_hit | refine up_nv (by decide) ?_ | refine up_mv (by first | decide | omega) ?_)) <;> first | assumption | rfl)) rfl ?_
  first | ((with_reducible refine isN1 ?_); refine g_ifN_ne (tgt := 23) (p1 := 20) dX9_pause_17 rfl (by omega) rfl (fun c_17 => ?_) (fun c_17 => by exfalso; first | omega | contradiction | exact absurd (by assumption) c_17 | (simp_all; done))) | refine g_if_ne (tgt := 23) (p1 := 20) dX9_pause_17 rfl rfl (fun c_17 => ?_) (fun c_17 => by exfalso; first | omega | contradiction | exact absurd (by assumption) c_17 | (simp_all; done))
  refine g_aload_n (p0 := 24) (i := 0) dX9_pause_23 rfl rfl rfl ?_
  refine g_getR (p0 := 27) dX9_pause_24 fX9_22 (by first | rfl | assumption | exact RW.s (by assumption) | exact TW.s (by assumption)) rfl rfl ?_
  refine g_aload_n (p0 := 28) (i := 0) dX9_pause_27 rfl rfl rfl ?_
  refine g_getR (p0 := 31) dX9_pause_28 fX9_10 (by first | rfl | assumption | exact RW.s (by assumption) | exact TW.s (by assumption)) rfl rfl ?_
  refine g_cV1P (p0 := 34) (r1 := mX2_record) dX9_pause_31 lX9_58 vX2_record (by first | rfl | assumption | exact RW.s (by assumption) | exact TW.s (by assumption)) ⟨_, _, rfl⟩ (FITi rfl rfl) (Nat.le_of_ble_eq_true rfl) (record_rel hHC hR hRep) rfl ?_
  rintro σ1 ⟨fr1, hHC1⟩
  have v3 : σ1 1 2 = nI s := by rw [fr1 1 (by decide) (by decide)]; exact v2
  have hRep1 : Rep σ1 1 (σ 80) s := hRep.of_eq (fr1 _ (by decide) (by decide)) (fr1 _ (by decide) (by decide)) (fr1 _ (by decide) (by decide))
  obtain ⟨b1, b2, b3, b4, b5, b6⟩ := hRep1
  refine g_aload_n (p0 := 35) (i := 0) dX9_pause_34 rfl rfl rfl ?_
  refine g_getR (p0 := 38) dX9_pause_35 fX9_10 (by first | rfl | assumption | exact RW.s (by assumption) | exact TW.s (by assumption)) rfl rfl ?_
  refine g_iconst (p0 := 39) (v := nI 1) dX9_pause_38 rfl rfl ?_
  refine g_put (p0 := 42) dX9_pause_39 fX9_92 (by first | rfl | assumption | exact RW.s (by assumption) | exact TW.s (by assumption)) rfl nX8_5 (pX8_5 (by first | decide | assumption)) rfl ?_
  refine g_aload_n (p0 := 43) (i := 0) dX9_pause_42 rfl rfl rfl ?_
  refine g_getR (p0 := 46) dX9_pause_43 fX9_10 (by first | rfl | assumption | exact RW.s (by assumption) | exact TW.s (by assumption)) rfl rfl ?_
  refine g_getI (p0 := 49) dX9_pause_46 fX9_85 (by first | rfl | assumption | exact RW.s (by assumption) | exact TW.s (by assumption)) rfl (by first | assumption | ((repeat (first | exact up_hit | refine up_nv (by decide) ?_ | refine up_mv (by first | decide | omega) ?_)) <;> first | assumption | rfl)) rfl ?_
  refine g_ireturn dX9_pause_49 rfl rfl (?_)
  refine ⟨rfl, ⟨?_, ?_, ?_, ?_, fun l hl => ?_, fun q hq => ?_⟩, hHC1.of (fun z h1 h2 => up_ne (by omega)), (hRD.of (fun z h1 h2 => ?_)).upd2, fun z hz => ?_⟩
  · rw [up_miss (by decide)]; exact b1
  · rw [up_miss (by decide), upd_ne (by decide)]; exact b2
  · rw [up_miss (by decide), upd_ne (by decide)]; exact b3
  · rw [up_hit, upd_hit]
  · rw [up_ne (by decide), upd_ne (by omega)]; exact b5 l hl
  · rw [up_ne (by decide), upd_ne (by omega)]; exact b6 q hq
  · rw [up_ne (by omega), fr1 z (by omega) (by omega)]
  · rw [up_ne (by omega), fr1 z (by omega) (by omega)]
set_option maxRecDepth 20000 in
set_option maxHeartbeats 2000000 in
theorem pause_r {s n : Nat} {H : Nat → (Nat → Int32) × Nat} {σ σ3 : Sg} (hR : RowOK (σ 80) s) (hHR : HRf σ n H) (hn : n ≤ 4) (e : ∀ z, 72 ≤ z → σ3 z = σ z) (hz : σ 80 2 = nI 0) (hs : 0 < s) : CM mX10_pause [ar 79] σ3 (RPost σ σ3 n H s (upd (σ 80) 2 (nI 1)) (nI s)) := by
  have hHR3 : HRf σ3 n H := hHR.of (by rw [e 79 (by decide)]) (e 81 (by decide))
  have hx : ∀ q, q < 189 → σ3 80 q = ((σ 80, s) : (Nat → Int32) × Nat).1 q := fun q _ => by rw [e 80 (by decide)]
  have v1 : σ3 80 2 = nI 0 := by rw [e 80 (by decide)]; exact hz
  have v2 : σ3 80 3 = nI s := by rw [e 80 (by decide)]; exact hR.1
  have hs1 := hR.2.1
  refine CM_in (ls := [some (ar 79)]) rfl ?_
  refine g_aload_n (p0 := 1) (i := 0) dX10_pause_0 rfl rfl rfl ?_
  refine g_getR (p0 := 4) dX10_pause_1 fX10_7 (by first | rfl | assumption | exact RW.s (by assumption) | exact TW.s (by assumption)) rfl rfl ?_
  refine g_iconst (p0 := 5) (v := nI 2) dX10_pause_4 rfl rfl ?_
  first | ((with_reducible refine isN1 ?_); refine g_aldN (p0 := 6) dX10_pause_5 (by first | rfl | assumption | exact RW.s (by assumption) | exact TW.s (by assumption)) (by first | decide | assumption) (by omega) (by first | assumption | ((repeat (first | exact up_hit | refine up_nv (by decide) ?_ | refine up_mv (by first | decide | omega) ?_)) <;> first | assumption | rfl)) rfl ?_) | refine g_ald (p0 := 6) dX10_pause_5 (by first | rfl | assumption | exact RW.s (by assumption) | exact TW.s (by assumption)) (by assumption) (by first | assumption | ((repeat (first | exact up_hit | refine up_nv (by decide) ?_ | refine up_mv (by first | decide | omega) ?_)) <;> first | assumption | rfl)) rfl ?_
  refine g_iconst (p0 := 7) (v := nI 1) dX10_pause_6 rfl rfl ?_
  first | ((with_reducible refine isN2 ?_); refine g_icmpN_eq (tgt := 19) (p1 := 10) dX10_pause_7 rfl (by omega) (by omega) rfl (fun c_7 => by exfalso; first | omega | contradiction | exact absurd (by assumption) c_7 | (simp_all; done)) (fun c_7 => ?_)) | refine g_icmp_eq (tgt := 19) (p1 := 10) dX10_pause_7 rfl rfl (fun c_7 => by exfalso; first | omega | contradiction | exact absurd (by assumption) c_7 | (simp_all; done)) (fun c_7 => ?_)
  refine g_aload_n (p0 := 11) (i := 0) dX10_pause_10 rfl rfl rfl ?_
  refine g_getR (p0 := 14) dX10_pause_11 fX10_7 (by first | rfl | assumption | exact RW.s (by assumption) | exact TW.s (by assumption)) rfl rfl ?_
  refine g_iconst (p0 := 15) (v := nI 3) dX10_pause_14 rfl rfl ?_
  first | ((with_reducible refine isN1 ?_); refine g_aldN (p0 := 16) dX10_pause_15 (by first | rfl | assumption | exact RW.s (by assumption) | exact TW.s (by assumption)) (by first | decide | assumption) (by omega) (by first | assumption | ((repeat (first | exact up_hit | refine up_nv (by decide) ?_ | refine up_mv (by first | decide | omega) ?_)) <;> first | assumption | rfl)) rfl ?_) | refine g_ald (p0 := 16) dX10_pause_15 (by first | rfl | assumption | exact RW.s (by assumption) | exact TW.s (by assumption)) (by assumption) (by first | assumption | ((repeat (first | exact up_hit | refine up_nv (by decide) ?_ | refine up_mv (by first | decide | omega) ?_)) <;> first | assumption | rfl)) rfl ?_
  first | ((with_reducible refine isN1 ?_); refine g_ifN_ne (tgt := 22) (p1 := 19) dX10_pause_16 rfl (by omega) rfl (fun c_16 => ?_) (fun c_16 => by exfalso; first | omega | contradiction | exact absurd (by assumption) c_16 | (simp_all; done))) | refine g_if_ne (tgt := 22) (p1 := 19) dX10_pause_16 rfl rfl (fun c_16 => ?_) (fun c_16 => by exfalso; first | omega | contradiction | exact absurd (by assumption) c_16 | (simp_all; done))
  refine g_aload_n (p0 := 23) (i := 0) dX10_pause_22 rfl rfl rfl ?_
  refine g_cV0P (p0 := 26) (r1 := mX10_changes) dX10_pause_23 lX10_77 vX10_changes (by first | rfl | assumption | exact RW.s (by assumption) | exact TW.s (by assumption)) ⟨_, _, rfl⟩ (FITi rfl rfl) (Nat.le_of_ble_eq_true rfl) (changes_rel (σ 80, s) hHR3 hn hx) rfl ?_
  rintro σ4 ⟨hH4, fr4, fr79⟩
  have v3 : σ4 80 3 = nI s := by rw [fr4 80 (by decide) (by decide)]; exact v2
  refine g_aload_n (p0 := 27) (i := 0) dX10_pause_26 rfl rfl rfl ?_
  refine g_getR (p0 := 30) dX10_pause_27 fX10_7 (by first | rfl | assumption | exact RW.s (by assumption) | exact TW.s (by assumption)) rfl rfl ?_
  refine g_iconst (p0 := 31) (v := nI 2) dX10_pause_30 rfl rfl ?_
  refine g_iconst (p0 := 32) (v := nI 1) dX10_pause_31 rfl rfl ?_
  first | ((with_reducible refine isNS ?_); refine g_astN (p0 := 33) dX10_pause_32 (by first | rfl | assumption | exact RW.s (by assumption) | exact TW.s (by assumption)) (by first | decide | assumption) (by omega) rfl ?_) | refine g_ast (p0 := 33) dX10_pause_32 (by first | rfl | assumption | exact RW.s (by assumption) | exact TW.s (by assumption)) (by assumption) rfl ?_
  refine g_aload_n (p0 := 34) (i := 0) dX10_pause_33 rfl rfl rfl ?_
  refine g_getR (p0 := 37) dX10_pause_34 fX10_7 (by first | rfl | assumption | exact RW.s (by assumption) | exact TW.s (by assumption)) rfl rfl ?_
  refine g_iconst (p0 := 38) (v := nI 3) dX10_pause_37 rfl rfl ?_
  first | ((with_reducible refine isN1 ?_); refine g_aldN (p0 := 39) dX10_pause_38 (by first | rfl | assumption | exact RW.s (by assumption) | exact TW.s (by assumption)) (by first | decide | assumption) (by omega) (by first | assumption | ((repeat (first | exact up_hit | refine up_nv (by decide) ?_ | refine up_mv (by first | decide | omega) ?_)) <;> first | assumption | rfl)) rfl ?_) | refine g_ald (p0 := 39) dX10_pause_38 (by first | rfl | assumption | exact RW.s (by assumption) | exact TW.s (by assumption)) (by assumption) (by first | assumption | ((repeat (first | exact up_hit | refine up_nv (by decide) ?_ | refine up_mv (by first | decide | omega) ?_)) <;> first | assumption | rfl)) rfl ?_
  refine g_ireturn dX10_pause_39 rfl rfl (?_)
  refine ⟨rfl, ?_, hH4.of (by rw [up_ne (by decide)]) (up_ne (by decide)), fun z hz => ?_, ?_, ?_⟩
  · rw [up_self, fr4 80 (by decide) (by decide), e 80 (by decide)]
  · rw [up_ne (by omega), fr4 z (by omega) (by omega)]
  · rw [up_ne (by decide), fr79 5 (by decide)]
  · rw [up_ne (by decide), fr4 83 (by decide) (by decide)]
theorem op_pause (u : Unit) : OpOK Inv mX9_pause mX10_pause [] := by
  intro σ hI
  obtain ⟨s, n, H, len, hR, hRep, hHC, hHR, hRD, hT⟩ := id hI
  rcases hR.2.2.1 with hz | hz
  · by_cases hs : s = 0
    · subst hs
      exact op_same hI (pause_c0 (hRep.2.2.2.1.trans hz) hRep.1) (pause_r0 hz hR.1)
    · exact op_change hT (RowOK_upd2 hR) (pause_c hR hRep hHC hRD hz (by omega)) (fun σ3 e => pause_r hR hHR (HC_le hHC) e hz (by omega))
  · exact op_same hI (pause_cP (hRep.2.2.2.1.trans hz)) (pause_rP hz)
