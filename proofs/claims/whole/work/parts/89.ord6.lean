/-! OPERATIONS: fault, play -/
def FRr (σ σ1 : Sg) : Prop := (∀ z, z ≠ 79 → z ≠ 82 → σ1 z = σ z) ∧ ∀ q, q ≠ 23 → q ≠ 24 → σ1 79 q = σ 79 q
theorem Inv_FRo {σ σ' : Sg} (hI : Inv σ) (h : FRo σ σ') : Inv σ' := by
  obtain ⟨s, n, H, len, hR, hRep, hHC, hHR, hRD, t1, t2, t3, t4⟩ := hI
  have e := h.1
  have e80 := e 80 (by decide) (by decide) (by decide) (by decide)
  refine ⟨s, n, H, len, by rw [e80]; exact hR, ?_, hHC.of (fun z h1 h2 => e z (by omega) (by omega) (by omega) (by omega)), hHR.of (by rw [e 79 (by decide) (by decide) (by decide) (by decide)]) (e _ (by decide) (by decide) (by decide) (by decide)), ?_, h.2.trans t1, by rw [e 79 (by decide) (by decide) (by decide) (by decide)]; exact t2, t3, fun i hi => ?_⟩
  · rw [e80]; exact hRep.of_eq (e _ (by decide) (by decide) (by decide) (by decide)) (e _ (by decide) (by decide) (by decide) (by decide)) (e _ (by decide) (by decide) (by decide) (by decide))
  · rw [e80]; exact hRD.of (fun z h1 h2 => e z (by omega) (by omega) (by omega) (by omega))
  · rw [e 78 (by decide) (by decide) (by decide) (by decide), e 83 (by decide) (by decide) (by decide) (by decide)]; exact t4 i hi
theorem Inv_FRr {σ σ' : Sg} (hI : Inv σ) (h : FRr σ σ') : Inv σ' := by
  obtain ⟨s, n, H, len, hR, hRep, hHC, hHR, hRD, t1, t2, t3, t4⟩ := hI
  have e := h.1
  have e80 := e 80 (by decide) (by decide)
  refine ⟨s, n, H, len, by rw [e80]; exact hR, ?_, hHC.of (fun z h1 h2 => e z (by omega) (by omega)), hHR.of (h.2 3 (by decide) (by decide)) (e _ (by decide) (by decide)), ?_, by rw [e 76 (by decide) (by decide)]; exact t1, (h.2 5 (by decide) (by decide)).trans t2, t3, fun i hi => ?_⟩
  · rw [e80]; exact hRep.of_eq (e _ (by decide) (by decide)) (e _ (by decide) (by decide)) (e _ (by decide) (by decide))
  · rw [e80]; exact hRD.of (fun z h1 h2 => e z (by omega) (by omega))
  · rw [e 78 (by decide) (by decide), e 83 (by decide) (by decide)]; exact t4 i hi
/-- the row as it is held -/
abbrev hol (σ : Sg) : Sg := setR σ 82 (cpy (σ 82) (σ 80) 189)
abbrev let0 (σ : Sg) : Sg := setR σ 80 (cpy (σ 80) (σ 82) 189)
theorem lets_back {σ σ2 : Sg} (h : FG (hol σ) σ2) : FRr σ (let0 σ2) := by
  have e82 : σ2 82 = cpy (σ 82) (σ 80) 189 := (h.1 82 (by decide) (by decide)).trans setR_hit
  have e80 : let0 σ2 80 = σ 80 := by
    rw [let0, setR_hit]
    funext k
    by_cases hk : k < 189
    · rw [cpy, if_pos hk, e82, cpy, if_pos hk]
    · rw [cpy, if_neg hk, h.2.2 k (by omega)]
      rw [hol, setR_ne (by decide)]
  refine ⟨fun z h79 h82 => ?_, fun q h23 h24 => ?_⟩
  · by_cases hz : z = 80
    · rw [hz]; exact e80
    · rw [let0, setR_ne hz, h.1 z h79 hz, hol, setR_ne h82]
  · rw [let0, setR_ne (by decide), h.2.1 q h23 h24, hol, setR_ne (by decide)]
theorem FRr.e80 {σ σ2 : Sg} (h : FRr σ σ2) : σ2 80 = σ 80 := h.1 80 (by decide) (by decide)
theorem FRr.tr {σ σ2 : Sg} {T : Nat → Nat} {len : Nat} (h : FRr σ σ2) (hC : TR σ T len) : TR σ2 T len := ⟨(h.2 5 (by decide) (by decide)).trans hC.1, fun i hi => by rw [h.1 83 (by decide) (by decide)]; exact hC.2 i hi⟩
theorem hol_tr {σ : Sg} {T : Nat → Nat} {len : Nat} (hC : TR σ T len) : TR (hol σ) T len := ⟨by rw [hol, setR_ne (by decide)]; exact hC.1, fun i hi => by rw [hol, setR_ne (by decide)]; exact hC.2 i hi⟩
theorem hol_80 {σ : Sg} : hol σ 80 = σ 80 := by rw [hol, setR_ne (by decide)]
def CQo (σ : Sg) (v : Int32) : SP := fun w σ1 => w = some (ai v) ∧ FRo σ σ1
def RQr (σ : Sg) (v : Int32) : SP := fun w σ1 => w = some (ai v) ∧ FRr σ σ1
theorem op_text {r1 r2 : MR} {As : List AV} {v : Int32} {σ : Sg} (hI : Inv σ) (h1 : CM r1 (ar 0 :: As) σ (CQo σ v)) (h2 : ∀ σ1, FRo σ σ1 → Inv σ1 → CM r2 (ar 79 :: As) σ1 (RQr σ1 v)) : CM r1 (ar 0 :: As) σ (OP r2 As) := by
  refine CM.mono h1 ?_
  rintro w σ1 ⟨rfl, hf⟩
  have hI1 := Inv_FRo hI hf
  refine ⟨v, rfl, CM.mono (h2 σ1 hf hI1) ?_⟩
  rintro w2 σ2 ⟨rfl, hf2⟩
  exact ⟨rfl, Inv_FRr hI1 hf2⟩
set_option maxRecDepth 20000 in
set_option maxHeartbeats 2000000 in
theorem fa_cx {x : Int32} {σ : Sg} (h0 : ¬ x = 0) (h1 : ¬ x = 1) : CM mX9_fault [ar 0, ai x] σ (Ret (-1000001) σ) := by
  refine CM_in (ls := [some (ar 0), some (ai x)]) rfl ?_
  refine g_iload_n (p0 := 1) (i := 1) dX9_fault_0 rfl rfl rfl ?_
  first | ((with_reducible refine isN1 ?_); refine g_ifN_eq (tgt := 12) (p1 := 4) dX9_fault_1 rfl (by omega) rfl (fun c_1 => by exfalso; first | omega | contradiction | exact absurd h c_1 | exact h c_1 | exact c_1 h | exact c_1 (by decide) | exact c_1 rfl | exact absurd rfl c_1 | exact h0 c_1 | exact h1 c_1 | exact nI_ne_m4 (by omega) c_1) (fun c_1 => ?_)) | refine g_if_eq (tgt := 12) (p1 := 4) dX9_fault_1 rfl rfl (fun c_1 => by exfalso; first | omega | contradiction | exact absurd h c_1 | exact h c_1 | exact c_1 h | exact c_1 (by decide) | exact c_1 rfl | exact absurd rfl c_1 | exact h0 c_1 | exact h1 c_1 | exact nI_ne_m4 (by omega) c_1) (fun c_1 => ?_)
  refine g_iload_n (p0 := 5) (i := 1) dX9_fault_4 rfl rfl rfl ?_
  refine g_iconst (p0 := 6) (v := nI 1) dX9_fault_5 rfl rfl ?_
  first | ((with_reducible refine isN2 ?_); refine g_icmpN_eq (tgt := 12) (p1 := 9) dX9_fault_6 rfl (by omega) (by omega) rfl (fun c_6 => by exfalso; first | omega | contradiction | exact absurd h c_6 | exact h c_6 | exact c_6 h | exact c_6 (by decide) | exact c_6 rfl | exact absurd rfl c_6 | exact h0 c_6 | exact h1 c_6 | exact nI_ne_m4 (by omega) c_6) (fun c_6 => ?_)) | refine g_icmp_eq (tgt := 12) (p1 := 9) dX9_fault_6 rfl rfl (fun c_6 => by exfalso; first | omega | contradiction | exact absurd h c_6 | exact h c_6 | exact c_6 h | exact c_6 (by decide) | exact c_6 rfl | exact absurd rfl c_6 | exact h0 c_6 | exact h1 c_6 | exact nI_ne_m4 (by omega) c_6) (fun c_6 => ?_)
  refine g_ldc (p0 := 11) dX9_fault_9 qX9_68 rfl ?_
  refine g_ireturn dX9_fault_11 rfl rfl (?_)
  exact ⟨rfl, rfl⟩
set_option maxRecDepth 20000 in
set_option maxHeartbeats 2000000 in
theorem fa_rx {x : Int32} {σ : Sg} (h : CM mX10_in [ai x, ai (nI 0), ai (nI 1)] σ (Ret (nI 0) σ)) : CM mX10_fault [ar 79, ai x] σ (Ret (-1000001) σ) := by
  refine CM_in (ls := [some (ar 79), some (ai x), none]) rfl ?_
  refine g_iload_n (p0 := 1) (i := 1) dX10_fault_0 rfl rfl rfl ?_
  refine g_iconst (p0 := 2) (v := nI 0) dX10_fault_1 rfl rfl ?_
  refine g_iconst (p0 := 3) (v := nI 1) dX10_fault_2 rfl rfl ?_
  refine g_cS3R (p0 := 6) (r1 := mX10_in) dX10_fault_3 (Or.inl lX10_65) vX10_in (FITi rfl rfl) (Nat.le_of_ble_eq_true rfl) (h) rfl ?_
  first | ((with_reducible refine isN1 ?_); refine g_ifN_ne (tgt := 12) (p1 := 9) dX10_fault_6 rfl (by omega) rfl (fun c_6 => by exfalso; first | omega | contradiction | exact absurd h c_6 | exact h c_6 | exact c_6 h | exact c_6 (by decide) | exact c_6 rfl | exact absurd rfl c_6 | exact h0 c_6 | exact h1 c_6 | exact nI_ne_m4 (by omega) c_6) (fun c_6 => ?_)) | refine g_if_ne (tgt := 12) (p1 := 9) dX10_fault_6 rfl rfl (fun c_6 => by exfalso; first | omega | contradiction | exact absurd h c_6 | exact h c_6 | exact c_6 h | exact c_6 (by decide) | exact c_6 rfl | exact absurd rfl c_6 | exact h0 c_6 | exact h1 c_6 | exact nI_ne_m4 (by omega) c_6) (fun c_6 => ?_)
  refine g_ldc (p0 := 11) dX10_fault_9 qX10_76 rfl ?_
  refine g_ireturn dX10_fault_11 rfl rfl (?_)
  exact ⟨rfl, rfl⟩
set_option maxRecDepth 20000 in
set_option maxHeartbeats 2000000 in
theorem fa_c00 {r st : Nat} {P : Sg → Prop} {σ : Sg} (hr : r ≤ 3) (h : CM mX5_rehearse [ar 76, ar 1, ar 6] σ (RelV (fun σ1 => FRo σ σ1 ∧ σ1 76 2 = nI st ∧ σ1 76 3 = nI r ∧ P σ1))) (hr0 : r = 0) : CM mX9_fault [ar 0, ai (nI 0)] σ (CQo σ (-1000004)) := by
  subst hr0
  refine CM_in (ls := [some (ar 0), some (ai (nI 0))]) rfl ?_
  refine g_iload_n (p0 := 1) (i := 1) dX9_fault_0 rfl rfl rfl ?_
  first | ((with_reducible refine isN1 ?_); refine g_ifN_eq (tgt := 12) (p1 := 4) dX9_fault_1 rfl (by omega) rfl (fun c_1 => ?_) (fun c_1 => by exfalso; first | omega | contradiction | exact absurd h c_1 | exact h c_1 | exact c_1 h | exact c_1 (by decide) | exact c_1 rfl | exact absurd rfl c_1 | exact h0 c_1 | exact h1 c_1 | exact nI_ne_m4 (by omega) c_1)) | refine g_if_eq (tgt := 12) (p1 := 4) dX9_fault_1 rfl rfl (fun c_1 => ?_) (fun c_1 => by exfalso; first | omega | contradiction | exact absurd h c_1 | exact h c_1 | exact c_1 h | exact c_1 (by decide) | exact c_1 rfl | exact absurd rfl c_1 | exact h0 c_1 | exact h1 c_1 | exact nI_ne_m4 (by omega) c_1)
  refine g_aload_n (p0 := 13) (i := 0) dX9_fault_12 rfl rfl rfl ?_
  refine g_getR (p0 := 16) dX9_fault_13 fX9_50 (by first | rfl | assumption | exact RW.s (by assumption) | exact TW.s (by assumption)) rfl rfl ?_
  refine g_aload_n (p0 := 17) (i := 0) dX9_fault_16 rfl rfl rfl ?_
  refine g_getR (p0 := 20) dX9_fault_17 fX9_10 (by first | rfl | assumption | exact RW.s (by assumption) | exact TW.s (by assumption)) rfl rfl ?_
  refine g_aload_n (p0 := 21) (i := 0) dX9_fault_20 rfl rfl rfl ?_
  refine g_getR (p0 := 24) dX9_fault_21 fX9_16 (by first | rfl | assumption | exact RW.s (by assumption) | exact TW.s (by assumption)) rfl rfl ?_
  refine g_cV2P (p0 := 27) (r1 := mX5_rehearse) dX9_fault_24 lX9_265 vX5_rehearse (by first | rfl | assumption | exact RW.s (by assumption) | exact TW.s (by assumption)) ⟨_, _, rfl⟩ (FITi rfl rfl) (Nat.le_of_ble_eq_true rfl) (h) rfl ?_
  rintro σ1 ⟨hf, h2, h3, hP⟩
  refine g_aload_n (p0 := 28) (i := 0) dX9_fault_27 rfl rfl rfl ?_
  refine g_getR (p0 := 31) dX9_fault_28 fX9_50 (by first | rfl | assumption | exact RW.s (by assumption) | exact TW.s (by assumption)) rfl rfl ?_
  refine g_getI (p0 := 34) dX9_fault_31 fX9_269 (by first | rfl | assumption | exact RW.s (by assumption) | exact TW.s (by assumption)) rfl (by first | assumption | ((repeat (first | exact up_hit | refine up_nv (by decide) ?_ | refine up_mv (by first | decide | omega) ?_)) <;> first | assumption | rfl)) rfl ?_
  first | ((with_reducible refine isN1 ?_); refine g_ifN_ne (tgt := 40) (p1 := 37) dX9_fault_34 rfl (by omega) rfl (fun c_34 => by exfalso; first | omega | contradiction | exact absurd h c_34 | exact h c_34 | exact c_34 h | exact c_34 (by decide) | exact c_34 rfl | exact absurd rfl c_34 | exact h0 c_34 | exact h1 c_34 | exact nI_ne_m4 (by omega) c_34) (fun c_34 => ?_)) | refine g_if_ne (tgt := 40) (p1 := 37) dX9_fault_34 rfl rfl (fun c_34 => by exfalso; first | omega | contradiction | exact absurd h c_34 | exact h c_34 | exact c_34 h | exact c_34 (by decide) | exact c_34 rfl | exact absurd rfl c_34 | exact h0 c_34 | exact h1 c_34 | exact nI_ne_m4 (by omega) c_34) (fun c_34 => ?_)
  refine g_ldc (p0 := 39) dX9_fault_37 qX9_122 rfl ?_
  refine g_ireturn dX9_fault_39 rfl rfl (?_)
  exact ⟨rfl, hf⟩
set_option maxRecDepth 20000 in
set_option maxHeartbeats 2000000 in
theorem fa_c01 {r st : Nat} {P : Sg → Prop} {σ : Sg} (hr : r ≤ 3) (h : CM mX5_rehearse [ar 76, ar 1, ar 6] σ (RelV (fun σ1 => FRo σ σ1 ∧ σ1 76 2 = nI st ∧ σ1 76 3 = nI r ∧ P σ1))) (hr0 : ¬ r = 0) : CM mX9_fault [ar 0, ai (nI 0)] σ (CQo σ (nI st)) := by
  refine CM_in (ls := [some (ar 0), some (ai (nI 0))]) rfl ?_
  refine g_iload_n (p0 := 1) (i := 1) dX9_fault_0 rfl rfl rfl ?_
  first | ((with_reducible refine isN1 ?_); refine g_ifN_eq (tgt := 12) (p1 := 4) dX9_fault_1 rfl (by omega) rfl (fun c_1 => ?_) (fun c_1 => by exfalso; first | omega | contradiction | exact absurd h c_1 | exact h c_1 | exact c_1 h | exact c_1 (by decide) | exact c_1 rfl | exact absurd rfl c_1 | exact h0 c_1 | exact h1 c_1 | exact nI_ne_m4 (by omega) c_1)) | refine g_if_eq (tgt := 12) (p1 := 4) dX9_fault_1 rfl rfl (fun c_1 => ?_) (fun c_1 => by exfalso; first | omega | contradiction | exact absurd h c_1 | exact h c_1 | exact c_1 h | exact c_1 (by decide) | exact c_1 rfl | exact absurd rfl c_1 | exact h0 c_1 | exact h1 c_1 | exact nI_ne_m4 (by omega) c_1)
  refine g_aload_n (p0 := 13) (i := 0) dX9_fault_12 rfl rfl rfl ?_
  refine g_getR (p0 := 16) dX9_fault_13 fX9_50 (by first | rfl | assumption | exact RW.s (by assumption) | exact TW.s (by assumption)) rfl rfl ?_
  refine g_aload_n (p0 := 17) (i := 0) dX9_fault_16 rfl rfl rfl ?_
  refine g_getR (p0 := 20) dX9_fault_17 fX9_10 (by first | rfl | assumption | exact RW.s (by assumption) | exact TW.s (by assumption)) rfl rfl ?_
  refine g_aload_n (p0 := 21) (i := 0) dX9_fault_20 rfl rfl rfl ?_
  refine g_getR (p0 := 24) dX9_fault_21 fX9_16 (by first | rfl | assumption | exact RW.s (by assumption) | exact TW.s (by assumption)) rfl rfl ?_
  refine g_cV2P (p0 := 27) (r1 := mX5_rehearse) dX9_fault_24 lX9_265 vX5_rehearse (by first | rfl | assumption | exact RW.s (by assumption) | exact TW.s (by assumption)) ⟨_, _, rfl⟩ (FITi rfl rfl) (Nat.le_of_ble_eq_true rfl) (h) rfl ?_
  rintro σ1 ⟨hf, h2, h3, hP⟩
  refine g_aload_n (p0 := 28) (i := 0) dX9_fault_27 rfl rfl rfl ?_
  refine g_getR (p0 := 31) dX9_fault_28 fX9_50 (by first | rfl | assumption | exact RW.s (by assumption) | exact TW.s (by assumption)) rfl rfl ?_
  refine g_getI (p0 := 34) dX9_fault_31 fX9_269 (by first | rfl | assumption | exact RW.s (by assumption) | exact TW.s (by assumption)) rfl (by first | assumption | ((repeat (first | exact up_hit | refine up_nv (by decide) ?_ | refine up_mv (by first | decide | omega) ?_)) <;> first | assumption | rfl)) rfl ?_
  first | ((with_reducible refine isN1 ?_); refine g_ifN_ne (tgt := 40) (p1 := 37) dX9_fault_34 rfl (by omega) rfl (fun c_34 => ?_) (fun c_34 => by exfalso; first | omega | contradiction | exact absurd h c_34 | exact h c_34 | exact c_34 h | exact c_34 (by decide) | exact c_34 rfl | exact absurd rfl c_34 | exact h0 c_34 | exact h1 c_34 | exact nI_ne_m4 (by omega) c_34)) | refine g_if_ne (tgt := 40) (p1 := 37) dX9_fault_34 rfl rfl (fun c_34 => ?_) (fun c_34 => by exfalso; first | omega | contradiction | exact absurd h c_34 | exact h c_34 | exact c_34 h | exact c_34 (by decide) | exact c_34 rfl | exact absurd rfl c_34 | exact h0 c_34 | exact h1 c_34 | exact nI_ne_m4 (by omega) c_34)
  refine g_iload_n (p0 := 41) (i := 1) dX9_fault_40 rfl rfl rfl ?_
  first | ((with_reducible refine isN1 ?_); refine g_ifN_ne (tgt := 54) (p1 := 44) dX9_fault_41 rfl (by omega) rfl (fun c_41 => by exfalso; first | omega | contradiction | exact absurd h c_41 | exact h c_41 | exact c_41 h | exact c_41 (by decide) | exact c_41 rfl | exact absurd rfl c_41 | exact h0 c_41 | exact h1 c_41 | exact nI_ne_m4 (by omega) c_41) (fun c_41 => ?_)) | refine g_if_ne (tgt := 54) (p1 := 44) dX9_fault_41 rfl rfl (fun c_41 => by exfalso; first | omega | contradiction | exact absurd h c_41 | exact h c_41 | exact c_41 h | exact c_41 (by decide) | exact c_41 rfl | exact absurd rfl c_41 | exact h0 c_41 | exact h1 c_41 | exact nI_ne_m4 (by omega) c_41) (fun c_41 => ?_)
  refine g_aload_n (p0 := 45) (i := 0) dX9_fault_44 rfl rfl rfl ?_
  refine g_getR (p0 := 48) dX9_fault_45 fX9_50 (by first | rfl | assumption | exact RW.s (by assumption) | exact TW.s (by assumption)) rfl rfl ?_
  refine g_getI (p0 := 51) dX9_fault_48 fX9_272 (by first | rfl | assumption | exact RW.s (by assumption) | exact TW.s (by assumption)) rfl (by first | assumption | ((repeat (first | exact up_hit | refine up_nv (by decide) ?_ | refine up_mv (by first | decide | omega) ?_)) <;> first | assumption | rfl)) rfl ?_
  refine g_goto (tgt := 61) dX9_fault_51 rfl ?_
  refine g_ireturn dX9_fault_61 rfl rfl (?_)
  exact ⟨rfl, hf⟩
set_option maxRecDepth 20000 in
set_option maxHeartbeats 2000000 in
theorem fa_c10 {r st : Nat} {P : Sg → Prop} {σ : Sg} (hr : r ≤ 3) (h : CM mX5_rehearse [ar 76, ar 1, ar 6] σ (RelV (fun σ1 => FRo σ σ1 ∧ σ1 76 2 = nI st ∧ σ1 76 3 = nI r ∧ P σ1))) (hr0 : r = 0) : CM mX9_fault [ar 0, ai (nI 1)] σ (CQo σ (-1000004)) := by
  subst hr0
  refine CM_in (ls := [some (ar 0), some (ai (nI 1))]) rfl ?_
  refine g_iload_n (p0 := 1) (i := 1) dX9_fault_0 rfl rfl rfl ?_
  first | ((with_reducible refine isN1 ?_); refine g_ifN_eq (tgt := 12) (p1 := 4) dX9_fault_1 rfl (by omega) rfl (fun c_1 => by exfalso; first | omega | contradiction | exact absurd h c_1 | exact h c_1 | exact c_1 h | exact c_1 (by decide) | exact c_1 rfl | exact absurd rfl c_1 | exact h0 c_1 | exact h1 c_1 | exact nI_ne_m4 (by omega) c_1) (fun c_1 => ?_)) | refine g_if_eq (tgt := 12) (p1 := 4) dX9_fault_1 rfl rfl (fun c_1 => by exfalso; first | omega | contradiction | exact absurd h c_1 | exact h c_1 | exact c_1 h | exact c_1 (by decide) | exact c_1 rfl | exact absurd rfl c_1 | exact h0 c_1 | exact h1 c_1 | exact nI_ne_m4 (by omega) c_1) (fun c_1 => ?_)
  refine g_iload_n (p0 := 5) (i := 1) dX9_fault_4 rfl rfl rfl ?_
  refine g_iconst (p0 := 6) (v := nI 1) dX9_fault_5 rfl rfl ?_
  first | ((with_reducible refine isN2 ?_); refine g_icmpN_eq (tgt := 12) (p1 := 9) dX9_fault_6 rfl (by omega) (by omega) rfl (fun c_6 => ?_) (fun c_6 => by exfalso; first | omega | contradiction | exact absurd h c_6 | exact h c_6 | exact c_6 h | exact c_6 (by decide) | exact c_6 rfl | exact absurd rfl c_6 | exact h0 c_6 | exact h1 c_6 | exact nI_ne_m4 (by omega) c_6)) | refine g_icmp_eq (tgt := 12) (p1 := 9) dX9_fault_6 rfl rfl (fun c_6 => ?_) (fun c_6 => by exfalso; first | omega | contradiction | exact absurd h c_6 | exact h c_6 | exact c_6 h | exact c_6 (by decide) | exact c_6 rfl | exact absurd rfl c_6 | exact h0 c_6 | exact h1 c_6 | exact nI_ne_m4 (by omega) c_6)
  refine g_aload_n (p0 := 13) (i := 0) dX9_fault_12 rfl rfl rfl ?_
  refine g_getR (p0 := 16) dX9_fault_13 fX9_50 (by first | rfl | assumption | exact RW.s (by assumption) | exact TW.s (by assumption)) rfl rfl ?_
  refine g_aload_n (p0 := 17) (i := 0) dX9_fault_16 rfl rfl rfl ?_
  refine g_getR (p0 := 20) dX9_fault_17 fX9_10 (by first | rfl | assumption | exact RW.s (by assumption) | exact TW.s (by assumption)) rfl rfl ?_
  refine g_aload_n (p0 := 21) (i := 0) dX9_fault_20 rfl rfl rfl ?_
  refine g_getR (p0 := 24) dX9_fault_21 fX9_16 (by first | rfl | assumption | exact RW.s (by assumption) | exact TW.s (by assumption)) rfl rfl ?_
  refine g_cV2P (p0 := 27) (r1 := mX5_rehearse) dX9_fault_24 lX9_265 vX5_rehearse (by first | rfl | assumption | exact RW.s (by assumption) | exact TW.s (by assumption)) ⟨_, _, rfl⟩ (FITi rfl rfl) (Nat.le_of_ble_eq_true rfl) (h) rfl ?_
  rintro σ1 ⟨hf, h2, h3, hP⟩
  refine g_aload_n (p0 := 28) (i := 0) dX9_fault_27 rfl rfl rfl ?_
  refine g_getR (p0 := 31) dX9_fault_28 fX9_50 (by first | rfl | assumption | exact RW.s (by assumption) | exact TW.s (by assumption)) rfl rfl ?_
  refine g_getI (p0 := 34) dX9_fault_31 fX9_269 (by first | rfl | assumption | exact RW.s (by assumption) | exact TW.s (by assumption)) rfl (by first | assumption | ((repeat (first | exact up_hit | refine up_nv (by decide) ?_ | refine up_mv (by first | decide | omega) ?_)) <;> first | assumption | rfl)) rfl ?_
  first | ((with_reducible refine isN1 ?_); refine g_ifN_ne (tgt := 40) (p1 := 37) dX9_fault_34 rfl (by omega) rfl (fun c_34 => by exfalso; first | omega | contradiction | exact absurd h c_34 | exact h c_34 | exact c_34 h | exact c_34 (by decide) | exact c_34 rfl | exact absurd rfl c_34 | exact h0 c_34 | exact h1 c_34 | exact nI_ne_m4 (by omega) c_34) (fun c_34 => ?_)) | refine g_if_ne (tgt := 40) (p1 := 37) dX9_fault_34 rfl rfl (fun c_34 => by exfalso; first | omega | contradiction | exact absurd h c_34 | exact h c_34 | exact c_34 h | exact c_34 (by decide) | exact c_34 rfl | exact absurd rfl c_34 | exact h0 c_34 | exact h1 c_34 | exact nI_ne_m4 (by omega) c_34) (fun c_34 => ?_)
  refine g_ldc (p0 := 39) dX9_fault_37 qX9_122 rfl ?_
  refine g_ireturn dX9_fault_39 rfl rfl (?_)
  exact ⟨rfl, hf⟩
set_option maxRecDepth 20000 in
set_option maxHeartbeats 2000000 in
theorem fa_c11 {r st : Nat} {P : Sg → Prop} {σ : Sg} (hr : r ≤ 3) (h : CM mX5_rehearse [ar 76, ar 1, ar 6] σ (RelV (fun σ1 => FRo σ σ1 ∧ σ1 76 2 = nI st ∧ σ1 76 3 = nI r ∧ P σ1))) (hr0 : ¬ r = 0) : CM mX9_fault [ar 0, ai (nI 1)] σ (CQo σ (nI r)) := by
  refine CM_in (ls := [some (ar 0), some (ai (nI 1))]) rfl ?_
  refine g_iload_n (p0 := 1) (i := 1) dX9_fault_0 rfl rfl rfl ?_
  first | ((with_reducible refine isN1 ?_); refine g_ifN_eq (tgt := 12) (p1 := 4) dX9_fault_1 rfl (by omega) rfl (fun c_1 => by exfalso; first | omega | contradiction | exact absurd h c_1 | exact h c_1 | exact c_1 h | exact c_1 (by decide) | exact c_1 rfl | exact absurd rfl c_1 | exact h0 c_1 | exact h1 c_1 | exact nI_ne_m4 (by omega) c_1) (fun c_1 => ?_)) | refine g_if_eq (tgt := 12) (p1 := 4) dX9_fault_1 rfl rfl (fun c_1 => by exfalso; first | omega | contradiction | exact absurd h c_1 | exact h c_1 | exact c_1 h | exact c_1 (by decide) | exact c_1 rfl | exact absurd rfl c_1 | exact h0 c_1 | exact h1 c_1 | exact nI_ne_m4 (by omega) c_1) (fun c_1 => ?_)
  refine g_iload_n (p0 := 5) (i := 1) dX9_fault_4 rfl rfl rfl ?_
  refine g_iconst (p0 := 6) (v := nI 1) dX9_fault_5 rfl rfl ?_
  first | ((with_reducible refine isN2 ?_); refine g_icmpN_eq (tgt := 12) (p1 := 9) dX9_fault_6 rfl (by omega) (by omega) rfl (fun c_6 => ?_) (fun c_6 => by exfalso; first | omega | contradiction | exact absurd h c_6 | exact h c_6 | exact c_6 h | exact c_6 (by decide) | exact c_6 rfl | exact absurd rfl c_6 | exact h0 c_6 | exact h1 c_6 | exact nI_ne_m4 (by omega) c_6)) | refine g_icmp_eq (tgt := 12) (p1 := 9) dX9_fault_6 rfl rfl (fun c_6 => ?_) (fun c_6 => by exfalso; first | omega | contradiction | exact absurd h c_6 | exact h c_6 | exact c_6 h | exact c_6 (by decide) | exact c_6 rfl | exact absurd rfl c_6 | exact h0 c_6 | exact h1 c_6 | exact nI_ne_m4 (by omega) c_6)
  refine g_aload_n (p0 := 13) (i := 0) dX9_fault_12 rfl rfl rfl ?_
  refine g_getR (p0 := 16) dX9_fault_13 fX9_50 (by first | rfl | assumption | exact RW.s (by assumption) | exact TW.s (by assumption)) rfl rfl ?_
  refine g_aload_n (p0 := 17) (i := 0) dX9_fault_16 rfl rfl rfl ?_
  refine g_getR (p0 := 20) dX9_fault_17 fX9_10 (by first | rfl | assumption | exact RW.s (by assumption) | exact TW.s (by assumption)) rfl rfl ?_
  refine g_aload_n (p0 := 21) (i := 0) dX9_fault_20 rfl rfl rfl ?_
  refine g_getR (p0 := 24) dX9_fault_21 fX9_16 (by first | rfl | assumption | exact RW.s (by assumption) | exact TW.s (by assumption)) rfl rfl ?_
  refine g_cV2P (p0 := 27) (r1 := mX5_rehearse) dX9_fault_24 lX9_265 vX5_rehearse (by first | rfl | assumption | exact RW.s (by assumption) | exact TW.s (by assumption)) ⟨_, _, rfl⟩ (FITi rfl rfl) (Nat.le_of_ble_eq_true rfl) (h) rfl ?_
  rintro σ1 ⟨hf, h2, h3, hP⟩
  refine g_aload_n (p0 := 28) (i := 0) dX9_fault_27 rfl rfl rfl ?_
  refine g_getR (p0 := 31) dX9_fault_28 fX9_50 (by first | rfl | assumption | exact RW.s (by assumption) | exact TW.s (by assumption)) rfl rfl ?_
  refine g_getI (p0 := 34) dX9_fault_31 fX9_269 (by first | rfl | assumption | exact RW.s (by assumption) | exact TW.s (by assumption)) rfl (by first | assumption | ((repeat (first | exact up_hit | refine up_nv (by decide) ?_ | refine up_mv (by first | decide | omega) ?_)) <;> first | assumption | rfl)) rfl ?_
  first | ((with_reducible refine isN1 ?_); refine g_ifN_ne (tgt := 40) (p1 := 37) dX9_fault_34 rfl (by omega) rfl (fun c_34 => ?_) (fun c_34 => by exfalso; first | omega | contradiction | exact absurd h c_34 | exact h c_34 | exact c_34 h | exact c_34 (by decide) | exact c_34 rfl | exact absurd rfl c_34 | exact h0 c_34 | exact h1 c_34 | exact nI_ne_m4 (by omega) c_34)) | refine g_if_ne (tgt := 40) (p1 := 37) dX9_fault_34 rfl rfl (fun c_34 => ?_) (fun c_34 => by exfalso; first | omega | contradiction | exact absurd h c_34 | exact h c_34 | exact c_34 h | exact c_34 (by decide) | exact c_34 rfl | exact absurd rfl c_34 | exact h0 c_34 | exact h1 c_34 | exact nI_ne_m4 (by omega) c_34)
  refine g_iload_n (p0 := 41) (i := 1) dX9_fault_40 rfl rfl rfl ?_
  first | ((with_reducible refine isN1 ?_); refine g_ifN_ne (tgt := 54) (p1 := 44) dX9_fault_41 rfl (by omega) rfl (fun c_41 => ?_) (fun c_41 => by exfalso; first | omega | contradiction | exact absurd h c_41 | exact h c_41 | exact c_41 h | exact c_41 (by decide) | exact c_41 rfl | exact absurd rfl c_41 | exact h0 c_41 | exact h1 c_41 | exact nI_ne_m4 (by omega) c_41)) | refine g_if_ne (tgt := 54) (p1 := 44) dX9_fault_41 rfl rfl (fun c_41 => ?_) (fun c_41 => by exfalso; first | omega | contradiction | exact absurd h c_41 | exact h c_41 | exact c_41 h | exact c_41 (by decide) | exact c_41 rfl | exact absurd rfl c_41 | exact h0 c_41 | exact h1 c_41 | exact nI_ne_m4 (by omega) c_41)
  refine g_aload_n (p0 := 55) (i := 0) dX9_fault_54 rfl rfl rfl ?_
  refine g_getR (p0 := 58) dX9_fault_55 fX9_50 (by first | rfl | assumption | exact RW.s (by assumption) | exact TW.s (by assumption)) rfl rfl ?_
  refine g_getI (p0 := 61) dX9_fault_58 fX9_269 (by first | rfl | assumption | exact RW.s (by assumption) | exact TW.s (by assumption)) rfl (by first | assumption | ((repeat (first | exact up_hit | refine up_nv (by decide) ?_ | refine up_mv (by first | decide | omega) ?_)) <;> first | assumption | rfl)) rfl ?_
  refine g_ireturn dX9_fault_61 rfl rfl (?_)
  exact ⟨rfl, hf⟩
set_option maxRecDepth 20000 in
set_option maxHeartbeats 2000000 in
theorem fa_r00 {r st : Nat} {P : Sg → Prop} {σ : Sg} (hr : r ≤ 3) (hst : st ≤ 60) (h : CM mX10_goes [ar 79] (hol σ) (RelI (fun u σ1 => u = (if r = 0 then -1000004 else nI st) ∧ FG (hol σ) σ1 ∧ σ1 79 24 = nI r ∧ P σ1))) (hr0 : r = 0) : CM mX10_fault [ar 79, ai (nI 0)] σ (RQr σ (-1000004)) := by
  subst hr0
  refine CM_in (ls := [some (ar 79), some (ai (nI 0)), none]) rfl ?_
  refine g_iload_n (p0 := 1) (i := 1) dX10_fault_0 rfl rfl rfl ?_
  refine g_iconst (p0 := 2) (v := nI 0) dX10_fault_1 rfl rfl ?_
  refine g_iconst (p0 := 3) (v := nI 1) dX10_fault_2 rfl rfl ?_
  refine g_cS3R (p0 := 6) (r1 := mX10_in) dX10_fault_3 (Or.inl lX10_65) vX10_in (FITi rfl rfl) (Nat.le_of_ble_eq_true rfl) (in_T (by decide) (by decide)) rfl ?_
  first | ((with_reducible refine isN1 ?_); refine g_ifN_ne (tgt := 12) (p1 := 9) dX10_fault_6 rfl (by omega) rfl (fun c_6 => ?_) (fun c_6 => by exfalso; first | omega | contradiction | exact absurd h c_6 | exact h c_6 | exact c_6 h | exact c_6 (by decide) | exact c_6 rfl | exact absurd rfl c_6 | exact h0 c_6 | exact h1 c_6 | exact nI_ne_m4 (by omega) c_6)) | refine g_if_ne (tgt := 12) (p1 := 9) dX10_fault_6 rfl rfl (fun c_6 => ?_) (fun c_6 => by exfalso; first | omega | contradiction | exact absurd h c_6 | exact h c_6 | exact c_6 h | exact c_6 (by decide) | exact c_6 rfl | exact absurd rfl c_6 | exact h0 c_6 | exact h1 c_6 | exact nI_ne_m4 (by omega) c_6)
  refine g_aload_n (p0 := 13) (i := 0) dX10_fault_12 rfl rfl rfl ?_
  refine g_cV0V (p0 := 16) (r1 := mX10_holds) dX10_fault_13 lX10_208 vX10_holds (by first | rfl | assumption | exact RW.s (by assumption) | exact TW.s (by assumption)) ⟨_, _, rfl⟩ (FITi rfl rfl) (Nat.le_of_ble_eq_true rfl) (holds_sp) rfl ?_
  refine g_aload_n (p0 := 17) (i := 0) dX10_fault_16 rfl rfl rfl ?_
  refine g_cV0I (p0 := 20) (r1 := mX10_goes) dX10_fault_17 lX10_211 vX10_goes (by first | rfl | assumption | exact RW.s (by assumption) | exact TW.s (by assumption)) ⟨_, _, rfl⟩ (FITi rfl rfl) (Nat.le_of_ble_eq_true rfl) (h) rfl ?_
  rintro u σ1 ⟨hu, hf, h24, hP⟩
  rw [if_pos rfl] at hu
  subst hu
  have hb := lets_back hf
  have h24b : let0 σ1 79 24 = nI 0 := by rw [let0, setR_ne (by decide)]; exact h24
  refine g_istore_n (p0 := 21) (i := 2) (ls2 := [_, _, _]) dX10_fault_20 rfl (Nat.le_of_ble_eq_true rfl) rfl rfl ?_
  refine g_aload_n (p0 := 22) (i := 0) dX10_fault_21 rfl rfl rfl ?_
  refine g_cV0V (p0 := 25) (r1 := mX10_lets) dX10_fault_22 lX10_214 vX10_lets (by first | rfl | assumption | exact RW.s (by assumption) | exact TW.s (by assumption)) ⟨_, _, rfl⟩ (FITi rfl rfl) (Nat.le_of_ble_eq_true rfl) (lets_sp) rfl ?_
  refine g_iload_n (p0 := 26) (i := 2) dX10_fault_25 rfl rfl rfl ?_
  refine g_ldc (p0 := 28) dX10_fault_26 qX10_154 rfl ?_
  first | ((with_reducible refine isN2 ?_); refine g_icmpN_eq (tgt := 35) (p1 := 31) dX10_fault_28 rfl (by omega) (by omega) rfl (fun c_28 => ?_) (fun c_28 => by exfalso; first | omega | contradiction | exact absurd h c_28 | exact h c_28 | exact c_28 h | exact c_28 (by decide) | exact c_28 rfl | exact absurd rfl c_28 | exact h0 c_28 | exact h1 c_28 | exact nI_ne_m4 (by omega) c_28)) | refine g_icmp_eq (tgt := 35) (p1 := 31) dX10_fault_28 rfl rfl (fun c_28 => ?_) (fun c_28 => by exfalso; first | omega | contradiction | exact absurd h c_28 | exact h c_28 | exact c_28 h | exact c_28 (by decide) | exact c_28 rfl | exact absurd rfl c_28 | exact h0 c_28 | exact h1 c_28 | exact nI_ne_m4 (by omega) c_28)
  refine g_iload_n (p0 := 36) (i := 2) dX10_fault_35 rfl rfl rfl ?_
  refine g_goto (tgt := 43) dX10_fault_36 rfl ?_
  refine g_ireturn dX10_fault_43 rfl rfl (?_)
  exact ⟨rfl, hb⟩
set_option maxRecDepth 20000 in
set_option maxHeartbeats 2000000 in
theorem fa_r01 {r st : Nat} {P : Sg → Prop} {σ : Sg} (hr : r ≤ 3) (hst : st ≤ 60) (h : CM mX10_goes [ar 79] (hol σ) (RelI (fun u σ1 => u = (if r = 0 then -1000004 else nI st) ∧ FG (hol σ) σ1 ∧ σ1 79 24 = nI r ∧ P σ1))) (hr0 : ¬ r = 0) : CM mX10_fault [ar 79, ai (nI 0)] σ (RQr σ (nI st)) := by
  refine CM_in (ls := [some (ar 79), some (ai (nI 0)), none]) rfl ?_
  refine g_iload_n (p0 := 1) (i := 1) dX10_fault_0 rfl rfl rfl ?_
  refine g_iconst (p0 := 2) (v := nI 0) dX10_fault_1 rfl rfl ?_
  refine g_iconst (p0 := 3) (v := nI 1) dX10_fault_2 rfl rfl ?_
  refine g_cS3R (p0 := 6) (r1 := mX10_in) dX10_fault_3 (Or.inl lX10_65) vX10_in (FITi rfl rfl) (Nat.le_of_ble_eq_true rfl) (in_T (by decide) (by decide)) rfl ?_
  first | ((with_reducible refine isN1 ?_); refine g_ifN_ne (tgt := 12) (p1 := 9) dX10_fault_6 rfl (by omega) rfl (fun c_6 => ?_) (fun c_6 => by exfalso; first | omega | contradiction | exact absurd h c_6 | exact h c_6 | exact c_6 h | exact c_6 (by decide) | exact c_6 rfl | exact absurd rfl c_6 | exact h0 c_6 | exact h1 c_6 | exact nI_ne_m4 (by omega) c_6)) | refine g_if_ne (tgt := 12) (p1 := 9) dX10_fault_6 rfl rfl (fun c_6 => ?_) (fun c_6 => by exfalso; first | omega | contradiction | exact absurd h c_6 | exact h c_6 | exact c_6 h | exact c_6 (by decide) | exact c_6 rfl | exact absurd rfl c_6 | exact h0 c_6 | exact h1 c_6 | exact nI_ne_m4 (by omega) c_6)
  refine g_aload_n (p0 := 13) (i := 0) dX10_fault_12 rfl rfl rfl ?_
  refine g_cV0V (p0 := 16) (r1 := mX10_holds) dX10_fault_13 lX10_208 vX10_holds (by first | rfl | assumption | exact RW.s (by assumption) | exact TW.s (by assumption)) ⟨_, _, rfl⟩ (FITi rfl rfl) (Nat.le_of_ble_eq_true rfl) (holds_sp) rfl ?_
  refine g_aload_n (p0 := 17) (i := 0) dX10_fault_16 rfl rfl rfl ?_
  refine g_cV0I (p0 := 20) (r1 := mX10_goes) dX10_fault_17 lX10_211 vX10_goes (by first | rfl | assumption | exact RW.s (by assumption) | exact TW.s (by assumption)) ⟨_, _, rfl⟩ (FITi rfl rfl) (Nat.le_of_ble_eq_true rfl) (h) rfl ?_
  rintro u σ1 ⟨hu, hf, h24, hP⟩
  rw [if_neg hr0] at hu
  subst hu
  have hb := lets_back hf
  have h24b : let0 σ1 79 24 = nI r := by rw [let0, setR_ne (by decide)]; exact h24
  refine g_istore_n (p0 := 21) (i := 2) (ls2 := [_, _, _]) dX10_fault_20 rfl (Nat.le_of_ble_eq_true rfl) rfl rfl ?_
  refine g_aload_n (p0 := 22) (i := 0) dX10_fault_21 rfl rfl rfl ?_
  refine g_cV0V (p0 := 25) (r1 := mX10_lets) dX10_fault_22 lX10_214 vX10_lets (by first | rfl | assumption | exact RW.s (by assumption) | exact TW.s (by assumption)) ⟨_, _, rfl⟩ (FITi rfl rfl) (Nat.le_of_ble_eq_true rfl) (lets_sp) rfl ?_
  refine g_iload_n (p0 := 26) (i := 2) dX10_fault_25 rfl rfl rfl ?_
  refine g_ldc (p0 := 28) dX10_fault_26 qX10_154 rfl ?_
  first | ((with_reducible refine isN2 ?_); refine g_icmpN_eq (tgt := 35) (p1 := 31) dX10_fault_28 rfl (by omega) (by omega) rfl (fun c_28 => by exfalso; first | omega | contradiction | exact absurd h c_28 | exact h c_28 | exact c_28 h | exact c_28 (by decide) | exact c_28 rfl | exact absurd rfl c_28 | exact h0 c_28 | exact h1 c_28 | exact nI_ne_m4 (by omega) c_28) (fun c_28 => ?_)) | refine g_icmp_eq (tgt := 35) (p1 := 31) dX10_fault_28 rfl rfl (fun c_28 => by exfalso; first | omega | contradiction | exact absurd h c_28 | exact h c_28 | exact c_28 h | exact c_28 (by decide) | exact c_28 rfl | exact absurd rfl c_28 | exact h0 c_28 | exact h1 c_28 | exact nI_ne_m4 (by omega) c_28) (fun c_28 => ?_)
  refine g_iload_n (p0 := 32) (i := 1) dX10_fault_31 rfl rfl rfl ?_
  first | ((with_reducible refine isN1 ?_); refine g_ifN_ne (tgt := 39) (p1 := 35) dX10_fault_32 rfl (by omega) rfl (fun c_32 => by exfalso; first | omega | contradiction | exact absurd h c_32 | exact h c_32 | exact c_32 h | exact c_32 (by decide) | exact c_32 rfl | exact absurd rfl c_32 | exact h0 c_32 | exact h1 c_32 | exact nI_ne_m4 (by omega) c_32) (fun c_32 => ?_)) | refine g_if_ne (tgt := 39) (p1 := 35) dX10_fault_32 rfl rfl (fun c_32 => by exfalso; first | omega | contradiction | exact absurd h c_32 | exact h c_32 | exact c_32 h | exact c_32 (by decide) | exact c_32 rfl | exact absurd rfl c_32 | exact h0 c_32 | exact h1 c_32 | exact nI_ne_m4 (by omega) c_32) (fun c_32 => ?_)
  refine g_iload_n (p0 := 36) (i := 2) dX10_fault_35 rfl rfl rfl ?_
  refine g_goto (tgt := 43) dX10_fault_36 rfl ?_
  refine g_ireturn dX10_fault_43 rfl rfl (?_)
  exact ⟨rfl, hb⟩
set_option maxRecDepth 20000 in
set_option maxHeartbeats 2000000 in
theorem fa_r10 {r st : Nat} {P : Sg → Prop} {σ : Sg} (hr : r ≤ 3) (hst : st ≤ 60) (h : CM mX10_goes [ar 79] (hol σ) (RelI (fun u σ1 => u = (if r = 0 then -1000004 else nI st) ∧ FG (hol σ) σ1 ∧ σ1 79 24 = nI r ∧ P σ1))) (hr0 : r = 0) : CM mX10_fault [ar 79, ai (nI 1)] σ (RQr σ (-1000004)) := by
  subst hr0
  refine CM_in (ls := [some (ar 79), some (ai (nI 1)), none]) rfl ?_
  refine g_iload_n (p0 := 1) (i := 1) dX10_fault_0 rfl rfl rfl ?_
  refine g_iconst (p0 := 2) (v := nI 0) dX10_fault_1 rfl rfl ?_
  refine g_iconst (p0 := 3) (v := nI 1) dX10_fault_2 rfl rfl ?_
  refine g_cS3R (p0 := 6) (r1 := mX10_in) dX10_fault_3 (Or.inl lX10_65) vX10_in (FITi rfl rfl) (Nat.le_of_ble_eq_true rfl) (in_T (by decide) (by decide)) rfl ?_
  first | ((with_reducible refine isN1 ?_); refine g_ifN_ne (tgt := 12) (p1 := 9) dX10_fault_6 rfl (by omega) rfl (fun c_6 => ?_) (fun c_6 => by exfalso; first | omega | contradiction | exact absurd h c_6 | exact h c_6 | exact c_6 h | exact c_6 (by decide) | exact c_6 rfl | exact absurd rfl c_6 | exact h0 c_6 | exact h1 c_6 | exact nI_ne_m4 (by omega) c_6)) | refine g_if_ne (tgt := 12) (p1 := 9) dX10_fault_6 rfl rfl (fun c_6 => ?_) (fun c_6 => by exfalso; first | omega | contradiction | exact absurd h c_6 | exact h c_6 | exact c_6 h | exact c_6 (by decide) | exact c_6 rfl | exact absurd rfl c_6 | exact h0 c_6 | exact h1 c_6 | exact nI_ne_m4 (by omega) c_6)
  refine g_aload_n (p0 := 13) (i := 0) dX10_fault_12 rfl rfl rfl ?_
  refine g_cV0V (p0 := 16) (r1 := mX10_holds) dX10_fault_13 lX10_208 vX10_holds (by first | rfl | assumption | exact RW.s (by assumption) | exact TW.s (by assumption)) ⟨_, _, rfl⟩ (FITi rfl rfl) (Nat.le_of_ble_eq_true rfl) (holds_sp) rfl ?_
  refine g_aload_n (p0 := 17) (i := 0) dX10_fault_16 rfl rfl rfl ?_
  refine g_cV0I (p0 := 20) (r1 := mX10_goes) dX10_fault_17 lX10_211 vX10_goes (by first | rfl | assumption | exact RW.s (by assumption) | exact TW.s (by assumption)) ⟨_, _, rfl⟩ (FITi rfl rfl) (Nat.le_of_ble_eq_true rfl) (h) rfl ?_
  rintro u σ1 ⟨hu, hf, h24, hP⟩
  rw [if_pos rfl] at hu
  subst hu
  have hb := lets_back hf
  have h24b : let0 σ1 79 24 = nI 0 := by rw [let0, setR_ne (by decide)]; exact h24
  refine g_istore_n (p0 := 21) (i := 2) (ls2 := [_, _, _]) dX10_fault_20 rfl (Nat.le_of_ble_eq_true rfl) rfl rfl ?_
  refine g_aload_n (p0 := 22) (i := 0) dX10_fault_21 rfl rfl rfl ?_
  refine g_cV0V (p0 := 25) (r1 := mX10_lets) dX10_fault_22 lX10_214 vX10_lets (by first | rfl | assumption | exact RW.s (by assumption) | exact TW.s (by assumption)) ⟨_, _, rfl⟩ (FITi rfl rfl) (Nat.le_of_ble_eq_true rfl) (lets_sp) rfl ?_
  refine g_iload_n (p0 := 26) (i := 2) dX10_fault_25 rfl rfl rfl ?_
  refine g_ldc (p0 := 28) dX10_fault_26 qX10_154 rfl ?_
  first | ((with_reducible refine isN2 ?_); refine g_icmpN_eq (tgt := 35) (p1 := 31) dX10_fault_28 rfl (by omega) (by omega) rfl (fun c_28 => ?_) (fun c_28 => by exfalso; first | omega | contradiction | exact absurd h c_28 | exact h c_28 | exact c_28 h | exact c_28 (by decide) | exact c_28 rfl | exact absurd rfl c_28 | exact h0 c_28 | exact h1 c_28 | exact nI_ne_m4 (by omega) c_28)) | refine g_icmp_eq (tgt := 35) (p1 := 31) dX10_fault_28 rfl rfl (fun c_28 => ?_) (fun c_28 => by exfalso; first | omega | contradiction | exact absurd h c_28 | exact h c_28 | exact c_28 h | exact c_28 (by decide) | exact c_28 rfl | exact absurd rfl c_28 | exact h0 c_28 | exact h1 c_28 | exact nI_ne_m4 (by omega) c_28)
  refine g_iload_n (p0 := 36) (i := 2) dX10_fault_35 rfl rfl rfl ?_
  refine g_goto (tgt := 43) dX10_fault_36 rfl ?_
  refine g_ireturn dX10_fault_43 rfl rfl (?_)
  exact ⟨rfl, hb⟩
set_option maxRecDepth 20000 in
set_option maxHeartbeats 2000000 in
theorem fa_r11 {r st : Nat} {P : Sg → Prop} {σ : Sg} (hr : r ≤ 3) (hst : st ≤ 60) (h : CM mX10_goes [ar 79] (hol σ) (RelI (fun u σ1 => u = (if r = 0 then -1000004 else nI st) ∧ FG (hol σ) σ1 ∧ σ1 79 24 = nI r ∧ P σ1))) (hr0 : ¬ r = 0) : CM mX10_fault [ar 79, ai (nI 1)] σ (RQr σ (nI r)) := by
  refine CM_in (ls := [some (ar 79), some (ai (nI 1)), none]) rfl ?_
  refine g_iload_n (p0 := 1) (i := 1) dX10_fault_0 rfl rfl rfl ?_
  refine g_iconst (p0 := 2) (v := nI 0) dX10_fault_1 rfl rfl ?_
  refine g_iconst (p0 := 3) (v := nI 1) dX10_fault_2 rfl rfl ?_
  refine g_cS3R (p0 := 6) (r1 := mX10_in) dX10_fault_3 (Or.inl lX10_65) vX10_in (FITi rfl rfl) (Nat.le_of_ble_eq_true rfl) (in_T (by decide) (by decide)) rfl ?_
  first | ((with_reducible refine isN1 ?_); refine g_ifN_ne (tgt := 12) (p1 := 9) dX10_fault_6 rfl (by omega) rfl (fun c_6 => ?_) (fun c_6 => by exfalso; first | omega | contradiction | exact absurd h c_6 | exact h c_6 | exact c_6 h | exact c_6 (by decide) | exact c_6 rfl | exact absurd rfl c_6 | exact h0 c_6 | exact h1 c_6 | exact nI_ne_m4 (by omega) c_6)) | refine g_if_ne (tgt := 12) (p1 := 9) dX10_fault_6 rfl rfl (fun c_6 => ?_) (fun c_6 => by exfalso; first | omega | contradiction | exact absurd h c_6 | exact h c_6 | exact c_6 h | exact c_6 (by decide) | exact c_6 rfl | exact absurd rfl c_6 | exact h0 c_6 | exact h1 c_6 | exact nI_ne_m4 (by omega) c_6)
  refine g_aload_n (p0 := 13) (i := 0) dX10_fault_12 rfl rfl rfl ?_
  refine g_cV0V (p0 := 16) (r1 := mX10_holds) dX10_fault_13 lX10_208 vX10_holds (by first | rfl | assumption | exact RW.s (by assumption) | exact TW.s (by assumption)) ⟨_, _, rfl⟩ (FITi rfl rfl) (Nat.le_of_ble_eq_true rfl) (holds_sp) rfl ?_
  refine g_aload_n (p0 := 17) (i := 0) dX10_fault_16 rfl rfl rfl ?_
  refine g_cV0I (p0 := 20) (r1 := mX10_goes) dX10_fault_17 lX10_211 vX10_goes (by first | rfl | assumption | exact RW.s (by assumption) | exact TW.s (by assumption)) ⟨_, _, rfl⟩ (FITi rfl rfl) (Nat.le_of_ble_eq_true rfl) (h) rfl ?_
  rintro u σ1 ⟨hu, hf, h24, hP⟩
  rw [if_neg hr0] at hu
  subst hu
  have hb := lets_back hf
  have h24b : let0 σ1 79 24 = nI r := by rw [let0, setR_ne (by decide)]; exact h24
  refine g_istore_n (p0 := 21) (i := 2) (ls2 := [_, _, _]) dX10_fault_20 rfl (Nat.le_of_ble_eq_true rfl) rfl rfl ?_
  refine g_aload_n (p0 := 22) (i := 0) dX10_fault_21 rfl rfl rfl ?_
  refine g_cV0V (p0 := 25) (r1 := mX10_lets) dX10_fault_22 lX10_214 vX10_lets (by first | rfl | assumption | exact RW.s (by assumption) | exact TW.s (by assumption)) ⟨_, _, rfl⟩ (FITi rfl rfl) (Nat.le_of_ble_eq_true rfl) (lets_sp) rfl ?_
  refine g_iload_n (p0 := 26) (i := 2) dX10_fault_25 rfl rfl rfl ?_
  refine g_ldc (p0 := 28) dX10_fault_26 qX10_154 rfl ?_
  first | ((with_reducible refine isN2 ?_); refine g_icmpN_eq (tgt := 35) (p1 := 31) dX10_fault_28 rfl (by omega) (by omega) rfl (fun c_28 => by exfalso; first | omega | contradiction | exact absurd h c_28 | exact h c_28 | exact c_28 h | exact c_28 (by decide) | exact c_28 rfl | exact absurd rfl c_28 | exact h0 c_28 | exact h1 c_28 | exact nI_ne_m4 (by omega) c_28) (fun c_28 => ?_)) | refine g_icmp_eq (tgt := 35) (p1 := 31) dX10_fault_28 rfl rfl (fun c_28 => by exfalso; first | omega | contradiction | exact absurd h c_28 | exact h c_28 | exact c_28 h | exact c_28 (by decide) | exact c_28 rfl | exact absurd rfl c_28 | exact h0 c_28 | exact h1 c_28 | exact nI_ne_m4 (by omega) c_28) (fun c_28 => ?_)
  refine g_iload_n (p0 := 32) (i := 1) dX10_fault_31 rfl rfl rfl ?_
  first | ((with_reducible refine isN1 ?_); refine g_ifN_ne (tgt := 39) (p1 := 35) dX10_fault_32 rfl (by omega) rfl (fun c_32 => ?_) (fun c_32 => by exfalso; first | omega | contradiction | exact absurd h c_32 | exact h c_32 | exact c_32 h | exact c_32 (by decide) | exact c_32 rfl | exact absurd rfl c_32 | exact h0 c_32 | exact h1 c_32 | exact nI_ne_m4 (by omega) c_32)) | refine g_if_ne (tgt := 39) (p1 := 35) dX10_fault_32 rfl rfl (fun c_32 => ?_) (fun c_32 => by exfalso; first | omega | contradiction | exact absurd h c_32 | exact h c_32 | exact c_32 h | exact c_32 (by decide) | exact c_32 rfl | exact absurd rfl c_32 | exact h0 c_32 | exact h1 c_32 | exact nI_ne_m4 (by omega) c_32)
  refine g_aload_n (p0 := 40) (i := 0) dX10_fault_39 rfl rfl rfl ?_
  refine g_getI (p0 := 43) dX10_fault_40 fX10_202 (by first | rfl | assumption | exact RW.s (by assumption) | exact TW.s (by assumption)) rfl (by first | assumption | ((repeat (first | exact up_hit | refine up_nv (by decide) ?_ | refine up_mv (by first | decide | omega) ?_)) <;> first | assumption | rfl)) rfl ?_
  refine g_ireturn dX10_fault_43 rfl rfl (?_)
  exact ⟨rfl, hb⟩
theorem text_of {σ : Sg} {len : Nat} (h : TX σ len) : ∃ T, TOK T len ∧ TC σ T len ∧ ∀ σ1 : Sg, σ1 79 5 = σ 79 5 → σ1 83 = σ 83 → TR σ1 T len := by
  obtain ⟨t1, t2, t3, t4⟩ := h
  have hT : ∀ i, i < len → σ 78 i = nI (σ 78 i).toNatClampNeg ∧ 32 ≤ (σ 78 i).toNatClampNeg ∧ (σ 78 i).toNatClampNeg ≤ 126 := by
    intro i hi
    obtain ⟨_, c, h1, h2, h3⟩ := t4 i hi
    rw [h3, nI_clamp (by omega)]
    exact ⟨rfl, h2, h1⟩
  exact ⟨fun i => (σ 78 i).toNatClampNeg, ⟨t3, fun i hi => (hT i hi).2⟩, ⟨t1, fun i hi => (hT i hi).1⟩, fun σ1 e5 e83 => ⟨e5.trans t2, fun i hi => by rw [e83, ← (t4 i hi).1]; exact (hT i hi).1⟩⟩
theorem op_fault (x0 : Int32) : OpOK Inv mX9_fault mX10_fault [ai x0] := by
  intro σ hI
  obtain ⟨s, n, H, len, hR, hRep, hHC, hHR, hRD, hTX⟩ := id hI
  obtain ⟨T, hT, hTC, hTR⟩ := text_of hTX
  obtain ⟨r, st, ρ', s', g1, g2, g3, g4, g5⟩ := all hT hR
  have hcl := g4 σ hTC hRep
  have hrf : ∀ σ1, FRo σ σ1 → CM mX10_goes [ar 79] (hol σ1) (RelI (fun u σ2 => u = (if r = 0 then -1000004 else nI st) ∧ FG (hol σ1) σ2 ∧ σ2 79 24 = nI r ∧ (r = 0 → σ2 80 = ρ'))) := by
    intro σ1 hf
    exact g5 _ (hol_tr (hTR σ1 (by rw [hf.1 79 (by decide) (by decide) (by decide) (by decide)]) (hf.1 83 (by decide) (by decide) (by decide) (by decide)))) (by rw [hol_80]; exact hf.1 80 (by decide) (by decide) (by decide) (by decide))
  by_cases e0 : x0 = 0
  · have e0 : x0 = nI 0 := e0
    subst e0
    by_cases hr0 : r = 0
    · exact op_text hI (fa_c00 g1 hcl hr0) (fun σ1 hf hI1 => fa_r00 g1 g2 (hrf σ1 hf) hr0)
    · exact op_text hI (fa_c01 g1 hcl hr0) (fun σ1 hf hI1 => fa_r01 g1 g2 (hrf σ1 hf) hr0)
  · by_cases e1 : x0 = 1
    · have e1 : x0 = nI 1 := e1
      subst e1
      by_cases hr0 : r = 0
      · exact op_text hI (fa_c10 g1 hcl hr0) (fun σ1 hf hI1 => fa_r10 g1 g2 (hrf σ1 hf) hr0)
      · exact op_text hI (fa_c11 g1 hcl hr0) (fun σ1 hf hI1 => fa_r11 g1 g2 (hrf σ1 hf) hr0)
    · have hin : ∀ σ1 : Sg, CM mX10_in [ai x0, ai (nI 0), ai (nI 1)] σ1 (Ret (nI 0) σ1) := by
        intro σ1
        rcases i32c x0 with h | ⟨j, hj, rfl⟩
        · exact in_F1 h
        · have h0 : ¬ j = 0 := fun z => e0 (by rw [z]; rfl)
          have h1 : ¬ j = 1 := fun z => e1 (by rw [z]; rfl)
          exact in_F2 (fun q => by rw [nI_lt_iff (by omega) (by omega)] at q; omega) ((nI_lt_iff (by omega) (by omega)).mpr (by omega))
      exact op_same hI (fa_cx e0 e1) (fa_rx (hin σ))
set_option maxRecDepth 20000 in
set_option maxHeartbeats 2000000 in
theorem pl_cF {r st : Nat} {P : Sg → Prop} {σ : Sg} (hr : r ≤ 3) (h : CM mX5_rehearse [ar 76, ar 1, ar 6] σ (RelV (fun σ1 => FRo σ σ1 ∧ σ1 76 2 = nI st ∧ σ1 76 3 = nI r ∧ P σ1))) (hr0 : ¬ r = 0) : CM mX9_play [ar 0] σ (CQo σ (-1000002)) := by
  refine CM_in (ls := [some (ar 0)]) rfl ?_
  refine g_aload_n (p0 := 1) (i := 0) dX9_play_0 rfl rfl rfl ?_
  refine g_getR (p0 := 4) dX9_play_1 fX9_50 (by first | rfl | assumption | exact RW.s (by assumption) | exact TW.s (by assumption)) rfl rfl ?_
  refine g_aload_n (p0 := 5) (i := 0) dX9_play_4 rfl rfl rfl ?_
  refine g_getR (p0 := 8) dX9_play_5 fX9_10 (by first | rfl | assumption | exact RW.s (by assumption) | exact TW.s (by assumption)) rfl rfl ?_
  refine g_aload_n (p0 := 9) (i := 0) dX9_play_8 rfl rfl rfl ?_
  refine g_getR (p0 := 12) dX9_play_9 fX9_16 (by first | rfl | assumption | exact RW.s (by assumption) | exact TW.s (by assumption)) rfl rfl ?_
  refine g_cV2P (p0 := 15) (r1 := mX5_rehearse) dX9_play_12 lX9_265 vX5_rehearse (by first | rfl | assumption | exact RW.s (by assumption) | exact TW.s (by assumption)) ⟨_, _, rfl⟩ (FITi rfl rfl) (Nat.le_of_ble_eq_true rfl) (h) rfl ?_
  rintro σ1 ⟨hf, h2, h3, hP⟩
  refine g_aload_n (p0 := 16) (i := 0) dX9_play_15 rfl rfl rfl ?_
  refine g_getR (p0 := 19) dX9_play_16 fX9_50 (by first | rfl | assumption | exact RW.s (by assumption) | exact TW.s (by assumption)) rfl rfl ?_
  refine g_getI (p0 := 22) dX9_play_19 fX9_269 (by first | rfl | assumption | exact RW.s (by assumption) | exact TW.s (by assumption)) rfl (by first | assumption | ((repeat (first | exact up_hit | refine up_nv (by decide) ?_ | refine up_mv (by first | decide | omega) ?_)) <;> first | assumption | rfl)) rfl ?_
  first | ((with_reducible refine isN1 ?_); refine g_ifN_eq (tgt := 28) (p1 := 25) dX9_play_22 rfl (by omega) rfl (fun c_22 => by exfalso; first | omega | contradiction | exact absurd h c_22 | exact h c_22 | exact c_22 h | exact c_22 (by decide) | exact c_22 rfl | exact absurd rfl c_22 | exact h0 c_22 | exact h1 c_22 | exact nI_ne_m4 (by omega) c_22) (fun c_22 => ?_)) | refine g_if_eq (tgt := 28) (p1 := 25) dX9_play_22 rfl rfl (fun c_22 => by exfalso; first | omega | contradiction | exact absurd h c_22 | exact h c_22 | exact c_22 h | exact c_22 (by decide) | exact c_22 rfl | exact absurd rfl c_22 | exact h0 c_22 | exact h1 c_22 | exact nI_ne_m4 (by omega) c_22) (fun c_22 => ?_)
  refine g_ldc (p0 := 27) dX9_play_25 qX9_96 rfl ?_
  refine g_ireturn dX9_play_27 rfl rfl (?_)
  exact ⟨rfl, hf⟩
set_option maxRecDepth 20000 in
set_option maxHeartbeats 2000000 in
theorem pl_rF {r st : Nat} {P : Sg → Prop} {σ : Sg} (hr : r ≤ 3) (hst : st ≤ 60) (h : CM mX10_goes [ar 79] (hol σ) (RelI (fun u σ1 => u = (if r = 0 then -1000004 else nI st) ∧ FG (hol σ) σ1 ∧ σ1 79 24 = nI r ∧ P σ1))) (hr0 : ¬ r = 0) : CM mX10_play [ar 79] σ (RQr σ (-1000002)) := by
  refine CM_in (ls := [some (ar 79), none]) rfl ?_
  refine g_aload_n (p0 := 1) (i := 0) dX10_play_0 rfl rfl rfl ?_
  refine g_cV0V (p0 := 4) (r1 := mX10_holds) dX10_play_1 lX10_208 vX10_holds (by first | rfl | assumption | exact RW.s (by assumption) | exact TW.s (by assumption)) ⟨_, _, rfl⟩ (FITi rfl rfl) (Nat.le_of_ble_eq_true rfl) (holds_sp) rfl ?_
  refine g_aload_n (p0 := 5) (i := 0) dX10_play_4 rfl rfl rfl ?_
  refine g_cV0I (p0 := 8) (r1 := mX10_goes) dX10_play_5 lX10_211 vX10_goes (by first | rfl | assumption | exact RW.s (by assumption) | exact TW.s (by assumption)) ⟨_, _, rfl⟩ (FITi rfl rfl) (Nat.le_of_ble_eq_true rfl) (h) rfl ?_
  rintro u σ1 ⟨hu, hf, h24, hP⟩
  rw [if_neg hr0] at hu
  subst hu
  have hb := lets_back hf
  have h24b : let0 σ1 79 24 = nI r := by rw [let0, setR_ne (by decide)]; exact h24
  refine g_istore_n (p0 := 9) (i := 1) (ls2 := [_, _]) dX10_play_8 rfl (Nat.le_of_ble_eq_true rfl) rfl rfl ?_
  refine g_aload_n (p0 := 10) (i := 0) dX10_play_9 rfl rfl rfl ?_
  refine g_cV0V (p0 := 13) (r1 := mX10_lets) dX10_play_10 lX10_214 vX10_lets (by first | rfl | assumption | exact RW.s (by assumption) | exact TW.s (by assumption)) ⟨_, _, rfl⟩ (FITi rfl rfl) (Nat.le_of_ble_eq_true rfl) (lets_sp) rfl ?_
  refine g_iload_n (p0 := 14) (i := 1) dX10_play_13 rfl rfl rfl ?_
  refine g_ldc (p0 := 16) dX10_play_14 qX10_154 rfl ?_
  first | ((with_reducible refine isN2 ?_); refine g_icmpN_eq (tgt := 22) (p1 := 19) dX10_play_16 rfl (by omega) (by omega) rfl (fun c_16 => by exfalso; first | omega | contradiction | exact absurd h c_16 | exact h c_16 | exact c_16 h | exact c_16 (by decide) | exact c_16 rfl | exact absurd rfl c_16 | exact h0 c_16 | exact h1 c_16 | exact nI_ne_m4 (by omega) c_16) (fun c_16 => ?_)) | refine g_icmp_eq (tgt := 22) (p1 := 19) dX10_play_16 rfl rfl (fun c_16 => by exfalso; first | omega | contradiction | exact absurd h c_16 | exact h c_16 | exact c_16 h | exact c_16 (by decide) | exact c_16 rfl | exact absurd rfl c_16 | exact h0 c_16 | exact h1 c_16 | exact nI_ne_m4 (by omega) c_16) (fun c_16 => ?_)
  refine g_ldc (p0 := 21) dX10_play_19 qX10_102 rfl ?_
  refine g_ireturn dX10_play_21 rfl rfl (?_)
  exact ⟨rfl, hb⟩
set_option maxRecDepth 20000 in
set_option maxHeartbeats 2000000 in
theorem pl_c {s n s' st : Nat} {ρ' : Nat → Int32} {H : Nat → (Nat → Int32) × Nat} {σ : Sg} (hR : RowOK (σ 80) s) (hRep : Rep σ 1 (σ 80) s) (hHC : HC σ n H) (h65 : σ 65 0 = nI 0) (hR' : RowOK ρ' s') (h : CM mX5_rehearse [ar 76, ar 1, ar 6] σ (RelV (fun σ1 => FRo σ σ1 ∧ σ1 76 2 = nI st ∧ σ1 76 3 = nI 0 ∧ Rep σ1 6 ρ' s'))) : CM mX9_play [ar 0] σ (fun w σ3 => w = some (ai (nI s')) ∧ Rep σ3 1 ρ' s' ∧ HC σ3 (pn n) (push n H (σ 80, s)) ∧ RDC σ3 ρ' s' ∧ (∀ z, 72 ≤ z → z ≠ 76 → σ3 z = σ z) ∧ σ3 76 1 = σ 76 1) := by
  have hs1 := hR'.2.1
  refine CM_in (ls := [some (ar 0)]) rfl ?_
  refine g_aload_n (p0 := 1) (i := 0) dX9_play_0 rfl rfl rfl ?_
  refine g_getR (p0 := 4) dX9_play_1 fX9_50 (by first | rfl | assumption | exact RW.s (by assumption) | exact TW.s (by assumption)) rfl rfl ?_
  refine g_aload_n (p0 := 5) (i := 0) dX9_play_4 rfl rfl rfl ?_
  refine g_getR (p0 := 8) dX9_play_5 fX9_10 (by first | rfl | assumption | exact RW.s (by assumption) | exact TW.s (by assumption)) rfl rfl ?_
  refine g_aload_n (p0 := 9) (i := 0) dX9_play_8 rfl rfl rfl ?_
  refine g_getR (p0 := 12) dX9_play_9 fX9_16 (by first | rfl | assumption | exact RW.s (by assumption) | exact TW.s (by assumption)) rfl rfl ?_
  refine g_cV2P (p0 := 15) (r1 := mX5_rehearse) dX9_play_12 lX9_265 vX5_rehearse (by first | rfl | assumption | exact RW.s (by assumption) | exact TW.s (by assumption)) ⟨_, _, rfl⟩ (FITi rfl rfl) (Nat.le_of_ble_eq_true rfl) (h) rfl ?_
  rintro σ1 ⟨hf, h2, h3, hP⟩
  have g1 : ∀ z, z ≠ 6 → z ≠ 8 → z ≠ 10 → z ≠ 76 → σ1 z = σ z := hf.1
  have hHC1 : HC σ1 n H := hHC.of (fun z a b => g1 z (by omega) (by omega) (by omega) (by omega))
  have hRep1 : Rep σ1 1 (σ 80) s := hRep.of_eq (g1 _ (by decide) (by decide) (by decide) (by decide)) (g1 _ (by decide) (by decide) (by decide) (by decide)) (g1 _ (by decide) (by decide) (by decide) (by decide))
  refine g_aload_n (p0 := 16) (i := 0) dX9_play_15 rfl rfl rfl ?_
  refine g_getR (p0 := 19) dX9_play_16 fX9_50 (by first | rfl | assumption | exact RW.s (by assumption) | exact TW.s (by assumption)) rfl rfl ?_
  refine g_getI (p0 := 22) dX9_play_19 fX9_269 (by first | rfl | assumption | exact RW.s (by assumption) | exact TW.s (by assumption)) rfl (by first | assumption | ((repeat (first | exact up_hit | refine up_nv (by decide) ?_ | refine up_mv (by first | decide | omega) ?_)) <;> first | assumption | rfl)) rfl ?_
  first | ((with_reducible refine isN1 ?_); refine g_ifN_eq (tgt := 28) (p1 := 25) dX9_play_22 rfl (by omega) rfl (fun c_22 => ?_) (fun c_22 => by exfalso; first | omega | contradiction | exact absurd h c_22 | exact h c_22 | exact c_22 h | exact c_22 (by decide) | exact c_22 rfl | exact absurd rfl c_22 | exact h0 c_22 | exact h1 c_22 | exact nI_ne_m4 (by omega) c_22)) | refine g_if_eq (tgt := 28) (p1 := 25) dX9_play_22 rfl rfl (fun c_22 => ?_) (fun c_22 => by exfalso; first | omega | contradiction | exact absurd h c_22 | exact h c_22 | exact c_22 h | exact c_22 (by decide) | exact c_22 rfl | exact absurd rfl c_22 | exact h0 c_22 | exact h1 c_22 | exact nI_ne_m4 (by omega) c_22)
  refine g_aload_n (p0 := 29) (i := 0) dX9_play_28 rfl rfl rfl ?_
  refine g_getR (p0 := 32) dX9_play_29 fX9_22 (by first | rfl | assumption | exact RW.s (by assumption) | exact TW.s (by assumption)) rfl rfl ?_
  refine g_aload_n (p0 := 33) (i := 0) dX9_play_32 rfl rfl rfl ?_
  refine g_getR (p0 := 36) dX9_play_33 fX9_10 (by first | rfl | assumption | exact RW.s (by assumption) | exact TW.s (by assumption)) rfl rfl ?_
  refine g_cV1P (p0 := 39) (r1 := mX2_record) dX9_play_36 lX9_58 vX2_record (by first | rfl | assumption | exact RW.s (by assumption) | exact TW.s (by assumption)) ⟨_, _, rfl⟩ (FITi rfl rfl) (Nat.le_of_ble_eq_true rfl) (record_rel hHC1 hR hRep1) rfl ?_
  rintro σ2 ⟨fr1, hHC2⟩
  have hP2 : Rep σ2 6 ρ' s' := hP.of6 (fr1 _ (by decide) (by decide)) (fr1 _ (by decide) (by decide)) (fr1 _ (by decide) (by decide))
  have hbc := become_sp (σ := σ2) (t := 1) (u := 6) TW1 TW6 (Or.inl (by decide)) hP2.1 hs1 (by rw [hP2.2.2.2.1]; exact hR'.2.2.1)
  have hRepN : Rep (twr σ2 1 6 s') 1 ρ' s' := Rep_twr hP2 (Or.inl (by decide))
  obtain ⟨σ4, hσ4⟩ : ∃ z, z = twr σ2 1 6 s' := ⟨_, rfl⟩
  rw [← hσ4] at hbc hRepN
  have f4 : ∀ z, 5 < z → σ4 z = σ2 z := fun z hz => by rw [hσ4]; exact twr_ne (by omega) (by omega) (by omega)
  have h65N : σ4 65 0 = nI 0 := by rw [f4 65 (by decide), fr1 65 (by decide) (by decide), g1 65 (by decide) (by decide) (by decide) (by decide)]; exact h65
  refine g_aload_n (p0 := 40) (i := 0) dX9_play_39 rfl rfl rfl ?_
  refine g_getR (p0 := 43) dX9_play_40 fX9_10 (by first | rfl | assumption | exact RW.s (by assumption) | exact TW.s (by assumption)) rfl rfl ?_
  refine g_aload_n (p0 := 44) (i := 0) dX9_play_43 rfl rfl rfl ?_
  refine g_getR (p0 := 47) dX9_play_44 fX9_16 (by first | rfl | assumption | exact RW.s (by assumption) | exact TW.s (by assumption)) rfl rfl ?_
  refine g_cV1V (p0 := 50) (r1 := mX8_become) dX9_play_47 lX9_275 vX8_become (by first | rfl | assumption | exact RW.s (by assumption) | exact TW.s (by assumption)) ⟨_, _, rfl⟩ (FITi rfl rfl) (Nat.le_of_ble_eq_true rfl) (hbc) rfl ?_
  refine g_aload_n (p0 := 51) (i := 0) dX9_play_50 rfl rfl rfl ?_
  refine g_getR (p0 := 54) dX9_play_51 fX9_29 (by first | rfl | assumption | exact RW.s (by assumption) | exact TW.s (by assumption)) rfl rfl ?_
  refine g_aload_n (p0 := 55) (i := 0) dX9_play_54 rfl rfl rfl ?_
  refine g_getR (p0 := 58) dX9_play_55 fX9_10 (by first | rfl | assumption | exact RW.s (by assumption) | exact TW.s (by assumption)) rfl rfl ?_
  refine g_cV1P (p0 := 61) (r1 := mX6_refresh) dX9_play_58 lX9_62 vX6_refresh (by first | rfl | assumption | exact RW.s (by assumption) | exact TW.s (by assumption)) ⟨_, _, rfl⟩ (FITi rfl rfl) (Nat.le_of_ble_eq_true rfl) (refresh_sp hRepN hR' h65N) rfl ?_
  rintro σ5 ⟨hRD5, fr5⟩
  have hRep5 : Rep σ5 1 ρ' s' := hRepN.of_eq (fr5 _ (by decide)) (fr5 _ (by decide)) (fr5 _ (by decide))
  have v5 : σ5 1 2 = nI s' := hRep5.1
  refine g_aload_n (p0 := 62) (i := 0) dX9_play_61 rfl rfl rfl ?_
  refine g_getR (p0 := 65) dX9_play_62 fX9_10 (by first | rfl | assumption | exact RW.s (by assumption) | exact TW.s (by assumption)) rfl rfl ?_
  refine g_getI (p0 := 68) dX9_play_65 fX9_85 (by first | rfl | assumption | exact RW.s (by assumption) | exact TW.s (by assumption)) rfl (by first | assumption | ((repeat (first | exact up_hit | refine up_nv (by decide) ?_ | refine up_mv (by first | decide | omega) ?_)) <;> first | assumption | rfl)) rfl ?_
  refine g_ireturn dX9_play_68 rfl rfl (?_)
  refine ⟨rfl, hRep5, hHC2.of (fun z a b => by rw [fr5 z (by omega), f4 z (by omega)]), hRD5, fun z a b => ?_, ?_⟩
  · rw [fr5 z (by omega), f4 z (by omega), fr1 z (by omega) (by omega), g1 z (by omega) (by omega) (by omega) b]
  · rw [fr5 76 (by omega), f4 76 (by omega), fr1 76 (by omega) (by omega)]; exact hf.2
set_option maxRecDepth 20000 in
set_option maxHeartbeats 2000000 in
theorem pl_r {s n s' len : Nat} {T : Nat → Nat} {ρ ρ' : Nat → Int32} {H : Nat → (Nat → Int32) × Nat} {σ : Sg} (hR' : RowOK ρ' s') (h80 : σ 80 = ρ) (hHR : HRf σ n H) (hn : n ≤ 4) (hC : TR σ T len) (hg : ∀ σ : Sg, TR σ T len → σ 80 = ρ → CM mX10_goes [ar 79] σ (RelI (fun u σ1 => u = -1000004 ∧ FG σ σ1 ∧ σ1 80 = ρ'))) : CM mX10_play [ar 79] σ (fun w σ' => w = some (ai (nI s')) ∧ σ' 80 = ρ' ∧ HRf σ' (pn n) (push n H (ρ, s)) ∧ (∀ z, z < 79 → σ' z = σ z) ∧ σ' 79 5 = σ 79 5 ∧ σ' 83 = σ 83) := by
  have h1 := hg (hol σ) (hol_tr hC) (by rw [hol_80]; exact h80)
  refine CM_in (ls := [some (ar 79), none]) rfl ?_
  refine g_aload_n (p0 := 1) (i := 0) dX10_play_0 rfl rfl rfl ?_
  refine g_cV0V (p0 := 4) (r1 := mX10_holds) dX10_play_1 lX10_208 vX10_holds (by first | rfl | assumption | exact RW.s (by assumption) | exact TW.s (by assumption)) ⟨_, _, rfl⟩ (FITi rfl rfl) (Nat.le_of_ble_eq_true rfl) (holds_sp) rfl ?_
  refine g_aload_n (p0 := 5) (i := 0) dX10_play_4 rfl rfl rfl ?_
  refine g_cV0I (p0 := 8) (r1 := mX10_goes) dX10_play_5 lX10_211 vX10_goes (by first | rfl | assumption | exact RW.s (by assumption) | exact TW.s (by assumption)) ⟨_, _, rfl⟩ (FITi rfl rfl) (Nat.le_of_ble_eq_true rfl) (h1) rfl ?_
  rintro u σ1 ⟨rfl, hf, _⟩
  refine g_istore_n (p0 := 9) (i := 1) (ls2 := [_, _]) dX10_play_8 rfl (Nat.le_of_ble_eq_true rfl) rfl rfl ?_
  refine g_aload_n (p0 := 10) (i := 0) dX10_play_9 rfl rfl rfl ?_
  refine g_cV0V (p0 := 13) (r1 := mX10_lets) dX10_play_10 lX10_214 vX10_lets (by first | rfl | assumption | exact RW.s (by assumption) | exact TW.s (by assumption)) ⟨_, _, rfl⟩ (FITi rfl rfl) (Nat.le_of_ble_eq_true rfl) (lets_sp) rfl ?_
  refine g_iload_n (p0 := 14) (i := 1) dX10_play_13 rfl rfl rfl ?_
  obtain ⟨σ2, hσ2⟩ : ∃ z, z = setR σ1 80 (cpy (σ1 80) (σ1 82) 189) := ⟨_, rfl⟩
  have hb : FRr σ σ2 := by rw [hσ2]; exact lets_back hf
  rw [← hσ2]
  have hHR2 : HRf σ2 n H := hHR.of (hb.2 3 (by decide) (by decide)) (hb.1 81 (by decide) (by decide))
  have hx : ∀ q, q < 189 → σ2 80 q = ((ρ, s) : (Nat → Int32) × Nat).1 q := fun q _ => by rw [hb.e80, h80]
  refine g_ldc (p0 := 16) dX10_play_14 qX10_154 rfl ?_
  first | ((with_reducible refine isN2 ?_); refine g_icmpN_eq (tgt := 22) (p1 := 19) dX10_play_16 rfl (by omega) (by omega) rfl (fun c_16 => ?_) (fun c_16 => by exfalso; first | omega | contradiction | exact absurd h c_16 | exact h c_16 | exact c_16 h | exact c_16 (by decide) | exact c_16 rfl | exact absurd rfl c_16 | exact h0 c_16 | exact h1 c_16 | exact nI_ne_m4 (by omega) c_16)) | refine g_icmp_eq (tgt := 22) (p1 := 19) dX10_play_16 rfl rfl (fun c_16 => ?_) (fun c_16 => by exfalso; first | omega | contradiction | exact absurd h c_16 | exact h c_16 | exact c_16 h | exact c_16 (by decide) | exact c_16 rfl | exact absurd rfl c_16 | exact h0 c_16 | exact h1 c_16 | exact nI_ne_m4 (by omega) c_16)
  refine g_aload_n (p0 := 23) (i := 0) dX10_play_22 rfl rfl rfl ?_
  refine g_cV0P (p0 := 26) (r1 := mX10_changes) dX10_play_23 lX10_77 vX10_changes (by first | rfl | assumption | exact RW.s (by assumption) | exact TW.s (by assumption)) ⟨_, _, rfl⟩ (FITi rfl rfl) (Nat.le_of_ble_eq_true rfl) (changes_rel (ρ, s) hHR2 hn hx) rfl ?_
  rintro σ3 ⟨hH3, fr3, fr79⟩
  have h2 := hg σ3 ⟨by rw [fr79 5 (by decide)]; exact (hb.tr hC).1, fun i hi => by rw [fr3 83 (by decide) (by decide)]; exact (hb.tr hC).2 i hi⟩ (by rw [fr3 80 (by decide) (by decide), hb.e80]; exact h80)
  refine g_aload_n (p0 := 27) (i := 0) dX10_play_26 rfl rfl rfl ?_
  refine g_cV0I (p0 := 30) (r1 := mX10_goes) dX10_play_27 lX10_211 vX10_goes (by first | rfl | assumption | exact RW.s (by assumption) | exact TW.s (by assumption)) ⟨_, _, rfl⟩ (FITi rfl rfl) (Nat.le_of_ble_eq_true rfl) (h2) rfl ?_
  rintro u σ4 ⟨rfl, hf4, h480⟩
  have v4 : σ4 80 3 = nI s' := by rw [h480]; exact hR'.1
  refine g_ldc (p0 := 32) dX10_play_30 qX10_154 rfl ?_
  first | ((with_reducible refine isN2 ?_); refine g_icmpN_ne (tgt := 44) (p1 := 35) dX10_play_32 rfl (by omega) (by omega) rfl (fun c_32 => by exfalso; first | omega | contradiction | exact absurd h c_32 | exact h c_32 | exact c_32 h | exact c_32 (by decide) | exact c_32 rfl | exact absurd rfl c_32 | exact h0 c_32 | exact h1 c_32 | exact nI_ne_m4 (by omega) c_32) (fun c_32 => ?_)) | refine g_icmp_ne (tgt := 44) (p1 := 35) dX10_play_32 rfl rfl (fun c_32 => by exfalso; first | omega | contradiction | exact absurd h c_32 | exact h c_32 | exact c_32 h | exact c_32 (by decide) | exact c_32 rfl | exact absurd rfl c_32 | exact h0 c_32 | exact h1 c_32 | exact nI_ne_m4 (by omega) c_32) (fun c_32 => ?_)
  refine g_aload_n (p0 := 36) (i := 0) dX10_play_35 rfl rfl rfl ?_
  refine g_getR (p0 := 39) dX10_play_36 fX10_7 (by first | rfl | assumption | exact RW.s (by assumption) | exact TW.s (by assumption)) rfl rfl ?_
  refine g_iconst (p0 := 40) (v := nI 3) dX10_play_39 rfl rfl ?_
  first | ((with_reducible refine isN1 ?_); refine g_aldN (p0 := 41) dX10_play_40 (by first | rfl | assumption | exact RW.s (by assumption) | exact TW.s (by assumption)) (by first | decide | assumption) (by omega) (by first | assumption | ((repeat (first | exact up_hit | refine up_nv (by decide) ?_ | refine up_mv (by first | decide | omega) ?_)) <;> first | assumption | rfl)) rfl ?_) | refine g_ald (p0 := 41) dX10_play_40 (by first | rfl | assumption | exact RW.s (by assumption) | exact TW.s (by assumption)) (by assumption) (by first | assumption | ((repeat (first | exact up_hit | refine up_nv (by decide) ?_ | refine up_mv (by first | decide | omega) ?_)) <;> first | assumption | rfl)) rfl ?_
  refine g_goto (tgt := 46) dX10_play_41 rfl ?_
  refine g_ireturn dX10_play_46 rfl rfl (?_)
  refine ⟨rfl, h480, hH3.of (hf4.2.1 3 (by decide) (by decide)) (hf4.1 81 (by decide) (by decide)), fun z hz => ?_, ?_, ?_⟩
  · rw [hf4.1 z (by omega) (by omega), fr3 z (by omega) (by omega), hb.1 z (by omega) (by omega)]
  · rw [hf4.2.1 5 (by decide) (by decide), fr79 5 (by decide), hb.2 5 (by decide) (by decide)]
  · rw [hf4.1 83 (by decide) (by decide), fr3 83 (by decide) (by decide), hb.1 83 (by decide) (by decide)]
theorem op_play (u : Unit) : OpOK Inv mX9_play mX10_play [] := by
  intro σ hI
  obtain ⟨s, n, H, len, hR, hRep, hHC, hHR, hRD, hTX⟩ := id hI
  obtain ⟨T, hT, hTC, hTR⟩ := text_of hTX
  obtain ⟨r, st, ρ', s', g1, g2, g3, g4, g5⟩ := all hT hR
  have hcl := g4 σ hTC hRep
  by_cases hr0 : r = 0
  · subst hr0
    have hR' := g3 rfl
    have hcl2 : CM mX5_rehearse [ar 76, ar 1, ar 6] σ (RelV (fun σ1 => FRo σ σ1 ∧ σ1 76 2 = nI st ∧ σ1 76 3 = nI 0 ∧ Rep σ1 6 ρ' s')) := by
      refine CM.mono hcl ?_
      rintro w σ1 ⟨rfl, a, b, c, d⟩
      exact ⟨rfl, a, b, c, d rfl⟩
    have hg2 : ∀ σ1 : Sg, TR σ1 T len → σ1 80 = σ 80 → CM mX10_goes [ar 79] σ1 (RelI (fun u σ2 => u = -1000004 ∧ FG σ1 σ2 ∧ σ2 80 = ρ')) := by
      intro σ1 a b
      refine CM.mono (g5 σ1 a b) ?_
      rintro w σ2 ⟨u, rfl, c, d, e, f⟩
      rw [if_pos rfl] at c
      exact ⟨u, rfl, c, d, f rfl⟩
    refine CM.mono (pl_c hR hRep hHC hRD.2.2.2.2.2.2 hR' hcl2) ?_
    rintro w σ3 ⟨rfl, a1, a2, a3, a4, a5⟩
    have e379 : σ3 79 = σ 79 := a4 79 (by decide) (by decide)
    have e383 : σ3 83 = σ 83 := a4 83 (by decide) (by decide)
    refine ⟨_, rfl, CM.mono (pl_r (s := s) hR' (a4 80 (by decide) (by decide)) (hHR.of (by rw [e379]) (a4 81 (by decide) (by decide))) (HC_le hHC) (hTR σ3 (by rw [e379]) e383) hg2) ?_⟩
    rintro w2 σ4 ⟨rfl, b1, b2, b3, b4, b5⟩
    refine ⟨rfl, s', pn n, push n H (σ 80, s), len, by rw [b1]; exact hR', ?_, a2.of (fun z h1 h2 => b3 z (by omega)), b2, ?_, ?_⟩
    · rw [b1]; exact a1.of_eq (b3 _ (by decide)) (b3 _ (by decide)) (b3 _ (by decide))
    · rw [b1]; exact a3.of (fun z h1 h2 => b3 z (by omega))
    · obtain ⟨t1, t2, t3, t4⟩ := hTX
      refine ⟨by rw [b3 _ (by decide)]; exact a5.trans t1, by rw [b4, e379]; exact t2, t3, fun i hi => ?_⟩
      rw [b3 78 (by decide), b5, a4 78 (by decide) (by decide), e383]
      exact t4 i hi
  · refine op_text hI (pl_cF g1 hcl hr0) (fun σ1 hf hI1 => pl_rF g1 g2 (P := fun σ2 => (r = 0 → σ2 80 = ρ')) ?_ hr0)
    exact g5 _ (hol_tr (hTR σ1 (by rw [hf.1 79 (by decide) (by decide) (by decide) (by decide)]) (hf.1 83 (by decide) (by decide) (by decide) (by decide)))) (by rw [hol_80]; exact hf.1 80 (by decide) (by decide) (by decide) (by decide))
