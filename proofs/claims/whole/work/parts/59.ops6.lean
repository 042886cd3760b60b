/-! OPERATIONS: strike, shift, ring -/
def THR (ρ : Nat → Int32) (s : Nat) (x : Int32) : Prop := ah (tm ρ) s x < s ∧ ρ (29 + ah (tm ρ) s x) = x
theorem there_c {σ : Sg} {s : Nat} (hR : RowOK (σ 80) s) (hRep : Rep σ 1 (σ 80) s) (x : Int32) : (CM mX8_hasStrokeAt [ar 1, ai x] σ (Ret (nI 1) σ) ∧ CM mX10_isThere [ar 79, ai x] σ (Ret (nI 1) σ)) ∨ (¬ THR (σ 80) s x ∧ CM mX8_hasStrokeAt [ar 1, ai x] σ (Ret (nI 0) σ)) := by
  have hs1 := hR.2.1
  have b6 : ∀ q, q < s → σ 3 q = tm (σ 80) q := hRep.2.2.2.2.2
  have ea : ah (σ 3) s x = ah (tm (σ 80)) s x := ah_congr b6
  by_cases h : THR (σ 80) s x
  · refine Or.inl ⟨hasStrokeAt_T TW1 hRep.1 hs1 ?_ ?_, isThere_T hR.1 hs1 h.1 h.2⟩
    · show ah (σ 3) s x < s
      rw [ea]; exact h.1
    · show σ 3 (ah (σ 3) s x) = x
      rw [ea, b6 _ h.1]; exact h.2
  · refine Or.inr ⟨h, hasStrokeAt_F TW1 hRep.1 hs1 ?_⟩
    show ah (σ 3) s x < s → ¬ σ 3 (ah (σ 3) s x) = x
    rw [ea]
    intro h1 h2
    rw [b6 _ h1] at h2
    exact h ⟨h1, h2⟩
theorem there_r {σ : Sg} {s : Nat} {x : Int32} (hR : RowOK (σ 80) s) (h : ¬ THR (σ 80) s x) : CM mX10_isThere [ar 79, ai x] σ (Ret (nI 0) σ) := isThere_F hR.1 hR.2.1 (fun h1 h2 => h ⟨h1, h2⟩)
set_option maxRecDepth 20000 in
set_option maxHeartbeats 2000000 in
theorem strike_cN {x : Int32} {σ : Sg} (h : x < 0) : CM mX9_strike [ar 0, ai x] σ (Ret (-1000001) σ) := by
  refine CM_in (ls := [some (ar 0), some (ai x), none]) rfl ?_
  refine g_iload_n (p0 := 1) (i := 1) dX9_strike_0 rfl rfl rfl ?_
  first | ((with_reducible refine isN1 ?_); refine g_ifN_lt (tgt := 11) (p1 := 4) dX9_strike_1 rfl (by omega) rfl (fun c_1 => ?_) (fun c_1 => by exfalso; first | omega | contradiction | exact absurd (by assumption) c_1 | (simp_all; done))) | refine g_if_lt (tgt := 11) (p1 := 4) dX9_strike_1 rfl rfl (fun c_1 => ?_) (fun c_1 => by exfalso; first | omega | contradiction | exact absurd (by assumption) c_1 | (simp_all; done))
  refine g_ldc (p0 := 13) dX9_strike_11 qX9_68 rfl ?_
  refine g_ireturn dX9_strike_13 rfl rfl (?_)
  exact ⟨rfl, rfl⟩
set_option maxRecDepth 20000 in
set_option maxHeartbeats 2000000 in
theorem strike_rN {x : Int32} {σ : Sg} (h : x < 0) : CM mX10_strike [ar 79, ai x] σ (Ret (-1000001) σ) := by
  refine CM_in (ls := [some (ar 79), some (ai x)]) rfl ?_
  refine g_iload_n (p0 := 1) (i := 1) dX10_strike_0 rfl rfl rfl ?_
  refine g_iconst (p0 := 2) (v := nI 0) dX10_strike_1 rfl rfl ?_
  refine g_sipush (p0 := 5) (v := nI 9999) dX10_strike_2 (by decide) rfl ?_
  refine g_cS3R (p0 := 8) (r1 := mX10_in) dX10_strike_5 (Or.inl lX10_65) vX10_in (FITi rfl rfl) (Nat.le_of_ble_eq_true rfl) (in_F1 h) rfl ?_
  first | ((with_reducible refine isN1 ?_); refine g_ifN_ne (tgt := 14) (p1 := 11) dX10_strike_8 rfl (by omega) rfl (fun c_8 => by exfalso; first | omega | contradiction | exact absurd (by assumption) c_8 | (simp_all; done)) (fun c_8 => ?_)) | refine g_if_ne (tgt := 14) (p1 := 11) dX10_strike_8 rfl rfl (fun c_8 => by exfalso; first | omega | contradiction | exact absurd (by assumption) c_8 | (simp_all; done)) (fun c_8 => ?_)
  refine g_ldc (p0 := 13) dX10_strike_11 qX10_76 rfl ?_
  refine g_ireturn dX10_strike_13 rfl rfl (?_)
  exact ⟨rfl, rfl⟩
set_option maxRecDepth 20000 in
set_option maxHeartbeats 2000000 in
theorem strike_cB {j : Nat} {σ : Sg} (h : 9999 < j) (hj : j < 2147483648) : CM mX9_strike [ar 0, ai (nI j)] σ (Ret (-1000001) σ) := by
  refine CM_in (ls := [some (ar 0), some (ai (nI j)), none]) rfl ?_
  refine g_iload_n (p0 := 1) (i := 1) dX9_strike_0 rfl rfl rfl ?_
  first | ((with_reducible refine isN1 ?_); refine g_ifN_lt (tgt := 11) (p1 := 4) dX9_strike_1 rfl (by omega) rfl (fun c_1 => by exfalso; first | omega | contradiction | exact absurd (by assumption) c_1 | (simp_all; done)) (fun c_1 => ?_)) | refine g_if_lt (tgt := 11) (p1 := 4) dX9_strike_1 rfl rfl (fun c_1 => by exfalso; first | omega | contradiction | exact absurd (by assumption) c_1 | (simp_all; done)) (fun c_1 => ?_)
  refine g_iload_n (p0 := 5) (i := 1) dX9_strike_4 rfl rfl rfl ?_
  refine g_sipush (p0 := 8) (v := nI 9999) dX9_strike_5 (by decide) rfl ?_
  first | ((with_reducible refine isN2 ?_); refine g_icmpN_le (tgt := 14) (p1 := 11) dX9_strike_8 rfl (by omega) (by omega) rfl (fun c_8 => by exfalso; first | omega | contradiction | exact absurd (by assumption) c_8 | (simp_all; done)) (fun c_8 => ?_)) | refine g_icmp_le (tgt := 14) (p1 := 11) dX9_strike_8 rfl rfl (fun c_8 => by exfalso; first | omega | contradiction | exact absurd (by assumption) c_8 | (simp_all; done)) (fun c_8 => ?_)
  refine g_ldc (p0 := 13) dX9_strike_11 qX9_68 rfl ?_
  refine g_ireturn dX9_strike_13 rfl rfl (?_)
  exact ⟨rfl, rfl⟩
set_option maxRecDepth 20000 in
set_option maxHeartbeats 2000000 in
theorem strike_rB {j : Nat} {σ : Sg} (h : 9999 < j) (hj : j < 2147483648) : CM mX10_strike [ar 79, ai (nI j)] σ (Ret (-1000001) σ) := by
  refine CM_in (ls := [some (ar 79), some (ai (nI j))]) rfl ?_
  refine g_iload_n (p0 := 1) (i := 1) dX10_strike_0 rfl rfl rfl ?_
  refine g_iconst (p0 := 2) (v := nI 0) dX10_strike_1 rfl rfl ?_
  refine g_sipush (p0 := 5) (v := nI 9999) dX10_strike_2 (by decide) rfl ?_
  refine g_cS3R (p0 := 8) (r1 := mX10_in) dX10_strike_5 (Or.inl lX10_65) vX10_in (FITi rfl rfl) (Nat.le_of_ble_eq_true rfl) (in_F2 (fun q => by rw [nI_lt_iff (by omega) (by omega)] at q; omega) ((nI_lt_iff (by omega) (by omega)).mpr (by omega))) rfl ?_
  first | ((with_reducible refine isN1 ?_); refine g_ifN_ne (tgt := 14) (p1 := 11) dX10_strike_8 rfl (by omega) rfl (fun c_8 => by exfalso; first | omega | contradiction | exact absurd (by assumption) c_8 | (simp_all; done)) (fun c_8 => ?_)) | refine g_if_ne (tgt := 14) (p1 := 11) dX10_strike_8 rfl rfl (fun c_8 => by exfalso; first | omega | contradiction | exact absurd (by assumption) c_8 | (simp_all; done)) (fun c_8 => ?_)
  refine g_ldc (p0 := 13) dX10_strike_11 qX10_76 rfl ?_
  refine g_ireturn dX10_strike_13 rfl rfl (?_)
  exact ⟨rfl, rfl⟩
set_option maxRecDepth 20000 in
set_option maxHeartbeats 2000000 in
theorem strike_cT {j : Nat} {σ : Sg} (hj : j ≤ 9999) (h : CM mX8_hasStrokeAt [ar 1, ai (nI j)] σ (Ret (nI 1) σ)) : CM mX9_strike [ar 0, ai (nI j)] σ (Ret (-1000002) σ) := by
  refine CM_in (ls := [some (ar 0), some (ai (nI j)), none]) rfl ?_
  refine g_iload_n (p0 := 1) (i := 1) dX9_strike_0 rfl rfl rfl ?_
  first | ((with_reducible refine isN1 ?_); refine g_ifN_lt (tgt := 11) (p1 := 4) dX9_strike_1 rfl (by omega) rfl (fun c_1 => by exfalso; first | omega | contradiction | exact absurd (by assumption) c_1 | (simp_all; done)) (fun c_1 => ?_)) | refine g_if_lt (tgt := 11) (p1 := 4) dX9_strike_1 rfl rfl (fun c_1 => by exfalso; first | omega | contradiction | exact absurd (by assumption) c_1 | (simp_all; done)) (fun c_1 => ?_)
  refine g_iload_n (p0 := 5) (i := 1) dX9_strike_4 rfl rfl rfl ?_
  refine g_sipush (p0 := 8) (v := nI 9999) dX9_strike_5 (by decide) rfl ?_
  first | ((with_reducible refine isN2 ?_); refine g_icmpN_le (tgt := 14) (p1 := 11) dX9_strike_8 rfl (by omega) (by omega) rfl (fun c_8 => ?_) (fun c_8 => by exfalso; first | omega | contradiction | exact absurd (by assumption) c_8 | (simp_all; done))) | refine g_icmp_le (tgt := 14) (p1 := 11) dX9_strike_8 rfl rfl (fun c_8 => ?_) (fun c_8 => by exfalso; first | omega | contradiction | exact absurd (by assumption) c_8 | (simp_all; done))
  refine g_aload_n (p0 := 15) (i := 0) dX9_strike_14 rfl rfl rfl ?_
  refine g_getR (p0 := 18) dX9_strike_15 fX9_10 (by first | rfl | assumption | exact RW.s (by assumption) | exact TW.s (by assumption)) rfl rfl ?_
  refine g_iload_n (p0 := 19) (i := 1) dX9_strike_18 rfl rfl rfl ?_
  refine g_cV1R (p0 := 22) (r1 := mX8_hasStrokeAt) dX9_strike_19 lX9_97 vX8_hasStrokeAt (by first | rfl | assumption | exact RW.s (by assumption) | exact TW.s (by assumption)) ⟨_, _, rfl⟩ (FITi rfl rfl) (Nat.le_of_ble_eq_true rfl) (h) rfl ?_
  first | ((with_reducible refine isN1 ?_); refine g_ifN_eq (tgt := 28) (p1 := 25) dX9_strike_22 rfl (by omega) rfl (fun c_22 => by exfalso; first | omega | contradiction | exact absurd (by assumption) c_22 | (simp_all; done)) (fun c_22 => ?_)) | refine g_if_eq (tgt := 28) (p1 := 25) dX9_strike_22 rfl rfl (fun c_22 => by exfalso; first | omega | contradiction | exact absurd (by assumption) c_22 | (simp_all; done)) (fun c_22 => ?_)
  refine g_ldc (p0 := 27) dX9_strike_25 qX9_96 rfl ?_
  refine g_ireturn dX9_strike_27 rfl rfl (?_)
  exact ⟨rfl, rfl⟩
set_option maxRecDepth 20000 in
set_option maxHeartbeats 2000000 in
theorem strike_rT {j : Nat} {σ : Sg} (hj : j ≤ 9999) (h : CM mX10_isThere [ar 79, ai (nI j)] σ (Ret (nI 1) σ)) : CM mX10_strike [ar 79, ai (nI j)] σ (Ret (-1000002) σ) := by
  refine CM_in (ls := [some (ar 79), some (ai (nI j))]) rfl ?_
  refine g_iload_n (p0 := 1) (i := 1) dX10_strike_0 rfl rfl rfl ?_
  refine g_iconst (p0 := 2) (v := nI 0) dX10_strike_1 rfl rfl ?_
  refine g_sipush (p0 := 5) (v := nI 9999) dX10_strike_2 (by decide) rfl ?_
  refine g_cS3R (p0 := 8) (r1 := mX10_in) dX10_strike_5 (Or.inl lX10_65) vX10_in (FITi rfl rfl) (Nat.le_of_ble_eq_true rfl) (in_T (fun q => by rw [nI_lt_iff (by omega) (by omega)] at q; omega) (fun q => by rw [nI_lt_iff (by omega) (by omega)] at q; omega)) rfl ?_
  first | ((with_reducible refine isN1 ?_); refine g_ifN_ne (tgt := 14) (p1 := 11) dX10_strike_8 rfl (by omega) rfl (fun c_8 => ?_) (fun c_8 => by exfalso; first | omega | contradiction | exact absurd (by assumption) c_8 | (simp_all; done))) | refine g_if_ne (tgt := 14) (p1 := 11) dX10_strike_8 rfl rfl (fun c_8 => ?_) (fun c_8 => by exfalso; first | omega | contradiction | exact absurd (by assumption) c_8 | (simp_all; done))
  refine g_aload_n (p0 := 15) (i := 0) dX10_strike_14 rfl rfl rfl ?_
  refine g_iload_n (p0 := 16) (i := 1) dX10_strike_15 rfl rfl rfl ?_
  refine g_cV1R (p0 := 19) (r1 := mX10_isThere) dX10_strike_16 lX10_103 vX10_isThere (by first | rfl | assumption | exact RW.s (by assumption) | exact TW.s (by assumption)) ⟨_, _, rfl⟩ (FITi rfl rfl) (Nat.le_of_ble_eq_true rfl) (h) rfl ?_
  first | ((with_reducible refine isN1 ?_); refine g_ifN_eq (tgt := 25) (p1 := 22) dX10_strike_19 rfl (by omega) rfl (fun c_19 => by exfalso; first | omega | contradiction | exact absurd (by assumption) c_19 | (simp_all; done)) (fun c_19 => ?_)) | refine g_if_eq (tgt := 25) (p1 := 22) dX10_strike_19 rfl rfl (fun c_19 => by exfalso; first | omega | contradiction | exact absurd (by assumption) c_19 | (simp_all; done)) (fun c_19 => ?_)
  refine g_ldc (p0 := 24) dX10_strike_22 qX10_102 rfl ?_
  refine g_ireturn dX10_strike_24 rfl rfl (?_)
  exact ⟨rfl, rfl⟩
set_option maxRecDepth 20000 in
set_option maxHeartbeats 2000000 in
theorem strike_cU {j : Nat} {σ : Sg} (hj : j ≤ 9999) (h : CM mX8_hasStrokeAt [ar 1, ai (nI j)] σ (Ret (nI 0) σ)) (h2 : σ 1 2 = nI 160) : CM mX9_strike [ar 0, ai (nI j)] σ (Ret (-1000003) σ) := by
  refine CM_in (ls := [some (ar 0), some (ai (nI j)), none]) rfl ?_
  refine g_iload_n (p0 := 1) (i := 1) dX9_strike_0 rfl rfl rfl ?_
  first | ((with_reducible refine isN1 ?_); refine g_ifN_lt (tgt := 11) (p1 := 4) dX9_strike_1 rfl (by omega) rfl (fun c_1 => by exfalso; first | omega | contradiction | exact absurd (by assumption) c_1 | (simp_all; done)) (fun c_1 => ?_)) | refine g_if_lt (tgt := 11) (p1 := 4) dX9_strike_1 rfl rfl (fun c_1 => by exfalso; first | omega | contradiction | exact absurd (by assumption) c_1 | (simp_all; done)) (fun c_1 => ?_)
  refine g_iload_n (p0 := 5) (i := 1) dX9_strike_4 rfl rfl rfl ?_
  refine g_sipush (p0 := 8) (v := nI 9999) dX9_strike_5 (by decide) rfl ?_
  first | ((with_reducible refine isN2 ?_); refine g_icmpN_le (tgt := 14) (p1 := 11) dX9_strike_8 rfl (by omega) (by omega) rfl (fun c_8 => ?_) (fun c_8 => by exfalso; first | omega | contradiction | exact absurd (by assumption) c_8 | (simp_all; done))) | refine g_icmp_le (tgt := 14) (p1 := 11) dX9_strike_8 rfl rfl (fun c_8 => ?_) (fun c_8 => by exfalso; first | omega | contradiction | exact absurd (by assumption) c_8 | (simp_all; done))
  refine g_aload_n (p0 := 15) (i := 0) dX9_strike_14 rfl rfl rfl ?_
  refine g_getR (p0 := 18) dX9_strike_15 fX9_10 (by first | rfl | assumption | exact RW.s (by assumption) | exact TW.s (by assumption)) rfl rfl ?_
  refine g_iload_n (p0 := 19) (i := 1) dX9_strike_18 rfl rfl rfl ?_
  refine g_cV1R (p0 := 22) (r1 := mX8_hasStrokeAt) dX9_strike_19 lX9_97 vX8_hasStrokeAt (by first | rfl | assumption | exact RW.s (by assumption) | exact TW.s (by assumption)) ⟨_, _, rfl⟩ (FITi rfl rfl) (Nat.le_of_ble_eq_true rfl) (h) rfl ?_
  first | ((with_reducible refine isN1 ?_); refine g_ifN_eq (tgt := 28) (p1 := 25) dX9_strike_22 rfl (by omega) rfl (fun c_22 => ?_) (fun c_22 => by exfalso; first | omega | contradiction | exact absurd (by assumption) c_22 | (simp_all; done))) | refine g_if_eq (tgt := 28) (p1 := 25) dX9_strike_22 rfl rfl (fun c_22 => ?_) (fun c_22 => by exfalso; first | omega | contradiction | exact absurd (by assumption) c_22 | (simp_all; done))
  refine g_aload_n (p0 := 29) (i := 0) dX9_strike_28 rfl rfl rfl ?_
  refine g_getR (p0 := 32) dX9_strike_29 fX9_10 (by first | rfl | assumption | exact RW.s (by assumption) | exact TW.s (by assumption)) rfl rfl ?_
  refine g_cV0R (p0 := 35) (r1 := mX8_isFull) dX9_strike_32 lX9_100 vX8_isFull (by first | rfl | assumption | exact RW.s (by assumption) | exact TW.s (by assumption)) ⟨_, _, rfl⟩ (FITi rfl rfl) (Nat.le_of_ble_eq_true rfl) (isFull_T TW1 h2) rfl ?_
  first | ((with_reducible refine isN1 ?_); refine g_ifN_eq (tgt := 41) (p1 := 38) dX9_strike_35 rfl (by omega) rfl (fun c_35 => by exfalso; first | omega | contradiction | exact absurd (by assumption) c_35 | (simp_all; done)) (fun c_35 => ?_)) | refine g_if_eq (tgt := 41) (p1 := 38) dX9_strike_35 rfl rfl (fun c_35 => by exfalso; first | omega | contradiction | exact absurd (by assumption) c_35 | (simp_all; done)) (fun c_35 => ?_)
  refine g_ldc (p0 := 40) dX9_strike_38 qX9_84 rfl ?_
  refine g_ireturn dX9_strike_40 rfl rfl (?_)
  exact ⟨rfl, rfl⟩
set_option maxRecDepth 20000 in
set_option maxHeartbeats 2000000 in
theorem strike_rU {j : Nat} {σ : Sg} (hj : j ≤ 9999) (h : CM mX10_isThere [ar 79, ai (nI j)] σ (Ret (nI 0) σ)) (h2 : σ 80 3 = nI 160) : CM mX10_strike [ar 79, ai (nI j)] σ (Ret (-1000003) σ) := by
  refine CM_in (ls := [some (ar 79), some (ai (nI j))]) rfl ?_
  refine g_iload_n (p0 := 1) (i := 1) dX10_strike_0 rfl rfl rfl ?_
  refine g_iconst (p0 := 2) (v := nI 0) dX10_strike_1 rfl rfl ?_
  refine g_sipush (p0 := 5) (v := nI 9999) dX10_strike_2 (by decide) rfl ?_
  refine g_cS3R (p0 := 8) (r1 := mX10_in) dX10_strike_5 (Or.inl lX10_65) vX10_in (FITi rfl rfl) (Nat.le_of_ble_eq_true rfl) (in_T (fun q => by rw [nI_lt_iff (by omega) (by omega)] at q; omega) (fun q => by rw [nI_lt_iff (by omega) (by omega)] at q; omega)) rfl ?_
  first | ((with_reducible refine isN1 ?_); refine g_ifN_ne (tgt := 14) (p1 := 11) dX10_strike_8 rfl (by omega) rfl (fun c_8 => ?_) (fun c_8 => by exfalso; first | omega | contradiction | exact absurd (by assumption) c_8 | (simp_all; done))) | refine g_if_ne (tgt := 14) (p1 := 11) dX10_strike_8 rfl rfl (fun c_8 => ?_) (fun c_8 => by exfalso; first | omega | contradiction | exact absurd (by assumption) c_8 | (simp_all; done))
  refine g_aload_n (p0 := 15) (i := 0) dX10_strike_14 rfl rfl rfl ?_
  refine g_iload_n (p0 := 16) (i := 1) dX10_strike_15 rfl rfl rfl ?_
  refine g_cV1R (p0 := 19) (r1 := mX10_isThere) dX10_strike_16 lX10_103 vX10_isThere (by first | rfl | assumption | exact RW.s (by assumption) | exact TW.s (by assumption)) ⟨_, _, rfl⟩ (FITi rfl rfl) (Nat.le_of_ble_eq_true rfl) (h) rfl ?_
  first | ((with_reducible refine isN1 ?_); refine g_ifN_eq (tgt := 25) (p1 := 22) dX10_strike_19 rfl (by omega) rfl (fun c_19 => ?_) (fun c_19 => by exfalso; first | omega | contradiction | exact absurd (by assumption) c_19 | (simp_all; done))) | refine g_if_eq (tgt := 25) (p1 := 22) dX10_strike_19 rfl rfl (fun c_19 => ?_) (fun c_19 => by exfalso; first | omega | contradiction | exact absurd (by assumption) c_19 | (simp_all; done))
  refine g_aload_n (p0 := 26) (i := 0) dX10_strike_25 rfl rfl rfl ?_
  refine g_getR (p0 := 29) dX10_strike_26 fX10_7 (by first | rfl | assumption | exact RW.s (by assumption) | exact TW.s (by assumption)) rfl rfl ?_
  refine g_iconst (p0 := 30) (v := nI 3) dX10_strike_29 rfl rfl ?_
  first | ((with_reducible refine isN1 ?_); refine g_aldN (p0 := 31) dX10_strike_30 (by first | rfl | assumption | exact RW.s (by assumption) | exact TW.s (by assumption)) (by first | decide | assumption) (by omega) (by first | assumption | ((repeat (first | exact up_hit | refine up_nv (by decide) ?_ | refine up_mv (by first | decide | omega) ?_)) <;> first | assumption | rfl)) rfl ?_) | refine g_ald (p0 := 31) dX10_strike_30 (by first | rfl | assumption | exact RW.s (by assumption) | exact TW.s (by assumption)) (by assumption) (by first | assumption | ((repeat (first | exact up_hit | refine up_nv (by decide) ?_ | refine up_mv (by first | decide | omega) ?_)) <;> first | assumption | rfl)) rfl ?_
  refine g_sipush (p0 := 34) (v := nI 160) dX10_strike_31 (by decide) rfl ?_
  first | ((with_reducible refine isN2 ?_); refine g_icmpN_ne (tgt := 40) (p1 := 37) dX10_strike_34 rfl (by omega) (by omega) rfl (fun c_34 => by exfalso; first | omega | contradiction | exact absurd (by assumption) c_34 | (simp_all; done)) (fun c_34 => ?_)) | refine g_icmp_ne (tgt := 40) (p1 := 37) dX10_strike_34 rfl rfl (fun c_34 => by exfalso; first | omega | contradiction | exact absurd (by assumption) c_34 | (simp_all; done)) (fun c_34 => ?_)
  refine g_ldc (p0 := 39) dX10_strike_37 qX10_97 rfl ?_
  refine g_ireturn dX10_strike_39 rfl rfl (?_)
  exact ⟨rfl, rfl⟩
set_option maxRecDepth 20000 in
set_option maxHeartbeats 2000000 in
theorem strike_c {s n : Nat} {H : Nat → (Nat → Int32) × Nat} {σ : Sg} (hR : RowOK (σ 80) s) (hRep : Rep σ 1 (σ 80) s) (hHC : HC σ n H) (h65 : σ 65 0 = nI 0) {j : Nat} (hj : j ≤ 9999) (hs : s < 160) (h : CM mX8_hasStrokeAt [ar 1, ai (nI j)] σ (Ret (nI 0) σ)) : CM mX9_strike [ar 0, ai (nI j)] σ (CPost σ n H s (INS (σ 80) s (nI j)) (s + 1) (nI (ah (tm (σ 80)) s (nI j)))) := by
  refine CM_in (ls := [some (ar 0), some (ai (nI j)), none]) rfl ?_
  refine g_iload_n (p0 := 1) (i := 1) dX9_strike_0 rfl rfl rfl ?_
  first | ((with_reducible refine isN1 ?_); refine g_ifN_lt (tgt := 11) (p1 := 4) dX9_strike_1 rfl (by omega) rfl (fun c_1 => by exfalso; first | omega | contradiction | exact absurd (by assumption) c_1 | (simp_all; done)) (fun c_1 => ?_)) | refine g_if_lt (tgt := 11) (p1 := 4) dX9_strike_1 rfl rfl (fun c_1 => by exfalso; first | omega | contradiction | exact absurd (by assumption) c_1 | (simp_all; done)) (fun c_1 => ?_)
  refine g_iload_n (p0 := 5) (i := 1) dX9_strike_4 rfl rfl rfl ?_
  refine g_sipush (p0 := 8) (v := nI 9999) dX9_strike_5 (by decide) rfl ?_
  first | ((with_reducible refine isN2 ?_); refine g_icmpN_le (tgt := 14) (p1 := 11) dX9_strike_8 rfl (by omega) (by omega) rfl (fun c_8 => ?_) (fun c_8 => by exfalso; first | omega | contradiction | exact absurd (by assumption) c_8 | (simp_all; done))) | refine g_icmp_le (tgt := 14) (p1 := 11) dX9_strike_8 rfl rfl (fun c_8 => ?_) (fun c_8 => by exfalso; first | omega | contradiction | exact absurd (by assumption) c_8 | (simp_all; done))
  refine g_aload_n (p0 := 15) (i := 0) dX9_strike_14 rfl rfl rfl ?_
  refine g_getR (p0 := 18) dX9_strike_15 fX9_10 (by first | rfl | assumption | exact RW.s (by assumption) | exact TW.s (by assumption)) rfl rfl ?_
  refine g_iload_n (p0 := 19) (i := 1) dX9_strike_18 rfl rfl rfl ?_
  refine g_cV1R (p0 := 22) (r1 := mX8_hasStrokeAt) dX9_strike_19 lX9_97 vX8_hasStrokeAt (by first | rfl | assumption | exact RW.s (by assumption) | exact TW.s (by assumption)) ⟨_, _, rfl⟩ (FITi rfl rfl) (Nat.le_of_ble_eq_true rfl) (h) rfl ?_
  first | ((with_reducible refine isN1 ?_); refine g_ifN_eq (tgt := 28) (p1 := 25) dX9_strike_22 rfl (by omega) rfl (fun c_22 => ?_) (fun c_22 => by exfalso; first | omega | contradiction | exact absurd (by assumption) c_22 | (simp_all; done))) | refine g_if_eq (tgt := 28) (p1 := 25) dX9_strike_22 rfl rfl (fun c_22 => ?_) (fun c_22 => by exfalso; first | omega | contradiction | exact absurd (by assumption) c_22 | (simp_all; done))
  refine g_aload_n (p0 := 29) (i := 0) dX9_strike_28 rfl rfl rfl ?_
  refine g_getR (p0 := 32) dX9_strike_29 fX9_10 (by first | rfl | assumption | exact RW.s (by assumption) | exact TW.s (by assumption)) rfl rfl ?_
  refine g_cV0R (p0 := 35) (r1 := mX8_isFull) dX9_strike_32 lX9_100 vX8_isFull (by first | rfl | assumption | exact RW.s (by assumption) | exact TW.s (by assumption)) ⟨_, _, rfl⟩ (FITi rfl rfl) (Nat.le_of_ble_eq_true rfl) (isFull_F TW1 hRep.1 hs) rfl ?_
  first | ((with_reducible refine isN1 ?_); refine g_ifN_eq (tgt := 41) (p1 := 38) dX9_strike_35 rfl (by omega) rfl (fun c_35 => ?_) (fun c_35 => by exfalso; first | omega | contradiction | exact absurd (by assumption) c_35 | (simp_all; done))) | refine g_if_eq (tgt := 41) (p1 := 38) dX9_strike_35 rfl rfl (fun c_35 => ?_) (fun c_35 => by exfalso; first | omega | contradiction | exact absurd (by assumption) c_35 | (simp_all; done))
  refine g_aload_n (p0 := 42) (i := 0) dX9_strike_41 rfl rfl rfl ?_
  refine g_getR (p0 := 45) dX9_strike_42 fX9_22 (by first | rfl | assumption | exact RW.s (by assumption) | exact TW.s (by assumption)) rfl rfl ?_
  refine g_aload_n (p0 := 46) (i := 0) dX9_strike_45 rfl rfl rfl ?_
  refine g_getR (p0 := 49) dX9_strike_46 fX9_10 (by first | rfl | assumption | exact RW.s (by assumption) | exact TW.s (by assumption)) rfl rfl ?_
  refine g_cV1P (p0 := 52) (r1 := mX2_record) dX9_strike_49 lX9_58 vX2_record (by first | rfl | assumption | exact RW.s (by assumption) | exact TW.s (by assumption)) ⟨_, _, rfl⟩ (FITi rfl rfl) (Nat.le_of_ble_eq_true rfl) (record_rel hHC hR hRep) rfl ?_
  rintro σ1 ⟨fr1, hHC1⟩
  have hRep1 : Rep σ1 1 (σ 80) s := hRep.of_eq (fr1 _ (by decide) (by decide)) (fr1 _ (by decide) (by decide)) (fr1 _ (by decide) (by decide))
  have b6 : ∀ q, q < s → σ1 3 q = tm (σ 80) q := hRep1.2.2.2.2.2
  have ea : ah (σ1 3) s (nI j) = ah (tm (σ 80)) s (nI j) := ah_congr b6
  have had : CM mX8_addStroke [ar 1, ai (nI j)] σ1 (Ret (nI (ah (tm (σ 80)) s (nI j))) (insS σ1 s (nI j))) := by
    rw [← ea]
    exact addStroke_sp TW1 hRep1.1 hs
  have h652 : (insS σ1 s (nI j)) 65 0 = nI 0 := by rw [insS_ne (by decide) (by decide), fr1 _ (by decide) (by decide)]; exact h65
  refine g_aload_n (p0 := 53) (i := 0) dX9_strike_52 rfl rfl rfl ?_
  refine g_getR (p0 := 56) dX9_strike_53 fX9_10 (by first | rfl | assumption | exact RW.s (by assumption) | exact TW.s (by assumption)) rfl rfl ?_
  refine g_iload_n (p0 := 57) (i := 1) dX9_strike_56 rfl rfl rfl ?_
  refine g_cV1R (p0 := 60) (r1 := mX8_addStroke) dX9_strike_57 lX9_104 vX8_addStroke (by first | rfl | assumption | exact RW.s (by assumption) | exact TW.s (by assumption)) ⟨_, _, rfl⟩ (FITi rfl rfl) (Nat.le_of_ble_eq_true rfl) (had) rfl ?_
  refine g_istore_n (p0 := 61) (i := 2) (ls2 := [_, _, _]) dX9_strike_60 rfl (Nat.le_of_ble_eq_true rfl) rfl rfl ?_
  refine g_aload_n (p0 := 62) (i := 0) dX9_strike_61 rfl rfl rfl ?_
  refine g_getR (p0 := 65) dX9_strike_62 fX9_29 (by first | rfl | assumption | exact RW.s (by assumption) | exact TW.s (by assumption)) rfl rfl ?_
  refine g_aload_n (p0 := 66) (i := 0) dX9_strike_65 rfl rfl rfl ?_
  refine g_getR (p0 := 69) dX9_strike_66 fX9_10 (by first | rfl | assumption | exact RW.s (by assumption) | exact TW.s (by assumption)) rfl rfl ?_
  refine g_cV1P (p0 := 72) (r1 := mX6_refresh) dX9_strike_69 lX9_62 vX6_refresh (by first | rfl | assumption | exact RW.s (by assumption) | exact TW.s (by assumption)) ⟨_, _, rfl⟩ (FITi rfl rfl) (Nat.le_of_ble_eq_true rfl) (refresh_sp (Rep_ins hRep1) (RowOK_ins hR hs ⟨j, hj, rfl⟩) h652) rfl ?_
  rintro σ2 ⟨hRD2, fr2⟩
  refine g_iload_n (p0 := 73) (i := 2) dX9_strike_72 rfl rfl rfl ?_
  refine g_ireturn dX9_strike_73 rfl rfl (?_)
  exact cchg fr1 hHC1 (fun z hz => insS_ne (by omega) (by omega)) (Rep_ins hRep1) hRD2 fr2
set_option maxRecDepth 20000 in
set_option maxHeartbeats 2000000 in
theorem strike_r {s n : Nat} {H : Nat → (Nat → Int32) × Nat} {σ σ3 : Sg} (hR : RowOK (σ 80) s) (hHR : HRf σ n H) (hn : n ≤ 4) (e : ∀ z, 72 ≤ z → σ3 z = σ z) {j : Nat} (hj : j ≤ 9999) (hs : s < 160) (h : ¬ THR (σ 80) s (nI j)) : CM mX10_strike [ar 79, ai (nI j)] σ3 (RPost σ σ3 n H s (INS (σ 80) s (nI j)) (nI (ah (tm (σ 80)) s (nI j)))) := by
  have hHR3 : HRf σ3 n H := hHR.of (by rw [e 79 (by decide)]) (e 81 (by decide))
  have hx : ∀ q, q < 189 → σ3 80 q = ((σ 80, s) : (Nat → Int32) × Nat).1 q := fun q _ => by rw [e 80 (by decide)]
  have e380 : σ3 80 = σ 80 := e 80 (by decide)
  have hs3 : σ3 80 3 = nI s := by rw [e380]; exact hR.1
  refine CM_in (ls := [some (ar 79), some (ai (nI j))]) rfl ?_
  refine g_iload_n (p0 := 1) (i := 1) dX10_strike_0 rfl rfl rfl ?_
  refine g_iconst (p0 := 2) (v := nI 0) dX10_strike_1 rfl rfl ?_
  refine g_sipush (p0 := 5) (v := nI 9999) dX10_strike_2 (by decide) rfl ?_
  refine g_cS3R (p0 := 8) (r1 := mX10_in) dX10_strike_5 (Or.inl lX10_65) vX10_in (FITi rfl rfl) (Nat.le_of_ble_eq_true rfl) (in_T (fun q => by rw [nI_lt_iff (by omega) (by omega)] at q; omega) (fun q => by rw [nI_lt_iff (by omega) (by omega)] at q; omega)) rfl ?_
  first | ((with_reducible refine isN1 ?_); refine g_ifN_ne (tgt := 14) (p1 := 11) dX10_strike_8 rfl (by omega) rfl (fun c_8 => ?_) (fun c_8 => by exfalso; first | omega | contradiction | exact absurd (by assumption) c_8 | (simp_all; done))) | refine g_if_ne (tgt := 14) (p1 := 11) dX10_strike_8 rfl rfl (fun c_8 => ?_) (fun c_8 => by exfalso; first | omega | contradiction | exact absurd (by assumption) c_8 | (simp_all; done))
  refine g_aload_n (p0 := 15) (i := 0) dX10_strike_14 rfl rfl rfl ?_
  refine g_iload_n (p0 := 16) (i := 1) dX10_strike_15 rfl rfl rfl ?_
  refine g_cV1R (p0 := 19) (r1 := mX10_isThere) dX10_strike_16 lX10_103 vX10_isThere (by first | rfl | assumption | exact RW.s (by assumption) | exact TW.s (by assumption)) ⟨_, _, rfl⟩ (FITi rfl rfl) (Nat.le_of_ble_eq_true rfl) (there_r (s := s) (by rw [e380]; exact hR) (by rw [e380]; exact h)) rfl ?_
  first | ((with_reducible refine isN1 ?_); refine g_ifN_eq (tgt := 25) (p1 := 22) dX10_strike_19 rfl (by omega) rfl (fun c_19 => ?_) (fun c_19 => by exfalso; first | omega | contradiction | exact absurd (by assumption) c_19 | (simp_all; done))) | refine g_if_eq (tgt := 25) (p1 := 22) dX10_strike_19 rfl rfl (fun c_19 => ?_) (fun c_19 => by exfalso; first | omega | contradiction | exact absurd (by assumption) c_19 | (simp_all; done))
  refine g_aload_n (p0 := 26) (i := 0) dX10_strike_25 rfl rfl rfl ?_
  refine g_getR (p0 := 29) dX10_strike_26 fX10_7 (by first | rfl | assumption | exact RW.s (by assumption) | exact TW.s (by assumption)) rfl rfl ?_
  refine g_iconst (p0 := 30) (v := nI 3) dX10_strike_29 rfl rfl ?_
  first | ((with_reducible refine isN1 ?_); refine g_aldN (p0 := 31) dX10_strike_30 (by first | rfl | assumption | exact RW.s (by assumption) | exact TW.s (by assumption)) (by first | decide | assumption) (by omega) (by first | assumption | ((repeat (first | exact up_hit | refine up_nv (by decide) ?_ | refine up_mv (by first | decide | omega) ?_)) <;> first | assumption | rfl)) rfl ?_) | refine g_ald (p0 := 31) dX10_strike_30 (by first | rfl | assumption | exact RW.s (by assumption) | exact TW.s (by assumption)) (by assumption) (by first | assumption | ((repeat (first | exact up_hit | refine up_nv (by decide) ?_ | refine up_mv (by first | decide | omega) ?_)) <;> first | assumption | rfl)) rfl ?_
  refine g_sipush (p0 := 34) (v := nI 160) dX10_strike_31 (by decide) rfl ?_
  first | ((with_reducible refine isN2 ?_); refine g_icmpN_ne (tgt := 40) (p1 := 37) dX10_strike_34 rfl (by omega) (by omega) rfl (fun c_34 => ?_) (fun c_34 => by exfalso; first | omega | contradiction | exact absurd (by assumption) c_34 | (simp_all; done))) | refine g_icmp_ne (tgt := 40) (p1 := 37) dX10_strike_34 rfl rfl (fun c_34 => ?_) (fun c_34 => by exfalso; first | omega | contradiction | exact absurd (by assumption) c_34 | (simp_all; done))
  refine g_aload_n (p0 := 41) (i := 0) dX10_strike_40 rfl rfl rfl ?_
  refine g_cV0P (p0 := 44) (r1 := mX10_changes) dX10_strike_41 lX10_77 vX10_changes (by first | rfl | assumption | exact RW.s (by assumption) | exact TW.s (by assumption)) ⟨_, _, rfl⟩ (FITi rfl rfl) (Nat.le_of_ble_eq_true rfl) (changes_rel (σ 80, s) hHR3 hn hx) rfl ?_
  rintro σ4 ⟨hH4, fr4, fr79⟩
  have e480 : σ4 80 = σ 80 := by rw [fr4 80 (by decide) (by decide)]; exact e380
  have hs4 : σ4 80 3 = nI s := by rw [e480]; exact hR.1
  have hpu := puts_sp (x := nI j) hs4 hs
  rw [e480] at hpu
  refine g_aload_n (p0 := 45) (i := 0) dX10_strike_44 rfl rfl rfl ?_
  refine g_iload_n (p0 := 46) (i := 1) dX10_strike_45 rfl rfl rfl ?_
  refine g_cV1R (p0 := 49) (r1 := mX10_puts) dX10_strike_46 lX10_106 vX10_puts (by first | rfl | assumption | exact RW.s (by assumption) | exact TW.s (by assumption)) ⟨_, _, rfl⟩ (FITi rfl rfl) (Nat.le_of_ble_eq_true rfl) (hpu) rfl ?_
  refine g_ireturn dX10_strike_49 rfl rfl (?_)
  exact rchg hH4 fr4 fr79 (fun z hz => setR_ne hz) (by rw [setR_hit]; rfl)
theorem op_strike (x0 : Int32) : OpOK Inv mX9_strike mX10_strike [ai x0] := by
  intro σ hI
  obtain ⟨s, n, H, len, hR, hRep, hHC, hHR, hRD, hT⟩ := id hI
  have hs1 := hR.2.1
  rcases i32c x0 with h | ⟨j, hj, rfl⟩
  · exact op_same hI (strike_cN h) (strike_rN h)
  · by_cases hb : 9999 < j
    · exact op_same hI (strike_cB hb hj) (strike_rB hb hj)
    · rcases there_c hR hRep (nI j) with ⟨h1, h2⟩ | ⟨h1, h2⟩
      · exact op_same hI (strike_cT (by omega) h1) (strike_rT (by omega) h2)
      · by_cases hs : s = 160
        · subst hs
          exact op_same hI (strike_cU (by omega) h2 hRep.1) (strike_rU (by omega) (there_r hR h1) hR.1)
        · exact op_change hT (RowOK_ins hR (by omega) ⟨j, by omega, rfl⟩) (strike_c hR hRep hHC hRD.2.2.2.2.2.2 (by omega) (by omega) h2) (fun σ3 e => strike_r hR hHR (HC_le hHC) e (by omega) (by omega) h1)
