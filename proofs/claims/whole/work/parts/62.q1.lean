/-! QUESTIONS: strokeOf -/
theorem Inv_FRl {σ σ' : Sg} (hI : Inv σ) (h : FRl σ σ') : Inv σ' := by
  obtain ⟨s, n, H, len, hR, hRep, hHC, hHR, hRD, t1, t2, t3, t4⟩ := hI
  have e : ∀ z, z ≠ 79 → z < 84 → σ' z = σ z := fun z h1 h2 => h.1 z h1 (Or.inl h2)
  have e80 := e 80 (by decide) (by decide)
  refine ⟨s, n, H, len, by rw [e80]; exact hR, ?_, hHC.of (fun z h1 h2 => e z (by omega) (by omega)), hHR.of (h.2 3 (by decide) (by decide)) (e _ (by decide) (by decide)), ?_, by rw [e _ (by decide) (by decide)]; exact t1, (h.2 5 (by decide) (by decide)).trans t2, t3, fun i hi => ?_⟩
  · rw [e80]; exact hRep.of_eq (e _ (by decide) (by decide)) (e _ (by decide) (by decide)) (e _ (by decide) (by decide))
  · rw [e80]; exact hRD.of (fun z h1 h2 => e z (by omega) (by omega))
  · rw [e 78 (by decide) (by decide), e 83 (by decide) (by decide)]; exact t4 i hi
def RQ (σ : Sg) (v : Int32) : SP := fun w σ' => w = some (ai v) ∧ FRl σ σ'
theorem op_read {r1 r2 : MR} {As : List AV} {v : Int32} {σ : Sg} (hI : Inv σ) (h1 : CM r1 (ar 0 :: As) σ (Ret v σ)) (h2 : CM r2 (ar 79 :: As) σ (RQ σ v)) : CM r1 (ar 0 :: As) σ (OP r2 As) := by
  refine CM.mono h1 ?_
  rintro w σ1 ⟨rfl, rfl⟩
  refine ⟨v, rfl, CM.mono h2 ?_⟩
  rintro w2 σ2 ⟨rfl, hf⟩
  exact ⟨rfl, Inv_FRl hI hf⟩
set_option maxRecDepth 20000 in
set_option maxHeartbeats 2000000 in
theorem gapDetail_1 {p : Nat} {v : Int32} {σ : Sg} (hp : p < 160) (hv : σ 61 p = v) : CM mX6_gapDetail [ar 33, ai (nI p), ai (nI 1)] σ (Ret v σ) := by
  refine CM_in (ls := [some (ar 33), some (ai (nI p)), some (ai (nI 1))]) rfl ?_
  refine g_iload_n (p0 := 1) (i := 2) dX6_gapDetail_0 rfl rfl rfl ?_
  refine g_look (tgt := 28) (off := 27) dX6_gapDetail_1 (by decide +kernel) (by decide +kernel) rfl ?_
  refine g_aload_n (p0 := 29) (i := 0) dX6_gapDetail_28 rfl rfl rfl ?_
  refine g_getR (p0 := 32) dX6_gapDetail_29 fX6_30 (by first | rfl | assumption | exact RW.s (by assumption) | exact TW.s (by assumption)) rfl rfl ?_
  refine g_iload_n (p0 := 33) (i := 1) dX6_gapDetail_32 rfl rfl rfl ?_
  refine g_cV1R (p0 := 36) (r1 := mX7_at) dX6_gapDetail_33 lX6_68 vX7_at (by first | rfl | assumption | exact RW.s (by assumption) | exact TW.s (by assumption)) ⟨_, _, rfl⟩ (FITi rfl rfl) (Nat.le_of_ble_eq_true rfl) (at_N (by first | exact ⟨rfl, rfl, by decide⟩ | assumption) hp hv) rfl ?_
  refine g_ireturn dX6_gapDetail_36 rfl rfl (?_)
  exact ⟨rfl, rfl⟩
set_option maxRecDepth 20000 in
set_option maxHeartbeats 2000000 in
theorem gapDetail_2 {p : Nat} {v : Int32} {σ : Sg} (hp : p < 160) (hv : σ 63 p = v) : CM mX6_gapDetail [ar 33, ai (nI p), ai (nI 2)] σ (Ret v σ) := by
  refine CM_in (ls := [some (ar 33), some (ai (nI p)), some (ai (nI 2))]) rfl ?_
  refine g_iload_n (p0 := 1) (i := 2) dX6_gapDetail_0 rfl rfl rfl ?_
  refine g_look (tgt := 37) (off := 36) dX6_gapDetail_1 (by decide +kernel) (by decide +kernel) rfl ?_
  refine g_aload_n (p0 := 38) (i := 0) dX6_gapDetail_37 rfl rfl rfl ?_
  refine g_getR (p0 := 41) dX6_gapDetail_38 fX6_34 (by first | rfl | assumption | exact RW.s (by assumption) | exact TW.s (by assumption)) rfl rfl ?_
  refine g_iload_n (p0 := 42) (i := 1) dX6_gapDetail_41 rfl rfl rfl ?_
  refine g_cV1R (p0 := 45) (r1 := mX7_at) dX6_gapDetail_42 lX6_68 vX7_at (by first | rfl | assumption | exact RW.s (by assumption) | exact TW.s (by assumption)) ⟨_, _, rfl⟩ (FITi rfl rfl) (Nat.le_of_ble_eq_true rfl) (at_N (by first | exact ⟨rfl, rfl, by decide⟩ | assumption) hp hv) rfl ?_
  refine g_ireturn dX6_gapDetail_45 rfl rfl (?_)
  exact ⟨rfl, rfl⟩
set_option maxRecDepth 20000 in
set_option maxHeartbeats 2000000 in
theorem gapDetail_3 {p : Nat} {v : Int32} {σ : Sg} (hp : p < 160) (hv : σ 65 p = v) : CM mX6_gapDetail [ar 33, ai (nI p), ai (nI 3)] σ (Ret v σ) := by
  refine CM_in (ls := [some (ar 33), some (ai (nI p)), some (ai (nI 3))]) rfl ?_
  refine g_iload_n (p0 := 1) (i := 2) dX6_gapDetail_0 rfl rfl rfl ?_
  refine g_look (tgt := 46) (off := 45) dX6_gapDetail_1 (by decide +kernel) (by decide +kernel) rfl ?_
  refine g_aload_n (p0 := 47) (i := 0) dX6_gapDetail_46 rfl rfl rfl ?_
  refine g_getR (p0 := 50) dX6_gapDetail_47 fX6_37 (by first | rfl | assumption | exact RW.s (by assumption) | exact TW.s (by assumption)) rfl rfl ?_
  refine g_iload_n (p0 := 51) (i := 1) dX6_gapDetail_50 rfl rfl rfl ?_
  refine g_cV1R (p0 := 54) (r1 := mX7_at) dX6_gapDetail_51 lX6_68 vX7_at (by first | rfl | assumption | exact RW.s (by assumption) | exact TW.s (by assumption)) ⟨_, _, rfl⟩ (FITi rfl rfl) (Nat.le_of_ble_eq_true rfl) (at_N (by first | exact ⟨rfl, rfl, by decide⟩ | assumption) hp hv) rfl ?_
  refine g_ireturn dX6_gapDetail_54 rfl rfl (?_)
  exact ⟨rfl, rfl⟩
set_option maxRecDepth 20000 in
set_option maxHeartbeats 2000000 in
theorem placeDetail_4 {p : Nat} {v : Int32} {σ : Sg} (hp : p < 160) (hv : σ 67 p = v) : CM mX6_placeDetail [ar 33, ai (nI p), ai (nI 4)] σ (Ret v σ) := by
  refine CM_in (ls := [some (ar 33), some (ai (nI p)), some (ai (nI 4))]) rfl ?_
  refine g_iload_n (p0 := 1) (i := 2) dX6_placeDetail_0 rfl rfl rfl ?_
  refine g_look (tgt := 28) (off := 27) dX6_placeDetail_1 (by decide +kernel) (by decide +kernel) rfl ?_
  refine g_aload_n (p0 := 29) (i := 0) dX6_placeDetail_28 rfl rfl rfl ?_
  refine g_getR (p0 := 32) dX6_placeDetail_29 fX6_40 (by first | rfl | assumption | exact RW.s (by assumption) | exact TW.s (by assumption)) rfl rfl ?_
  refine g_iload_n (p0 := 33) (i := 1) dX6_placeDetail_32 rfl rfl rfl ?_
  refine g_cV1R (p0 := 36) (r1 := mX7_at) dX6_placeDetail_33 lX6_68 vX7_at (by first | rfl | assumption | exact RW.s (by assumption) | exact TW.s (by assumption)) ⟨_, _, rfl⟩ (FITi rfl rfl) (Nat.le_of_ble_eq_true rfl) (at_N (by first | exact ⟨rfl, rfl, by decide⟩ | assumption) hp hv) rfl ?_
  refine g_ireturn dX6_placeDetail_36 rfl rfl (?_)
  exact ⟨rfl, rfl⟩
set_option maxRecDepth 20000 in
set_option maxHeartbeats 2000000 in
theorem placeDetail_5 {p : Nat} {v : Int32} {σ : Sg} (hp : p < 160) (hv : σ 69 p = v) : CM mX6_placeDetail [ar 33, ai (nI p), ai (nI 5)] σ (Ret v σ) := by
  refine CM_in (ls := [some (ar 33), some (ai (nI p)), some (ai (nI 5))]) rfl ?_
  refine g_iload_n (p0 := 1) (i := 2) dX6_placeDetail_0 rfl rfl rfl ?_
  refine g_look (tgt := 37) (off := 36) dX6_placeDetail_1 (by decide +kernel) (by decide +kernel) rfl ?_
  refine g_aload_n (p0 := 38) (i := 0) dX6_placeDetail_37 rfl rfl rfl ?_
  refine g_getR (p0 := 41) dX6_placeDetail_38 fX6_43 (by first | rfl | assumption | exact RW.s (by assumption) | exact TW.s (by assumption)) rfl rfl ?_
  refine g_iload_n (p0 := 42) (i := 1) dX6_placeDetail_41 rfl rfl rfl ?_
  refine g_cV1R (p0 := 45) (r1 := mX7_at) dX6_placeDetail_42 lX6_68 vX7_at (by first | rfl | assumption | exact RW.s (by assumption) | exact TW.s (by assumption)) ⟨_, _, rfl⟩ (FITi rfl rfl) (Nat.le_of_ble_eq_true rfl) (at_N (by first | exact ⟨rfl, rfl, by decide⟩ | assumption) hp hv) rfl ?_
  refine g_ireturn dX6_placeDetail_45 rfl rfl (?_)
  exact ⟨rfl, rfl⟩
set_option maxRecDepth 20000 in
set_option maxHeartbeats 2000000 in
theorem placeDetail_6 {p : Nat} {v : Int32} {σ : Sg} (hp : p < 160) (hv : σ 71 p = v) : CM mX6_placeDetail [ar 33, ai (nI p), ai (nI 6)] σ (Ret v σ) := by
  refine CM_in (ls := [some (ar 33), some (ai (nI p)), some (ai (nI 6))]) rfl ?_
  refine g_iload_n (p0 := 1) (i := 2) dX6_placeDetail_0 rfl rfl rfl ?_
  refine g_look (tgt := 46) (off := 45) dX6_placeDetail_1 (by decide +kernel) (by decide +kernel) rfl ?_
  refine g_aload_n (p0 := 47) (i := 0) dX6_placeDetail_46 rfl rfl rfl ?_
  refine g_getR (p0 := 50) dX6_placeDetail_47 fX6_46 (by first | rfl | assumption | exact RW.s (by assumption) | exact TW.s (by assumption)) rfl rfl ?_
  refine g_iload_n (p0 := 51) (i := 1) dX6_placeDetail_50 rfl rfl rfl ?_
  refine g_cV1R (p0 := 54) (r1 := mX7_at) dX6_placeDetail_51 lX6_68 vX7_at (by first | rfl | assumption | exact RW.s (by assumption) | exact TW.s (by assumption)) ⟨_, _, rfl⟩ (FITi rfl rfl) (Nat.le_of_ble_eq_true rfl) (at_N (by first | exact ⟨rfl, rfl, by decide⟩ | assumption) hp hv) rfl ?_
  refine g_ireturn dX6_placeDetail_54 rfl rfl (?_)
  exact ⟨rfl, rfl⟩
set_option maxRecDepth 20000 in
set_option maxHeartbeats 2000000 in
theorem sO_ca {x y : Int32} {σ : Sg} (h : CM mX8_hasStroke [ar 1, ai x] σ (Ret (nI 0) σ)) : CM mX9_strokeOf [ar 0, ai x, ai y] σ (Ret (-1000001) σ) := by
  refine CM_in (ls := [some (ar 0), some (ai x), some (ai y)]) rfl ?_
  refine g_aload_n (p0 := 1) (i := 0) dX9_strokeOf_0 rfl rfl rfl ?_
  refine g_getR (p0 := 4) dX9_strokeOf_1 fX9_10 (by first | rfl | assumption | exact RW.s (by assumption) | exact TW.s (by assumption)) rfl rfl ?_
  refine g_iload_n (p0 := 5) (i := 1) dX9_strokeOf_4 rfl rfl rfl ?_
  refine g_cV1R (p0 := 8) (r1 := mX8_hasStroke) dX9_strokeOf_5 lX9_107 vX8_hasStroke (by first | rfl | assumption | exact RW.s (by assumption) | exact TW.s (by assumption)) ⟨_, _, rfl⟩ (FITi rfl rfl) (Nat.le_of_ble_eq_true rfl) (h) rfl ?_
  first | ((with_reducible refine isN1 ?_); refine g_ifN_eq (tgt := 21) (p1 := 11) dX9_strokeOf_8 rfl (by omega) rfl (fun c_8 => ?_) (fun c_8 => by exfalso; first | omega | contradiction | exact absurd (by assumption) c_8 | (simp_all; done))) | refine g_if_eq (tgt := 21) (p1 := 11) dX9_strokeOf_8 rfl rfl (fun c_8 => ?_) (fun c_8 => by exfalso; first | omega | contradiction | exact absurd (by assumption) c_8 | (simp_all; done))
  refine g_ldc (p0 := 23) dX9_strokeOf_21 qX9_68 rfl ?_
  refine g_ireturn dX9_strokeOf_23 rfl rfl (?_)
  exact ⟨rfl, rfl⟩
set_option maxRecDepth 20000 in
set_option maxHeartbeats 2000000 in
theorem sO_ra {x y : Int32} {σ : Sg} (h : CM mX10_isStroke [ar 79, ai x] σ (Ret (nI 0) σ)) : CM mX10_strokeOf [ar 79, ai x, ai y] σ (Ret (-1000001) σ) := by
  refine CM_in (ls := [some (ar 79), some (ai x), some (ai y)]) rfl ?_
  refine g_aload_n (p0 := 1) (i := 0) dX10_strokeOf_0 rfl rfl rfl ?_
  refine g_iload_n (p0 := 2) (i := 1) dX10_strokeOf_1 rfl rfl rfl ?_
  refine g_cV1R (p0 := 5) (r1 := mX10_isStroke) dX10_strokeOf_2 lX10_109 vX10_isStroke (by first | rfl | assumption | exact RW.s (by assumption) | exact TW.s (by assumption)) ⟨_, _, rfl⟩ (FITi rfl rfl) (Nat.le_of_ble_eq_true rfl) (h) rfl ?_
  first | ((with_reducible refine isN1 ?_); refine g_ifN_eq (tgt := 18) (p1 := 8) dX10_strokeOf_5 rfl (by omega) rfl (fun c_5 => ?_) (fun c_5 => by exfalso; first | omega | contradiction | exact absurd (by assumption) c_5 | (simp_all; done))) | refine g_if_eq (tgt := 18) (p1 := 8) dX10_strokeOf_5 rfl rfl (fun c_5 => ?_) (fun c_5 => by exfalso; first | omega | contradiction | exact absurd (by assumption) c_5 | (simp_all; done))
  refine g_ldc (p0 := 20) dX10_strokeOf_18 qX10_76 rfl ?_
  refine g_ireturn dX10_strokeOf_20 rfl rfl (?_)
  exact ⟨rfl, rfl⟩
set_option maxRecDepth 20000 in
set_option maxHeartbeats 2000000 in
theorem sO_cb {p s : Nat} {σ : Sg} (hs : σ 1 2 = nI s) (hs1 : s ≤ 160) (hp : p < s) {x : Int32} (h : x < 0) : CM mX9_strokeOf [ar 0, ai (nI p), ai x] σ (Ret (-1000001) σ) := by
  refine CM_in (ls := [some (ar 0), some (ai (nI p)), some (ai x)]) rfl ?_
  refine g_aload_n (p0 := 1) (i := 0) dX9_strokeOf_0 rfl rfl rfl ?_
  refine g_getR (p0 := 4) dX9_strokeOf_1 fX9_10 (by first | rfl | assumption | exact RW.s (by assumption) | exact TW.s (by assumption)) rfl rfl ?_
  refine g_iload_n (p0 := 5) (i := 1) dX9_strokeOf_4 rfl rfl rfl ?_
  refine g_cV1R (p0 := 8) (r1 := mX8_hasStroke) dX9_strokeOf_5 lX9_107 vX8_hasStroke (by first | rfl | assumption | exact RW.s (by assumption) | exact TW.s (by assumption)) ⟨_, _, rfl⟩ (FITi rfl rfl) (Nat.le_of_ble_eq_true rfl) (hasStroke_T TW1 hs hs1 hp) rfl ?_
  first | ((with_reducible refine isN1 ?_); refine g_ifN_eq (tgt := 21) (p1 := 11) dX9_strokeOf_8 rfl (by omega) rfl (fun c_8 => by exfalso; first | omega | contradiction | exact absurd (by assumption) c_8 | (simp_all; done)) (fun c_8 => ?_)) | refine g_if_eq (tgt := 21) (p1 := 11) dX9_strokeOf_8 rfl rfl (fun c_8 => by exfalso; first | omega | contradiction | exact absurd (by assumption) c_8 | (simp_all; done)) (fun c_8 => ?_)
  refine g_iload_n (p0 := 12) (i := 2) dX9_strokeOf_11 rfl rfl rfl ?_
  first | ((with_reducible refine isN1 ?_); refine g_ifN_lt (tgt := 21) (p1 := 15) dX9_strokeOf_12 rfl (by omega) rfl (fun c_12 => ?_) (fun c_12 => by exfalso; first | omega | contradiction | exact absurd (by assumption) c_12 | (simp_all; done))) | refine g_if_lt (tgt := 21) (p1 := 15) dX9_strokeOf_12 rfl rfl (fun c_12 => ?_) (fun c_12 => by exfalso; first | omega | contradiction | exact absurd (by assumption) c_12 | (simp_all; done))
  refine g_ldc (p0 := 23) dX9_strokeOf_21 qX9_68 rfl ?_
  refine g_ireturn dX9_strokeOf_23 rfl rfl (?_)
  exact ⟨rfl, rfl⟩
set_option maxRecDepth 20000 in
set_option maxHeartbeats 2000000 in
theorem sO_rb {p s : Nat} {σ : Sg} (hs : σ 80 3 = nI s) (hs1 : s ≤ 160) (hp : p < s) {x : Int32} (h : x < 0) : CM mX10_strokeOf [ar 79, ai (nI p), ai x] σ (Ret (-1000001) σ) := by
  refine CM_in (ls := [some (ar 79), some (ai (nI p)), some (ai x)]) rfl ?_
  refine g_aload_n (p0 := 1) (i := 0) dX10_strokeOf_0 rfl rfl rfl ?_
  refine g_iload_n (p0 := 2) (i := 1) dX10_strokeOf_1 rfl rfl rfl ?_
  refine g_cV1R (p0 := 5) (r1 := mX10_isStroke) dX10_strokeOf_2 lX10_109 vX10_isStroke (by first | rfl | assumption | exact RW.s (by assumption) | exact TW.s (by assumption)) ⟨_, _, rfl⟩ (FITi rfl rfl) (Nat.le_of_ble_eq_true rfl) (isStroke_T hs hs1 hp) rfl ?_
  first | ((with_reducible refine isN1 ?_); refine g_ifN_eq (tgt := 18) (p1 := 8) dX10_strokeOf_5 rfl (by omega) rfl (fun c_5 => by exfalso; first | omega | contradiction | exact absurd (by assumption) c_5 | (simp_all; done)) (fun c_5 => ?_)) | refine g_if_eq (tgt := 18) (p1 := 8) dX10_strokeOf_5 rfl rfl (fun c_5 => by exfalso; first | omega | contradiction | exact absurd (by assumption) c_5 | (simp_all; done)) (fun c_5 => ?_)
  refine g_iload_n (p0 := 9) (i := 2) dX10_strokeOf_8 rfl rfl rfl ?_
  refine g_iconst (p0 := 10) (v := nI 0) dX10_strokeOf_9 rfl rfl ?_
  refine g_bipush (p0 := 12) (v := nI 6) dX10_strokeOf_10 (by decide) rfl ?_
  refine g_cS3R (p0 := 15) (r1 := mX10_in) dX10_strokeOf_12 (Or.inl lX10_65) vX10_in (FITi rfl rfl) (Nat.le_of_ble_eq_true rfl) (in_F1 h) rfl ?_
  first | ((with_reducible refine isN1 ?_); refine g_ifN_ne (tgt := 21) (p1 := 18) dX10_strokeOf_15 rfl (by omega) rfl (fun c_15 => by exfalso; first | omega | contradiction | exact absurd (by assumption) c_15 | (simp_all; done)) (fun c_15 => ?_)) | refine g_if_ne (tgt := 21) (p1 := 18) dX10_strokeOf_15 rfl rfl (fun c_15 => by exfalso; first | omega | contradiction | exact absurd (by assumption) c_15 | (simp_all; done)) (fun c_15 => ?_)
  refine g_ldc (p0 := 20) dX10_strokeOf_18 qX10_76 rfl ?_
  refine g_ireturn dX10_strokeOf_20 rfl rfl (?_)
  exact ⟨rfl, rfl⟩
set_option maxRecDepth 20000 in
set_option maxHeartbeats 2000000 in
theorem sO_cc {p s : Nat} {σ : Sg} (hs : σ 1 2 = nI s) (hs1 : s ≤ 160) (hp : p < s) {j : Nat} (h : 6 < j) (hj : j < 2147483648) : CM mX9_strokeOf [ar 0, ai (nI p), ai (nI j)] σ (Ret (-1000001) σ) := by
  refine CM_in (ls := [some (ar 0), some (ai (nI p)), some (ai (nI j))]) rfl ?_
  refine g_aload_n (p0 := 1) (i := 0) dX9_strokeOf_0 rfl rfl rfl ?_
  refine g_getR (p0 := 4) dX9_strokeOf_1 fX9_10 (by first | rfl | assumption | exact RW.s (by assumption) | exact TW.s (by assumption)) rfl rfl ?_
  refine g_iload_n (p0 := 5) (i := 1) dX9_strokeOf_4 rfl rfl rfl ?_
  refine g_cV1R (p0 := 8) (r1 := mX8_hasStroke) dX9_strokeOf_5 lX9_107 vX8_hasStroke (by first | rfl | assumption | exact RW.s (by assumption) | exact TW.s (by assumption)) ⟨_, _, rfl⟩ (FITi rfl rfl) (Nat.le_of_ble_eq_true rfl) (hasStroke_T TW1 hs hs1 hp) rfl ?_
  first | ((with_reducible refine isN1 ?_); refine g_ifN_eq (tgt := 21) (p1 := 11) dX9_strokeOf_8 rfl (by omega) rfl (fun c_8 => by exfalso; first | omega | contradiction | exact absurd (by assumption) c_8 | (simp_all; done)) (fun c_8 => ?_)) | refine g_if_eq (tgt := 21) (p1 := 11) dX9_strokeOf_8 rfl rfl (fun c_8 => by exfalso; first | omega | contradiction | exact absurd (by assumption) c_8 | (simp_all; done)) (fun c_8 => ?_)
  refine g_iload_n (p0 := 12) (i := 2) dX9_strokeOf_11 rfl rfl rfl ?_
  first | ((with_reducible refine isN1 ?_); refine g_ifN_lt (tgt := 21) (p1 := 15) dX9_strokeOf_12 rfl (by omega) rfl (fun c_12 => by exfalso; first | omega | contradiction | exact absurd (by assumption) c_12 | (simp_all; done)) (fun c_12 => ?_)) | refine g_if_lt (tgt := 21) (p1 := 15) dX9_strokeOf_12 rfl rfl (fun c_12 => by exfalso; first | omega | contradiction | exact absurd (by assumption) c_12 | (simp_all; done)) (fun c_12 => ?_)
  refine g_iload_n (p0 := 16) (i := 2) dX9_strokeOf_15 rfl rfl rfl ?_
  refine g_bipush (p0 := 18) (v := nI 6) dX9_strokeOf_16 (by decide) rfl ?_
  first | ((with_reducible refine isN2 ?_); refine g_icmpN_le (tgt := 24) (p1 := 21) dX9_strokeOf_18 rfl (by omega) (by omega) rfl (fun c_18 => by exfalso; first | omega | contradiction | exact absurd (by assumption) c_18 | (simp_all; done)) (fun c_18 => ?_)) | refine g_icmp_le (tgt := 24) (p1 := 21) dX9_strokeOf_18 rfl rfl (fun c_18 => by exfalso; first | omega | contradiction | exact absurd (by assumption) c_18 | (simp_all; done)) (fun c_18 => ?_)
  refine g_ldc (p0 := 23) dX9_strokeOf_21 qX9_68 rfl ?_
  refine g_ireturn dX9_strokeOf_23 rfl rfl (?_)
  exact ⟨rfl, rfl⟩
set_option maxRecDepth 20000 in
set_option maxHeartbeats 2000000 in
theorem sO_rc {p s : Nat} {σ : Sg} (hs : σ 80 3 = nI s) (hs1 : s ≤ 160) (hp : p < s) {j : Nat} (h : 6 < j) (hj : j < 2147483648) : CM mX10_strokeOf [ar 79, ai (nI p), ai (nI j)] σ (Ret (-1000001) σ) := by
  refine CM_in (ls := [some (ar 79), some (ai (nI p)), some (ai (nI j))]) rfl ?_
  refine g_aload_n (p0 := 1) (i := 0) dX10_strokeOf_0 rfl rfl rfl ?_
  refine g_iload_n (p0 := 2) (i := 1) dX10_strokeOf_1 rfl rfl rfl ?_
  refine g_cV1R (p0 := 5) (r1 := mX10_isStroke) dX10_strokeOf_2 lX10_109 vX10_isStroke (by first | rfl | assumption | exact RW.s (by assumption) | exact TW.s (by assumption)) ⟨_, _, rfl⟩ (FITi rfl rfl) (Nat.le_of_ble_eq_true rfl) (isStroke_T hs hs1 hp) rfl ?_
  first | ((with_reducible refine isN1 ?_); refine g_ifN_eq (tgt := 18) (p1 := 8) dX10_strokeOf_5 rfl (by omega) rfl (fun c_5 => by exfalso; first | omega | contradiction | exact absurd (by assumption) c_5 | (simp_all; done)) (fun c_5 => ?_)) | refine g_if_eq (tgt := 18) (p1 := 8) dX10_strokeOf_5 rfl rfl (fun c_5 => by exfalso; first | omega | contradiction | exact absurd (by assumption) c_5 | (simp_all; done)) (fun c_5 => ?_)
  refine g_iload_n (p0 := 9) (i := 2) dX10_strokeOf_8 rfl rfl rfl ?_
  refine g_iconst (p0 := 10) (v := nI 0) dX10_strokeOf_9 rfl rfl ?_
  refine g_bipush (p0 := 12) (v := nI 6) dX10_strokeOf_10 (by decide) rfl ?_
  refine g_cS3R (p0 := 15) (r1 := mX10_in) dX10_strokeOf_12 (Or.inl lX10_65) vX10_in (FITi rfl rfl) (Nat.le_of_ble_eq_true rfl) (in_F2 (fun q => by rw [nI_lt_iff (by omega) (by omega)] at q; omega) ((nI_lt_iff (by omega) (by omega)).mpr (by omega))) rfl ?_
  first | ((with_reducible refine isN1 ?_); refine g_ifN_ne (tgt := 21) (p1 := 18) dX10_strokeOf_15 rfl (by omega) rfl (fun c_15 => by exfalso; first | omega | contradiction | exact absurd (by assumption) c_15 | (simp_all; done)) (fun c_15 => ?_)) | refine g_if_ne (tgt := 21) (p1 := 18) dX10_strokeOf_15 rfl rfl (fun c_15 => by exfalso; first | omega | contradiction | exact absurd (by assumption) c_15 | (simp_all; done)) (fun c_15 => ?_)
  refine g_ldc (p0 := 20) dX10_strokeOf_18 qX10_76 rfl ?_
  refine g_ireturn dX10_strokeOf_20 rfl rfl (?_)
  exact ⟨rfl, rfl⟩
set_option maxRecDepth 20000 in
set_option maxHeartbeats 2000000 in
theorem sO_c0 {p s : Nat} {σ : Sg} (hs : σ 1 2 = nI s) (hs1 : s ≤ 160) (hp : p < s) {v : Int32} (hv : σ 3 p = v) : CM mX9_strokeOf [ar 0, ai (nI p), ai (nI 0)] σ (Ret v σ) := by
  refine CM_in (ls := [some (ar 0), some (ai (nI p)), some (ai (nI 0))]) rfl ?_
  refine g_aload_n (p0 := 1) (i := 0) dX9_strokeOf_0 rfl rfl rfl ?_
  refine g_getR (p0 := 4) dX9_strokeOf_1 fX9_10 (by first | rfl | assumption | exact RW.s (by assumption) | exact TW.s (by assumption)) rfl rfl ?_
  refine g_iload_n (p0 := 5) (i := 1) dX9_strokeOf_4 rfl rfl rfl ?_
  refine g_cV1R (p0 := 8) (r1 := mX8_hasStroke) dX9_strokeOf_5 lX9_107 vX8_hasStroke (by first | rfl | assumption | exact RW.s (by assumption) | exact TW.s (by assumption)) ⟨_, _, rfl⟩ (FITi rfl rfl) (Nat.le_of_ble_eq_true rfl) (hasStroke_T TW1 hs hs1 hp) rfl ?_
  first | ((with_reducible refine isN1 ?_); refine g_ifN_eq (tgt := 21) (p1 := 11) dX9_strokeOf_8 rfl (by omega) rfl (fun c_8 => by exfalso; first | omega | contradiction | exact absurd (by assumption) c_8 | (simp_all; done)) (fun c_8 => ?_)) | refine g_if_eq (tgt := 21) (p1 := 11) dX9_strokeOf_8 rfl rfl (fun c_8 => by exfalso; first | omega | contradiction | exact absurd (by assumption) c_8 | (simp_all; done)) (fun c_8 => ?_)
  refine g_iload_n (p0 := 12) (i := 2) dX9_strokeOf_11 rfl rfl rfl ?_
  first | ((with_reducible refine isN1 ?_); refine g_ifN_lt (tgt := 21) (p1 := 15) dX9_strokeOf_12 rfl (by omega) rfl (fun c_12 => by exfalso; first | omega | contradiction | exact absurd (by assumption) c_12 | (simp_all; done)) (fun c_12 => ?_)) | refine g_if_lt (tgt := 21) (p1 := 15) dX9_strokeOf_12 rfl rfl (fun c_12 => by exfalso; first | omega | contradiction | exact absurd (by assumption) c_12 | (simp_all; done)) (fun c_12 => ?_)
  refine g_iload_n (p0 := 16) (i := 2) dX9_strokeOf_15 rfl rfl rfl ?_
  refine g_bipush (p0 := 18) (v := nI 6) dX9_strokeOf_16 (by decide) rfl ?_
  first | ((with_reducible refine isN2 ?_); refine g_icmpN_le (tgt := 24) (p1 := 21) dX9_strokeOf_18 rfl (by omega) (by omega) rfl (fun c_18 => ?_) (fun c_18 => by exfalso; first | omega | contradiction | exact absurd (by assumption) c_18 | (simp_all; done))) | refine g_icmp_le (tgt := 24) (p1 := 21) dX9_strokeOf_18 rfl rfl (fun c_18 => ?_) (fun c_18 => by exfalso; first | omega | contradiction | exact absurd (by assumption) c_18 | (simp_all; done))
  refine g_iload_n (p0 := 25) (i := 2) dX9_strokeOf_24 rfl rfl rfl ?_
  first | ((with_reducible refine isN1 ?_); refine g_ifN_ne (tgt := 40) (p1 := 28) dX9_strokeOf_25 rfl (by omega) rfl (fun c_25 => by exfalso; first | omega | contradiction | exact absurd (by assumption) c_25 | (simp_all; done)) (fun c_25 => ?_)) | refine g_if_ne (tgt := 40) (p1 := 28) dX9_strokeOf_25 rfl rfl (fun c_25 => by exfalso; first | omega | contradiction | exact absurd (by assumption) c_25 | (simp_all; done)) (fun c_25 => ?_)
  refine g_aload_n (p0 := 29) (i := 0) dX9_strokeOf_28 rfl rfl rfl ?_
  refine g_getR (p0 := 32) dX9_strokeOf_29 fX9_10 (by first | rfl | assumption | exact RW.s (by assumption) | exact TW.s (by assumption)) rfl rfl ?_
  refine g_getR (p0 := 35) dX9_strokeOf_32 fX9_110 (by first | rfl | assumption | exact RW.s (by assumption) | exact TW.s (by assumption)) rfl rfl ?_
  refine g_iload_n (p0 := 36) (i := 1) dX9_strokeOf_35 rfl rfl rfl ?_
  refine g_cV1R (p0 := 39) (r1 := mX7_at) dX9_strokeOf_36 lX9_114 vX7_at (by first | rfl | assumption | exact RW.s (by assumption) | exact TW.s (by assumption)) ⟨_, _, rfl⟩ (FITi rfl rfl) (Nat.le_of_ble_eq_true rfl) (at_N (by first | exact ⟨rfl, rfl, by decide⟩ | assumption) (by omega) hv) rfl ?_
  refine g_ireturn dX9_strokeOf_39 rfl rfl (?_)
  exact ⟨rfl, rfl⟩
set_option maxRecDepth 20000 in
set_option maxHeartbeats 2000000 in
theorem sO_c1z {p s : Nat} {σ : Sg} (hs : σ 1 2 = nI s) (hs1 : s ≤ 160) (hp : p < s) (h0 : p = 0) : CM mX9_strokeOf [ar 0, ai (nI p), ai (nI 1)] σ (Ret (-1000004) σ) := by
  refine CM_in (ls := [some (ar 0), some (ai (nI p)), some (ai (nI 1))]) rfl ?_
  refine g_aload_n (p0 := 1) (i := 0) dX9_strokeOf_0 rfl rfl rfl ?_
  refine g_getR (p0 := 4) dX9_strokeOf_1 fX9_10 (by first | rfl | assumption | exact RW.s (by assumption) | exact TW.s (by assumption)) rfl rfl ?_
  refine g_iload_n (p0 := 5) (i := 1) dX9_strokeOf_4 rfl rfl rfl ?_
  refine g_cV1R (p0 := 8) (r1 := mX8_hasStroke) dX9_strokeOf_5 lX9_107 vX8_hasStroke (by first | rfl | assumption | exact RW.s (by assumption) | exact TW.s (by assumption)) ⟨_, _, rfl⟩ (FITi rfl rfl) (Nat.le_of_ble_eq_true rfl) (hasStroke_T TW1 hs hs1 hp) rfl ?_
  first | ((with_reducible refine isN1 ?_); refine g_ifN_eq (tgt := 21) (p1 := 11) dX9_strokeOf_8 rfl (by omega) rfl (fun c_8 => by exfalso; first | omega | contradiction | exact absurd (by assumption) c_8 | (simp_all; done)) (fun c_8 => ?_)) | refine g_if_eq (tgt := 21) (p1 := 11) dX9_strokeOf_8 rfl rfl (fun c_8 => by exfalso; first | omega | contradiction | exact absurd (by assumption) c_8 | (simp_all; done)) (fun c_8 => ?_)
  refine g_iload_n (p0 := 12) (i := 2) dX9_strokeOf_11 rfl rfl rfl ?_
  first | ((with_reducible refine isN1 ?_); refine g_ifN_lt (tgt := 21) (p1 := 15) dX9_strokeOf_12 rfl (by omega) rfl (fun c_12 => by exfalso; first | omega | contradiction | exact absurd (by assumption) c_12 | (simp_all; done)) (fun c_12 => ?_)) | refine g_if_lt (tgt := 21) (p1 := 15) dX9_strokeOf_12 rfl rfl (fun c_12 => by exfalso; first | omega | contradiction | exact absurd (by assumption) c_12 | (simp_all; done)) (fun c_12 => ?_)
  refine g_iload_n (p0 := 16) (i := 2) dX9_strokeOf_15 rfl rfl rfl ?_
  refine g_bipush (p0 := 18) (v := nI 6) dX9_strokeOf_16 (by decide) rfl ?_
  first | ((with_reducible refine isN2 ?_); refine g_icmpN_le (tgt := 24) (p1 := 21) dX9_strokeOf_18 rfl (by omega) (by omega) rfl (fun c_18 => ?_) (fun c_18 => by exfalso; first | omega | contradiction | exact absurd (by assumption) c_18 | (simp_all; done))) | refine g_icmp_le (tgt := 24) (p1 := 21) dX9_strokeOf_18 rfl rfl (fun c_18 => ?_) (fun c_18 => by exfalso; first | omega | contradiction | exact absurd (by assumption) c_18 | (simp_all; done))
  refine g_iload_n (p0 := 25) (i := 2) dX9_strokeOf_24 rfl rfl rfl ?_
  first | ((with_reducible refine isN1 ?_); refine g_ifN_ne (tgt := 40) (p1 := 28) dX9_strokeOf_25 rfl (by omega) rfl (fun c_25 => ?_) (fun c_25 => by exfalso; first | omega | contradiction | exact absurd (by assumption) c_25 | (simp_all; done))) | refine g_if_ne (tgt := 40) (p1 := 28) dX9_strokeOf_25 rfl rfl (fun c_25 => ?_) (fun c_25 => by exfalso; first | omega | contradiction | exact absurd (by assumption) c_25 | (simp_all; done))
  refine g_iload_n (p0 := 41) (i := 2) dX9_strokeOf_40 rfl rfl rfl ?_
  refine g_iconst (p0 := 42) (v := nI 3) dX9_strokeOf_41 rfl rfl ?_
  first | ((with_reducible refine isN2 ?_); refine g_icmpN_gt (tgt := 64) (p1 := 45) dX9_strokeOf_42 rfl (by omega) (by omega) rfl (fun c_42 => by exfalso; first | omega | contradiction | exact absurd (by assumption) c_42 | (simp_all; done)) (fun c_42 => ?_)) | refine g_icmp_gt (tgt := 64) (p1 := 45) dX9_strokeOf_42 rfl rfl (fun c_42 => by exfalso; first | omega | contradiction | exact absurd (by assumption) c_42 | (simp_all; done)) (fun c_42 => ?_)
  refine g_iload_n (p0 := 46) (i := 1) dX9_strokeOf_45 rfl rfl rfl ?_
  first | ((with_reducible refine isN1 ?_); refine g_ifN_ne (tgt := 54) (p1 := 49) dX9_strokeOf_46 rfl (by omega) rfl (fun c_46 => by exfalso; first | omega | contradiction | exact absurd (by assumption) c_46 | (simp_all; done)) (fun c_46 => ?_)) | refine g_if_ne (tgt := 54) (p1 := 49) dX9_strokeOf_46 rfl rfl (fun c_46 => by exfalso; first | omega | contradiction | exact absurd (by assumption) c_46 | (simp_all; done)) (fun c_46 => ?_)
  refine g_ldc (p0 := 51) dX9_strokeOf_49 qX9_122 rfl ?_
  refine g_goto (tgt := 63) dX9_strokeOf_51 rfl ?_
  refine g_ireturn dX9_strokeOf_63 rfl rfl (?_)
  exact ⟨rfl, rfl⟩
set_option maxRecDepth 20000 in
set_option maxHeartbeats 2000000 in
theorem sO_c1 {p s : Nat} {σ : Sg} (hs : σ 1 2 = nI s) (hs1 : s ≤ 160) (hp : p < s) {v : Int32} (h0 : ¬ p = 0) (hv : σ 61 p = v) : CM mX9_strokeOf [ar 0, ai (nI p), ai (nI 1)] σ (Ret v σ) := by
  refine CM_in (ls := [some (ar 0), some (ai (nI p)), some (ai (nI 1))]) rfl ?_
  refine g_aload_n (p0 := 1) (i := 0) dX9_strokeOf_0 rfl rfl rfl ?_
  refine g_getR (p0 := 4) dX9_strokeOf_1 fX9_10 (by first | rfl | assumption | exact RW.s (by assumption) | exact TW.s (by assumption)) rfl rfl ?_
  refine g_iload_n (p0 := 5) (i := 1) dX9_strokeOf_4 rfl rfl rfl ?_
  refine g_cV1R (p0 := 8) (r1 := mX8_hasStroke) dX9_strokeOf_5 lX9_107 vX8_hasStroke (by first | rfl | assumption | exact RW.s (by assumption) | exact TW.s (by assumption)) ⟨_, _, rfl⟩ (FITi rfl rfl) (Nat.le_of_ble_eq_true rfl) (hasStroke_T TW1 hs hs1 hp) rfl ?_
  first | ((with_reducible refine isN1 ?_); refine g_ifN_eq (tgt := 21) (p1 := 11) dX9_strokeOf_8 rfl (by omega) rfl (fun c_8 => by exfalso; first | omega | contradiction | exact absurd (by assumption) c_8 | (simp_all; done)) (fun c_8 => ?_)) | refine g_if_eq (tgt := 21) (p1 := 11) dX9_strokeOf_8 rfl rfl (fun c_8 => by exfalso; first | omega | contradiction | exact absurd (by assumption) c_8 | (simp_all; done)) (fun c_8 => ?_)
  refine g_iload_n (p0 := 12) (i := 2) dX9_strokeOf_11 rfl rfl rfl ?_
  first | ((with_reducible refine isN1 ?_); refine g_ifN_lt (tgt := 21) (p1 := 15) dX9_strokeOf_12 rfl (by omega) rfl (fun c_12 => by exfalso; first | omega | contradiction | exact absurd (by assumption) c_12 | (simp_all; done)) (fun c_12 => ?_)) | refine g_if_lt (tgt := 21) (p1 := 15) dX9_strokeOf_12 rfl rfl (fun c_12 => by exfalso; first | omega | contradiction | exact absurd (by assumption) c_12 | (simp_all; done)) (fun c_12 => ?_)
  refine g_iload_n (p0 := 16) (i := 2) dX9_strokeOf_15 rfl rfl rfl ?_
  refine g_bipush (p0 := 18) (v := nI 6) dX9_strokeOf_16 (by decide) rfl ?_
  first | ((with_reducible refine isN2 ?_); refine g_icmpN_le (tgt := 24) (p1 := 21) dX9_strokeOf_18 rfl (by omega) (by omega) rfl (fun c_18 => ?_) (fun c_18 => by exfalso; first | omega | contradiction | exact absurd (by assumption) c_18 | (simp_all; done))) | refine g_icmp_le (tgt := 24) (p1 := 21) dX9_strokeOf_18 rfl rfl (fun c_18 => ?_) (fun c_18 => by exfalso; first | omega | contradiction | exact absurd (by assumption) c_18 | (simp_all; done))
  refine g_iload_n (p0 := 25) (i := 2) dX9_strokeOf_24 rfl rfl rfl ?_
  first | ((with_reducible refine isN1 ?_); refine g_ifN_ne (tgt := 40) (p1 := 28) dX9_strokeOf_25 rfl (by omega) rfl (fun c_25 => ?_) (fun c_25 => by exfalso; first | omega | contradiction | exact absurd (by assumption) c_25 | (simp_all; done))) | refine g_if_ne (tgt := 40) (p1 := 28) dX9_strokeOf_25 rfl rfl (fun c_25 => ?_) (fun c_25 => by exfalso; first | omega | contradiction | exact absurd (by assumption) c_25 | (simp_all; done))
  refine g_iload_n (p0 := 41) (i := 2) dX9_strokeOf_40 rfl rfl rfl ?_
  refine g_iconst (p0 := 42) (v := nI 3) dX9_strokeOf_41 rfl rfl ?_
  first | ((with_reducible refine isN2 ?_); refine g_icmpN_gt (tgt := 64) (p1 := 45) dX9_strokeOf_42 rfl (by omega) (by omega) rfl (fun c_42 => by exfalso; first | omega | contradiction | exact absurd (by assumption) c_42 | (simp_all; done)) (fun c_42 => ?_)) | refine g_icmp_gt (tgt := 64) (p1 := 45) dX9_strokeOf_42 rfl rfl (fun c_42 => by exfalso; first | omega | contradiction | exact absurd (by assumption) c_42 | (simp_all; done)) (fun c_42 => ?_)
  refine g_iload_n (p0 := 46) (i := 1) dX9_strokeOf_45 rfl rfl rfl ?_
  first | ((with_reducible refine isN1 ?_); refine g_ifN_ne (tgt := 54) (p1 := 49) dX9_strokeOf_46 rfl (by omega) rfl (fun c_46 => ?_) (fun c_46 => by exfalso; first | omega | contradiction | exact absurd (by assumption) c_46 | (simp_all; done))) | refine g_if_ne (tgt := 54) (p1 := 49) dX9_strokeOf_46 rfl rfl (fun c_46 => ?_) (fun c_46 => by exfalso; first | omega | contradiction | exact absurd (by assumption) c_46 | (simp_all; done))
  refine g_aload_n (p0 := 55) (i := 0) dX9_strokeOf_54 rfl rfl rfl ?_
  refine g_getR (p0 := 58) dX9_strokeOf_55 fX9_29 (by first | rfl | assumption | exact RW.s (by assumption) | exact TW.s (by assumption)) rfl rfl ?_
  refine g_iload_n (p0 := 59) (i := 1) dX9_strokeOf_58 rfl rfl rfl ?_
  refine g_iload_n (p0 := 60) (i := 2) dX9_strokeOf_59 rfl rfl rfl ?_
  refine g_cV2R (p0 := 63) (r1 := mX6_gapDetail) dX9_strokeOf_60 lX9_123 vX6_gapDetail (by first | rfl | assumption | exact RW.s (by assumption) | exact TW.s (by assumption)) ⟨_, _, rfl⟩ (FITi rfl rfl) (Nat.le_of_ble_eq_true rfl) (gapDetail_1 (by omega) hv) rfl ?_
  refine g_ireturn dX9_strokeOf_63 rfl rfl (?_)
  exact ⟨rfl, rfl⟩
set_option maxRecDepth 20000 in
set_option maxHeartbeats 2000000 in
theorem sO_c2z {p s : Nat} {σ : Sg} (hs : σ 1 2 = nI s) (hs1 : s ≤ 160) (hp : p < s) (h0 : p = 0) : CM mX9_strokeOf [ar 0, ai (nI p), ai (nI 2)] σ (Ret (-1000004) σ) := by
  refine CM_in (ls := [some (ar 0), some (ai (nI p)), some (ai (nI 2))]) rfl ?_
  refine g_aload_n (p0 := 1) (i := 0) dX9_strokeOf_0 rfl rfl rfl ?_
  refine g_getR (p0 := 4) dX9_strokeOf_1 fX9_10 (by first | rfl | assumption | exact RW.s (by assumption) | exact TW.s (by assumption)) rfl rfl ?_
  refine g_iload_n (p0 := 5) (i := 1) dX9_strokeOf_4 rfl rfl rfl ?_
  refine g_cV1R (p0 := 8) (r1 := mX8_hasStroke) dX9_strokeOf_5 lX9_107 vX8_hasStroke (by first | rfl | assumption | exact RW.s (by assumption) | exact TW.s (by assumption)) ⟨_, _, rfl⟩ (FITi rfl rfl) (Nat.le_of_ble_eq_true rfl) (hasStroke_T TW1 hs hs1 hp) rfl ?_
  first | ((with_reducible refine isN1 ?_); refine g_ifN_eq (tgt := 21) (p1 := 11) dX9_strokeOf_8 rfl (by omega) rfl (fun c_8 => by exfalso; first | omega | contradiction | exact absurd (by assumption) c_8 | (simp_all; done)) (fun c_8 => ?_)) | refine g_if_eq (tgt := 21) (p1 := 11) dX9_strokeOf_8 rfl rfl (fun c_8 => by exfalso; first | omega | contradiction | exact absurd (by assumption) c_8 | (simp_all; done)) (fun c_8 => ?_)
  refine g_iload_n (p0 := 12) (i := 2) dX9_strokeOf_11 rfl rfl rfl ?_
  first | ((with_reducible refine isN1 ?_); refine g_ifN_lt (tgt := 21) (p1 := 15) dX9_strokeOf_12 rfl (by omega) rfl (fun c_12 => by exfalso; first | omega | contradiction | exact absurd (by assumption) c_12 | (simp_all; done)) (fun c_12 => ?_)) | refine g_if_lt (tgt := 21) (p1 := 15) dX9_strokeOf_12 rfl rfl (fun c_12 => by exfalso; first | omega | contradiction | exact absurd (by assumption) c_12 | (simp_all; done)) (fun c_12 => ?_)
  refine g_iload_n (p0 := 16) (i := 2) dX9_strokeOf_15 rfl rfl rfl ?_
  refine g_bipush (p0 := 18) (v := nI 6) dX9_strokeOf_16 (by decide) rfl ?_
  first | ((with_reducible refine isN2 ?_); refine g_icmpN_le (tgt := 24) (p1 := 21) dX9_strokeOf_18 rfl (by omega) (by omega) rfl (fun c_18 => ?_) (fun c_18 => by exfalso; first | omega | contradiction | exact absurd (by assumption) c_18 | (simp_all; done))) | refine g_icmp_le (tgt := 24) (p1 := 21) dX9_strokeOf_18 rfl rfl (fun c_18 => ?_) (fun c_18 => by exfalso; first | omega | contradiction | exact absurd (by assumption) c_18 | (simp_all; done))
  refine g_iload_n (p0 := 25) (i := 2) dX9_strokeOf_24 rfl rfl rfl ?_
  first | ((with_reducible refine isN1 ?_); refine g_ifN_ne (tgt := 40) (p1 := 28) dX9_strokeOf_25 rfl (by omega) rfl (fun c_25 => ?_) (fun c_25 => by exfalso; first | omega | contradiction | exact absurd (by assumption) c_25 | (simp_all; done))) | refine g_if_ne (tgt := 40) (p1 := 28) dX9_strokeOf_25 rfl rfl (fun c_25 => ?_) (fun c_25 => by exfalso; first | omega | contradiction | exact absurd (by assumption) c_25 | (simp_all; done))
  refine g_iload_n (p0 := 41) (i := 2) dX9_strokeOf_40 rfl rfl rfl ?_
  refine g_iconst (p0 := 42) (v := nI 3) dX9_strokeOf_41 rfl rfl ?_
  first | ((with_reducible refine isN2 ?_); refine g_icmpN_gt (tgt := 64) (p1 := 45) dX9_strokeOf_42 rfl (by omega) (by omega) rfl (fun c_42 => by exfalso; first | omega | contradiction | exact absurd (by assumption) c_42 | (simp_all; done)) (fun c_42 => ?_)) | refine g_icmp_gt (tgt := 64) (p1 := 45) dX9_strokeOf_42 rfl rfl (fun c_42 => by exfalso; first | omega | contradiction | exact absurd (by assumption) c_42 | (simp_all; done)) (fun c_42 => ?_)
  refine g_iload_n (p0 := 46) (i := 1) dX9_strokeOf_45 rfl rfl rfl ?_
  first | ((with_reducible refine isN1 ?_); refine g_ifN_ne (tgt := 54) (p1 := 49) dX9_strokeOf_46 rfl (by omega) rfl (fun c_46 => by exfalso; first | omega | contradiction | exact absurd (by assumption) c_46 | (simp_all; done)) (fun c_46 => ?_)) | refine g_if_ne (tgt := 54) (p1 := 49) dX9_strokeOf_46 rfl rfl (fun c_46 => by exfalso; first | omega | contradiction | exact absurd (by assumption) c_46 | (simp_all; done)) (fun c_46 => ?_)
  refine g_ldc (p0 := 51) dX9_strokeOf_49 qX9_122 rfl ?_
  refine g_goto (tgt := 63) dX9_strokeOf_51 rfl ?_
  refine g_ireturn dX9_strokeOf_63 rfl rfl (?_)
  exact ⟨rfl, rfl⟩
set_option maxRecDepth 20000 in
set_option maxHeartbeats 2000000 in
theorem sO_c2 {p s : Nat} {σ : Sg} (hs : σ 1 2 = nI s) (hs1 : s ≤ 160) (hp : p < s) {v : Int32} (h0 : ¬ p = 0) (hv : σ 63 p = v) : CM mX9_strokeOf [ar 0, ai (nI p), ai (nI 2)] σ (Ret v σ) := by
  refine CM_in (ls := [some (ar 0), some (ai (nI p)), some (ai (nI 2))]) rfl ?_
  refine g_aload_n (p0 := 1) (i := 0) dX9_strokeOf_0 rfl rfl rfl ?_
  refine g_getR (p0 := 4) dX9_strokeOf_1 fX9_10 (by first | rfl | assumption | exact RW.s (by assumption) | exact TW.s (by assumption)) rfl rfl ?_
  refine g_iload_n (p0 := 5) (i := 1) dX9_strokeOf_4 rfl rfl rfl ?_
  refine g_cV1R (p0 := 8) (r1 := mX8_hasStroke) dX9_strokeOf_5 lX9_107 vX8_hasStroke (by first | rfl | assumption | exact RW.s (by assumption) | exact TW.s (by assumption)) ⟨_, _, rfl⟩ (FITi rfl rfl) (Nat.le_of_ble_eq_true rfl) (hasStroke_T TW1 hs hs1 hp) rfl ?_
  first | ((with_reducible refine isN1 ?_); refine g_ifN_eq (tgt := 21) (p1 := 11) dX9_strokeOf_8 rfl (by omega) rfl (fun c_8 => by exfalso; first | omega | contradiction | exact absurd (by assumption) c_8 | (simp_all; done)) (fun c_8 => ?_)) | refine g_if_eq (tgt := 21) (p1 := 11) dX9_strokeOf_8 rfl rfl (fun c_8 => by exfalso; first | omega | contradiction | exact absurd (by assumption) c_8 | (simp_all; done)) (fun c_8 => ?_)
  refine g_iload_n (p0 := 12) (i := 2) dX9_strokeOf_11 rfl rfl rfl ?_
  first | ((with_reducible refine isN1 ?_); refine g_ifN_lt (tgt := 21) (p1 := 15) dX9_strokeOf_12 rfl (by omega) rfl (fun c_12 => by exfalso; first | omega | contradiction | exact absurd (by assumption) c_12 | (simp_all; done)) (fun c_12 => ?_)) | refine g_if_lt (tgt := 21) (p1 := 15) dX9_strokeOf_12 rfl rfl (fun c_12 => by exfalso; first | omega | contradiction | exact absurd (by assumption) c_12 | (simp_all; done)) (fun c_12 => ?_)
  refine g_iload_n (p0 := 16) (i := 2) dX9_strokeOf_15 rfl rfl rfl ?_
  refine g_bipush (p0 := 18) (v := nI 6) dX9_strokeOf_16 (by decide) rfl ?_
  first | ((with_reducible refine isN2 ?_); refine g_icmpN_le (tgt := 24) (p1 := 21) dX9_strokeOf_18 rfl (by omega) (by omega) rfl (fun c_18 => ?_) (fun c_18 => by exfalso; first | omega | contradiction | exact absurd (by assumption) c_18 | (simp_all; done))) | refine g_icmp_le (tgt := 24) (p1 := 21) dX9_strokeOf_18 rfl rfl (fun c_18 => ?_) (fun c_18 => by exfalso; first | omega | contradiction | exact absurd (by assumption) c_18 | (simp_all; done))
  refine g_iload_n (p0 := 25) (i := 2) dX9_strokeOf_24 rfl rfl rfl ?_
  first | ((with_reducible refine isN1 ?_); refine g_ifN_ne (tgt := 40) (p1 := 28) dX9_strokeOf_25 rfl (by omega) rfl (fun c_25 => ?_) (fun c_25 => by exfalso; first | omega | contradiction | exact absurd (by assumption) c_25 | (simp_all; done))) | refine g_if_ne (tgt := 40) (p1 := 28) dX9_strokeOf_25 rfl rfl (fun c_25 => ?_) (fun c_25 => by exfalso; first | omega | contradiction | exact absurd (by assumption) c_25 | (simp_all; done))
  refine g_iload_n (p0 := 41) (i := 2) dX9_strokeOf_40 rfl rfl rfl ?_
  refine g_iconst (p0 := 42) (v := nI 3) dX9_strokeOf_41 rfl rfl ?_
  first | ((with_reducible refine isN2 ?_); refine g_icmpN_gt (tgt := 64) (p1 := 45) dX9_strokeOf_42 rfl (by omega) (by omega) rfl (fun c_42 => by exfalso; first | omega | contradiction | exact absurd (by assumption) c_42 | (simp_all; done)) (fun c_42 => ?_)) | refine g_icmp_gt (tgt := 64) (p1 := 45) dX9_strokeOf_42 rfl rfl (fun c_42 => by exfalso; first | omega | contradiction | exact absurd (by assumption) c_42 | (simp_all; done)) (fun c_42 => ?_)
  refine g_iload_n (p0 := 46) (i := 1) dX9_strokeOf_45 rfl rfl rfl ?_
  first | ((with_reducible refine isN1 ?_); refine g_ifN_ne (tgt := 54) (p1 := 49) dX9_strokeOf_46 rfl (by omega) rfl (fun c_46 => ?_) (fun c_46 => by exfalso; first | omega | contradiction | exact absurd (by assumption) c_46 | (simp_all; done))) | refine g_if_ne (tgt := 54) (p1 := 49) dX9_strokeOf_46 rfl rfl (fun c_46 => ?_) (fun c_46 => by exfalso; first | omega | contradiction | exact absurd (by assumption) c_46 | (simp_all; done))
  refine g_aload_n (p0 := 55) (i := 0) dX9_strokeOf_54 rfl rfl rfl ?_
  refine g_getR (p0 := 58) dX9_strokeOf_55 fX9_29 (by first | rfl | assumption | exact RW.s (by assumption) | exact TW.s (by assumption)) rfl rfl ?_
  refine g_iload_n (p0 := 59) (i := 1) dX9_strokeOf_58 rfl rfl rfl ?_
  refine g_iload_n (p0 := 60) (i := 2) dX9_strokeOf_59 rfl rfl rfl ?_
  refine g_cV2R (p0 := 63) (r1 := mX6_gapDetail) dX9_strokeOf_60 lX9_123 vX6_gapDetail (by first | rfl | assumption | exact RW.s (by assumption) | exact TW.s (by assumption)) ⟨_, _, rfl⟩ (FITi rfl rfl) (Nat.le_of_ble_eq_true rfl) (gapDetail_2 (by omega) hv) rfl ?_
  refine g_ireturn dX9_strokeOf_63 rfl rfl (?_)
  exact ⟨rfl, rfl⟩
set_option maxRecDepth 20000 in
set_option maxHeartbeats 2000000 in
theorem sO_c3z {p s : Nat} {σ : Sg} (hs : σ 1 2 = nI s) (hs1 : s ≤ 160) (hp : p < s) (h0 : p = 0) : CM mX9_strokeOf [ar 0, ai (nI p), ai (nI 3)] σ (Ret (-1000004) σ) := by
  refine CM_in (ls := [some (ar 0), some (ai (nI p)), some (ai (nI 3))]) rfl ?_
  refine g_aload_n (p0 := 1) (i := 0) dX9_strokeOf_0 rfl rfl rfl ?_
  refine g_getR (p0 := 4) dX9_strokeOf_1 fX9_10 (by first | rfl | assumption | exact RW.s (by assumption) | exact TW.s (by assumption)) rfl rfl ?_
  refine g_iload_n (p0 := 5) (i := 1) dX9_strokeOf_4 rfl rfl rfl ?_
  refine g_cV1R (p0 := 8) (r1 := mX8_hasStroke) dX9_strokeOf_5 lX9_107 vX8_hasStroke (by first | rfl | assumption | exact RW.s (by assumption) | exact TW.s (by assumption)) ⟨_, _, rfl⟩ (FITi rfl rfl) (Nat.le_of_ble_eq_true rfl) (hasStroke_T TW1 hs hs1 hp) rfl ?_
  first | ((with_reducible refine isN1 ?_); refine g_ifN_eq (tgt := 21) (p1 := 11) dX9_strokeOf_8 rfl (by omega) rfl (fun c_8 => by exfalso; first | omega | contradiction | exact absurd (by assumption) c_8 | (simp_all; done)) (fun c_8 => ?_)) | refine g_if_eq (tgt := 21) (p1 := 11) dX9_strokeOf_8 rfl rfl (fun c_8 => by exfalso; first | omega | contradiction | exact absurd (by assumption) c_8 | (simp_all; done)) (fun c_8 => ?_)
  refine g_iload_n (p0 := 12) (i := 2) dX9_strokeOf_11 rfl rfl rfl ?_
  first | ((with_reducible refine isN1 ?_); refine g_ifN_lt (tgt := 21) (p1 := 15) dX9_strokeOf_12 rfl (by omega) rfl (fun c_12 => by exfalso; first | omega | contradiction | exact absurd (by assumption) c_12 | (simp_all; done)) (fun c_12 => ?_)) | refine g_if_lt (tgt := 21) (p1 := 15) dX9_strokeOf_12 rfl rfl (fun c_12 => by exfalso; first | omega | contradiction | exact absurd (by assumption) c_12 | (simp_all; done)) (fun c_12 => ?_)
  refine g_iload_n (p0 := 16) (i := 2) dX9_strokeOf_15 rfl rfl rfl ?_
  refine g_bipush (p0 := 18) (v := nI 6) dX9_strokeOf_16 (by decide) rfl ?_
  first | ((with_reducible refine isN2 ?_); refine g_icmpN_le (tgt := 24) (p1 := 21) dX9_strokeOf_18 rfl (by omega) (by omega) rfl (fun c_18 => ?_) (fun c_18 => by exfalso; first | omega | contradiction | exact absurd (by assumption) c_18 | (simp_all; done))) | refine g_icmp_le (tgt := 24) (p1 := 21) dX9_strokeOf_18 rfl rfl (fun c_18 => ?_) (fun c_18 => by exfalso; first | omega | contradiction | exact absurd (by assumption) c_18 | (simp_all; done))
  refine g_iload_n (p0 := 25) (i := 2) dX9_strokeOf_24 rfl rfl rfl ?_
  first | ((with_reducible refine isN1 ?_); refine g_ifN_ne (tgt := 40) (p1 := 28) dX9_strokeOf_25 rfl (by omega) rfl (fun c_25 => ?_) (fun c_25 => by exfalso; first | omega | contradiction | exact absurd (by assumption) c_25 | (simp_all; done))) | refine g_if_ne (tgt := 40) (p1 := 28) dX9_strokeOf_25 rfl rfl (fun c_25 => ?_) (fun c_25 => by exfalso; first | omega | contradiction | exact absurd (by assumption) c_25 | (simp_all; done))
  refine g_iload_n (p0 := 41) (i := 2) dX9_strokeOf_40 rfl rfl rfl ?_
  refine g_iconst (p0 := 42) (v := nI 3) dX9_strokeOf_41 rfl rfl ?_
  first | ((with_reducible refine isN2 ?_); refine g_icmpN_gt (tgt := 64) (p1 := 45) dX9_strokeOf_42 rfl (by omega) (by omega) rfl (fun c_42 => by exfalso; first | omega | contradiction | exact absurd (by assumption) c_42 | (simp_all; done)) (fun c_42 => ?_)) | refine g_icmp_gt (tgt := 64) (p1 := 45) dX9_strokeOf_42 rfl rfl (fun c_42 => by exfalso; first | omega | contradiction | exact absurd (by assumption) c_42 | (simp_all; done)) (fun c_42 => ?_)
  refine g_iload_n (p0 := 46) (i := 1) dX9_strokeOf_45 rfl rfl rfl ?_
  first | ((with_reducible refine isN1 ?_); refine g_ifN_ne (tgt := 54) (p1 := 49) dX9_strokeOf_46 rfl (by omega) rfl (fun c_46 => by exfalso; first | omega | contradiction | exact absurd (by assumption) c_46 | (simp_all; done)) (fun c_46 => ?_)) | refine g_if_ne (tgt := 54) (p1 := 49) dX9_strokeOf_46 rfl rfl (fun c_46 => by exfalso; first | omega | contradiction | exact absurd (by assumption) c_46 | (simp_all; done)) (fun c_46 => ?_)
  refine g_ldc (p0 := 51) dX9_strokeOf_49 qX9_122 rfl ?_
  refine g_goto (tgt := 63) dX9_strokeOf_51 rfl ?_
  refine g_ireturn dX9_strokeOf_63 rfl rfl (?_)
  exact ⟨rfl, rfl⟩
set_option maxRecDepth 20000 in
set_option maxHeartbeats 2000000 in
theorem sO_c3 {p s : Nat} {σ : Sg} (hs : σ 1 2 = nI s) (hs1 : s ≤ 160) (hp : p < s) {v : Int32} (h0 : ¬ p = 0) (hv : σ 65 p = v) : CM mX9_strokeOf [ar 0, ai (nI p), ai (nI 3)] σ (Ret v σ) := by
  refine CM_in (ls := [some (ar 0), some (ai (nI p)), some (ai (nI 3))]) rfl ?_
  refine g_aload_n (p0 := 1) (i := 0) dX9_strokeOf_0 rfl rfl rfl ?_
  refine g_getR (p0 := 4) dX9_strokeOf_1 fX9_10 (by first | rfl | assumption | exact RW.s (by assumption) | exact TW.s (by assumption)) rfl rfl ?_
  refine g_iload_n (p0 := 5) (i := 1) dX9_strokeOf_4 rfl rfl rfl ?_
  refine g_cV1R (p0 := 8) (r1 := mX8_hasStroke) dX9_strokeOf_5 lX9_107 vX8_hasStroke (by first | rfl | assumption | exact RW.s (by assumption) | exact TW.s (by assumption)) ⟨_, _, rfl⟩ (FITi rfl rfl) (Nat.le_of_ble_eq_true rfl) (hasStroke_T TW1 hs hs1 hp) rfl ?_
  first | ((with_reducible refine isN1 ?_); refine g_ifN_eq (tgt := 21) (p1 := 11) dX9_strokeOf_8 rfl (by omega) rfl (fun c_8 => by exfalso; first | omega | contradiction | exact absurd (by assumption) c_8 | (simp_all; done)) (fun c_8 => ?_)) | refine g_if_eq (tgt := 21) (p1 := 11) dX9_strokeOf_8 rfl rfl (fun c_8 => by exfalso; first | omega | contradiction | exact absurd (by assumption) c_8 | (simp_all; done)) (fun c_8 => ?_)
  refine g_iload_n (p0 := 12) (i := 2) dX9_strokeOf_11 rfl rfl rfl ?_
  first | ((with_reducible refine isN1 ?_); refine g_ifN_lt (tgt := 21) (p1 := 15) dX9_strokeOf_12 rfl (by omega) rfl (fun c_12 => by exfalso; first | omega | contradiction | exact absurd (by assumption) c_12 | (simp_all; done)) (fun c_12 => ?_)) | refine g_if_lt (tgt := 21) (p1 := 15) dX9_strokeOf_12 rfl rfl (fun c_12 => by exfalso; first | omega | contradiction | exact absurd (by assumption) c_12 | (simp_all; done)) (fun c_12 => ?_)
  refine g_iload_n (p0 := 16) (i := 2) dX9_strokeOf_15 rfl rfl rfl ?_
  refine g_bipush (p0 := 18) (v := nI 6) dX9_strokeOf_16 (by decide) rfl ?_
  first | ((with_reducible refine isN2 ?_); refine g_icmpN_le (tgt := 24) (p1 := 21) dX9_strokeOf_18 rfl (by omega) (by omega) rfl (fun c_18 => ?_) (fun c_18 => by exfalso; first | omega | contradiction | exact absurd (by assumption) c_18 | (simp_all; done))) | refine g_icmp_le (tgt := 24) (p1 := 21) dX9_strokeOf_18 rfl rfl (fun c_18 => ?_) (fun c_18 => by exfalso; first | omega | contradiction | exact absurd (by assumption) c_18 | (simp_all; done))
  refine g_iload_n (p0 := 25) (i := 2) dX9_strokeOf_24 rfl rfl rfl ?_
  first | ((with_reducible refine isN1 ?_); refine g_ifN_ne (tgt := 40) (p1 := 28) dX9_strokeOf_25 rfl (by omega) rfl (fun c_25 => ?_) (fun c_25 => by exfalso; first | omega | contradiction | exact absurd (by assumption) c_25 | (simp_all; done))) | refine g_if_ne (tgt := 40) (p1 := 28) dX9_strokeOf_25 rfl rfl (fun c_25 => ?_) (fun c_25 => by exfalso; first | omega | contradiction | exact absurd (by assumption) c_25 | (simp_all; done))
  refine g_iload_n (p0 := 41) (i := 2) dX9_strokeOf_40 rfl rfl rfl ?_
  refine g_iconst (p0 := 42) (v := nI 3) dX9_strokeOf_41 rfl rfl ?_
  first | ((with_reducible refine isN2 ?_); refine g_icmpN_gt (tgt := 64) (p1 := 45) dX9_strokeOf_42 rfl (by omega) (by omega) rfl (fun c_42 => by exfalso; first | omega | contradiction | exact absurd (by assumption) c_42 | (simp_all; done)) (fun c_42 => ?_)) | refine g_icmp_gt (tgt := 64) (p1 := 45) dX9_strokeOf_42 rfl rfl (fun c_42 => by exfalso; first | omega | contradiction | exact absurd (by assumption) c_42 | (simp_all; done)) (fun c_42 => ?_)
  refine g_iload_n (p0 := 46) (i := 1) dX9_strokeOf_45 rfl rfl rfl ?_
  first | ((with_reducible refine isN1 ?_); refine g_ifN_ne (tgt := 54) (p1 := 49) dX9_strokeOf_46 rfl (by omega) rfl (fun c_46 => ?_) (fun c_46 => by exfalso; first | omega | contradiction | exact absurd (by assumption) c_46 | (simp_all; done))) | refine g_if_ne (tgt := 54) (p1 := 49) dX9_strokeOf_46 rfl rfl (fun c_46 => ?_) (fun c_46 => by exfalso; first | omega | contradiction | exact absurd (by assumption) c_46 | (simp_all; done))
  refine g_aload_n (p0 := 55) (i := 0) dX9_strokeOf_54 rfl rfl rfl ?_
  refine g_getR (p0 := 58) dX9_strokeOf_55 fX9_29 (by first | rfl | assumption | exact RW.s (by assumption) | exact TW.s (by assumption)) rfl rfl ?_
  refine g_iload_n (p0 := 59) (i := 1) dX9_strokeOf_58 rfl rfl rfl ?_
  refine g_iload_n (p0 := 60) (i := 2) dX9_strokeOf_59 rfl rfl rfl ?_
  refine g_cV2R (p0 := 63) (r1 := mX6_gapDetail) dX9_strokeOf_60 lX9_123 vX6_gapDetail (by first | rfl | assumption | exact RW.s (by assumption) | exact TW.s (by assumption)) ⟨_, _, rfl⟩ (FITi rfl rfl) (Nat.le_of_ble_eq_true rfl) (gapDetail_3 (by omega) hv) rfl ?_
  refine g_ireturn dX9_strokeOf_63 rfl rfl (?_)
  exact ⟨rfl, rfl⟩
set_option maxRecDepth 20000 in
set_option maxHeartbeats 2000000 in
theorem sO_c4z {p s : Nat} {σ : Sg} (hs : σ 1 2 = nI s) (hs1 : s ≤ 160) (hp : p < s) (h0 : σ 63 p = nI 0) : CM mX9_strokeOf [ar 0, ai (nI p), ai (nI 4)] σ (Ret (-1000004) σ) := by
  refine CM_in (ls := [some (ar 0), some (ai (nI p)), some (ai (nI 4))]) rfl ?_
  refine g_aload_n (p0 := 1) (i := 0) dX9_strokeOf_0 rfl rfl rfl ?_
  refine g_getR (p0 := 4) dX9_strokeOf_1 fX9_10 (by first | rfl | assumption | exact RW.s (by assumption) | exact TW.s (by assumption)) rfl rfl ?_
  refine g_iload_n (p0 := 5) (i := 1) dX9_strokeOf_4 rfl rfl rfl ?_
  refine g_cV1R (p0 := 8) (r1 := mX8_hasStroke) dX9_strokeOf_5 lX9_107 vX8_hasStroke (by first | rfl | assumption | exact RW.s (by assumption) | exact TW.s (by assumption)) ⟨_, _, rfl⟩ (FITi rfl rfl) (Nat.le_of_ble_eq_true rfl) (hasStroke_T TW1 hs hs1 hp) rfl ?_
  first | ((with_reducible refine isN1 ?_); refine g_ifN_eq (tgt := 21) (p1 := 11) dX9_strokeOf_8 rfl (by omega) rfl (fun c_8 => by exfalso; first | omega | contradiction | exact absurd (by assumption) c_8 | (simp_all; done)) (fun c_8 => ?_)) | refine g_if_eq (tgt := 21) (p1 := 11) dX9_strokeOf_8 rfl rfl (fun c_8 => by exfalso; first | omega | contradiction | exact absurd (by assumption) c_8 | (simp_all; done)) (fun c_8 => ?_)
  refine g_iload_n (p0 := 12) (i := 2) dX9_strokeOf_11 rfl rfl rfl ?_
  first | ((with_reducible refine isN1 ?_); refine g_ifN_lt (tgt := 21) (p1 := 15) dX9_strokeOf_12 rfl (by omega) rfl (fun c_12 => by exfalso; first | omega | contradiction | exact absurd (by assumption) c_12 | (simp_all; done)) (fun c_12 => ?_)) | refine g_if_lt (tgt := 21) (p1 := 15) dX9_strokeOf_12 rfl rfl (fun c_12 => by exfalso; first | omega | contradiction | exact absurd (by assumption) c_12 | (simp_all; done)) (fun c_12 => ?_)
  refine g_iload_n (p0 := 16) (i := 2) dX9_strokeOf_15 rfl rfl rfl ?_
  refine g_bipush (p0 := 18) (v := nI 6) dX9_strokeOf_16 (by decide) rfl ?_
  first | ((with_reducible refine isN2 ?_); refine g_icmpN_le (tgt := 24) (p1 := 21) dX9_strokeOf_18 rfl (by omega) (by omega) rfl (fun c_18 => ?_) (fun c_18 => by exfalso; first | omega | contradiction | exact absurd (by assumption) c_18 | (simp_all; done))) | refine g_icmp_le (tgt := 24) (p1 := 21) dX9_strokeOf_18 rfl rfl (fun c_18 => ?_) (fun c_18 => by exfalso; first | omega | contradiction | exact absurd (by assumption) c_18 | (simp_all; done))
  refine g_iload_n (p0 := 25) (i := 2) dX9_strokeOf_24 rfl rfl rfl ?_
  first | ((with_reducible refine isN1 ?_); refine g_ifN_ne (tgt := 40) (p1 := 28) dX9_strokeOf_25 rfl (by omega) rfl (fun c_25 => ?_) (fun c_25 => by exfalso; first | omega | contradiction | exact absurd (by assumption) c_25 | (simp_all; done))) | refine g_if_ne (tgt := 40) (p1 := 28) dX9_strokeOf_25 rfl rfl (fun c_25 => ?_) (fun c_25 => by exfalso; first | omega | contradiction | exact absurd (by assumption) c_25 | (simp_all; done))
  refine g_iload_n (p0 := 41) (i := 2) dX9_strokeOf_40 rfl rfl rfl ?_
  refine g_iconst (p0 := 42) (v := nI 3) dX9_strokeOf_41 rfl rfl ?_
  first | ((with_reducible refine isN2 ?_); refine g_icmpN_gt (tgt := 64) (p1 := 45) dX9_strokeOf_42 rfl (by omega) (by omega) rfl (fun c_42 => ?_) (fun c_42 => by exfalso; first | omega | contradiction | exact absurd (by assumption) c_42 | (simp_all; done))) | refine g_icmp_gt (tgt := 64) (p1 := 45) dX9_strokeOf_42 rfl rfl (fun c_42 => ?_) (fun c_42 => by exfalso; first | omega | contradiction | exact absurd (by assumption) c_42 | (simp_all; done))
  refine g_aload_n (p0 := 65) (i := 0) dX9_strokeOf_64 rfl rfl rfl ?_
  refine g_getR (p0 := 68) dX9_strokeOf_65 fX9_29 (by first | rfl | assumption | exact RW.s (by assumption) | exact TW.s (by assumption)) rfl rfl ?_
  refine g_iload_n (p0 := 69) (i := 1) dX9_strokeOf_68 rfl rfl rfl ?_
  refine g_cV1R (p0 := 72) (r1 := mX6_isLeftOut) dX9_strokeOf_69 lX9_127 vX6_isLeftOut (by first | rfl | assumption | exact RW.s (by assumption) | exact TW.s (by assumption)) ⟨_, _, rfl⟩ (FITi rfl rfl) (Nat.le_of_ble_eq_true rfl) (isLeftOut_T (by omega) h0) rfl ?_
  first | ((with_reducible refine isN1 ?_); refine g_ifN_eq (tgt := 80) (p1 := 75) dX9_strokeOf_72 rfl (by omega) rfl (fun c_72 => by exfalso; first | omega | contradiction | exact absurd (by assumption) c_72 | (simp_all; done)) (fun c_72 => ?_)) | refine g_if_eq (tgt := 80) (p1 := 75) dX9_strokeOf_72 rfl rfl (fun c_72 => by exfalso; first | omega | contradiction | exact absurd (by assumption) c_72 | (simp_all; done)) (fun c_72 => ?_)
  refine g_ldc (p0 := 77) dX9_strokeOf_75 qX9_122 rfl ?_
  refine g_goto (tgt := 89) dX9_strokeOf_77 rfl ?_
  refine g_ireturn dX9_strokeOf_89 rfl rfl (?_)
  exact ⟨rfl, rfl⟩
set_option maxRecDepth 20000 in
set_option maxHeartbeats 2000000 in
theorem sO_c4 {p s : Nat} {σ : Sg} (hs : σ 1 2 = nI s) (hs1 : s ≤ 160) (hp : p < s) {v : Int32} {k : Nat} (hk : σ 63 p = nI k) (h0 : 0 < k) (h5 : k ≤ 5) (hv : σ 67 p = v) : CM mX9_strokeOf [ar 0, ai (nI p), ai (nI 4)] σ (Ret v σ) := by
  refine CM_in (ls := [some (ar 0), some (ai (nI p)), some (ai (nI 4))]) rfl ?_
  refine g_aload_n (p0 := 1) (i := 0) dX9_strokeOf_0 rfl rfl rfl ?_
  refine g_getR (p0 := 4) dX9_strokeOf_1 fX9_10 (by first | rfl | assumption | exact RW.s (by assumption) | exact TW.s (by assumption)) rfl rfl ?_
  refine g_iload_n (p0 := 5) (i := 1) dX9_strokeOf_4 rfl rfl rfl ?_
  refine g_cV1R (p0 := 8) (r1 := mX8_hasStroke) dX9_strokeOf_5 lX9_107 vX8_hasStroke (by first | rfl | assumption | exact RW.s (by assumption) | exact TW.s (by assumption)) ⟨_, _, rfl⟩ (FITi rfl rfl) (Nat.le_of_ble_eq_true rfl) (hasStroke_T TW1 hs hs1 hp) rfl ?_
  first | ((with_reducible refine isN1 ?_); refine g_ifN_eq (tgt := 21) (p1 := 11) dX9_strokeOf_8 rfl (by omega) rfl (fun c_8 => by exfalso; first | omega | contradiction | exact absurd (by assumption) c_8 | (simp_all; done)) (fun c_8 => ?_)) | refine g_if_eq (tgt := 21) (p1 := 11) dX9_strokeOf_8 rfl rfl (fun c_8 => by exfalso; first | omega | contradiction | exact absurd (by assumption) c_8 | (simp_all; done)) (fun c_8 => ?_)
  refine g_iload_n (p0 := 12) (i := 2) dX9_strokeOf_11 rfl rfl rfl ?_
  first | ((with_reducible refine isN1 ?_); refine g_ifN_lt (tgt := 21) (p1 := 15) dX9_strokeOf_12 rfl (by omega) rfl (fun c_12 => by exfalso; first | omega | contradiction | exact absurd (by assumption) c_12 | (simp_all; done)) (fun c_12 => ?_)) | refine g_if_lt (tgt := 21) (p1 := 15) dX9_strokeOf_12 rfl rfl (fun c_12 => by exfalso; first | omega | contradiction | exact absurd (by assumption) c_12 | (simp_all; done)) (fun c_12 => ?_)
  refine g_iload_n (p0 := 16) (i := 2) dX9_strokeOf_15 rfl rfl rfl ?_
  refine g_bipush (p0 := 18) (v := nI 6) dX9_strokeOf_16 (by decide) rfl ?_
  first | ((with_reducible refine isN2 ?_); refine g_icmpN_le (tgt := 24) (p1 := 21) dX9_strokeOf_18 rfl (by omega) (by omega) rfl (fun c_18 => ?_) (fun c_18 => by exfalso; first | omega | contradiction | exact absurd (by assumption) c_18 | (simp_all; done))) | refine g_icmp_le (tgt := 24) (p1 := 21) dX9_strokeOf_18 rfl rfl (fun c_18 => ?_) (fun c_18 => by exfalso; first | omega | contradiction | exact absurd (by assumption) c_18 | (simp_all; done))
  refine g_iload_n (p0 := 25) (i := 2) dX9_strokeOf_24 rfl rfl rfl ?_
  first | ((with_reducible refine isN1 ?_); refine g_ifN_ne (tgt := 40) (p1 := 28) dX9_strokeOf_25 rfl (by omega) rfl (fun c_25 => ?_) (fun c_25 => by exfalso; first | omega | contradiction | exact absurd (by assumption) c_25 | (simp_all; done))) | refine g_if_ne (tgt := 40) (p1 := 28) dX9_strokeOf_25 rfl rfl (fun c_25 => ?_) (fun c_25 => by exfalso; first | omega | contradiction | exact absurd (by assumption) c_25 | (simp_all; done))
  refine g_iload_n (p0 := 41) (i := 2) dX9_strokeOf_40 rfl rfl rfl ?_
  refine g_iconst (p0 := 42) (v := nI 3) dX9_strokeOf_41 rfl rfl ?_
  first | ((with_reducible refine isN2 ?_); refine g_icmpN_gt (tgt := 64) (p1 := 45) dX9_strokeOf_42 rfl (by omega) (by omega) rfl (fun c_42 => ?_) (fun c_42 => by exfalso; first | omega | contradiction | exact absurd (by assumption) c_42 | (simp_all; done))) | refine g_icmp_gt (tgt := 64) (p1 := 45) dX9_strokeOf_42 rfl rfl (fun c_42 => ?_) (fun c_42 => by exfalso; first | omega | contradiction | exact absurd (by assumption) c_42 | (simp_all; done))
  refine g_aload_n (p0 := 65) (i := 0) dX9_strokeOf_64 rfl rfl rfl ?_
  refine g_getR (p0 := 68) dX9_strokeOf_65 fX9_29 (by first | rfl | assumption | exact RW.s (by assumption) | exact TW.s (by assumption)) rfl rfl ?_
  refine g_iload_n (p0 := 69) (i := 1) dX9_strokeOf_68 rfl rfl rfl ?_
  refine g_cV1R (p0 := 72) (r1 := mX6_isLeftOut) dX9_strokeOf_69 lX9_127 vX6_isLeftOut (by first | rfl | assumption | exact RW.s (by assumption) | exact TW.s (by assumption)) ⟨_, _, rfl⟩ (FITi rfl rfl) (Nat.le_of_ble_eq_true rfl) (isLeftOut_F (by omega) hk h0 h5) rfl ?_
  first | ((with_reducible refine isN1 ?_); refine g_ifN_eq (tgt := 80) (p1 := 75) dX9_strokeOf_72 rfl (by omega) rfl (fun c_72 => ?_) (fun c_72 => by exfalso; first | omega | contradiction | exact absurd (by assumption) c_72 | (simp_all; done))) | refine g_if_eq (tgt := 80) (p1 := 75) dX9_strokeOf_72 rfl rfl (fun c_72 => ?_) (fun c_72 => by exfalso; first | omega | contradiction | exact absurd (by assumption) c_72 | (simp_all; done))
  refine g_aload_n (p0 := 81) (i := 0) dX9_strokeOf_80 rfl rfl rfl ?_
  refine g_getR (p0 := 84) dX9_strokeOf_81 fX9_29 (by first | rfl | assumption | exact RW.s (by assumption) | exact TW.s (by assumption)) rfl rfl ?_
  refine g_iload_n (p0 := 85) (i := 1) dX9_strokeOf_84 rfl rfl rfl ?_
  refine g_iload_n (p0 := 86) (i := 2) dX9_strokeOf_85 rfl rfl rfl ?_
  refine g_cV2R (p0 := 89) (r1 := mX6_placeDetail) dX9_strokeOf_86 lX9_130 vX6_placeDetail (by first | rfl | assumption | exact RW.s (by assumption) | exact TW.s (by assumption)) ⟨_, _, rfl⟩ (FITi rfl rfl) (Nat.le_of_ble_eq_true rfl) (placeDetail_4 (by omega) hv) rfl ?_
  refine g_ireturn dX9_strokeOf_89 rfl rfl (?_)
  exact ⟨rfl, rfl⟩
set_option maxRecDepth 20000 in
set_option maxHeartbeats 2000000 in
theorem sO_c5z {p s : Nat} {σ : Sg} (hs : σ 1 2 = nI s) (hs1 : s ≤ 160) (hp : p < s) (h0 : σ 63 p = nI 0) : CM mX9_strokeOf [ar 0, ai (nI p), ai (nI 5)] σ (Ret (-1000004) σ) := by
  refine CM_in (ls := [some (ar 0), some (ai (nI p)), some (ai (nI 5))]) rfl ?_
  refine g_aload_n (p0 := 1) (i := 0) dX9_strokeOf_0 rfl rfl rfl ?_
  refine g_getR (p0 := 4) dX9_strokeOf_1 fX9_10 (by first | rfl | assumption | exact RW.s (by assumption) | exact TW.s (by assumption)) rfl rfl ?_
  refine g_iload_n (p0 := 5) (i := 1) dX9_strokeOf_4 rfl rfl rfl ?_
  refine g_cV1R (p0 := 8) (r1 := mX8_hasStroke) dX9_strokeOf_5 lX9_107 vX8_hasStroke (by first | rfl | assumption | exact RW.s (by assumption) | exact TW.s (by assumption)) ⟨_, _, rfl⟩ (FITi rfl rfl) (Nat.le_of_ble_eq_true rfl) (hasStroke_T TW1 hs hs1 hp) rfl ?_
  first | ((with_reducible refine isN1 ?_); refine g_ifN_eq (tgt := 21) (p1 := 11) dX9_strokeOf_8 rfl (by omega) rfl (fun c_8 => by exfalso; first | omega | contradiction | exact absurd (by assumption) c_8 | (simp_all; done)) (fun c_8 => ?_)) | refine g_if_eq (tgt := 21) (p1 := 11) dX9_strokeOf_8 rfl rfl (fun c_8 => by exfalso; first | omega | contradiction | exact absurd (by assumption) c_8 | (simp_all; done)) (fun c_8 => ?_)
  refine g_iload_n (p0 := 12) (i := 2) dX9_strokeOf_11 rfl rfl rfl ?_
  first | ((with_reducible refine isN1 ?_); refine g_ifN_lt (tgt := 21) (p1 := 15) dX9_strokeOf_12 rfl (by omega) rfl (fun c_12 => by exfalso; first | omega | contradiction | exact absurd (by assumption) c_12 | (simp_all; done)) (fun c_12 => ?_)) | refine g_if_lt (tgt := 21) (p1 := 15) dX9_strokeOf_12 rfl rfl (fun c_12 => by exfalso; first | omega | contradiction | exact absurd (by assumption) c_12 | (simp_all; done)) (fun c_12 => ?_)
  refine g_iload_n (p0 := 16) (i := 2) dX9_strokeOf_15 rfl rfl rfl ?_
  refine g_bipush (p0 := 18) (v := nI 6) dX9_strokeOf_16 (by decide) rfl ?_
  first | ((with_reducible refine isN2 ?_); refine g_icmpN_le (tgt := 24) (p1 := 21) dX9_strokeOf_18 rfl (by omega) (by omega) rfl (fun c_18 => ?_) (fun c_18 => by exfalso; first | omega | contradiction | exact absurd (by assumption) c_18 | (simp_all; done))) | refine g_icmp_le (tgt := 24) (p1 := 21) dX9_strokeOf_18 rfl rfl (fun c_18 => ?_) (fun c_18 => by exfalso; first | omega | contradiction | exact absurd (by assumption) c_18 | (simp_all; done))
  refine g_iload_n (p0 := 25) (i := 2) dX9_strokeOf_24 rfl rfl rfl ?_
  first | ((with_reducible refine isN1 ?_); refine g_ifN_ne (tgt := 40) (p1 := 28) dX9_strokeOf_25 rfl (by omega) rfl (fun c_25 => ?_) (fun c_25 => by exfalso; first | omega | contradiction | exact absurd (by assumption) c_25 | (simp_all; done))) | refine g_if_ne (tgt := 40) (p1 := 28) dX9_strokeOf_25 rfl rfl (fun c_25 => ?_) (fun c_25 => by exfalso; first | omega | contradiction | exact absurd (by assumption) c_25 | (simp_all; done))
  refine g_iload_n (p0 := 41) (i := 2) dX9_strokeOf_40 rfl rfl rfl ?_
  refine g_iconst (p0 := 42) (v := nI 3) dX9_strokeOf_41 rfl rfl ?_
  first | ((with_reducible refine isN2 ?_); refine g_icmpN_gt (tgt := 64) (p1 := 45) dX9_strokeOf_42 rfl (by omega) (by omega) rfl (fun c_42 => ?_) (fun c_42 => by exfalso; first | omega | contradiction | exact absurd (by assumption) c_42 | (simp_all; done))) | refine g_icmp_gt (tgt := 64) (p1 := 45) dX9_strokeOf_42 rfl rfl (fun c_42 => ?_) (fun c_42 => by exfalso; first | omega | contradiction | exact absurd (by assumption) c_42 | (simp_all; done))
  refine g_aload_n (p0 := 65) (i := 0) dX9_strokeOf_64 rfl rfl rfl ?_
  refine g_getR (p0 := 68) dX9_strokeOf_65 fX9_29 (by first | rfl | assumption | exact RW.s (by assumption) | exact TW.s (by assumption)) rfl rfl ?_
  refine g_iload_n (p0 := 69) (i := 1) dX9_strokeOf_68 rfl rfl rfl ?_
  refine g_cV1R (p0 := 72) (r1 := mX6_isLeftOut) dX9_strokeOf_69 lX9_127 vX6_isLeftOut (by first | rfl | assumption | exact RW.s (by assumption) | exact TW.s (by assumption)) ⟨_, _, rfl⟩ (FITi rfl rfl) (Nat.le_of_ble_eq_true rfl) (isLeftOut_T (by omega) h0) rfl ?_
  first | ((with_reducible refine isN1 ?_); refine g_ifN_eq (tgt := 80) (p1 := 75) dX9_strokeOf_72 rfl (by omega) rfl (fun c_72 => by exfalso; first | omega | contradiction | exact absurd (by assumption) c_72 | (simp_all; done)) (fun c_72 => ?_)) | refine g_if_eq (tgt := 80) (p1 := 75) dX9_strokeOf_72 rfl rfl (fun c_72 => by exfalso; first | omega | contradiction | exact absurd (by assumption) c_72 | (simp_all; done)) (fun c_72 => ?_)
  refine g_ldc (p0 := 77) dX9_strokeOf_75 qX9_122 rfl ?_
  refine g_goto (tgt := 89) dX9_strokeOf_77 rfl ?_
  refine g_ireturn dX9_strokeOf_89 rfl rfl (?_)
  exact ⟨rfl, rfl⟩
set_option maxRecDepth 20000 in
set_option maxHeartbeats 2000000 in
theorem sO_c5 {p s : Nat} {σ : Sg} (hs : σ 1 2 = nI s) (hs1 : s ≤ 160) (hp : p < s) {v : Int32} {k : Nat} (hk : σ 63 p = nI k) (h0 : 0 < k) (h5 : k ≤ 5) (hv : σ 69 p = v) : CM mX9_strokeOf [ar 0, ai (nI p), ai (nI 5)] σ (Ret v σ) := by
  refine CM_in (ls := [some (ar 0), some (ai (nI p)), some (ai (nI 5))]) rfl ?_
  refine g_aload_n (p0 := 1) (i := 0) dX9_strokeOf_0 rfl rfl rfl ?_
  refine g_getR (p0 := 4) dX9_strokeOf_1 fX9_10 (by first | rfl | assumption | exact RW.s (by assumption) | exact TW.s (by assumption)) rfl rfl ?_
  refine g_iload_n (p0 := 5) (i := 1) dX9_strokeOf_4 rfl rfl rfl ?_
  refine g_cV1R (p0 := 8) (r1 := mX8_hasStroke) dX9_strokeOf_5 lX9_107 vX8_hasStroke (by first | rfl | assumption | exact RW.s (by assumption) | exact TW.s (by assumption)) ⟨_, _, rfl⟩ (FITi rfl rfl) (Nat.le_of_ble_eq_true rfl) (hasStroke_T TW1 hs hs1 hp) rfl ?_
  first | ((with_reducible refine isN1 ?_); refine g_ifN_eq (tgt := 21) (p1 := 11) dX9_strokeOf_8 rfl (by omega) rfl (fun c_8 => by exfalso; first | omega | contradiction | exact absurd (by assumption) c_8 | (simp_all; done)) (fun c_8 => ?_)) | refine g_if_eq (tgt := 21) (p1 := 11) dX9_strokeOf_8 rfl rfl (fun c_8 => by exfalso; first | omega | contradiction | exact absurd (by assumption) c_8 | (simp_all; done)) (fun c_8 => ?_)
  refine g_iload_n (p0 := 12) (i := 2) dX9_strokeOf_11 rfl rfl rfl ?_
  first | ((with_reducible refine isN1 ?_); refine g_ifN_lt (tgt := 21) (p1 := 15) dX9_strokeOf_12 rfl (by omega) rfl (fun c_12 => by exfalso; first | omega | contradiction | exact absurd (by assumption) c_12 | (simp_all; done)) (fun c_12 => ?_)) | refine g_if_lt (tgt := 21) (p1 := 15) dX9_strokeOf_12 rfl rfl (fun c_12 => by exfalso; first | omega | contradiction | exact absurd (by assumption) c_12 | (simp_all; done)) (fun c_12 => ?_)
  refine g_iload_n (p0 := 16) (i := 2) dX9_strokeOf_15 rfl rfl rfl ?_
  refine g_bipush (p0 := 18) (v := nI 6) dX9_strokeOf_16 (by decide) rfl ?_
  first | ((with_reducible refine isN2 ?_); refine g_icmpN_le (tgt := 24) (p1 := 21) dX9_strokeOf_18 rfl (by omega) (by omega) rfl (fun c_18 => ?_) (fun c_18 => by exfalso; first | omega | contradiction | exact absurd (by assumption) c_18 | (simp_all; done))) | refine g_icmp_le (tgt := 24) (p1 := 21) dX9_strokeOf_18 rfl rfl (fun c_18 => ?_) (fun c_18 => by exfalso; first | omega | contradiction | exact absurd (by assumption) c_18 | (simp_all; done))
  refine g_iload_n (p0 := 25) (i := 2) dX9_strokeOf_24 rfl rfl rfl ?_
  first | ((with_reducible refine isN1 ?_); refine g_ifN_ne (tgt := 40) (p1 := 28) dX9_strokeOf_25 rfl (by omega) rfl (fun c_25 => ?_) (fun c_25 => by exfalso; first | omega | contradiction | exact absurd (by assumption) c_25 | (simp_all; done))) | refine g_if_ne (tgt := 40) (p1 := 28) dX9_strokeOf_25 rfl rfl (fun c_25 => ?_) (fun c_25 => by exfalso; first | omega | contradiction | exact absurd (by assumption) c_25 | (simp_all; done))
  refine g_iload_n (p0 := 41) (i := 2) dX9_strokeOf_40 rfl rfl rfl ?_
  refine g_iconst (p0 := 42) (v := nI 3) dX9_strokeOf_41 rfl rfl ?_
  first | ((with_reducible refine isN2 ?_); refine g_icmpN_gt (tgt := 64) (p1 := 45) dX9_strokeOf_42 rfl (by omega) (by omega) rfl (fun c_42 => ?_) (fun c_42 => by exfalso; first | omega | contradiction | exact absurd (by assumption) c_42 | (simp_all; done))) | refine g_icmp_gt (tgt := 64) (p1 := 45) dX9_strokeOf_42 rfl rfl (fun c_42 => ?_) (fun c_42 => by exfalso; first | omega | contradiction | exact absurd (by assumption) c_42 | (simp_all; done))
  refine g_aload_n (p0 := 65) (i := 0) dX9_strokeOf_64 rfl rfl rfl ?_
  refine g_getR (p0 := 68) dX9_strokeOf_65 fX9_29 (by first | rfl | assumption | exact RW.s (by assumption) | exact TW.s (by assumption)) rfl rfl ?_
  refine g_iload_n (p0 := 69) (i := 1) dX9_strokeOf_68 rfl rfl rfl ?_
  refine g_cV1R (p0 := 72) (r1 := mX6_isLeftOut) dX9_strokeOf_69 lX9_127 vX6_isLeftOut (by first | rfl | assumption | exact RW.s (by assumption) | exact TW.s (by assumption)) ⟨_, _, rfl⟩ (FITi rfl rfl) (Nat.le_of_ble_eq_true rfl) (isLeftOut_F (by omega) hk h0 h5) rfl ?_
  first | ((with_reducible refine isN1 ?_); refine g_ifN_eq (tgt := 80) (p1 := 75) dX9_strokeOf_72 rfl (by omega) rfl (fun c_72 => ?_) (fun c_72 => by exfalso; first | omega | contradiction | exact absurd (by assumption) c_72 | (simp_all; done))) | refine g_if_eq (tgt := 80) (p1 := 75) dX9_strokeOf_72 rfl rfl (fun c_72 => ?_) (fun c_72 => by exfalso; first | omega | contradiction | exact absurd (by assumption) c_72 | (simp_all; done))
  refine g_aload_n (p0 := 81) (i := 0) dX9_strokeOf_80 rfl rfl rfl ?_
  refine g_getR (p0 := 84) dX9_strokeOf_81 fX9_29 (by first | rfl | assumption | exact RW.s (by assumption) | exact TW.s (by assumption)) rfl rfl ?_
  refine g_iload_n (p0 := 85) (i := 1) dX9_strokeOf_84 rfl rfl rfl ?_
  refine g_iload_n (p0 := 86) (i := 2) dX9_strokeOf_85 rfl rfl rfl ?_
  refine g_cV2R (p0 := 89) (r1 := mX6_placeDetail) dX9_strokeOf_86 lX9_130 vX6_placeDetail (by first | rfl | assumption | exact RW.s (by assumption) | exact TW.s (by assumption)) ⟨_, _, rfl⟩ (FITi rfl rfl) (Nat.le_of_ble_eq_true rfl) (placeDetail_5 (by omega) hv) rfl ?_
  refine g_ireturn dX9_strokeOf_89 rfl rfl (?_)
  exact ⟨rfl, rfl⟩
set_option maxRecDepth 20000 in
set_option maxHeartbeats 2000000 in
theorem sO_c6z {p s : Nat} {σ : Sg} (hs : σ 1 2 = nI s) (hs1 : s ≤ 160) (hp : p < s) (h0 : σ 63 p = nI 0) : CM mX9_strokeOf [ar 0, ai (nI p), ai (nI 6)] σ (Ret (-1000004) σ) := by
  refine CM_in (ls := [some (ar 0), some (ai (nI p)), some (ai (nI 6))]) rfl ?_
  refine g_aload_n (p0 := 1) (i := 0) dX9_strokeOf_0 rfl rfl rfl ?_
  refine g_getR (p0 := 4) dX9_strokeOf_1 fX9_10 (by first | rfl | assumption | exact RW.s (by assumption) | exact TW.s (by assumption)) rfl rfl ?_
  refine g_iload_n (p0 := 5) (i := 1) dX9_strokeOf_4 rfl rfl rfl ?_
  refine g_cV1R (p0 := 8) (r1 := mX8_hasStroke) dX9_strokeOf_5 lX9_107 vX8_hasStroke (by first | rfl | assumption | exact RW.s (by assumption) | exact TW.s (by assumption)) ⟨_, _, rfl⟩ (FITi rfl rfl) (Nat.le_of_ble_eq_true rfl) (hasStroke_T TW1 hs hs1 hp) rfl ?_
  first | ((with_reducible refine isN1 ?_); refine g_ifN_eq (tgt := 21) (p1 := 11) dX9_strokeOf_8 rfl (by omega) rfl (fun c_8 => by exfalso; first | omega | contradiction | exact absurd (by assumption) c_8 | (simp_all; done)) (fun c_8 => ?_)) | refine g_if_eq (tgt := 21) (p1 := 11) dX9_strokeOf_8 rfl rfl (fun c_8 => by exfalso; first | omega | contradiction | exact absurd (by assumption) c_8 | (simp_all; done)) (fun c_8 => ?_)
  refine g_iload_n (p0 := 12) (i := 2) dX9_strokeOf_11 rfl rfl rfl ?_
  first | ((with_reducible refine isN1 ?_); refine g_ifN_lt (tgt := 21) (p1 := 15) dX9_strokeOf_12 rfl (by omega) rfl (fun c_12 => by exfalso; first | omega | contradiction | exact absurd (by assumption) c_12 | (simp_all; done)) (fun c_12 => ?_)) | refine g_if_lt (tgt := 21) (p1 := 15) dX9_strokeOf_12 rfl rfl (fun c_12 => by exfalso; first | omega | contradiction | exact absurd (by assumption) c_12 | (simp_all; done)) (fun c_12 => ?_)
  refine g_iload_n (p0 := 16) (i := 2) dX9_strokeOf_15 rfl rfl rfl ?_
  refine g_bipush (p0 := 18) (v := nI 6) dX9_strokeOf_16 (by decide) rfl ?_
  first | ((with_reducible refine isN2 ?_); refine g_icmpN_le (tgt := 24) (p1 := 21) dX9_strokeOf_18 rfl (by omega) (by omega) rfl (fun c_18 => ?_) (fun c_18 => by exfalso; first | omega | contradiction | exact absurd (by assumption) c_18 | (simp_all; done))) | refine g_icmp_le (tgt := 24) (p1 := 21) dX9_strokeOf_18 rfl rfl (fun c_18 => ?_) (fun c_18 => by exfalso; first | omega | contradiction | exact absurd (by assumption) c_18 | (simp_all; done))
  refine g_iload_n (p0 := 25) (i := 2) dX9_strokeOf_24 rfl rfl rfl ?_
  first | ((with_reducible refine isN1 ?_); refine g_ifN_ne (tgt := 40) (p1 := 28) dX9_strokeOf_25 rfl (by omega) rfl (fun c_25 => ?_) (fun c_25 => by exfalso; first | omega | contradiction | exact absurd (by assumption) c_25 | (simp_all; done))) | refine g_if_ne (tgt := 40) (p1 := 28) dX9_strokeOf_25 rfl rfl (fun c_25 => ?_) (fun c_25 => by exfalso; first | omega | contradiction | exact absurd (by assumption) c_25 | (simp_all; done))
  refine g_iload_n (p0 := 41) (i := 2) dX9_strokeOf_40 rfl rfl rfl ?_
  refine g_iconst (p0 := 42) (v := nI 3) dX9_strokeOf_41 rfl rfl ?_
  first | ((with_reducible refine isN2 ?_); refine g_icmpN_gt (tgt := 64) (p1 := 45) dX9_strokeOf_42 rfl (by omega) (by omega) rfl (fun c_42 => ?_) (fun c_42 => by exfalso; first | omega | contradiction | exact absurd (by assumption) c_42 | (simp_all; done))) | refine g_icmp_gt (tgt := 64) (p1 := 45) dX9_strokeOf_42 rfl rfl (fun c_42 => ?_) (fun c_42 => by exfalso; first | omega | contradiction | exact absurd (by assumption) c_42 | (simp_all; done))
  refine g_aload_n (p0 := 65) (i := 0) dX9_strokeOf_64 rfl rfl rfl ?_
  refine g_getR (p0 := 68) dX9_strokeOf_65 fX9_29 (by first | rfl | assumption | exact RW.s (by assumption) | exact TW.s (by assumption)) rfl rfl ?_
  refine g_iload_n (p0 := 69) (i := 1) dX9_strokeOf_68 rfl rfl rfl ?_
  refine g_cV1R (p0 := 72) (r1 := mX6_isLeftOut) dX9_strokeOf_69 lX9_127 vX6_isLeftOut (by first | rfl | assumption | exact RW.s (by assumption) | exact TW.s (by assumption)) ⟨_, _, rfl⟩ (FITi rfl rfl) (Nat.le_of_ble_eq_true rfl) (isLeftOut_T (by omega) h0) rfl ?_
  first | ((with_reducible refine isN1 ?_); refine g_ifN_eq (tgt := 80) (p1 := 75) dX9_strokeOf_72 rfl (by omega) rfl (fun c_72 => by exfalso; first | omega | contradiction | exact absurd (by assumption) c_72 | (simp_all; done)) (fun c_72 => ?_)) | refine g_if_eq (tgt := 80) (p1 := 75) dX9_strokeOf_72 rfl rfl (fun c_72 => by exfalso; first | omega | contradiction | exact absurd (by assumption) c_72 | (simp_all; done)) (fun c_72 => ?_)
  refine g_ldc (p0 := 77) dX9_strokeOf_75 qX9_122 rfl ?_
  refine g_goto (tgt := 89) dX9_strokeOf_77 rfl ?_
  refine g_ireturn dX9_strokeOf_89 rfl rfl (?_)
  exact ⟨rfl, rfl⟩
set_option maxRecDepth 20000 in
set_option maxHeartbeats 2000000 in
theorem sO_c6 {p s : Nat} {σ : Sg} (hs : σ 1 2 = nI s) (hs1 : s ≤ 160) (hp : p < s) {v : Int32} {k : Nat} (hk : σ 63 p = nI k) (h0 : 0 < k) (h5 : k ≤ 5) (hv : σ 71 p = v) : CM mX9_strokeOf [ar 0, ai (nI p), ai (nI 6)] σ (Ret v σ) := by
  refine CM_in (ls := [some (ar 0), some (ai (nI p)), some (ai (nI 6))]) rfl ?_
  refine g_aload_n (p0 := 1) (i := 0) dX9_strokeOf_0 rfl rfl rfl ?_
  refine g_getR (p0 := 4) dX9_strokeOf_1 fX9_10 (by first | rfl | assumption | exact RW.s (by assumption) | exact TW.s (by assumption)) rfl rfl ?_
  refine g_iload_n (p0 := 5) (i := 1) dX9_strokeOf_4 rfl rfl rfl ?_
  refine g_cV1R (p0 := 8) (r1 := mX8_hasStroke) dX9_strokeOf_5 lX9_107 vX8_hasStroke (by first | rfl | assumption | exact RW.s (by assumption) | exact TW.s (by assumption)) ⟨_, _, rfl⟩ (FITi rfl rfl) (Nat.le_of_ble_eq_true rfl) (hasStroke_T TW1 hs hs1 hp) rfl ?_
  first | ((with_reducible refine isN1 ?_); refine g_ifN_eq (tgt := 21) (p1 := 11) dX9_strokeOf_8 rfl (by omega) rfl (fun c_8 => by exfalso; first | omega | contradiction | exact absurd (by assumption) c_8 | (simp_all; done)) (fun c_8 => ?_)) | refine g_if_eq (tgt := 21) (p1 := 11) dX9_strokeOf_8 rfl rfl (fun c_8 => by exfalso; first | omega | contradiction | exact absurd (by assumption) c_8 | (simp_all; done)) (fun c_8 => ?_)
  refine g_iload_n (p0 := 12) (i := 2) dX9_strokeOf_11 rfl rfl rfl ?_
  first | ((with_reducible refine isN1 ?_); refine g_ifN_lt (tgt := 21) (p1 := 15) dX9_strokeOf_12 rfl (by omega) rfl (fun c_12 => by exfalso; first | omega | contradiction | exact absurd (by assumption) c_12 | (simp_all; done)) (fun c_12 => ?_)) | refine g_if_lt (tgt := 21) (p1 := 15) dX9_strokeOf_12 rfl rfl (fun c_12 => by exfalso; first | omega | contradiction | exact absurd (by assumption) c_12 | (simp_all; done)) (fun c_12 => ?_)
  refine g_iload_n (p0 := 16) (i := 2) dX9_strokeOf_15 rfl rfl rfl ?_
  refine g_bipush (p0 := 18) (v := nI 6) dX9_strokeOf_16 (by decide) rfl ?_
  first | ((with_reducible refine isN2 ?_); refine g_icmpN_le (tgt := 24) (p1 := 21) dX9_strokeOf_18 rfl (by omega) (by omega) rfl (fun c_18 => ?_) (fun c_18 => by exfalso; first | omega | contradiction | exact absurd (by assumption) c_18 | (simp_all; done))) | refine g_icmp_le (tgt := 24) (p1 := 21) dX9_strokeOf_18 rfl rfl (fun c_18 => ?_) (fun c_18 => by exfalso; first | omega | contradiction | exact absurd (by assumption) c_18 | (simp_all; done))
  refine g_iload_n (p0 := 25) (i := 2) dX9_strokeOf_24 rfl rfl rfl ?_
  first | ((with_reducible refine isN1 ?_); refine g_ifN_ne (tgt := 40) (p1 := 28) dX9_strokeOf_25 rfl (by omega) rfl (fun c_25 => ?_) (fun c_25 => by exfalso; first | omega | contradiction | exact absurd (by assumption) c_25 | (simp_all; done))) | refine g_if_ne (tgt := 40) (p1 := 28) dX9_strokeOf_25 rfl rfl (fun c_25 => ?_) (fun c_25 => by exfalso; first | omega | contradiction | exact absurd (by assumption) c_25 | (simp_all; done))
  refine g_iload_n (p0 := 41) (i := 2) dX9_strokeOf_40 rfl rfl rfl ?_
  refine g_iconst (p0 := 42) (v := nI 3) dX9_strokeOf_41 rfl rfl ?_
  first | ((with_reducible refine isN2 ?_); refine g_icmpN_gt (tgt := 64) (p1 := 45) dX9_strokeOf_42 rfl (by omega) (by omega) rfl (fun c_42 => ?_) (fun c_42 => by exfalso; first | omega | contradiction | exact absurd (by assumption) c_42 | (simp_all; done))) | refine g_icmp_gt (tgt := 64) (p1 := 45) dX9_strokeOf_42 rfl rfl (fun c_42 => ?_) (fun c_42 => by exfalso; first | omega | contradiction | exact absurd (by assumption) c_42 | (simp_all; done))
  refine g_aload_n (p0 := 65) (i := 0) dX9_strokeOf_64 rfl rfl rfl ?_
  refine g_getR (p0 := 68) dX9_strokeOf_65 fX9_29 (by first | rfl | assumption | exact RW.s (by assumption) | exact TW.s (by assumption)) rfl rfl ?_
  refine g_iload_n (p0 := 69) (i := 1) dX9_strokeOf_68 rfl rfl rfl ?_
  refine g_cV1R (p0 := 72) (r1 := mX6_isLeftOut) dX9_strokeOf_69 lX9_127 vX6_isLeftOut (by first | rfl | assumption | exact RW.s (by assumption) | exact TW.s (by assumption)) ⟨_, _, rfl⟩ (FITi rfl rfl) (Nat.le_of_ble_eq_true rfl) (isLeftOut_F (by omega) hk h0 h5) rfl ?_
  first | ((with_reducible refine isN1 ?_); refine g_ifN_eq (tgt := 80) (p1 := 75) dX9_strokeOf_72 rfl (by omega) rfl (fun c_72 => ?_) (fun c_72 => by exfalso; first | omega | contradiction | exact absurd (by assumption) c_72 | (simp_all; done))) | refine g_if_eq (tgt := 80) (p1 := 75) dX9_strokeOf_72 rfl rfl (fun c_72 => ?_) (fun c_72 => by exfalso; first | omega | contradiction | exact absurd (by assumption) c_72 | (simp_all; done))
  refine g_aload_n (p0 := 81) (i := 0) dX9_strokeOf_80 rfl rfl rfl ?_
  refine g_getR (p0 := 84) dX9_strokeOf_81 fX9_29 (by first | rfl | assumption | exact RW.s (by assumption) | exact TW.s (by assumption)) rfl rfl ?_
  refine g_iload_n (p0 := 85) (i := 1) dX9_strokeOf_84 rfl rfl rfl ?_
  refine g_iload_n (p0 := 86) (i := 2) dX9_strokeOf_85 rfl rfl rfl ?_
  refine g_cV2R (p0 := 89) (r1 := mX6_placeDetail) dX9_strokeOf_86 lX9_130 vX6_placeDetail (by first | rfl | assumption | exact RW.s (by assumption) | exact TW.s (by assumption)) ⟨_, _, rfl⟩ (FITi rfl rfl) (Nat.le_of_ble_eq_true rfl) (placeDetail_6 (by omega) hv) rfl ?_
  refine g_ireturn dX9_strokeOf_89 rfl rfl (?_)
  exact ⟨rfl, rfl⟩
set_option maxRecDepth 20000 in
set_option maxHeartbeats 2000000 in
theorem sO_r0 {p s : Nat} {σ : Sg} (hs : σ 80 3 = nI s) (hs1 : s ≤ 160) (hp : p < s) {v : Int32} (hv : σ 80 (29 + p) = v) : CM mX10_strokeOf [ar 79, ai (nI p), ai (nI 0)] σ (RQ σ (v)) := by
  refine CM_in (ls := [some (ar 79), some (ai (nI p)), some (ai (nI 0))]) rfl ?_
  refine g_aload_n (p0 := 1) (i := 0) dX10_strokeOf_0 rfl rfl rfl ?_
  refine g_iload_n (p0 := 2) (i := 1) dX10_strokeOf_1 rfl rfl rfl ?_
  refine g_cV1R (p0 := 5) (r1 := mX10_isStroke) dX10_strokeOf_2 lX10_109 vX10_isStroke (by first | rfl | assumption | exact RW.s (by assumption) | exact TW.s (by assumption)) ⟨_, _, rfl⟩ (FITi rfl rfl) (Nat.le_of_ble_eq_true rfl) (isStroke_T hs hs1 hp) rfl ?_
  first | ((with_reducible refine isN1 ?_); refine g_ifN_eq (tgt := 18) (p1 := 8) dX10_strokeOf_5 rfl (by omega) rfl (fun c_5 => by exfalso; first | omega | contradiction | exact absurd (by assumption) c_5 | (simp_all; done)) (fun c_5 => ?_)) | refine g_if_eq (tgt := 18) (p1 := 8) dX10_strokeOf_5 rfl rfl (fun c_5 => by exfalso; first | omega | contradiction | exact absurd (by assumption) c_5 | (simp_all; done)) (fun c_5 => ?_)
  refine g_iload_n (p0 := 9) (i := 2) dX10_strokeOf_8 rfl rfl rfl ?_
  refine g_iconst (p0 := 10) (v := nI 0) dX10_strokeOf_9 rfl rfl ?_
  refine g_bipush (p0 := 12) (v := nI 6) dX10_strokeOf_10 (by decide) rfl ?_
  refine g_cS3R (p0 := 15) (r1 := mX10_in) dX10_strokeOf_12 (Or.inl lX10_65) vX10_in (FITi rfl rfl) (Nat.le_of_ble_eq_true rfl) (in_T (by decide) (by decide)) rfl ?_
  first | ((with_reducible refine isN1 ?_); refine g_ifN_ne (tgt := 21) (p1 := 18) dX10_strokeOf_15 rfl (by omega) rfl (fun c_15 => ?_) (fun c_15 => by exfalso; first | omega | contradiction | exact absurd (by assumption) c_15 | (simp_all; done))) | refine g_if_ne (tgt := 21) (p1 := 18) dX10_strokeOf_15 rfl rfl (fun c_15 => ?_) (fun c_15 => by exfalso; first | omega | contradiction | exact absurd (by assumption) c_15 | (simp_all; done))
  refine g_aload_n (p0 := 22) (i := 0) dX10_strokeOf_21 rfl rfl rfl ?_
  refine g_cV0P (p0 := 25) (r1 := mX10_lays) dX10_strokeOf_22 lX10_151 vX10_lays (by first | rfl | assumption | exact RW.s (by assumption) | exact TW.s (by assumption)) ⟨_, _, rfl⟩ (FITi rfl rfl) (Nat.le_of_ble_eq_true rfl) (lays_sp hs hs1) rfl ?_
  rintro σ1 ⟨hRD, hf⟩
  have e80 := hf.1 80 (by decide) (by decide)
  obtain ⟨g0, g1, g2, g3⟩ := hRD.1.2.2 p hp
  have w : σ1 80 (29 + p) = v := by rw [e80]; exact hv
  refine g_iload_n (p0 := 26) (i := 2) dX10_strokeOf_25 rfl rfl rfl ?_
  first | ((with_reducible refine isN1 ?_); refine g_ifN_ne (tgt := 39) (p1 := 29) dX10_strokeOf_26 rfl (by omega) rfl (fun c_26 => by exfalso; first | omega | contradiction | exact absurd (by assumption) c_26 | (simp_all; done)) (fun c_26 => ?_)) | refine g_if_ne (tgt := 39) (p1 := 29) dX10_strokeOf_26 rfl rfl (fun c_26 => by exfalso; first | omega | contradiction | exact absurd (by assumption) c_26 | (simp_all; done)) (fun c_26 => ?_)
  refine g_aload_n (p0 := 30) (i := 0) dX10_strokeOf_29 rfl rfl rfl ?_
  refine g_getR (p0 := 33) dX10_strokeOf_30 fX10_7 (by first | rfl | assumption | exact RW.s (by assumption) | exact TW.s (by assumption)) rfl rfl ?_
  refine g_bipush (p0 := 35) (v := nI 29) dX10_strokeOf_33 (by decide) rfl ?_
  refine g_iload_n (p0 := 36) (i := 1) dX10_strokeOf_35 rfl rfl rfl ?_
  first | ((with_reducible refine isN2 ?_); refine g_iaddN (p0 := 37) dX10_strokeOf_36 rfl ?_) | refine g_iadd (p0 := 37) dX10_strokeOf_36 rfl ?_
  first | ((with_reducible refine isN1 ?_); refine g_aldN (p0 := 38) dX10_strokeOf_37 (by first | rfl | assumption | exact RW.s (by assumption) | exact TW.s (by assumption)) (by first | decide | assumption) (by omega) (by first | assumption | ((repeat (first | exact up_hit | refine up_nv (by decide) ?_ | refine up_mv (by first | decide | omega) ?_)) <;> first | assumption | rfl)) rfl ?_) | refine g_ald (p0 := 38) dX10_strokeOf_37 (by first | rfl | assumption | exact RW.s (by assumption) | exact TW.s (by assumption)) (by assumption) (by first | assumption | ((repeat (first | exact up_hit | refine up_nv (by decide) ?_ | refine up_mv (by first | decide | omega) ?_)) <;> first | assumption | rfl)) rfl ?_
  refine g_ireturn dX10_strokeOf_38 rfl rfl (?_)
  exact ⟨rfl, hf⟩
set_option maxRecDepth 20000 in
set_option maxHeartbeats 2000000 in
theorem sO_r1z {p s : Nat} {σ : Sg} (hs : σ 80 3 = nI s) (hs1 : s ≤ 160) (hp : p < s) (h0 : p = 0) : CM mX10_strokeOf [ar 79, ai (nI p), ai (nI 1)] σ (RQ σ (-1000004)) := by
  refine CM_in (ls := [some (ar 79), some (ai (nI p)), some (ai (nI 1))]) rfl ?_
  refine g_aload_n (p0 := 1) (i := 0) dX10_strokeOf_0 rfl rfl rfl ?_
  refine g_iload_n (p0 := 2) (i := 1) dX10_strokeOf_1 rfl rfl rfl ?_
  refine g_cV1R (p0 := 5) (r1 := mX10_isStroke) dX10_strokeOf_2 lX10_109 vX10_isStroke (by first | rfl | assumption | exact RW.s (by assumption) | exact TW.s (by assumption)) ⟨_, _, rfl⟩ (FITi rfl rfl) (Nat.le_of_ble_eq_true rfl) (isStroke_T hs hs1 hp) rfl ?_
  first | ((with_reducible refine isN1 ?_); refine g_ifN_eq (tgt := 18) (p1 := 8) dX10_strokeOf_5 rfl (by omega) rfl (fun c_5 => by exfalso; first | omega | contradiction | exact absurd (by assumption) c_5 | (simp_all; done)) (fun c_5 => ?_)) | refine g_if_eq (tgt := 18) (p1 := 8) dX10_strokeOf_5 rfl rfl (fun c_5 => by exfalso; first | omega | contradiction | exact absurd (by assumption) c_5 | (simp_all; done)) (fun c_5 => ?_)
  refine g_iload_n (p0 := 9) (i := 2) dX10_strokeOf_8 rfl rfl rfl ?_
  refine g_iconst (p0 := 10) (v := nI 0) dX10_strokeOf_9 rfl rfl ?_
  refine g_bipush (p0 := 12) (v := nI 6) dX10_strokeOf_10 (by decide) rfl ?_
  refine g_cS3R (p0 := 15) (r1 := mX10_in) dX10_strokeOf_12 (Or.inl lX10_65) vX10_in (FITi rfl rfl) (Nat.le_of_ble_eq_true rfl) (in_T (by decide) (by decide)) rfl ?_
  first | ((with_reducible refine isN1 ?_); refine g_ifN_ne (tgt := 21) (p1 := 18) dX10_strokeOf_15 rfl (by omega) rfl (fun c_15 => ?_) (fun c_15 => by exfalso; first | omega | contradiction | exact absurd (by assumption) c_15 | (simp_all; done))) | refine g_if_ne (tgt := 21) (p1 := 18) dX10_strokeOf_15 rfl rfl (fun c_15 => ?_) (fun c_15 => by exfalso; first | omega | contradiction | exact absurd (by assumption) c_15 | (simp_all; done))
  refine g_aload_n (p0 := 22) (i := 0) dX10_strokeOf_21 rfl rfl rfl ?_
  refine g_cV0P (p0 := 25) (r1 := mX10_lays) dX10_strokeOf_22 lX10_151 vX10_lays (by first | rfl | assumption | exact RW.s (by assumption) | exact TW.s (by assumption)) ⟨_, _, rfl⟩ (FITi rfl rfl) (Nat.le_of_ble_eq_true rfl) (lays_sp hs hs1) rfl ?_
  rintro σ1 ⟨hRD, hf⟩
  have e80 := hf.1 80 (by decide) (by decide)
  obtain ⟨g0, g1, g2, g3⟩ := hRD.1.2.2 p hp
  refine g_iload_n (p0 := 26) (i := 2) dX10_strokeOf_25 rfl rfl rfl ?_
  first | ((with_reducible refine isN1 ?_); refine g_ifN_ne (tgt := 39) (p1 := 29) dX10_strokeOf_26 rfl (by omega) rfl (fun c_26 => ?_) (fun c_26 => by exfalso; first | omega | contradiction | exact absurd (by assumption) c_26 | (simp_all; done))) | refine g_if_ne (tgt := 39) (p1 := 29) dX10_strokeOf_26 rfl rfl (fun c_26 => ?_) (fun c_26 => by exfalso; first | omega | contradiction | exact absurd (by assumption) c_26 | (simp_all; done))
  refine g_iload_n (p0 := 40) (i := 2) dX10_strokeOf_39 rfl rfl rfl ?_
  refine g_iconst (p0 := 41) (v := nI 4) dX10_strokeOf_40 rfl rfl ?_
  first | ((with_reducible refine isN2 ?_); refine g_icmpN_ge (tgt := 95) (p1 := 44) dX10_strokeOf_41 rfl (by omega) (by omega) rfl (fun c_41 => by exfalso; first | omega | contradiction | exact absurd (by assumption) c_41 | (simp_all; done)) (fun c_41 => ?_)) | refine g_icmp_ge (tgt := 95) (p1 := 44) dX10_strokeOf_41 rfl rfl (fun c_41 => by exfalso; first | omega | contradiction | exact absurd (by assumption) c_41 | (simp_all; done)) (fun c_41 => ?_)
  refine g_iload_n (p0 := 45) (i := 1) dX10_strokeOf_44 rfl rfl rfl ?_
  first | ((with_reducible refine isN1 ?_); refine g_ifN_ne (tgt := 53) (p1 := 48) dX10_strokeOf_45 rfl (by omega) rfl (fun c_45 => by exfalso; first | omega | contradiction | exact absurd (by assumption) c_45 | (simp_all; done)) (fun c_45 => ?_)) | refine g_if_ne (tgt := 53) (p1 := 48) dX10_strokeOf_45 rfl rfl (fun c_45 => by exfalso; first | omega | contradiction | exact absurd (by assumption) c_45 | (simp_all; done)) (fun c_45 => ?_)
  refine g_ldc (p0 := 50) dX10_strokeOf_48 qX10_154 rfl ?_
  refine g_goto (tgt := 94) dX10_strokeOf_50 rfl ?_
  refine g_ireturn dX10_strokeOf_94 rfl rfl (?_)
  exact ⟨rfl, hf⟩
set_option maxRecDepth 20000 in
set_option maxHeartbeats 2000000 in
theorem sO_r2z {p s : Nat} {σ : Sg} (hs : σ 80 3 = nI s) (hs1 : s ≤ 160) (hp : p < s) (h0 : p = 0) : CM mX10_strokeOf [ar 79, ai (nI p), ai (nI 2)] σ (RQ σ (-1000004)) := by
  refine CM_in (ls := [some (ar 79), some (ai (nI p)), some (ai (nI 2))]) rfl ?_
  refine g_aload_n (p0 := 1) (i := 0) dX10_strokeOf_0 rfl rfl rfl ?_
  refine g_iload_n (p0 := 2) (i := 1) dX10_strokeOf_1 rfl rfl rfl ?_
  refine g_cV1R (p0 := 5) (r1 := mX10_isStroke) dX10_strokeOf_2 lX10_109 vX10_isStroke (by first | rfl | assumption | exact RW.s (by assumption) | exact TW.s (by assumption)) ⟨_, _, rfl⟩ (FITi rfl rfl) (Nat.le_of_ble_eq_true rfl) (isStroke_T hs hs1 hp) rfl ?_
  first | ((with_reducible refine isN1 ?_); refine g_ifN_eq (tgt := 18) (p1 := 8) dX10_strokeOf_5 rfl (by omega) rfl (fun c_5 => by exfalso; first | omega | contradiction | exact absurd (by assumption) c_5 | (simp_all; done)) (fun c_5 => ?_)) | refine g_if_eq (tgt := 18) (p1 := 8) dX10_strokeOf_5 rfl rfl (fun c_5 => by exfalso; first | omega | contradiction | exact absurd (by assumption) c_5 | (simp_all; done)) (fun c_5 => ?_)
  refine g_iload_n (p0 := 9) (i := 2) dX10_strokeOf_8 rfl rfl rfl ?_
  refine g_iconst (p0 := 10) (v := nI 0) dX10_strokeOf_9 rfl rfl ?_
  refine g_bipush (p0 := 12) (v := nI 6) dX10_strokeOf_10 (by decide) rfl ?_
  refine g_cS3R (p0 := 15) (r1 := mX10_in) dX10_strokeOf_12 (Or.inl lX10_65) vX10_in (FITi rfl rfl) (Nat.le_of_ble_eq_true rfl) (in_T (by decide) (by decide)) rfl ?_
  first | ((with_reducible refine isN1 ?_); refine g_ifN_ne (tgt := 21) (p1 := 18) dX10_strokeOf_15 rfl (by omega) rfl (fun c_15 => ?_) (fun c_15 => by exfalso; first | omega | contradiction | exact absurd (by assumption) c_15 | (simp_all; done))) | refine g_if_ne (tgt := 21) (p1 := 18) dX10_strokeOf_15 rfl rfl (fun c_15 => ?_) (fun c_15 => by exfalso; first | omega | contradiction | exact absurd (by assumption) c_15 | (simp_all; done))
  refine g_aload_n (p0 := 22) (i := 0) dX10_strokeOf_21 rfl rfl rfl ?_
  refine g_cV0P (p0 := 25) (r1 := mX10_lays) dX10_strokeOf_22 lX10_151 vX10_lays (by first | rfl | assumption | exact RW.s (by assumption) | exact TW.s (by assumption)) ⟨_, _, rfl⟩ (FITi rfl rfl) (Nat.le_of_ble_eq_true rfl) (lays_sp hs hs1) rfl ?_
  rintro σ1 ⟨hRD, hf⟩
  have e80 := hf.1 80 (by decide) (by decide)
  obtain ⟨g0, g1, g2, g3⟩ := hRD.1.2.2 p hp
  refine g_iload_n (p0 := 26) (i := 2) dX10_strokeOf_25 rfl rfl rfl ?_
  first | ((with_reducible refine isN1 ?_); refine g_ifN_ne (tgt := 39) (p1 := 29) dX10_strokeOf_26 rfl (by omega) rfl (fun c_26 => ?_) (fun c_26 => by exfalso; first | omega | contradiction | exact absurd (by assumption) c_26 | (simp_all; done))) | refine g_if_ne (tgt := 39) (p1 := 29) dX10_strokeOf_26 rfl rfl (fun c_26 => ?_) (fun c_26 => by exfalso; first | omega | contradiction | exact absurd (by assumption) c_26 | (simp_all; done))
  refine g_iload_n (p0 := 40) (i := 2) dX10_strokeOf_39 rfl rfl rfl ?_
  refine g_iconst (p0 := 41) (v := nI 4) dX10_strokeOf_40 rfl rfl ?_
  first | ((with_reducible refine isN2 ?_); refine g_icmpN_ge (tgt := 95) (p1 := 44) dX10_strokeOf_41 rfl (by omega) (by omega) rfl (fun c_41 => by exfalso; first | omega | contradiction | exact absurd (by assumption) c_41 | (simp_all; done)) (fun c_41 => ?_)) | refine g_icmp_ge (tgt := 95) (p1 := 44) dX10_strokeOf_41 rfl rfl (fun c_41 => by exfalso; first | omega | contradiction | exact absurd (by assumption) c_41 | (simp_all; done)) (fun c_41 => ?_)
  refine g_iload_n (p0 := 45) (i := 1) dX10_strokeOf_44 rfl rfl rfl ?_
  first | ((with_reducible refine isN1 ?_); refine g_ifN_ne (tgt := 53) (p1 := 48) dX10_strokeOf_45 rfl (by omega) rfl (fun c_45 => by exfalso; first | omega | contradiction | exact absurd (by assumption) c_45 | (simp_all; done)) (fun c_45 => ?_)) | refine g_if_ne (tgt := 53) (p1 := 48) dX10_strokeOf_45 rfl rfl (fun c_45 => by exfalso; first | omega | contradiction | exact absurd (by assumption) c_45 | (simp_all; done)) (fun c_45 => ?_)
  refine g_ldc (p0 := 50) dX10_strokeOf_48 qX10_154 rfl ?_
  refine g_goto (tgt := 94) dX10_strokeOf_50 rfl ?_
  refine g_ireturn dX10_strokeOf_94 rfl rfl (?_)
  exact ⟨rfl, hf⟩
set_option maxRecDepth 20000 in
set_option maxHeartbeats 2000000 in
theorem sO_r3z {p s : Nat} {σ : Sg} (hs : σ 80 3 = nI s) (hs1 : s ≤ 160) (hp : p < s) (h0 : p = 0) : CM mX10_strokeOf [ar 79, ai (nI p), ai (nI 3)] σ (RQ σ (-1000004)) := by
  refine CM_in (ls := [some (ar 79), some (ai (nI p)), some (ai (nI 3))]) rfl ?_
  refine g_aload_n (p0 := 1) (i := 0) dX10_strokeOf_0 rfl rfl rfl ?_
  refine g_iload_n (p0 := 2) (i := 1) dX10_strokeOf_1 rfl rfl rfl ?_
  refine g_cV1R (p0 := 5) (r1 := mX10_isStroke) dX10_strokeOf_2 lX10_109 vX10_isStroke (by first | rfl | assumption | exact RW.s (by assumption) | exact TW.s (by assumption)) ⟨_, _, rfl⟩ (FITi rfl rfl) (Nat.le_of_ble_eq_true rfl) (isStroke_T hs hs1 hp) rfl ?_
  first | ((with_reducible refine isN1 ?_); refine g_ifN_eq (tgt := 18) (p1 := 8) dX10_strokeOf_5 rfl (by omega) rfl (fun c_5 => by exfalso; first | omega | contradiction | exact absurd (by assumption) c_5 | (simp_all; done)) (fun c_5 => ?_)) | refine g_if_eq (tgt := 18) (p1 := 8) dX10_strokeOf_5 rfl rfl (fun c_5 => by exfalso; first | omega | contradiction | exact absurd (by assumption) c_5 | (simp_all; done)) (fun c_5 => ?_)
  refine g_iload_n (p0 := 9) (i := 2) dX10_strokeOf_8 rfl rfl rfl ?_
  refine g_iconst (p0 := 10) (v := nI 0) dX10_strokeOf_9 rfl rfl ?_
  refine g_bipush (p0 := 12) (v := nI 6) dX10_strokeOf_10 (by decide) rfl ?_
  refine g_cS3R (p0 := 15) (r1 := mX10_in) dX10_strokeOf_12 (Or.inl lX10_65) vX10_in (FITi rfl rfl) (Nat.le_of_ble_eq_true rfl) (in_T (by decide) (by decide)) rfl ?_
  first | ((with_reducible refine isN1 ?_); refine g_ifN_ne (tgt := 21) (p1 := 18) dX10_strokeOf_15 rfl (by omega) rfl (fun c_15 => ?_) (fun c_15 => by exfalso; first | omega | contradiction | exact absurd (by assumption) c_15 | (simp_all; done))) | refine g_if_ne (tgt := 21) (p1 := 18) dX10_strokeOf_15 rfl rfl (fun c_15 => ?_) (fun c_15 => by exfalso; first | omega | contradiction | exact absurd (by assumption) c_15 | (simp_all; done))
  refine g_aload_n (p0 := 22) (i := 0) dX10_strokeOf_21 rfl rfl rfl ?_
  refine g_cV0P (p0 := 25) (r1 := mX10_lays) dX10_strokeOf_22 lX10_151 vX10_lays (by first | rfl | assumption | exact RW.s (by assumption) | exact TW.s (by assumption)) ⟨_, _, rfl⟩ (FITi rfl rfl) (Nat.le_of_ble_eq_true rfl) (lays_sp hs hs1) rfl ?_
  rintro σ1 ⟨hRD, hf⟩
  have e80 := hf.1 80 (by decide) (by decide)
  obtain ⟨g0, g1, g2, g3⟩ := hRD.1.2.2 p hp
  refine g_iload_n (p0 := 26) (i := 2) dX10_strokeOf_25 rfl rfl rfl ?_
  first | ((with_reducible refine isN1 ?_); refine g_ifN_ne (tgt := 39) (p1 := 29) dX10_strokeOf_26 rfl (by omega) rfl (fun c_26 => ?_) (fun c_26 => by exfalso; first | omega | contradiction | exact absurd (by assumption) c_26 | (simp_all; done))) | refine g_if_ne (tgt := 39) (p1 := 29) dX10_strokeOf_26 rfl rfl (fun c_26 => ?_) (fun c_26 => by exfalso; first | omega | contradiction | exact absurd (by assumption) c_26 | (simp_all; done))
  refine g_iload_n (p0 := 40) (i := 2) dX10_strokeOf_39 rfl rfl rfl ?_
  refine g_iconst (p0 := 41) (v := nI 4) dX10_strokeOf_40 rfl rfl ?_
  first | ((with_reducible refine isN2 ?_); refine g_icmpN_ge (tgt := 95) (p1 := 44) dX10_strokeOf_41 rfl (by omega) (by omega) rfl (fun c_41 => by exfalso; first | omega | contradiction | exact absurd (by assumption) c_41 | (simp_all; done)) (fun c_41 => ?_)) | refine g_icmp_ge (tgt := 95) (p1 := 44) dX10_strokeOf_41 rfl rfl (fun c_41 => by exfalso; first | omega | contradiction | exact absurd (by assumption) c_41 | (simp_all; done)) (fun c_41 => ?_)
  refine g_iload_n (p0 := 45) (i := 1) dX10_strokeOf_44 rfl rfl rfl ?_
  first | ((with_reducible refine isN1 ?_); refine g_ifN_ne (tgt := 53) (p1 := 48) dX10_strokeOf_45 rfl (by omega) rfl (fun c_45 => by exfalso; first | omega | contradiction | exact absurd (by assumption) c_45 | (simp_all; done)) (fun c_45 => ?_)) | refine g_if_ne (tgt := 53) (p1 := 48) dX10_strokeOf_45 rfl rfl (fun c_45 => by exfalso; first | omega | contradiction | exact absurd (by assumption) c_45 | (simp_all; done)) (fun c_45 => ?_)
  refine g_ldc (p0 := 50) dX10_strokeOf_48 qX10_154 rfl ?_
  refine g_goto (tgt := 94) dX10_strokeOf_50 rfl ?_
  refine g_ireturn dX10_strokeOf_94 rfl rfl (?_)
  exact ⟨rfl, hf⟩
set_option maxRecDepth 20000 in
set_option maxHeartbeats 2000000 in
theorem sO_r1 {p s : Nat} {σ : Sg} (hs : σ 80 3 = nI s) (hs1 : s ≤ 160) (hp : p < s) (h0 : ¬ p = 0) : CM mX10_strokeOf [ar 79, ai (nI p), ai (nI 1)] σ (RQ σ (gpF (tm (σ 80)) (σ 80 0) p)) := by
  refine CM_in (ls := [some (ar 79), some (ai (nI p)), some (ai (nI 1))]) rfl ?_
  refine g_aload_n (p0 := 1) (i := 0) dX10_strokeOf_0 rfl rfl rfl ?_
  refine g_iload_n (p0 := 2) (i := 1) dX10_strokeOf_1 rfl rfl rfl ?_
  refine g_cV1R (p0 := 5) (r1 := mX10_isStroke) dX10_strokeOf_2 lX10_109 vX10_isStroke (by first | rfl | assumption | exact RW.s (by assumption) | exact TW.s (by assumption)) ⟨_, _, rfl⟩ (FITi rfl rfl) (Nat.le_of_ble_eq_true rfl) (isStroke_T hs hs1 hp) rfl ?_
  first | ((with_reducible refine isN1 ?_); refine g_ifN_eq (tgt := 18) (p1 := 8) dX10_strokeOf_5 rfl (by omega) rfl (fun c_5 => by exfalso; first | omega | contradiction | exact absurd (by assumption) c_5 | (simp_all; done)) (fun c_5 => ?_)) | refine g_if_eq (tgt := 18) (p1 := 8) dX10_strokeOf_5 rfl rfl (fun c_5 => by exfalso; first | omega | contradiction | exact absurd (by assumption) c_5 | (simp_all; done)) (fun c_5 => ?_)
  refine g_iload_n (p0 := 9) (i := 2) dX10_strokeOf_8 rfl rfl rfl ?_
  refine g_iconst (p0 := 10) (v := nI 0) dX10_strokeOf_9 rfl rfl ?_
  refine g_bipush (p0 := 12) (v := nI 6) dX10_strokeOf_10 (by decide) rfl ?_
  refine g_cS3R (p0 := 15) (r1 := mX10_in) dX10_strokeOf_12 (Or.inl lX10_65) vX10_in (FITi rfl rfl) (Nat.le_of_ble_eq_true rfl) (in_T (by decide) (by decide)) rfl ?_
  first | ((with_reducible refine isN1 ?_); refine g_ifN_ne (tgt := 21) (p1 := 18) dX10_strokeOf_15 rfl (by omega) rfl (fun c_15 => ?_) (fun c_15 => by exfalso; first | omega | contradiction | exact absurd (by assumption) c_15 | (simp_all; done))) | refine g_if_ne (tgt := 21) (p1 := 18) dX10_strokeOf_15 rfl rfl (fun c_15 => ?_) (fun c_15 => by exfalso; first | omega | contradiction | exact absurd (by assumption) c_15 | (simp_all; done))
  refine g_aload_n (p0 := 22) (i := 0) dX10_strokeOf_21 rfl rfl rfl ?_
  refine g_cV0P (p0 := 25) (r1 := mX10_lays) dX10_strokeOf_22 lX10_151 vX10_lays (by first | rfl | assumption | exact RW.s (by assumption) | exact TW.s (by assumption)) ⟨_, _, rfl⟩ (FITi rfl rfl) (Nat.le_of_ble_eq_true rfl) (lays_sp hs hs1) rfl ?_
  rintro σ1 ⟨hRD, hf⟩
  have e80 := hf.1 80 (by decide) (by decide)
  obtain ⟨g0, g1, g2, g3⟩ := hRD.1.2.2 p hp
  have w := g1 (by omega)
  refine g_iload_n (p0 := 26) (i := 2) dX10_strokeOf_25 rfl rfl rfl ?_
  first | ((with_reducible refine isN1 ?_); refine g_ifN_ne (tgt := 39) (p1 := 29) dX10_strokeOf_26 rfl (by omega) rfl (fun c_26 => ?_) (fun c_26 => by exfalso; first | omega | contradiction | exact absurd (by assumption) c_26 | (simp_all; done))) | refine g_if_ne (tgt := 39) (p1 := 29) dX10_strokeOf_26 rfl rfl (fun c_26 => ?_) (fun c_26 => by exfalso; first | omega | contradiction | exact absurd (by assumption) c_26 | (simp_all; done))
  refine g_iload_n (p0 := 40) (i := 2) dX10_strokeOf_39 rfl rfl rfl ?_
  refine g_iconst (p0 := 41) (v := nI 4) dX10_strokeOf_40 rfl rfl ?_
  first | ((with_reducible refine isN2 ?_); refine g_icmpN_ge (tgt := 95) (p1 := 44) dX10_strokeOf_41 rfl (by omega) (by omega) rfl (fun c_41 => by exfalso; first | omega | contradiction | exact absurd (by assumption) c_41 | (simp_all; done)) (fun c_41 => ?_)) | refine g_icmp_ge (tgt := 95) (p1 := 44) dX10_strokeOf_41 rfl rfl (fun c_41 => by exfalso; first | omega | contradiction | exact absurd (by assumption) c_41 | (simp_all; done)) (fun c_41 => ?_)
  refine g_iload_n (p0 := 45) (i := 1) dX10_strokeOf_44 rfl rfl rfl ?_
  first | ((with_reducible refine isN1 ?_); refine g_ifN_ne (tgt := 53) (p1 := 48) dX10_strokeOf_45 rfl (by omega) rfl (fun c_45 => ?_) (fun c_45 => by exfalso; first | omega | contradiction | exact absurd (by assumption) c_45 | (simp_all; done))) | refine g_if_ne (tgt := 53) (p1 := 48) dX10_strokeOf_45 rfl rfl (fun c_45 => ?_) (fun c_45 => by exfalso; first | omega | contradiction | exact absurd (by assumption) c_45 | (simp_all; done))
  refine g_iload_n (p0 := 54) (i := 2) dX10_strokeOf_53 rfl rfl rfl ?_
  refine g_iconst (p0 := 55) (v := nI 1) dX10_strokeOf_54 rfl rfl ?_
  first | ((with_reducible refine isN2 ?_); refine g_icmpN_ne (tgt := 67) (p1 := 58) dX10_strokeOf_55 rfl (by omega) (by omega) rfl (fun c_55 => by exfalso; first | omega | contradiction | exact absurd (by assumption) c_55 | (simp_all; done)) (fun c_55 => ?_)) | refine g_icmp_ne (tgt := 67) (p1 := 58) dX10_strokeOf_55 rfl rfl (fun c_55 => by exfalso; first | omega | contradiction | exact absurd (by assumption) c_55 | (simp_all; done)) (fun c_55 => ?_)
  refine g_aload_n (p0 := 59) (i := 0) dX10_strokeOf_58 rfl rfl rfl ?_
  refine g_getR (p0 := 62) dX10_strokeOf_59 fX10_22 (by first | rfl | assumption | exact RW.s (by assumption) | exact TW.s (by assumption)) rfl rfl ?_
  refine g_iload_n (p0 := 63) (i := 1) dX10_strokeOf_62 rfl rfl rfl ?_
  first | ((with_reducible refine isN1 ?_); refine g_aldN (p0 := 64) dX10_strokeOf_63 (by first | rfl | assumption | exact RW.s (by assumption) | exact TW.s (by assumption)) (by first | decide | assumption) (by omega) (by first | assumption | ((repeat (first | exact up_hit | refine up_nv (by decide) ?_ | refine up_mv (by first | decide | omega) ?_)) <;> first | assumption | rfl)) rfl ?_) | refine g_ald (p0 := 64) dX10_strokeOf_63 (by first | rfl | assumption | exact RW.s (by assumption) | exact TW.s (by assumption)) (by assumption) (by first | assumption | ((repeat (first | exact up_hit | refine up_nv (by decide) ?_ | refine up_mv (by first | decide | omega) ?_)) <;> first | assumption | rfl)) rfl ?_
  refine g_goto (tgt := 94) dX10_strokeOf_64 rfl ?_
  refine g_ireturn dX10_strokeOf_94 rfl rfl (?_)
  exact ⟨rfl, hf⟩
set_option maxRecDepth 20000 in
set_option maxHeartbeats 2000000 in
theorem sO_r2 {p s : Nat} {σ : Sg} (hs : σ 80 3 = nI s) (hs1 : s ≤ 160) (hp : p < s) (h0 : ¬ p = 0) : CM mX10_strokeOf [ar 79, ai (nI p), ai (nI 2)] σ (RQ σ (nI ((kaF (tm (σ 80)) (σ 80 0)) p))) := by
  refine CM_in (ls := [some (ar 79), some (ai (nI p)), some (ai (nI 2))]) rfl ?_
  refine g_aload_n (p0 := 1) (i := 0) dX10_strokeOf_0 rfl rfl rfl ?_
  refine g_iload_n (p0 := 2) (i := 1) dX10_strokeOf_1 rfl rfl rfl ?_
  refine g_cV1R (p0 := 5) (r1 := mX10_isStroke) dX10_strokeOf_2 lX10_109 vX10_isStroke (by first | rfl | assumption | exact RW.s (by assumption) | exact TW.s (by assumption)) ⟨_, _, rfl⟩ (FITi rfl rfl) (Nat.le_of_ble_eq_true rfl) (isStroke_T hs hs1 hp) rfl ?_
  first | ((with_reducible refine isN1 ?_); refine g_ifN_eq (tgt := 18) (p1 := 8) dX10_strokeOf_5 rfl (by omega) rfl (fun c_5 => by exfalso; first | omega | contradiction | exact absurd (by assumption) c_5 | (simp_all; done)) (fun c_5 => ?_)) | refine g_if_eq (tgt := 18) (p1 := 8) dX10_strokeOf_5 rfl rfl (fun c_5 => by exfalso; first | omega | contradiction | exact absurd (by assumption) c_5 | (simp_all; done)) (fun c_5 => ?_)
  refine g_iload_n (p0 := 9) (i := 2) dX10_strokeOf_8 rfl rfl rfl ?_
  refine g_iconst (p0 := 10) (v := nI 0) dX10_strokeOf_9 rfl rfl ?_
  refine g_bipush (p0 := 12) (v := nI 6) dX10_strokeOf_10 (by decide) rfl ?_
  refine g_cS3R (p0 := 15) (r1 := mX10_in) dX10_strokeOf_12 (Or.inl lX10_65) vX10_in (FITi rfl rfl) (Nat.le_of_ble_eq_true rfl) (in_T (by decide) (by decide)) rfl ?_
  first | ((with_reducible refine isN1 ?_); refine g_ifN_ne (tgt := 21) (p1 := 18) dX10_strokeOf_15 rfl (by omega) rfl (fun c_15 => ?_) (fun c_15 => by exfalso; first | omega | contradiction | exact absurd (by assumption) c_15 | (simp_all; done))) | refine g_if_ne (tgt := 21) (p1 := 18) dX10_strokeOf_15 rfl rfl (fun c_15 => ?_) (fun c_15 => by exfalso; first | omega | contradiction | exact absurd (by assumption) c_15 | (simp_all; done))
  refine g_aload_n (p0 := 22) (i := 0) dX10_strokeOf_21 rfl rfl rfl ?_
  refine g_cV0P (p0 := 25) (r1 := mX10_lays) dX10_strokeOf_22 lX10_151 vX10_lays (by first | rfl | assumption | exact RW.s (by assumption) | exact TW.s (by assumption)) ⟨_, _, rfl⟩ (FITi rfl rfl) (Nat.le_of_ble_eq_true rfl) (lays_sp hs hs1) rfl ?_
  rintro σ1 ⟨hRD, hf⟩
  have e80 := hf.1 80 (by decide) (by decide)
  obtain ⟨g0, g1, g2, g3⟩ := hRD.1.2.2 p hp
  refine g_iload_n (p0 := 26) (i := 2) dX10_strokeOf_25 rfl rfl rfl ?_
  first | ((with_reducible refine isN1 ?_); refine g_ifN_ne (tgt := 39) (p1 := 29) dX10_strokeOf_26 rfl (by omega) rfl (fun c_26 => ?_) (fun c_26 => by exfalso; first | omega | contradiction | exact absurd (by assumption) c_26 | (simp_all; done))) | refine g_if_ne (tgt := 39) (p1 := 29) dX10_strokeOf_26 rfl rfl (fun c_26 => ?_) (fun c_26 => by exfalso; first | omega | contradiction | exact absurd (by assumption) c_26 | (simp_all; done))
  refine g_iload_n (p0 := 40) (i := 2) dX10_strokeOf_39 rfl rfl rfl ?_
  refine g_iconst (p0 := 41) (v := nI 4) dX10_strokeOf_40 rfl rfl ?_
  first | ((with_reducible refine isN2 ?_); refine g_icmpN_ge (tgt := 95) (p1 := 44) dX10_strokeOf_41 rfl (by omega) (by omega) rfl (fun c_41 => by exfalso; first | omega | contradiction | exact absurd (by assumption) c_41 | (simp_all; done)) (fun c_41 => ?_)) | refine g_icmp_ge (tgt := 95) (p1 := 44) dX10_strokeOf_41 rfl rfl (fun c_41 => by exfalso; first | omega | contradiction | exact absurd (by assumption) c_41 | (simp_all; done)) (fun c_41 => ?_)
  refine g_iload_n (p0 := 45) (i := 1) dX10_strokeOf_44 rfl rfl rfl ?_
  first | ((with_reducible refine isN1 ?_); refine g_ifN_ne (tgt := 53) (p1 := 48) dX10_strokeOf_45 rfl (by omega) rfl (fun c_45 => ?_) (fun c_45 => by exfalso; first | omega | contradiction | exact absurd (by assumption) c_45 | (simp_all; done))) | refine g_if_ne (tgt := 53) (p1 := 48) dX10_strokeOf_45 rfl rfl (fun c_45 => ?_) (fun c_45 => by exfalso; first | omega | contradiction | exact absurd (by assumption) c_45 | (simp_all; done))
  refine g_iload_n (p0 := 54) (i := 2) dX10_strokeOf_53 rfl rfl rfl ?_
  refine g_iconst (p0 := 55) (v := nI 1) dX10_strokeOf_54 rfl rfl ?_
  first | ((with_reducible refine isN2 ?_); refine g_icmpN_ne (tgt := 67) (p1 := 58) dX10_strokeOf_55 rfl (by omega) (by omega) rfl (fun c_55 => ?_) (fun c_55 => by exfalso; first | omega | contradiction | exact absurd (by assumption) c_55 | (simp_all; done))) | refine g_icmp_ne (tgt := 67) (p1 := 58) dX10_strokeOf_55 rfl rfl (fun c_55 => ?_) (fun c_55 => by exfalso; first | omega | contradiction | exact absurd (by assumption) c_55 | (simp_all; done))
  refine g_iload_n (p0 := 68) (i := 2) dX10_strokeOf_67 rfl rfl rfl ?_
  refine g_iconst (p0 := 69) (v := nI 2) dX10_strokeOf_68 rfl rfl ?_
  first | ((with_reducible refine isN2 ?_); refine g_icmpN_ne (tgt := 81) (p1 := 72) dX10_strokeOf_69 rfl (by omega) (by omega) rfl (fun c_69 => by exfalso; first | omega | contradiction | exact absurd (by assumption) c_69 | (simp_all; done)) (fun c_69 => ?_)) | refine g_icmp_ne (tgt := 81) (p1 := 72) dX10_strokeOf_69 rfl rfl (fun c_69 => by exfalso; first | omega | contradiction | exact absurd (by assumption) c_69 | (simp_all; done)) (fun c_69 => ?_)
  refine g_aload_n (p0 := 73) (i := 0) dX10_strokeOf_72 rfl rfl rfl ?_
  refine g_getR (p0 := 76) dX10_strokeOf_73 fX10_25 (by first | rfl | assumption | exact RW.s (by assumption) | exact TW.s (by assumption)) rfl rfl ?_
  refine g_iload_n (p0 := 77) (i := 1) dX10_strokeOf_76 rfl rfl rfl ?_
  first | ((with_reducible refine isN1 ?_); refine g_aldN (p0 := 78) dX10_strokeOf_77 (by first | rfl | assumption | exact RW.s (by assumption) | exact TW.s (by assumption)) (by first | decide | assumption) (by omega) (by first | assumption | ((repeat (first | exact up_hit | refine up_nv (by decide) ?_ | refine up_mv (by first | decide | omega) ?_)) <;> first | assumption | rfl)) rfl ?_) | refine g_ald (p0 := 78) dX10_strokeOf_77 (by first | rfl | assumption | exact RW.s (by assumption) | exact TW.s (by assumption)) (by assumption) (by first | assumption | ((repeat (first | exact up_hit | refine up_nv (by decide) ?_ | refine up_mv (by first | decide | omega) ?_)) <;> first | assumption | rfl)) rfl ?_
  refine g_goto (tgt := 94) dX10_strokeOf_78 rfl ?_
  refine g_ireturn dX10_strokeOf_94 rfl rfl (?_)
  exact ⟨rfl, hf⟩
set_option maxRecDepth 20000 in
set_option maxHeartbeats 2000000 in
theorem sO_r3_0 {p s : Nat} {σ : Sg} (hs : σ 80 3 = nI s) (hs1 : s ≤ 160) (hp : p < s) (h0 : ¬ p = 0) (hd : dbt (σ 80 0) (σ 80 1) (gpF (tm (σ 80)) (σ 80 0) p) = 0) : CM mX10_strokeOf [ar 79, ai (nI p), ai (nI 3)] σ (RQ σ (nI 0)) := by
  refine CM_in (ls := [some (ar 79), some (ai (nI p)), some (ai (nI 3))]) rfl ?_
  refine g_aload_n (p0 := 1) (i := 0) dX10_strokeOf_0 rfl rfl rfl ?_
  refine g_iload_n (p0 := 2) (i := 1) dX10_strokeOf_1 rfl rfl rfl ?_
  refine g_cV1R (p0 := 5) (r1 := mX10_isStroke) dX10_strokeOf_2 lX10_109 vX10_isStroke (by first | rfl | assumption | exact RW.s (by assumption) | exact TW.s (by assumption)) ⟨_, _, rfl⟩ (FITi rfl rfl) (Nat.le_of_ble_eq_true rfl) (isStroke_T hs hs1 hp) rfl ?_
  first | ((with_reducible refine isN1 ?_); refine g_ifN_eq (tgt := 18) (p1 := 8) dX10_strokeOf_5 rfl (by omega) rfl (fun c_5 => by exfalso; first | omega | contradiction | exact absurd (by assumption) c_5 | (simp_all; done)) (fun c_5 => ?_)) | refine g_if_eq (tgt := 18) (p1 := 8) dX10_strokeOf_5 rfl rfl (fun c_5 => by exfalso; first | omega | contradiction | exact absurd (by assumption) c_5 | (simp_all; done)) (fun c_5 => ?_)
  refine g_iload_n (p0 := 9) (i := 2) dX10_strokeOf_8 rfl rfl rfl ?_
  refine g_iconst (p0 := 10) (v := nI 0) dX10_strokeOf_9 rfl rfl ?_
  refine g_bipush (p0 := 12) (v := nI 6) dX10_strokeOf_10 (by decide) rfl ?_
  refine g_cS3R (p0 := 15) (r1 := mX10_in) dX10_strokeOf_12 (Or.inl lX10_65) vX10_in (FITi rfl rfl) (Nat.le_of_ble_eq_true rfl) (in_T (by decide) (by decide)) rfl ?_
  first | ((with_reducible refine isN1 ?_); refine g_ifN_ne (tgt := 21) (p1 := 18) dX10_strokeOf_15 rfl (by omega) rfl (fun c_15 => ?_) (fun c_15 => by exfalso; first | omega | contradiction | exact absurd (by assumption) c_15 | (simp_all; done))) | refine g_if_ne (tgt := 21) (p1 := 18) dX10_strokeOf_15 rfl rfl (fun c_15 => ?_) (fun c_15 => by exfalso; first | omega | contradiction | exact absurd (by assumption) c_15 | (simp_all; done))
  refine g_aload_n (p0 := 22) (i := 0) dX10_strokeOf_21 rfl rfl rfl ?_
  refine g_cV0P (p0 := 25) (r1 := mX10_lays) dX10_strokeOf_22 lX10_151 vX10_lays (by first | rfl | assumption | exact RW.s (by assumption) | exact TW.s (by assumption)) ⟨_, _, rfl⟩ (FITi rfl rfl) (Nat.le_of_ble_eq_true rfl) (lays_sp hs hs1) rfl ?_
  rintro σ1 ⟨hRD, hf⟩
  have e80 := hf.1 80 (by decide) (by decide)
  obtain ⟨g0, g1, g2, g3⟩ := hRD.1.2.2 p hp
  have ek : (kaF (tm (σ 80)) (σ 80 0)) p = cs (σ 80 0) (gpF (tm (σ 80)) (σ 80 0) p) := by rw [kaF, if_neg h0]
  rw [ek] at g2
  have hdb := isDoubtful_sp (σ := σ1) (bt := σ 80 0) (tl := σ 80 1) (show p < 160 by omega) g2 (g1 (by omega)) (by rw [e80]) (by rw [e80]) (by omega)
  rw [hd] at hdb
  refine g_iload_n (p0 := 26) (i := 2) dX10_strokeOf_25 rfl rfl rfl ?_
  first | ((with_reducible refine isN1 ?_); refine g_ifN_ne (tgt := 39) (p1 := 29) dX10_strokeOf_26 rfl (by omega) rfl (fun c_26 => ?_) (fun c_26 => by exfalso; first | omega | contradiction | exact absurd (by assumption) c_26 | (simp_all; done))) | refine g_if_ne (tgt := 39) (p1 := 29) dX10_strokeOf_26 rfl rfl (fun c_26 => ?_) (fun c_26 => by exfalso; first | omega | contradiction | exact absurd (by assumption) c_26 | (simp_all; done))
  refine g_iload_n (p0 := 40) (i := 2) dX10_strokeOf_39 rfl rfl rfl ?_
  refine g_iconst (p0 := 41) (v := nI 4) dX10_strokeOf_40 rfl rfl ?_
  first | ((with_reducible refine isN2 ?_); refine g_icmpN_ge (tgt := 95) (p1 := 44) dX10_strokeOf_41 rfl (by omega) (by omega) rfl (fun c_41 => by exfalso; first | omega | contradiction | exact absurd (by assumption) c_41 | (simp_all; done)) (fun c_41 => ?_)) | refine g_icmp_ge (tgt := 95) (p1 := 44) dX10_strokeOf_41 rfl rfl (fun c_41 => by exfalso; first | omega | contradiction | exact absurd (by assumption) c_41 | (simp_all; done)) (fun c_41 => ?_)
  refine g_iload_n (p0 := 45) (i := 1) dX10_strokeOf_44 rfl rfl rfl ?_
  first | ((with_reducible refine isN1 ?_); refine g_ifN_ne (tgt := 53) (p1 := 48) dX10_strokeOf_45 rfl (by omega) rfl (fun c_45 => ?_) (fun c_45 => by exfalso; first | omega | contradiction | exact absurd (by assumption) c_45 | (simp_all; done))) | refine g_if_ne (tgt := 53) (p1 := 48) dX10_strokeOf_45 rfl rfl (fun c_45 => ?_) (fun c_45 => by exfalso; first | omega | contradiction | exact absurd (by assumption) c_45 | (simp_all; done))
  refine g_iload_n (p0 := 54) (i := 2) dX10_strokeOf_53 rfl rfl rfl ?_
  refine g_iconst (p0 := 55) (v := nI 1) dX10_strokeOf_54 rfl rfl ?_
  first | ((with_reducible refine isN2 ?_); refine g_icmpN_ne (tgt := 67) (p1 := 58) dX10_strokeOf_55 rfl (by omega) (by omega) rfl (fun c_55 => ?_) (fun c_55 => by exfalso; first | omega | contradiction | exact absurd (by assumption) c_55 | (simp_all; done))) | refine g_icmp_ne (tgt := 67) (p1 := 58) dX10_strokeOf_55 rfl rfl (fun c_55 => ?_) (fun c_55 => by exfalso; first | omega | contradiction | exact absurd (by assumption) c_55 | (simp_all; done))
  refine g_iload_n (p0 := 68) (i := 2) dX10_strokeOf_67 rfl rfl rfl ?_
  refine g_iconst (p0 := 69) (v := nI 2) dX10_strokeOf_68 rfl rfl ?_
  first | ((with_reducible refine isN2 ?_); refine g_icmpN_ne (tgt := 81) (p1 := 72) dX10_strokeOf_69 rfl (by omega) (by omega) rfl (fun c_69 => ?_) (fun c_69 => by exfalso; first | omega | contradiction | exact absurd (by assumption) c_69 | (simp_all; done))) | refine g_icmp_ne (tgt := 81) (p1 := 72) dX10_strokeOf_69 rfl rfl (fun c_69 => ?_) (fun c_69 => by exfalso; first | omega | contradiction | exact absurd (by assumption) c_69 | (simp_all; done))
  refine g_aload_n (p0 := 82) (i := 0) dX10_strokeOf_81 rfl rfl rfl ?_
  refine g_iload_n (p0 := 83) (i := 1) dX10_strokeOf_82 rfl rfl rfl ?_
  refine g_cV1R (p0 := 86) (r1 := mX10_isDoubtful) dX10_strokeOf_83 lX10_131 vX10_isDoubtful (by first | rfl | assumption | exact RW.s (by assumption) | exact TW.s (by assumption)) ⟨_, _, rfl⟩ (FITi rfl rfl) (Nat.le_of_ble_eq_true rfl) (hdb) rfl ?_
  first | ((with_reducible refine isN1 ?_); refine g_ifN_eq (tgt := 93) (p1 := 89) dX10_strokeOf_86 rfl (by omega) rfl (fun c_86 => ?_) (fun c_86 => by exfalso; first | omega | contradiction | exact absurd (by assumption) c_86 | (simp_all; done))) | refine g_if_eq (tgt := 93) (p1 := 89) dX10_strokeOf_86 rfl rfl (fun c_86 => ?_) (fun c_86 => by exfalso; first | omega | contradiction | exact absurd (by assumption) c_86 | (simp_all; done))
  refine g_iconst (p0 := 94) (v := nI 0) dX10_strokeOf_93 rfl rfl ?_
  refine g_ireturn dX10_strokeOf_94 rfl rfl (?_)
  exact ⟨rfl, hf⟩
set_option maxRecDepth 20000 in
set_option maxHeartbeats 2000000 in
theorem sO_r3_1 {p s : Nat} {σ : Sg} (hs : σ 80 3 = nI s) (hs1 : s ≤ 160) (hp : p < s) (h0 : ¬ p = 0) (hd : dbt (σ 80 0) (σ 80 1) (gpF (tm (σ 80)) (σ 80 0) p) = 1) : CM mX10_strokeOf [ar 79, ai (nI p), ai (nI 3)] σ (RQ σ (nI 1)) := by
  refine CM_in (ls := [some (ar 79), some (ai (nI p)), some (ai (nI 3))]) rfl ?_
  refine g_aload_n (p0 := 1) (i := 0) dX10_strokeOf_0 rfl rfl rfl ?_
  refine g_iload_n (p0 := 2) (i := 1) dX10_strokeOf_1 rfl rfl rfl ?_
  refine g_cV1R (p0 := 5) (r1 := mX10_isStroke) dX10_strokeOf_2 lX10_109 vX10_isStroke (by first | rfl | assumption | exact RW.s (by assumption) | exact TW.s (by assumption)) ⟨_, _, rfl⟩ (FITi rfl rfl) (Nat.le_of_ble_eq_true rfl) (isStroke_T hs hs1 hp) rfl ?_
  first | ((with_reducible refine isN1 ?_); refine g_ifN_eq (tgt := 18) (p1 := 8) dX10_strokeOf_5 rfl (by omega) rfl (fun c_5 => by exfalso; first | omega | contradiction | exact absurd (by assumption) c_5 | (simp_all; done)) (fun c_5 => ?_)) | refine g_if_eq (tgt := 18) (p1 := 8) dX10_strokeOf_5 rfl rfl (fun c_5 => by exfalso; first | omega | contradiction | exact absurd (by assumption) c_5 | (simp_all; done)) (fun c_5 => ?_)
  refine g_iload_n (p0 := 9) (i := 2) dX10_strokeOf_8 rfl rfl rfl ?_
  refine g_iconst (p0 := 10) (v := nI 0) dX10_strokeOf_9 rfl rfl ?_
  refine g_bipush (p0 := 12) (v := nI 6) dX10_strokeOf_10 (by decide) rfl ?_
  refine g_cS3R (p0 := 15) (r1 := mX10_in) dX10_strokeOf_12 (Or.inl lX10_65) vX10_in (FITi rfl rfl) (Nat.le_of_ble_eq_true rfl) (in_T (by decide) (by decide)) rfl ?_
  first | ((with_reducible refine isN1 ?_); refine g_ifN_ne (tgt := 21) (p1 := 18) dX10_strokeOf_15 rfl (by omega) rfl (fun c_15 => ?_) (fun c_15 => by exfalso; first | omega | contradiction | exact absurd (by assumption) c_15 | (simp_all; done))) | refine g_if_ne (tgt := 21) (p1 := 18) dX10_strokeOf_15 rfl rfl (fun c_15 => ?_) (fun c_15 => by exfalso; first | omega | contradiction | exact absurd (by assumption) c_15 | (simp_all; done))
  refine g_aload_n (p0 := 22) (i := 0) dX10_strokeOf_21 rfl rfl rfl ?_
  refine g_cV0P (p0 := 25) (r1 := mX10_lays) dX10_strokeOf_22 lX10_151 vX10_lays (by first | rfl | assumption | exact RW.s (by assumption) | exact TW.s (by assumption)) ⟨_, _, rfl⟩ (FITi rfl rfl) (Nat.le_of_ble_eq_true rfl) (lays_sp hs hs1) rfl ?_
  rintro σ1 ⟨hRD, hf⟩
  have e80 := hf.1 80 (by decide) (by decide)
  obtain ⟨g0, g1, g2, g3⟩ := hRD.1.2.2 p hp
  have ek : (kaF (tm (σ 80)) (σ 80 0)) p = cs (σ 80 0) (gpF (tm (σ 80)) (σ 80 0) p) := by rw [kaF, if_neg h0]
  rw [ek] at g2
  have hdb := isDoubtful_sp (σ := σ1) (bt := σ 80 0) (tl := σ 80 1) (show p < 160 by omega) g2 (g1 (by omega)) (by rw [e80]) (by rw [e80]) (by omega)
  rw [hd] at hdb
  refine g_iload_n (p0 := 26) (i := 2) dX10_strokeOf_25 rfl rfl rfl ?_
  first | ((with_reducible refine isN1 ?_); refine g_ifN_ne (tgt := 39) (p1 := 29) dX10_strokeOf_26 rfl (by omega) rfl (fun c_26 => ?_) (fun c_26 => by exfalso; first | omega | contradiction | exact absurd (by assumption) c_26 | (simp_all; done))) | refine g_if_ne (tgt := 39) (p1 := 29) dX10_strokeOf_26 rfl rfl (fun c_26 => ?_) (fun c_26 => by exfalso; first | omega | contradiction | exact absurd (by assumption) c_26 | (simp_all; done))
  refine g_iload_n (p0 := 40) (i := 2) dX10_strokeOf_39 rfl rfl rfl ?_
  refine g_iconst (p0 := 41) (v := nI 4) dX10_strokeOf_40 rfl rfl ?_
  first | ((with_reducible refine isN2 ?_); refine g_icmpN_ge (tgt := 95) (p1 := 44) dX10_strokeOf_41 rfl (by omega) (by omega) rfl (fun c_41 => by exfalso; first | omega | contradiction | exact absurd (by assumption) c_41 | (simp_all; done)) (fun c_41 => ?_)) | refine g_icmp_ge (tgt := 95) (p1 := 44) dX10_strokeOf_41 rfl rfl (fun c_41 => by exfalso; first | omega | contradiction | exact absurd (by assumption) c_41 | (simp_all; done)) (fun c_41 => ?_)
  refine g_iload_n (p0 := 45) (i := 1) dX10_strokeOf_44 rfl rfl rfl ?_
  first | ((with_reducible refine isN1 ?_); refine g_ifN_ne (tgt := 53) (p1 := 48) dX10_strokeOf_45 rfl (by omega) rfl (fun c_45 => ?_) (fun c_45 => by exfalso; first | omega | contradiction | exact absurd (by assumption) c_45 | (simp_all; done))) | refine g_if_ne (tgt := 53) (p1 := 48) dX10_strokeOf_45 rfl rfl (fun c_45 => ?_) (fun c_45 => by exfalso; first | omega | contradiction | exact absurd (by assumption) c_45 | (simp_all; done))
  refine g_iload_n (p0 := 54) (i := 2) dX10_strokeOf_53 rfl rfl rfl ?_
  refine g_iconst (p0 := 55) (v := nI 1) dX10_strokeOf_54 rfl rfl ?_
  first | ((with_reducible refine isN2 ?_); refine g_icmpN_ne (tgt := 67) (p1 := 58) dX10_strokeOf_55 rfl (by omega) (by omega) rfl (fun c_55 => ?_) (fun c_55 => by exfalso; first | omega | contradiction | exact absurd (by assumption) c_55 | (simp_all; done))) | refine g_icmp_ne (tgt := 67) (p1 := 58) dX10_strokeOf_55 rfl rfl (fun c_55 => ?_) (fun c_55 => by exfalso; first | omega | contradiction | exact absurd (by assumption) c_55 | (simp_all; done))
  refine g_iload_n (p0 := 68) (i := 2) dX10_strokeOf_67 rfl rfl rfl ?_
  refine g_iconst (p0 := 69) (v := nI 2) dX10_strokeOf_68 rfl rfl ?_
  first | ((with_reducible refine isN2 ?_); refine g_icmpN_ne (tgt := 81) (p1 := 72) dX10_strokeOf_69 rfl (by omega) (by omega) rfl (fun c_69 => ?_) (fun c_69 => by exfalso; first | omega | contradiction | exact absurd (by assumption) c_69 | (simp_all; done))) | refine g_icmp_ne (tgt := 81) (p1 := 72) dX10_strokeOf_69 rfl rfl (fun c_69 => ?_) (fun c_69 => by exfalso; first | omega | contradiction | exact absurd (by assumption) c_69 | (simp_all; done))
  refine g_aload_n (p0 := 82) (i := 0) dX10_strokeOf_81 rfl rfl rfl ?_
  refine g_iload_n (p0 := 83) (i := 1) dX10_strokeOf_82 rfl rfl rfl ?_
  refine g_cV1R (p0 := 86) (r1 := mX10_isDoubtful) dX10_strokeOf_83 lX10_131 vX10_isDoubtful (by first | rfl | assumption | exact RW.s (by assumption) | exact TW.s (by assumption)) ⟨_, _, rfl⟩ (FITi rfl rfl) (Nat.le_of_ble_eq_true rfl) (hdb) rfl ?_
  first | ((with_reducible refine isN1 ?_); refine g_ifN_eq (tgt := 93) (p1 := 89) dX10_strokeOf_86 rfl (by omega) rfl (fun c_86 => by exfalso; first | omega | contradiction | exact absurd (by assumption) c_86 | (simp_all; done)) (fun c_86 => ?_)) | refine g_if_eq (tgt := 93) (p1 := 89) dX10_strokeOf_86 rfl rfl (fun c_86 => by exfalso; first | omega | contradiction | exact absurd (by assumption) c_86 | (simp_all; done)) (fun c_86 => ?_)
  refine g_iconst (p0 := 90) (v := nI 1) dX10_strokeOf_89 rfl rfl ?_
  refine g_goto (tgt := 94) dX10_strokeOf_90 rfl ?_
  refine g_ireturn dX10_strokeOf_94 rfl rfl (?_)
  exact ⟨rfl, hf⟩
set_option maxRecDepth 20000 in
set_option maxHeartbeats 2000000 in
theorem sO_r4z {p s : Nat} {σ : Sg} (hs : σ 80 3 = nI s) (hs1 : s ≤ 160) (hp : p < s) (h0 : (kaF (tm (σ 80)) (σ 80 0)) p = 0) : CM mX10_strokeOf [ar 79, ai (nI p), ai (nI 4)] σ (RQ σ (-1000004)) := by
  refine CM_in (ls := [some (ar 79), some (ai (nI p)), some (ai (nI 4))]) rfl ?_
  refine g_aload_n (p0 := 1) (i := 0) dX10_strokeOf_0 rfl rfl rfl ?_
  refine g_iload_n (p0 := 2) (i := 1) dX10_strokeOf_1 rfl rfl rfl ?_
  refine g_cV1R (p0 := 5) (r1 := mX10_isStroke) dX10_strokeOf_2 lX10_109 vX10_isStroke (by first | rfl | assumption | exact RW.s (by assumption) | exact TW.s (by assumption)) ⟨_, _, rfl⟩ (FITi rfl rfl) (Nat.le_of_ble_eq_true rfl) (isStroke_T hs hs1 hp) rfl ?_
  first | ((with_reducible refine isN1 ?_); refine g_ifN_eq (tgt := 18) (p1 := 8) dX10_strokeOf_5 rfl (by omega) rfl (fun c_5 => by exfalso; first | omega | contradiction | exact absurd (by assumption) c_5 | (simp_all; done)) (fun c_5 => ?_)) | refine g_if_eq (tgt := 18) (p1 := 8) dX10_strokeOf_5 rfl rfl (fun c_5 => by exfalso; first | omega | contradiction | exact absurd (by assumption) c_5 | (simp_all; done)) (fun c_5 => ?_)
  refine g_iload_n (p0 := 9) (i := 2) dX10_strokeOf_8 rfl rfl rfl ?_
  refine g_iconst (p0 := 10) (v := nI 0) dX10_strokeOf_9 rfl rfl ?_
  refine g_bipush (p0 := 12) (v := nI 6) dX10_strokeOf_10 (by decide) rfl ?_
  refine g_cS3R (p0 := 15) (r1 := mX10_in) dX10_strokeOf_12 (Or.inl lX10_65) vX10_in (FITi rfl rfl) (Nat.le_of_ble_eq_true rfl) (in_T (by decide) (by decide)) rfl ?_
  first | ((with_reducible refine isN1 ?_); refine g_ifN_ne (tgt := 21) (p1 := 18) dX10_strokeOf_15 rfl (by omega) rfl (fun c_15 => ?_) (fun c_15 => by exfalso; first | omega | contradiction | exact absurd (by assumption) c_15 | (simp_all; done))) | refine g_if_ne (tgt := 21) (p1 := 18) dX10_strokeOf_15 rfl rfl (fun c_15 => ?_) (fun c_15 => by exfalso; first | omega | contradiction | exact absurd (by assumption) c_15 | (simp_all; done))
  refine g_aload_n (p0 := 22) (i := 0) dX10_strokeOf_21 rfl rfl rfl ?_
  refine g_cV0P (p0 := 25) (r1 := mX10_lays) dX10_strokeOf_22 lX10_151 vX10_lays (by first | rfl | assumption | exact RW.s (by assumption) | exact TW.s (by assumption)) ⟨_, _, rfl⟩ (FITi rfl rfl) (Nat.le_of_ble_eq_true rfl) (lays_sp hs hs1) rfl ?_
  rintro σ1 ⟨hRD, hf⟩
  have e80 := hf.1 80 (by decide) (by decide)
  obtain ⟨g0, g1, g2, g3⟩ := hRD.1.2.2 p hp
  rw [h0] at g2
  refine g_iload_n (p0 := 26) (i := 2) dX10_strokeOf_25 rfl rfl rfl ?_
  first | ((with_reducible refine isN1 ?_); refine g_ifN_ne (tgt := 39) (p1 := 29) dX10_strokeOf_26 rfl (by omega) rfl (fun c_26 => ?_) (fun c_26 => by exfalso; first | omega | contradiction | exact absurd (by assumption) c_26 | (simp_all; done))) | refine g_if_ne (tgt := 39) (p1 := 29) dX10_strokeOf_26 rfl rfl (fun c_26 => ?_) (fun c_26 => by exfalso; first | omega | contradiction | exact absurd (by assumption) c_26 | (simp_all; done))
  refine g_iload_n (p0 := 40) (i := 2) dX10_strokeOf_39 rfl rfl rfl ?_
  refine g_iconst (p0 := 41) (v := nI 4) dX10_strokeOf_40 rfl rfl ?_
  first | ((with_reducible refine isN2 ?_); refine g_icmpN_ge (tgt := 95) (p1 := 44) dX10_strokeOf_41 rfl (by omega) (by omega) rfl (fun c_41 => ?_) (fun c_41 => by exfalso; first | omega | contradiction | exact absurd (by assumption) c_41 | (simp_all; done))) | refine g_icmp_ge (tgt := 95) (p1 := 44) dX10_strokeOf_41 rfl rfl (fun c_41 => ?_) (fun c_41 => by exfalso; first | omega | contradiction | exact absurd (by assumption) c_41 | (simp_all; done))
  refine g_aload_n (p0 := 96) (i := 0) dX10_strokeOf_95 rfl rfl rfl ?_
  refine g_getR (p0 := 99) dX10_strokeOf_96 fX10_25 (by first | rfl | assumption | exact RW.s (by assumption) | exact TW.s (by assumption)) rfl rfl ?_
  refine g_iload_n (p0 := 100) (i := 1) dX10_strokeOf_99 rfl rfl rfl ?_
  first | ((with_reducible refine isN1 ?_); refine g_aldN (p0 := 101) dX10_strokeOf_100 (by first | rfl | assumption | exact RW.s (by assumption) | exact TW.s (by assumption)) (by first | decide | assumption) (by omega) (by first | assumption | ((repeat (first | exact up_hit | refine up_nv (by decide) ?_ | refine up_mv (by first | decide | omega) ?_)) <;> first | assumption | rfl)) rfl ?_) | refine g_ald (p0 := 101) dX10_strokeOf_100 (by first | rfl | assumption | exact RW.s (by assumption) | exact TW.s (by assumption)) (by assumption) (by first | assumption | ((repeat (first | exact up_hit | refine up_nv (by decide) ?_ | refine up_mv (by first | decide | omega) ?_)) <;> first | assumption | rfl)) rfl ?_
  first | ((with_reducible refine isN1 ?_); refine g_ifN_ne (tgt := 109) (p1 := 104) dX10_strokeOf_101 rfl (by omega) rfl (fun c_101 => by exfalso; first | omega | contradiction | exact absurd (by assumption) c_101 | (simp_all; done)) (fun c_101 => ?_)) | refine g_if_ne (tgt := 109) (p1 := 104) dX10_strokeOf_101 rfl rfl (fun c_101 => by exfalso; first | omega | contradiction | exact absurd (by assumption) c_101 | (simp_all; done)) (fun c_101 => ?_)
  refine g_ldc (p0 := 106) dX10_strokeOf_104 qX10_154 rfl ?_
  refine g_goto (tgt := 143) dX10_strokeOf_106 rfl ?_
  refine g_ireturn dX10_strokeOf_143 rfl rfl (?_)
  exact ⟨rfl, hf⟩
set_option maxRecDepth 20000 in
set_option maxHeartbeats 2000000 in
theorem sO_r5z {p s : Nat} {σ : Sg} (hs : σ 80 3 = nI s) (hs1 : s ≤ 160) (hp : p < s) (h0 : (kaF (tm (σ 80)) (σ 80 0)) p = 0) : CM mX10_strokeOf [ar 79, ai (nI p), ai (nI 5)] σ (RQ σ (-1000004)) := by
  refine CM_in (ls := [some (ar 79), some (ai (nI p)), some (ai (nI 5))]) rfl ?_
  refine g_aload_n (p0 := 1) (i := 0) dX10_strokeOf_0 rfl rfl rfl ?_
  refine g_iload_n (p0 := 2) (i := 1) dX10_strokeOf_1 rfl rfl rfl ?_
  refine g_cV1R (p0 := 5) (r1 := mX10_isStroke) dX10_strokeOf_2 lX10_109 vX10_isStroke (by first | rfl | assumption | exact RW.s (by assumption) | exact TW.s (by assumption)) ⟨_, _, rfl⟩ (FITi rfl rfl) (Nat.le_of_ble_eq_true rfl) (isStroke_T hs hs1 hp) rfl ?_
  first | ((with_reducible refine isN1 ?_); refine g_ifN_eq (tgt := 18) (p1 := 8) dX10_strokeOf_5 rfl (by omega) rfl (fun c_5 => by exfalso; first | omega | contradiction | exact absurd (by assumption) c_5 | (simp_all; done)) (fun c_5 => ?_)) | refine g_if_eq (tgt := 18) (p1 := 8) dX10_strokeOf_5 rfl rfl (fun c_5 => by exfalso; first | omega | contradiction | exact absurd (by assumption) c_5 | (simp_all; done)) (fun c_5 => ?_)
  refine g_iload_n (p0 := 9) (i := 2) dX10_strokeOf_8 rfl rfl rfl ?_
  refine g_iconst (p0 := 10) (v := nI 0) dX10_strokeOf_9 rfl rfl ?_
  refine g_bipush (p0 := 12) (v := nI 6) dX10_strokeOf_10 (by decide) rfl ?_
  refine g_cS3R (p0 := 15) (r1 := mX10_in) dX10_strokeOf_12 (Or.inl lX10_65) vX10_in (FITi rfl rfl) (Nat.le_of_ble_eq_true rfl) (in_T (by decide) (by decide)) rfl ?_
  first | ((with_reducible refine isN1 ?_); refine g_ifN_ne (tgt := 21) (p1 := 18) dX10_strokeOf_15 rfl (by omega) rfl (fun c_15 => ?_) (fun c_15 => by exfalso; first | omega | contradiction | exact absurd (by assumption) c_15 | (simp_all; done))) | refine g_if_ne (tgt := 21) (p1 := 18) dX10_strokeOf_15 rfl rfl (fun c_15 => ?_) (fun c_15 => by exfalso; first | omega | contradiction | exact absurd (by assumption) c_15 | (simp_all; done))
  refine g_aload_n (p0 := 22) (i := 0) dX10_strokeOf_21 rfl rfl rfl ?_
  refine g_cV0P (p0 := 25) (r1 := mX10_lays) dX10_strokeOf_22 lX10_151 vX10_lays (by first | rfl | assumption | exact RW.s (by assumption) | exact TW.s (by assumption)) ⟨_, _, rfl⟩ (FITi rfl rfl) (Nat.le_of_ble_eq_true rfl) (lays_sp hs hs1) rfl ?_
  rintro σ1 ⟨hRD, hf⟩
  have e80 := hf.1 80 (by decide) (by decide)
  obtain ⟨g0, g1, g2, g3⟩ := hRD.1.2.2 p hp
  rw [h0] at g2
  refine g_iload_n (p0 := 26) (i := 2) dX10_strokeOf_25 rfl rfl rfl ?_
  first | ((with_reducible refine isN1 ?_); refine g_ifN_ne (tgt := 39) (p1 := 29) dX10_strokeOf_26 rfl (by omega) rfl (fun c_26 => ?_) (fun c_26 => by exfalso; first | omega | contradiction | exact absurd (by assumption) c_26 | (simp_all; done))) | refine g_if_ne (tgt := 39) (p1 := 29) dX10_strokeOf_26 rfl rfl (fun c_26 => ?_) (fun c_26 => by exfalso; first | omega | contradiction | exact absurd (by assumption) c_26 | (simp_all; done))
  refine g_iload_n (p0 := 40) (i := 2) dX10_strokeOf_39 rfl rfl rfl ?_
  refine g_iconst (p0 := 41) (v := nI 4) dX10_strokeOf_40 rfl rfl ?_
  first | ((with_reducible refine isN2 ?_); refine g_icmpN_ge (tgt := 95) (p1 := 44) dX10_strokeOf_41 rfl (by omega) (by omega) rfl (fun c_41 => ?_) (fun c_41 => by exfalso; first | omega | contradiction | exact absurd (by assumption) c_41 | (simp_all; done))) | refine g_icmp_ge (tgt := 95) (p1 := 44) dX10_strokeOf_41 rfl rfl (fun c_41 => ?_) (fun c_41 => by exfalso; first | omega | contradiction | exact absurd (by assumption) c_41 | (simp_all; done))
  refine g_aload_n (p0 := 96) (i := 0) dX10_strokeOf_95 rfl rfl rfl ?_
  refine g_getR (p0 := 99) dX10_strokeOf_96 fX10_25 (by first | rfl | assumption | exact RW.s (by assumption) | exact TW.s (by assumption)) rfl rfl ?_
  refine g_iload_n (p0 := 100) (i := 1) dX10_strokeOf_99 rfl rfl rfl ?_
  first | ((with_reducible refine isN1 ?_); refine g_aldN (p0 := 101) dX10_strokeOf_100 (by first | rfl | assumption | exact RW.s (by assumption) | exact TW.s (by assumption)) (by first | decide | assumption) (by omega) (by first | assumption | ((repeat (first | exact up_hit | refine up_nv (by decide) ?_ | refine up_mv (by first | decide | omega) ?_)) <;> first | assumption | rfl)) rfl ?_) | refine g_ald (p0 := 101) dX10_strokeOf_100 (by first | rfl | assumption | exact RW.s (by assumption) | exact TW.s (by assumption)) (by assumption) (by first | assumption | ((repeat (first | exact up_hit | refine up_nv (by decide) ?_ | refine up_mv (by first | decide | omega) ?_)) <;> first | assumption | rfl)) rfl ?_
  first | ((with_reducible refine isN1 ?_); refine g_ifN_ne (tgt := 109) (p1 := 104) dX10_strokeOf_101 rfl (by omega) rfl (fun c_101 => by exfalso; first | omega | contradiction | exact absurd (by assumption) c_101 | (simp_all; done)) (fun c_101 => ?_)) | refine g_if_ne (tgt := 109) (p1 := 104) dX10_strokeOf_101 rfl rfl (fun c_101 => by exfalso; first | omega | contradiction | exact absurd (by assumption) c_101 | (simp_all; done)) (fun c_101 => ?_)
  refine g_ldc (p0 := 106) dX10_strokeOf_104 qX10_154 rfl ?_
  refine g_goto (tgt := 143) dX10_strokeOf_106 rfl ?_
  refine g_ireturn dX10_strokeOf_143 rfl rfl (?_)
  exact ⟨rfl, hf⟩
set_option maxRecDepth 20000 in
set_option maxHeartbeats 2000000 in
theorem sO_r6z {p s : Nat} {σ : Sg} (hs : σ 80 3 = nI s) (hs1 : s ≤ 160) (hp : p < s) (h0 : (kaF (tm (σ 80)) (σ 80 0)) p = 0) : CM mX10_strokeOf [ar 79, ai (nI p), ai (nI 6)] σ (RQ σ (-1000004)) := by
  refine CM_in (ls := [some (ar 79), some (ai (nI p)), some (ai (nI 6))]) rfl ?_
  refine g_aload_n (p0 := 1) (i := 0) dX10_strokeOf_0 rfl rfl rfl ?_
  refine g_iload_n (p0 := 2) (i := 1) dX10_strokeOf_1 rfl rfl rfl ?_
  refine g_cV1R (p0 := 5) (r1 := mX10_isStroke) dX10_strokeOf_2 lX10_109 vX10_isStroke (by first | rfl | assumption | exact RW.s (by assumption) | exact TW.s (by assumption)) ⟨_, _, rfl⟩ (FITi rfl rfl) (Nat.le_of_ble_eq_true rfl) (isStroke_T hs hs1 hp) rfl ?_
  first | ((with_reducible refine isN1 ?_); refine g_ifN_eq (tgt := 18) (p1 := 8) dX10_strokeOf_5 rfl (by omega) rfl (fun c_5 => by exfalso; first | omega | contradiction | exact absurd (by assumption) c_5 | (simp_all; done)) (fun c_5 => ?_)) | refine g_if_eq (tgt := 18) (p1 := 8) dX10_strokeOf_5 rfl rfl (fun c_5 => by exfalso; first | omega | contradiction | exact absurd (by assumption) c_5 | (simp_all; done)) (fun c_5 => ?_)
  refine g_iload_n (p0 := 9) (i := 2) dX10_strokeOf_8 rfl rfl rfl ?_
  refine g_iconst (p0 := 10) (v := nI 0) dX10_strokeOf_9 rfl rfl ?_
  refine g_bipush (p0 := 12) (v := nI 6) dX10_strokeOf_10 (by decide) rfl ?_
  refine g_cS3R (p0 := 15) (r1 := mX10_in) dX10_strokeOf_12 (Or.inl lX10_65) vX10_in (FITi rfl rfl) (Nat.le_of_ble_eq_true rfl) (in_T (by decide) (by decide)) rfl ?_
  first | ((with_reducible refine isN1 ?_); refine g_ifN_ne (tgt := 21) (p1 := 18) dX10_strokeOf_15 rfl (by omega) rfl (fun c_15 => ?_) (fun c_15 => by exfalso; first | omega | contradiction | exact absurd (by assumption) c_15 | (simp_all; done))) | refine g_if_ne (tgt := 21) (p1 := 18) dX10_strokeOf_15 rfl rfl (fun c_15 => ?_) (fun c_15 => by exfalso; first | omega | contradiction | exact absurd (by assumption) c_15 | (simp_all; done))
  refine g_aload_n (p0 := 22) (i := 0) dX10_strokeOf_21 rfl rfl rfl ?_
  refine g_cV0P (p0 := 25) (r1 := mX10_lays) dX10_strokeOf_22 lX10_151 vX10_lays (by first | rfl | assumption | exact RW.s (by assumption) | exact TW.s (by assumption)) ⟨_, _, rfl⟩ (FITi rfl rfl) (Nat.le_of_ble_eq_true rfl) (lays_sp hs hs1) rfl ?_
  rintro σ1 ⟨hRD, hf⟩
  have e80 := hf.1 80 (by decide) (by decide)
  obtain ⟨g0, g1, g2, g3⟩ := hRD.1.2.2 p hp
  rw [h0] at g2
  refine g_iload_n (p0 := 26) (i := 2) dX10_strokeOf_25 rfl rfl rfl ?_
  first | ((with_reducible refine isN1 ?_); refine g_ifN_ne (tgt := 39) (p1 := 29) dX10_strokeOf_26 rfl (by omega) rfl (fun c_26 => ?_) (fun c_26 => by exfalso; first | omega | contradiction | exact absurd (by assumption) c_26 | (simp_all; done))) | refine g_if_ne (tgt := 39) (p1 := 29) dX10_strokeOf_26 rfl rfl (fun c_26 => ?_) (fun c_26 => by exfalso; first | omega | contradiction | exact absurd (by assumption) c_26 | (simp_all; done))
  refine g_iload_n (p0 := 40) (i := 2) dX10_strokeOf_39 rfl rfl rfl ?_
  refine g_iconst (p0 := 41) (v := nI 4) dX10_strokeOf_40 rfl rfl ?_
  first | ((with_reducible refine isN2 ?_); refine g_icmpN_ge (tgt := 95) (p1 := 44) dX10_strokeOf_41 rfl (by omega) (by omega) rfl (fun c_41 => ?_) (fun c_41 => by exfalso; first | omega | contradiction | exact absurd (by assumption) c_41 | (simp_all; done))) | refine g_icmp_ge (tgt := 95) (p1 := 44) dX10_strokeOf_41 rfl rfl (fun c_41 => ?_) (fun c_41 => by exfalso; first | omega | contradiction | exact absurd (by assumption) c_41 | (simp_all; done))
  refine g_aload_n (p0 := 96) (i := 0) dX10_strokeOf_95 rfl rfl rfl ?_
  refine g_getR (p0 := 99) dX10_strokeOf_96 fX10_25 (by first | rfl | assumption | exact RW.s (by assumption) | exact TW.s (by assumption)) rfl rfl ?_
  refine g_iload_n (p0 := 100) (i := 1) dX10_strokeOf_99 rfl rfl rfl ?_
  first | ((with_reducible refine isN1 ?_); refine g_aldN (p0 := 101) dX10_strokeOf_100 (by first | rfl | assumption | exact RW.s (by assumption) | exact TW.s (by assumption)) (by first | decide | assumption) (by omega) (by first | assumption | ((repeat (first | exact up_hit | refine up_nv (by decide) ?_ | refine up_mv (by first | decide | omega) ?_)) <;> first | assumption | rfl)) rfl ?_) | refine g_ald (p0 := 101) dX10_strokeOf_100 (by first | rfl | assumption | exact RW.s (by assumption) | exact TW.s (by assumption)) (by assumption) (by first | assumption | ((repeat (first | exact up_hit | refine up_nv (by decide) ?_ | refine up_mv (by first | decide | omega) ?_)) <;> first | assumption | rfl)) rfl ?_
  first | ((with_reducible refine isN1 ?_); refine g_ifN_ne (tgt := 109) (p1 := 104) dX10_strokeOf_101 rfl (by omega) rfl (fun c_101 => by exfalso; first | omega | contradiction | exact absurd (by assumption) c_101 | (simp_all; done)) (fun c_101 => ?_)) | refine g_if_ne (tgt := 109) (p1 := 104) dX10_strokeOf_101 rfl rfl (fun c_101 => by exfalso; first | omega | contradiction | exact absurd (by assumption) c_101 | (simp_all; done)) (fun c_101 => ?_)
  refine g_ldc (p0 := 106) dX10_strokeOf_104 qX10_154 rfl ?_
  refine g_goto (tgt := 143) dX10_strokeOf_106 rfl ?_
  refine g_ireturn dX10_strokeOf_143 rfl rfl (?_)
  exact ⟨rfl, hf⟩
set_option maxRecDepth 20000 in
set_option maxHeartbeats 2000000 in
theorem sO_r4 {p s : Nat} {σ : Sg} (hs : σ 80 3 = nI s) (hs1 : s ≤ 160) (hp : p < s) (h0 : (kaF (tm (σ 80)) (σ 80 0)) p ≠ 0) : CM mX10_strokeOf [ar 79, ai (nI p), ai (nI 4)] σ (RQ σ (nI (Mc (kaF (tm (σ 80)) (σ 80 0)) (p + 1) - 1))) := by
  refine CM_in (ls := [some (ar 79), some (ai (nI p)), some (ai (nI 4))]) rfl ?_
  refine g_aload_n (p0 := 1) (i := 0) dX10_strokeOf_0 rfl rfl rfl ?_
  refine g_iload_n (p0 := 2) (i := 1) dX10_strokeOf_1 rfl rfl rfl ?_
  refine g_cV1R (p0 := 5) (r1 := mX10_isStroke) dX10_strokeOf_2 lX10_109 vX10_isStroke (by first | rfl | assumption | exact RW.s (by assumption) | exact TW.s (by assumption)) ⟨_, _, rfl⟩ (FITi rfl rfl) (Nat.le_of_ble_eq_true rfl) (isStroke_T hs hs1 hp) rfl ?_
  first | ((with_reducible refine isN1 ?_); refine g_ifN_eq (tgt := 18) (p1 := 8) dX10_strokeOf_5 rfl (by omega) rfl (fun c_5 => by exfalso; first | omega | contradiction | exact absurd (by assumption) c_5 | (simp_all; done)) (fun c_5 => ?_)) | refine g_if_eq (tgt := 18) (p1 := 8) dX10_strokeOf_5 rfl rfl (fun c_5 => by exfalso; first | omega | contradiction | exact absurd (by assumption) c_5 | (simp_all; done)) (fun c_5 => ?_)
  refine g_iload_n (p0 := 9) (i := 2) dX10_strokeOf_8 rfl rfl rfl ?_
  refine g_iconst (p0 := 10) (v := nI 0) dX10_strokeOf_9 rfl rfl ?_
  refine g_bipush (p0 := 12) (v := nI 6) dX10_strokeOf_10 (by decide) rfl ?_
  refine g_cS3R (p0 := 15) (r1 := mX10_in) dX10_strokeOf_12 (Or.inl lX10_65) vX10_in (FITi rfl rfl) (Nat.le_of_ble_eq_true rfl) (in_T (by decide) (by decide)) rfl ?_
  first | ((with_reducible refine isN1 ?_); refine g_ifN_ne (tgt := 21) (p1 := 18) dX10_strokeOf_15 rfl (by omega) rfl (fun c_15 => ?_) (fun c_15 => by exfalso; first | omega | contradiction | exact absurd (by assumption) c_15 | (simp_all; done))) | refine g_if_ne (tgt := 21) (p1 := 18) dX10_strokeOf_15 rfl rfl (fun c_15 => ?_) (fun c_15 => by exfalso; first | omega | contradiction | exact absurd (by assumption) c_15 | (simp_all; done))
  refine g_aload_n (p0 := 22) (i := 0) dX10_strokeOf_21 rfl rfl rfl ?_
  refine g_cV0P (p0 := 25) (r1 := mX10_lays) dX10_strokeOf_22 lX10_151 vX10_lays (by first | rfl | assumption | exact RW.s (by assumption) | exact TW.s (by assumption)) ⟨_, _, rfl⟩ (FITi rfl rfl) (Nat.le_of_ble_eq_true rfl) (lays_sp hs hs1) rfl ?_
  rintro σ1 ⟨hRD, hf⟩
  have e80 := hf.1 80 (by decide) (by decide)
  obtain ⟨g0, g1, g2, g3⟩ := hRD.1.2.2 p hp
  obtain ⟨m1, m2, m3⟩ := g3 h0
  have kl := kaF_le (tm (σ 80)) (σ 80 0) p
  refine g_iload_n (p0 := 26) (i := 2) dX10_strokeOf_25 rfl rfl rfl ?_
  first | ((with_reducible refine isN1 ?_); refine g_ifN_ne (tgt := 39) (p1 := 29) dX10_strokeOf_26 rfl (by omega) rfl (fun c_26 => ?_) (fun c_26 => by exfalso; first | omega | contradiction | exact absurd (by assumption) c_26 | (simp_all; done))) | refine g_if_ne (tgt := 39) (p1 := 29) dX10_strokeOf_26 rfl rfl (fun c_26 => ?_) (fun c_26 => by exfalso; first | omega | contradiction | exact absurd (by assumption) c_26 | (simp_all; done))
  refine g_iload_n (p0 := 40) (i := 2) dX10_strokeOf_39 rfl rfl rfl ?_
  refine g_iconst (p0 := 41) (v := nI 4) dX10_strokeOf_40 rfl rfl ?_
  first | ((with_reducible refine isN2 ?_); refine g_icmpN_ge (tgt := 95) (p1 := 44) dX10_strokeOf_41 rfl (by omega) (by omega) rfl (fun c_41 => ?_) (fun c_41 => by exfalso; first | omega | contradiction | exact absurd (by assumption) c_41 | (simp_all; done))) | refine g_icmp_ge (tgt := 95) (p1 := 44) dX10_strokeOf_41 rfl rfl (fun c_41 => ?_) (fun c_41 => by exfalso; first | omega | contradiction | exact absurd (by assumption) c_41 | (simp_all; done))
  refine g_aload_n (p0 := 96) (i := 0) dX10_strokeOf_95 rfl rfl rfl ?_
  refine g_getR (p0 := 99) dX10_strokeOf_96 fX10_25 (by first | rfl | assumption | exact RW.s (by assumption) | exact TW.s (by assumption)) rfl rfl ?_
  refine g_iload_n (p0 := 100) (i := 1) dX10_strokeOf_99 rfl rfl rfl ?_
  first | ((with_reducible refine isN1 ?_); refine g_aldN (p0 := 101) dX10_strokeOf_100 (by first | rfl | assumption | exact RW.s (by assumption) | exact TW.s (by assumption)) (by first | decide | assumption) (by omega) (by first | assumption | ((repeat (first | exact up_hit | refine up_nv (by decide) ?_ | refine up_mv (by first | decide | omega) ?_)) <;> first | assumption | rfl)) rfl ?_) | refine g_ald (p0 := 101) dX10_strokeOf_100 (by first | rfl | assumption | exact RW.s (by assumption) | exact TW.s (by assumption)) (by assumption) (by first | assumption | ((repeat (first | exact up_hit | refine up_nv (by decide) ?_ | refine up_mv (by first | decide | omega) ?_)) <;> first | assumption | rfl)) rfl ?_
  first | ((with_reducible refine isN1 ?_); refine g_ifN_ne (tgt := 109) (p1 := 104) dX10_strokeOf_101 rfl (by omega) rfl (fun c_101 => ?_) (fun c_101 => by exfalso; first | omega | contradiction | exact absurd (by assumption) c_101 | (simp_all; done))) | refine g_if_ne (tgt := 109) (p1 := 104) dX10_strokeOf_101 rfl rfl (fun c_101 => ?_) (fun c_101 => by exfalso; first | omega | contradiction | exact absurd (by assumption) c_101 | (simp_all; done))
  refine g_iload_n (p0 := 110) (i := 2) dX10_strokeOf_109 rfl rfl rfl ?_
  refine g_iconst (p0 := 111) (v := nI 4) dX10_strokeOf_110 rfl rfl ?_
  first | ((with_reducible refine isN2 ?_); refine g_icmpN_ne (tgt := 123) (p1 := 114) dX10_strokeOf_111 rfl (by omega) (by omega) rfl (fun c_111 => by exfalso; first | omega | contradiction | exact absurd (by assumption) c_111 | (simp_all; done)) (fun c_111 => ?_)) | refine g_icmp_ne (tgt := 123) (p1 := 114) dX10_strokeOf_111 rfl rfl (fun c_111 => by exfalso; first | omega | contradiction | exact absurd (by assumption) c_111 | (simp_all; done)) (fun c_111 => ?_)
  refine g_aload_n (p0 := 115) (i := 0) dX10_strokeOf_114 rfl rfl rfl ?_
  refine g_getR (p0 := 118) dX10_strokeOf_115 fX10_28 (by first | rfl | assumption | exact RW.s (by assumption) | exact TW.s (by assumption)) rfl rfl ?_
  refine g_iload_n (p0 := 119) (i := 1) dX10_strokeOf_118 rfl rfl rfl ?_
  first | ((with_reducible refine isN1 ?_); refine g_aldN (p0 := 120) dX10_strokeOf_119 (by first | rfl | assumption | exact RW.s (by assumption) | exact TW.s (by assumption)) (by first | decide | assumption) (by omega) (by first | assumption | ((repeat (first | exact up_hit | refine up_nv (by decide) ?_ | refine up_mv (by first | decide | omega) ?_)) <;> first | assumption | rfl)) rfl ?_) | refine g_ald (p0 := 120) dX10_strokeOf_119 (by first | rfl | assumption | exact RW.s (by assumption) | exact TW.s (by assumption)) (by assumption) (by first | assumption | ((repeat (first | exact up_hit | refine up_nv (by decide) ?_ | refine up_mv (by first | decide | omega) ?_)) <;> first | assumption | rfl)) rfl ?_
  refine g_goto (tgt := 143) dX10_strokeOf_120 rfl ?_
  refine g_ireturn dX10_strokeOf_143 rfl rfl (?_)
  exact ⟨rfl, hf⟩
set_option maxRecDepth 20000 in
set_option maxHeartbeats 2000000 in
theorem sO_r5 {p s : Nat} {σ : Sg} (hs : σ 80 3 = nI s) (hs1 : s ≤ 160) (hp : p < s) (h0 : (kaF (tm (σ 80)) (σ 80 0)) p ≠ 0) : CM mX10_strokeOf [ar 79, ai (nI p), ai (nI 5)] σ (RQ σ (nI (Lc (kaF (tm (σ 80)) (σ 80 0)) (p + 1) - 1 - fl (kaF (tm (σ 80)) (σ 80 0)) (p + 1) (Mc (kaF (tm (σ 80)) (σ 80 0)) (p + 1) - 1)))) := by
  refine CM_in (ls := [some (ar 79), some (ai (nI p)), some (ai (nI 5))]) rfl ?_
  refine g_aload_n (p0 := 1) (i := 0) dX10_strokeOf_0 rfl rfl rfl ?_
  refine g_iload_n (p0 := 2) (i := 1) dX10_strokeOf_1 rfl rfl rfl ?_
  refine g_cV1R (p0 := 5) (r1 := mX10_isStroke) dX10_strokeOf_2 lX10_109 vX10_isStroke (by first | rfl | assumption | exact RW.s (by assumption) | exact TW.s (by assumption)) ⟨_, _, rfl⟩ (FITi rfl rfl) (Nat.le_of_ble_eq_true rfl) (isStroke_T hs hs1 hp) rfl ?_
  first | ((with_reducible refine isN1 ?_); refine g_ifN_eq (tgt := 18) (p1 := 8) dX10_strokeOf_5 rfl (by omega) rfl (fun c_5 => by exfalso; first | omega | contradiction | exact absurd (by assumption) c_5 | (simp_all; done)) (fun c_5 => ?_)) | refine g_if_eq (tgt := 18) (p1 := 8) dX10_strokeOf_5 rfl rfl (fun c_5 => by exfalso; first | omega | contradiction | exact absurd (by assumption) c_5 | (simp_all; done)) (fun c_5 => ?_)
  refine g_iload_n (p0 := 9) (i := 2) dX10_strokeOf_8 rfl rfl rfl ?_
  refine g_iconst (p0 := 10) (v := nI 0) dX10_strokeOf_9 rfl rfl ?_
  refine g_bipush (p0 := 12) (v := nI 6) dX10_strokeOf_10 (by decide) rfl ?_
  refine g_cS3R (p0 := 15) (r1 := mX10_in) dX10_strokeOf_12 (Or.inl lX10_65) vX10_in (FITi rfl rfl) (Nat.le_of_ble_eq_true rfl) (in_T (by decide) (by decide)) rfl ?_
  first | ((with_reducible refine isN1 ?_); refine g_ifN_ne (tgt := 21) (p1 := 18) dX10_strokeOf_15 rfl (by omega) rfl (fun c_15 => ?_) (fun c_15 => by exfalso; first | omega | contradiction | exact absurd (by assumption) c_15 | (simp_all; done))) | refine g_if_ne (tgt := 21) (p1 := 18) dX10_strokeOf_15 rfl rfl (fun c_15 => ?_) (fun c_15 => by exfalso; first | omega | contradiction | exact absurd (by assumption) c_15 | (simp_all; done))
  refine g_aload_n (p0 := 22) (i := 0) dX10_strokeOf_21 rfl rfl rfl ?_
  refine g_cV0P (p0 := 25) (r1 := mX10_lays) dX10_strokeOf_22 lX10_151 vX10_lays (by first | rfl | assumption | exact RW.s (by assumption) | exact TW.s (by assumption)) ⟨_, _, rfl⟩ (FITi rfl rfl) (Nat.le_of_ble_eq_true rfl) (lays_sp hs hs1) rfl ?_
  rintro σ1 ⟨hRD, hf⟩
  have e80 := hf.1 80 (by decide) (by decide)
  obtain ⟨g0, g1, g2, g3⟩ := hRD.1.2.2 p hp
  obtain ⟨m1, m2, m3⟩ := g3 h0
  have kl := kaF_le (tm (σ 80)) (σ 80 0) p
  refine g_iload_n (p0 := 26) (i := 2) dX10_strokeOf_25 rfl rfl rfl ?_
  first | ((with_reducible refine isN1 ?_); refine g_ifN_ne (tgt := 39) (p1 := 29) dX10_strokeOf_26 rfl (by omega) rfl (fun c_26 => ?_) (fun c_26 => by exfalso; first | omega | contradiction | exact absurd (by assumption) c_26 | (simp_all; done))) | refine g_if_ne (tgt := 39) (p1 := 29) dX10_strokeOf_26 rfl rfl (fun c_26 => ?_) (fun c_26 => by exfalso; first | omega | contradiction | exact absurd (by assumption) c_26 | (simp_all; done))
  refine g_iload_n (p0 := 40) (i := 2) dX10_strokeOf_39 rfl rfl rfl ?_
  refine g_iconst (p0 := 41) (v := nI 4) dX10_strokeOf_40 rfl rfl ?_
  first | ((with_reducible refine isN2 ?_); refine g_icmpN_ge (tgt := 95) (p1 := 44) dX10_strokeOf_41 rfl (by omega) (by omega) rfl (fun c_41 => ?_) (fun c_41 => by exfalso; first | omega | contradiction | exact absurd (by assumption) c_41 | (simp_all; done))) | refine g_icmp_ge (tgt := 95) (p1 := 44) dX10_strokeOf_41 rfl rfl (fun c_41 => ?_) (fun c_41 => by exfalso; first | omega | contradiction | exact absurd (by assumption) c_41 | (simp_all; done))
  refine g_aload_n (p0 := 96) (i := 0) dX10_strokeOf_95 rfl rfl rfl ?_
  refine g_getR (p0 := 99) dX10_strokeOf_96 fX10_25 (by first | rfl | assumption | exact RW.s (by assumption) | exact TW.s (by assumption)) rfl rfl ?_
  refine g_iload_n (p0 := 100) (i := 1) dX10_strokeOf_99 rfl rfl rfl ?_
  first | ((with_reducible refine isN1 ?_); refine g_aldN (p0 := 101) dX10_strokeOf_100 (by first | rfl | assumption | exact RW.s (by assumption) | exact TW.s (by assumption)) (by first | decide | assumption) (by omega) (by first | assumption | ((repeat (first | exact up_hit | refine up_nv (by decide) ?_ | refine up_mv (by first | decide | omega) ?_)) <;> first | assumption | rfl)) rfl ?_) | refine g_ald (p0 := 101) dX10_strokeOf_100 (by first | rfl | assumption | exact RW.s (by assumption) | exact TW.s (by assumption)) (by assumption) (by first | assumption | ((repeat (first | exact up_hit | refine up_nv (by decide) ?_ | refine up_mv (by first | decide | omega) ?_)) <;> first | assumption | rfl)) rfl ?_
  first | ((with_reducible refine isN1 ?_); refine g_ifN_ne (tgt := 109) (p1 := 104) dX10_strokeOf_101 rfl (by omega) rfl (fun c_101 => ?_) (fun c_101 => by exfalso; first | omega | contradiction | exact absurd (by assumption) c_101 | (simp_all; done))) | refine g_if_ne (tgt := 109) (p1 := 104) dX10_strokeOf_101 rfl rfl (fun c_101 => ?_) (fun c_101 => by exfalso; first | omega | contradiction | exact absurd (by assumption) c_101 | (simp_all; done))
  refine g_iload_n (p0 := 110) (i := 2) dX10_strokeOf_109 rfl rfl rfl ?_
  refine g_iconst (p0 := 111) (v := nI 4) dX10_strokeOf_110 rfl rfl ?_
  first | ((with_reducible refine isN2 ?_); refine g_icmpN_ne (tgt := 123) (p1 := 114) dX10_strokeOf_111 rfl (by omega) (by omega) rfl (fun c_111 => ?_) (fun c_111 => by exfalso; first | omega | contradiction | exact absurd (by assumption) c_111 | (simp_all; done))) | refine g_icmp_ne (tgt := 123) (p1 := 114) dX10_strokeOf_111 rfl rfl (fun c_111 => ?_) (fun c_111 => by exfalso; first | omega | contradiction | exact absurd (by assumption) c_111 | (simp_all; done))
  refine g_iload_n (p0 := 124) (i := 2) dX10_strokeOf_123 rfl rfl rfl ?_
  refine g_iconst (p0 := 125) (v := nI 5) dX10_strokeOf_124 rfl rfl ?_
  first | ((with_reducible refine isN2 ?_); refine g_icmpN_ne (tgt := 137) (p1 := 128) dX10_strokeOf_125 rfl (by omega) (by omega) rfl (fun c_125 => by exfalso; first | omega | contradiction | exact absurd (by assumption) c_125 | (simp_all; done)) (fun c_125 => ?_)) | refine g_icmp_ne (tgt := 137) (p1 := 128) dX10_strokeOf_125 rfl rfl (fun c_125 => by exfalso; first | omega | contradiction | exact absurd (by assumption) c_125 | (simp_all; done)) (fun c_125 => ?_)
  refine g_aload_n (p0 := 129) (i := 0) dX10_strokeOf_128 rfl rfl rfl ?_
  refine g_getR (p0 := 132) dX10_strokeOf_129 fX10_31 (by first | rfl | assumption | exact RW.s (by assumption) | exact TW.s (by assumption)) rfl rfl ?_
  refine g_iload_n (p0 := 133) (i := 1) dX10_strokeOf_132 rfl rfl rfl ?_
  first | ((with_reducible refine isN1 ?_); refine g_aldN (p0 := 134) dX10_strokeOf_133 (by first | rfl | assumption | exact RW.s (by assumption) | exact TW.s (by assumption)) (by first | decide | assumption) (by omega) (by first | assumption | ((repeat (first | exact up_hit | refine up_nv (by decide) ?_ | refine up_mv (by first | decide | omega) ?_)) <;> first | assumption | rfl)) rfl ?_) | refine g_ald (p0 := 134) dX10_strokeOf_133 (by first | rfl | assumption | exact RW.s (by assumption) | exact TW.s (by assumption)) (by assumption) (by first | assumption | ((repeat (first | exact up_hit | refine up_nv (by decide) ?_ | refine up_mv (by first | decide | omega) ?_)) <;> first | assumption | rfl)) rfl ?_
  refine g_goto (tgt := 143) dX10_strokeOf_134 rfl ?_
  refine g_ireturn dX10_strokeOf_143 rfl rfl (?_)
  exact ⟨rfl, hf⟩
set_option maxRecDepth 20000 in
set_option maxHeartbeats 2000000 in
theorem sO_r6 {p s : Nat} {σ : Sg} (hs : σ 80 3 = nI s) (hs1 : s ≤ 160) (hp : p < s) (h0 : (kaF (tm (σ 80)) (σ 80 0)) p ≠ 0) : CM mX10_strokeOf [ar 79, ai (nI p), ai (nI 6)] σ (RQ σ (nI (gr (kaF (tm (σ 80)) (σ 80 0)) (p + 1) (Lc (kaF (tm (σ 80)) (σ 80 0)) (p + 1) - 1) - 1))) := by
  refine CM_in (ls := [some (ar 79), some (ai (nI p)), some (ai (nI 6))]) rfl ?_
  refine g_aload_n (p0 := 1) (i := 0) dX10_strokeOf_0 rfl rfl rfl ?_
  refine g_iload_n (p0 := 2) (i := 1) dX10_strokeOf_1 rfl rfl rfl ?_
  refine g_cV1R (p0 := 5) (r1 := mX10_isStroke) dX10_strokeOf_2 lX10_109 vX10_isStroke (by first | rfl | assumption | exact RW.s (by assumption) | exact TW.s (by assumption)) ⟨_, _, rfl⟩ (FITi rfl rfl) (Nat.le_of_ble_eq_true rfl) (isStroke_T hs hs1 hp) rfl ?_
  first | ((with_reducible refine isN1 ?_); refine g_ifN_eq (tgt := 18) (p1 := 8) dX10_strokeOf_5 rfl (by omega) rfl (fun c_5 => by exfalso; first | omega | contradiction | exact absurd (by assumption) c_5 | (simp_all; done)) (fun c_5 => ?_)) | refine g_if_eq (tgt := 18) (p1 := 8) dX10_strokeOf_5 rfl rfl (fun c_5 => by exfalso; first | omega | contradiction | exact absurd (by assumption) c_5 | (simp_all; done)) (fun c_5 => ?_)
  refine g_iload_n (p0 := 9) (i := 2) dX10_strokeOf_8 rfl rfl rfl ?_
  refine g_iconst (p0 := 10) (v := nI 0) dX10_strokeOf_9 rfl rfl ?_
  refine g_bipush (p0 := 12) (v := nI 6) dX10_strokeOf_10 (by decide) rfl ?_
  refine g_cS3R (p0 := 15) (r1 := mX10_in) dX10_strokeOf_12 (Or.inl lX10_65) vX10_in (FITi rfl rfl) (Nat.le_of_ble_eq_true rfl) (in_T (by decide) (by decide)) rfl ?_
  first | ((with_reducible refine isN1 ?_); refine g_ifN_ne (tgt := 21) (p1 := 18) dX10_strokeOf_15 rfl (by omega) rfl (fun c_15 => ?_) (fun c_15 => by exfalso; first | omega | contradiction | exact absurd (by assumption) c_15 | (simp_all; done))) | refine g_if_ne (tgt := 21) (p1 := 18) dX10_strokeOf_15 rfl rfl (fun c_15 => ?_) (fun c_15 => by exfalso; first | omega | contradiction | exact absurd (by assumption) c_15 | (simp_all; done))
  refine g_aload_n (p0 := 22) (i := 0) dX10_strokeOf_21 rfl rfl rfl ?_
  refine g_cV0P (p0 := 25) (r1 := mX10_lays) dX10_strokeOf_22 lX10_151 vX10_lays (by first | rfl | assumption | exact RW.s (by assumption) | exact TW.s (by assumption)) ⟨_, _, rfl⟩ (FITi rfl rfl) (Nat.le_of_ble_eq_true rfl) (lays_sp hs hs1) rfl ?_
  rintro σ1 ⟨hRD, hf⟩
  have e80 := hf.1 80 (by decide) (by decide)
  obtain ⟨g0, g1, g2, g3⟩ := hRD.1.2.2 p hp
  obtain ⟨m1, m2, m3⟩ := g3 h0
  have kl := kaF_le (tm (σ 80)) (σ 80 0) p
  refine g_iload_n (p0 := 26) (i := 2) dX10_strokeOf_25 rfl rfl rfl ?_
  first | ((with_reducible refine isN1 ?_); refine g_ifN_ne (tgt := 39) (p1 := 29) dX10_strokeOf_26 rfl (by omega) rfl (fun c_26 => ?_) (fun c_26 => by exfalso; first | omega | contradiction | exact absurd (by assumption) c_26 | (simp_all; done))) | refine g_if_ne (tgt := 39) (p1 := 29) dX10_strokeOf_26 rfl rfl (fun c_26 => ?_) (fun c_26 => by exfalso; first | omega | contradiction | exact absurd (by assumption) c_26 | (simp_all; done))
  refine g_iload_n (p0 := 40) (i := 2) dX10_strokeOf_39 rfl rfl rfl ?_
  refine g_iconst (p0 := 41) (v := nI 4) dX10_strokeOf_40 rfl rfl ?_
  first | ((with_reducible refine isN2 ?_); refine g_icmpN_ge (tgt := 95) (p1 := 44) dX10_strokeOf_41 rfl (by omega) (by omega) rfl (fun c_41 => ?_) (fun c_41 => by exfalso; first | omega | contradiction | exact absurd (by assumption) c_41 | (simp_all; done))) | refine g_icmp_ge (tgt := 95) (p1 := 44) dX10_strokeOf_41 rfl rfl (fun c_41 => ?_) (fun c_41 => by exfalso; first | omega | contradiction | exact absurd (by assumption) c_41 | (simp_all; done))
  refine g_aload_n (p0 := 96) (i := 0) dX10_strokeOf_95 rfl rfl rfl ?_
  refine g_getR (p0 := 99) dX10_strokeOf_96 fX10_25 (by first | rfl | assumption | exact RW.s (by assumption) | exact TW.s (by assumption)) rfl rfl ?_
  refine g_iload_n (p0 := 100) (i := 1) dX10_strokeOf_99 rfl rfl rfl ?_
  first | ((with_reducible refine isN1 ?_); refine g_aldN (p0 := 101) dX10_strokeOf_100 (by first | rfl | assumption | exact RW.s (by assumption) | exact TW.s (by assumption)) (by first | decide | assumption) (by omega) (by first | assumption | ((repeat (first | exact up_hit | refine up_nv (by decide) ?_ | refine up_mv (by first | decide | omega) ?_)) <;> first | assumption | rfl)) rfl ?_) | refine g_ald (p0 := 101) dX10_strokeOf_100 (by first | rfl | assumption | exact RW.s (by assumption) | exact TW.s (by assumption)) (by assumption) (by first | assumption | ((repeat (first | exact up_hit | refine up_nv (by decide) ?_ | refine up_mv (by first | decide | omega) ?_)) <;> first | assumption | rfl)) rfl ?_
  first | ((with_reducible refine isN1 ?_); refine g_ifN_ne (tgt := 109) (p1 := 104) dX10_strokeOf_101 rfl (by omega) rfl (fun c_101 => ?_) (fun c_101 => by exfalso; first | omega | contradiction | exact absurd (by assumption) c_101 | (simp_all; done))) | refine g_if_ne (tgt := 109) (p1 := 104) dX10_strokeOf_101 rfl rfl (fun c_101 => ?_) (fun c_101 => by exfalso; first | omega | contradiction | exact absurd (by assumption) c_101 | (simp_all; done))
  refine g_iload_n (p0 := 110) (i := 2) dX10_strokeOf_109 rfl rfl rfl ?_
  refine g_iconst (p0 := 111) (v := nI 4) dX10_strokeOf_110 rfl rfl ?_
  first | ((with_reducible refine isN2 ?_); refine g_icmpN_ne (tgt := 123) (p1 := 114) dX10_strokeOf_111 rfl (by omega) (by omega) rfl (fun c_111 => ?_) (fun c_111 => by exfalso; first | omega | contradiction | exact absurd (by assumption) c_111 | (simp_all; done))) | refine g_icmp_ne (tgt := 123) (p1 := 114) dX10_strokeOf_111 rfl rfl (fun c_111 => ?_) (fun c_111 => by exfalso; first | omega | contradiction | exact absurd (by assumption) c_111 | (simp_all; done))
  refine g_iload_n (p0 := 124) (i := 2) dX10_strokeOf_123 rfl rfl rfl ?_
  refine g_iconst (p0 := 125) (v := nI 5) dX10_strokeOf_124 rfl rfl ?_
  first | ((with_reducible refine isN2 ?_); refine g_icmpN_ne (tgt := 137) (p1 := 128) dX10_strokeOf_125 rfl (by omega) (by omega) rfl (fun c_125 => ?_) (fun c_125 => by exfalso; first | omega | contradiction | exact absurd (by assumption) c_125 | (simp_all; done))) | refine g_icmp_ne (tgt := 137) (p1 := 128) dX10_strokeOf_125 rfl rfl (fun c_125 => ?_) (fun c_125 => by exfalso; first | omega | contradiction | exact absurd (by assumption) c_125 | (simp_all; done))
  refine g_aload_n (p0 := 138) (i := 0) dX10_strokeOf_137 rfl rfl rfl ?_
  refine g_getR (p0 := 141) dX10_strokeOf_138 fX10_34 (by first | rfl | assumption | exact RW.s (by assumption) | exact TW.s (by assumption)) rfl rfl ?_
  refine g_iload_n (p0 := 142) (i := 1) dX10_strokeOf_141 rfl rfl rfl ?_
  first | ((with_reducible refine isN1 ?_); refine g_aldN (p0 := 143) dX10_strokeOf_142 (by first | rfl | assumption | exact RW.s (by assumption) | exact TW.s (by assumption)) (by first | decide | assumption) (by omega) (by first | assumption | ((repeat (first | exact up_hit | refine up_nv (by decide) ?_ | refine up_mv (by first | decide | omega) ?_)) <;> first | assumption | rfl)) rfl ?_) | refine g_ald (p0 := 143) dX10_strokeOf_142 (by first | rfl | assumption | exact RW.s (by assumption) | exact TW.s (by assumption)) (by assumption) (by first | assumption | ((repeat (first | exact up_hit | refine up_nv (by decide) ?_ | refine up_mv (by first | decide | omega) ?_)) <;> first | assumption | rfl)) rfl ?_
  refine g_ireturn dX10_strokeOf_143 rfl rfl (?_)
  exact ⟨rfl, hf⟩
theorem place_eq (c : Nat → Nat) (hc5 : ∀ k, c k ≤ 5) (k : Nat) (h : 1 ≤ Mc c k) : ln c k (Mc c k - 1) - 1 = Lc c k - 1 - fl c k (Mc c k - 1) := by
  have h1 := flln c hc5 k (Mc c k - 1) (by omega)
  rw [if_neg (by omega)] at h1
  omega
theorem op_strokeOf (x0 x1 : Int32) : OpOK Inv mX9_strokeOf mX10_strokeOf [ai x0, ai x1] := by
  intro σ hI
  obtain ⟨s, n, H, len, hR, hRep, hHC, hHR, hRD, hT⟩ := id hI
  have hs1 := hR.2.1
  have c2 := hRep.1
  have r3 := hR.1
  rcases stroke_c hR hRep x0 with ⟨p, hp, rfl⟩ | ⟨h1, h2⟩
  · have va : σ 3 p = σ 80 (29 + p) := hRep.2.2.2.2.2 p hp
    obtain ⟨g1, g2, g3, g4, g5, g6⟩ := hRD.2.2.2.1 p hp
    have kl := kaF_le (tm (σ 80)) (σ 80 0) p
    have pM := Mc_pos (kaF_0 (tm (σ 80)) (σ 80 0)) p
    rw [place_eq _ (kaF_le _ _) (p + 1) pM] at g5
    rcases i32c x1 with h | ⟨j, hj, rfl⟩
    · exact op_same hI (sO_cb c2 hs1 hp h) (sO_rb r3 hs1 hp h)
    · by_cases h6 : 6 < j
      · exact op_same hI (sO_cc c2 hs1 hp h6 hj) (sO_rc r3 hs1 hp h6 hj)
      · have hj7 : j = 0 ∨ j = 1 ∨ j = 2 ∨ j = 3 ∨ j = 4 ∨ j = 5 ∨ j = 6 := by omega
        by_cases hp0 : p = 0
        · by_cases hk : (kaF (tm (σ 80)) (σ 80 0)) p = 0
          · rw [hp0] at hk
            exact absurd ((kaF_0 _ _).symm.trans hk) (by decide)
          · rcases hj7 with rfl | rfl | rfl | rfl | rfl | rfl | rfl
            · exact op_read hI (sO_c0 c2 hs1 hp va) (sO_r0 r3 hs1 hp rfl)
            · exact op_read hI (sO_c1z c2 hs1 hp hp0) (sO_r1z r3 hs1 hp hp0)
            · exact op_read hI (sO_c2z c2 hs1 hp hp0) (sO_r2z r3 hs1 hp hp0)
            · exact op_read hI (sO_c3z c2 hs1 hp hp0) (sO_r3z r3 hs1 hp hp0)
            · exact op_read hI (sO_c4 c2 hs1 hp g2 (by omega) kl g4) (sO_r4 r3 hs1 hp hk)
            · exact op_read hI (sO_c5 c2 hs1 hp g2 (by omega) kl g5) (sO_r5 r3 hs1 hp hk)
            · exact op_read hI (sO_c6 c2 hs1 hp g2 (by omega) kl g6) (sO_r6 r3 hs1 hp hk)
        · have g3' : σ 65 p = nI (dbt (σ 80 0) (σ 80 1) (gpF (tm (σ 80)) (σ 80 0) p)) := by rw [g3, dbF, if_neg hp0]
          have hdt : dbt (σ 80 0) (σ 80 1) (gpF (tm (σ 80)) (σ 80 0) p) = 0 ∨ dbt (σ 80 0) (σ 80 1) (gpF (tm (σ 80)) (σ 80 0) p) = 1 := by
            rw [dbt]
            split
            · exact Or.inl rfl
            · exact Or.inr rfl
          by_cases hk : (kaF (tm (σ 80)) (σ 80 0)) p = 0
          · rw [hk] at g2
            rcases hj7 with rfl | rfl | rfl | rfl | rfl | rfl | rfl
            · exact op_read hI (sO_c0 c2 hs1 hp va) (sO_r0 r3 hs1 hp rfl)
            · exact op_read hI (sO_c1 c2 hs1 hp hp0 (g1 (by omega))) (sO_r1 r3 hs1 hp hp0)
            · exact op_read hI (sO_c2 c2 hs1 hp hp0 (g2.trans (by rw [hk]))) (sO_r2 r3 hs1 hp hp0)
            · rcases hdt with hd | hd
              · rw [hd] at g3'
                exact op_read hI (sO_c3 c2 hs1 hp hp0 g3') (sO_r3_0 r3 hs1 hp hp0 hd)
              · rw [hd] at g3'
                exact op_read hI (sO_c3 c2 hs1 hp hp0 g3') (sO_r3_1 r3 hs1 hp hp0 hd)
            · exact op_read hI (sO_c4z c2 hs1 hp g2) (sO_r4z r3 hs1 hp hk)
            · exact op_read hI (sO_c5z c2 hs1 hp g2) (sO_r5z r3 hs1 hp hk)
            · exact op_read hI (sO_c6z c2 hs1 hp g2) (sO_r6z r3 hs1 hp hk)
          · rcases hj7 with rfl | rfl | rfl | rfl | rfl | rfl | rfl
            · exact op_read hI (sO_c0 c2 hs1 hp va) (sO_r0 r3 hs1 hp rfl)
            · exact op_read hI (sO_c1 c2 hs1 hp hp0 (g1 (by omega))) (sO_r1 r3 hs1 hp hp0)
            · exact op_read hI (sO_c2 c2 hs1 hp hp0 g2) (sO_r2 r3 hs1 hp hp0)
            · rcases hdt with hd | hd
              · rw [hd] at g3'
                exact op_read hI (sO_c3 c2 hs1 hp hp0 g3') (sO_r3_0 r3 hs1 hp hp0 hd)
              · rw [hd] at g3'
                exact op_read hI (sO_c3 c2 hs1 hp hp0 g3') (sO_r3_1 r3 hs1 hp hp0 hd)
            · exact op_read hI (sO_c4 c2 hs1 hp g2 (by omega) kl g4) (sO_r4 r3 hs1 hp hk)
            · exact op_read hI (sO_c5 c2 hs1 hp g2 (by omega) kl g5) (sO_r5 r3 hs1 hp hk)
            · exact op_read hI (sO_c6 c2 hs1 hp g2 (by omega) kl g6) (sO_r6 r3 hs1 hp hk)
  · exact op_same hI (sO_ca h1) (sO_ra h2)
