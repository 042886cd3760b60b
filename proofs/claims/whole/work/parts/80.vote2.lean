/-! QUESTIONS: vote -/
theorem FC.trans {σ σ1 σ2 : Sg} (h : FC σ σ1) (h2 : FC σ1 σ2) : FC σ σ2 := fun z hz => (h2 z hz).trans (h z hz)
theorem nI_ne_m1b {n : Nat} (h : n < 2147483648) : nI n ≠ -1 := by
  intro e
  have e2 := congrArg Int32.toInt e
  rw [nI_toInt (by omega)] at e2
  have e3 : (-1 : Int32).toInt = -1 := by decide
  omega
theorem m1_le {j : Nat} (h : j < 2147483648) : (-1 : Int32) ≤ nI j := by
  rw [Int32.le_iff_toInt_le, nI_toInt (by omega)]
  have e3 : (-1 : Int32).toInt = -1 := by decide
  omega
theorem poll_r2 {σ0 σ : Sg} {s M L : Nat} {c fs f n p d g a b : Nat → Nat} {j : Nat} (h : FC σ0 σ) (hC : CLS σ0 s M L c fs f n p d g a b) (hr : ∀ l, l < L → σ0 42 l = -1 ∨ ∃ x, x < 25 ∧ σ0 42 l = nI x) (hj : j < 2147483648) : CM mX0_poll [ar 73, ar 33, ai (nI j)] σ (RelV (fun σ1 => FC σ0 σ1 ∧ σ1 73 1 = wv (-1) (fun k => vc (σ0 42) f n j k M) 25 ∧ σ1 73 2 = nI (moF (fun k => vc (σ0 42) f n j k M) 25) ∧ σ1 73 3 = nI (duF (fun k => vc (σ0 42) f n j k M) 25))) := by
  have e42 := h 42 (by decide)
  have h1 := poll_r (hC.of (fun z hz => h z (by omega))) (by rw [e42]; exact hr) hj
  rw [e42] at h1
  refine CM.mono h1 ?_
  rintro w σ1 ⟨rfl, h2, h3⟩
  exact ⟨rfl, h.trans (fun z hz => h2 z (by omega) (by omega)), h3⟩
theorem voted_r2 {σ : Sg} {s M L : Nat} {c fs f n p d g a b : Nat → Nat} {v lc : Nat → Int32} {j : Nat} (hP : REF σ s M L c fs f n p d g a b v lc) (hj : j < 2147483648) : CM mX10_voted [ar 79, ai (nI j)] σ (RelI (fun u σ1 => u = wv (-1000004) (fun k => vc v f n j k M) 25 ∧ FQ σ σ1 ∧ σ1 79 21 = nI (moF (fun k => vc v f n j k M) 25) ∧ σ1 79 22 = nI (duF (fun k => vc v f n j k M) 25))) := by
  refine CM.mono (voted_r hP hj) ?_
  rintro w σ1 ⟨u, rfl, rfl, h1, h2, h3, h4⟩
  exact ⟨_, rfl, rfl, ⟨fun z h79 _ => h1 z h79, h2 3 (by decide) (by decide), h2 5 (by decide) (by decide)⟩, h3, h4⟩
set_option maxRecDepth 20000 in
set_option maxHeartbeats 2000000 in
theorem vt_cn {x y : Int32} {σ : Sg} (h : x < 0) : CM mX9_vote [ar 0, ai x, ai y] σ (Ret (-1000001) σ) := by
  refine CM_in (ls := [some (ar 0), some (ai x), some (ai y)]) rfl ?_
  refine g_iload_n (p0 := 1) (i := 1) dX9_vote_0 rfl rfl rfl ?_
  first | ((with_reducible refine isN1 ?_); refine g_ifN_lt (tgt := 13) (p1 := 4) dX9_vote_1 rfl (by omega) rfl (fun c_1 => ?_) (fun c_1 => by exfalso; first | omega | contradiction | exact absurd h c_1 | exact h c_1 | exact c_1 h | exact c_1 (by decide) | exact nI_ne_m1b (by omega) c_1 | exact c_1 rfl)) | refine g_if_lt (tgt := 13) (p1 := 4) dX9_vote_1 rfl rfl (fun c_1 => ?_) (fun c_1 => by exfalso; first | omega | contradiction | exact absurd h c_1 | exact h c_1 | exact c_1 h | exact c_1 (by decide) | exact nI_ne_m1b (by omega) c_1 | exact c_1 rfl)
  refine g_ldc (p0 := 15) dX9_vote_13 qX9_68 rfl ?_
  refine g_ireturn dX9_vote_15 rfl rfl (?_)
  exact ⟨rfl, rfl⟩
set_option maxRecDepth 20000 in
set_option maxHeartbeats 2000000 in
theorem vt_cw {j : Nat} {y : Int32} {σ : Sg} (hj : j < 2147483648) (h : y < 0) : CM mX9_vote [ar 0, ai (nI j), ai y] σ (Ret (-1000001) σ) := by
  refine CM_in (ls := [some (ar 0), some (ai (nI j)), some (ai y)]) rfl ?_
  refine g_iload_n (p0 := 1) (i := 1) dX9_vote_0 rfl rfl rfl ?_
  first | ((with_reducible refine isN1 ?_); refine g_ifN_lt (tgt := 13) (p1 := 4) dX9_vote_1 rfl (by omega) rfl (fun c_1 => by exfalso; first | omega | contradiction | exact absurd h c_1 | exact h c_1 | exact c_1 h | exact c_1 (by decide) | exact nI_ne_m1b (by omega) c_1 | exact c_1 rfl) (fun c_1 => ?_)) | refine g_if_lt (tgt := 13) (p1 := 4) dX9_vote_1 rfl rfl (fun c_1 => by exfalso; first | omega | contradiction | exact absurd h c_1 | exact h c_1 | exact c_1 h | exact c_1 (by decide) | exact nI_ne_m1b (by omega) c_1 | exact c_1 rfl) (fun c_1 => ?_)
  refine g_iload_n (p0 := 5) (i := 2) dX9_vote_4 rfl rfl rfl ?_
  first | ((with_reducible refine isN1 ?_); refine g_ifN_lt (tgt := 13) (p1 := 8) dX9_vote_5 rfl (by omega) rfl (fun c_5 => ?_) (fun c_5 => by exfalso; first | omega | contradiction | exact absurd h c_5 | exact h c_5 | exact c_5 h | exact c_5 (by decide) | exact nI_ne_m1b (by omega) c_5 | exact c_5 rfl)) | refine g_if_lt (tgt := 13) (p1 := 8) dX9_vote_5 rfl rfl (fun c_5 => ?_) (fun c_5 => by exfalso; first | omega | contradiction | exact absurd h c_5 | exact h c_5 | exact c_5 h | exact c_5 (by decide) | exact nI_ne_m1b (by omega) c_5 | exact c_5 rfl)
  refine g_ldc (p0 := 15) dX9_vote_13 qX9_68 rfl ?_
  refine g_ireturn dX9_vote_15 rfl rfl (?_)
  exact ⟨rfl, rfl⟩
set_option maxRecDepth 20000 in
set_option maxHeartbeats 2000000 in
theorem vt_cx {j k : Nat} {σ : Sg} (hj : j < 2147483648) (hk : k < 2147483648) (h : 2 < k) : CM mX9_vote [ar 0, ai (nI j), ai (nI k)] σ (Ret (-1000001) σ) := by
  refine CM_in (ls := [some (ar 0), some (ai (nI j)), some (ai (nI k))]) rfl ?_
  refine g_iload_n (p0 := 1) (i := 1) dX9_vote_0 rfl rfl rfl ?_
  first | ((with_reducible refine isN1 ?_); refine g_ifN_lt (tgt := 13) (p1 := 4) dX9_vote_1 rfl (by omega) rfl (fun c_1 => by exfalso; first | omega | contradiction | exact absurd (by assumption) c_1 | (simp_all; done)) (fun c_1 => ?_)) | refine g_if_lt (tgt := 13) (p1 := 4) dX9_vote_1 rfl rfl (fun c_1 => by exfalso; first | omega | contradiction | exact absurd (by assumption) c_1 | (simp_all; done)) (fun c_1 => ?_)
  refine g_iload_n (p0 := 5) (i := 2) dX9_vote_4 rfl rfl rfl ?_
  first | ((with_reducible refine isN1 ?_); refine g_ifN_lt (tgt := 13) (p1 := 8) dX9_vote_5 rfl (by omega) rfl (fun c_5 => by exfalso; first | omega | contradiction | exact absurd (by assumption) c_5 | (simp_all; done)) (fun c_5 => ?_)) | refine g_if_lt (tgt := 13) (p1 := 8) dX9_vote_5 rfl rfl (fun c_5 => by exfalso; first | omega | contradiction | exact absurd (by assumption) c_5 | (simp_all; done)) (fun c_5 => ?_)
  refine g_iload_n (p0 := 9) (i := 2) dX9_vote_8 rfl rfl rfl ?_
  refine g_iconst (p0 := 10) (v := nI 2) dX9_vote_9 rfl rfl ?_
  first | ((with_reducible refine isN2 ?_); refine g_icmpN_le (tgt := 16) (p1 := 13) dX9_vote_10 rfl (by omega) (by omega) rfl (fun c_10 => by exfalso; first | omega | contradiction | exact absurd (by assumption) c_10 | (simp_all; done)) (fun c_10 => ?_)) | refine g_icmp_le (tgt := 16) (p1 := 13) dX9_vote_10 rfl rfl (fun c_10 => by exfalso; first | omega | contradiction | exact absurd (by assumption) c_10 | (simp_all; done)) (fun c_10 => ?_)
  refine g_ldc (p0 := 15) dX9_vote_13 qX9_68 rfl ?_
  refine g_ireturn dX9_vote_15 rfl rfl (?_)
  exact ⟨rfl, rfl⟩
set_option maxRecDepth 20000 in
set_option maxHeartbeats 2000000 in
theorem vt_c0z {j : Nat} {σ : Sg} (hj : j < 2147483648) (h : CM mX0_poll [ar 73, ar 33, ai (nI j)] σ (RelV (fun σ1 => FC σ σ1 ∧ σ1 73 1 = (-1)))) : CM mX9_vote [ar 0, ai (nI j), ai (nI 0)] σ (CPQ σ (-1000004)) := by
  refine CM_in (ls := [some (ar 0), some (ai (nI j)), some (ai (nI 0))]) rfl ?_
  refine g_iload_n (p0 := 1) (i := 1) dX9_vote_0 rfl rfl rfl ?_
  first | ((with_reducible refine isN1 ?_); refine g_ifN_lt (tgt := 13) (p1 := 4) dX9_vote_1 rfl (by omega) rfl (fun c_1 => by exfalso; first | omega | contradiction | exact absurd h c_1 | exact h c_1 | exact c_1 h | exact c_1 (by decide) | exact nI_ne_m1b (by omega) c_1 | exact c_1 rfl) (fun c_1 => ?_)) | refine g_if_lt (tgt := 13) (p1 := 4) dX9_vote_1 rfl rfl (fun c_1 => by exfalso; first | omega | contradiction | exact absurd h c_1 | exact h c_1 | exact c_1 h | exact c_1 (by decide) | exact nI_ne_m1b (by omega) c_1 | exact c_1 rfl) (fun c_1 => ?_)
  refine g_iload_n (p0 := 5) (i := 2) dX9_vote_4 rfl rfl rfl ?_
  first | ((with_reducible refine isN1 ?_); refine g_ifN_lt (tgt := 13) (p1 := 8) dX9_vote_5 rfl (by omega) rfl (fun c_5 => by exfalso; first | omega | contradiction | exact absurd h c_5 | exact h c_5 | exact c_5 h | exact c_5 (by decide) | exact nI_ne_m1b (by omega) c_5 | exact c_5 rfl) (fun c_5 => ?_)) | refine g_if_lt (tgt := 13) (p1 := 8) dX9_vote_5 rfl rfl (fun c_5 => by exfalso; first | omega | contradiction | exact absurd h c_5 | exact h c_5 | exact c_5 h | exact c_5 (by decide) | exact nI_ne_m1b (by omega) c_5 | exact c_5 rfl) (fun c_5 => ?_)
  refine g_iload_n (p0 := 9) (i := 2) dX9_vote_8 rfl rfl rfl ?_
  refine g_iconst (p0 := 10) (v := nI 2) dX9_vote_9 rfl rfl ?_
  first | ((with_reducible refine isN2 ?_); refine g_icmpN_le (tgt := 16) (p1 := 13) dX9_vote_10 rfl (by omega) (by omega) rfl (fun c_10 => ?_) (fun c_10 => by exfalso; first | omega | contradiction | exact absurd h c_10 | exact h c_10 | exact c_10 h | exact c_10 (by decide) | exact nI_ne_m1b (by omega) c_10 | exact c_10 rfl)) | refine g_icmp_le (tgt := 16) (p1 := 13) dX9_vote_10 rfl rfl (fun c_10 => ?_) (fun c_10 => by exfalso; first | omega | contradiction | exact absurd h c_10 | exact h c_10 | exact c_10 h | exact c_10 (by decide) | exact nI_ne_m1b (by omega) c_10 | exact c_10 rfl)
  refine g_aload_n (p0 := 17) (i := 0) dX9_vote_16 rfl rfl rfl ?_
  refine g_getR (p0 := 20) dX9_vote_17 fX9_43 (by first | rfl | assumption | exact RW.s (by assumption) | exact TW.s (by assumption)) rfl rfl ?_
  refine g_aload_n (p0 := 21) (i := 0) dX9_vote_20 rfl rfl rfl ?_
  refine g_getR (p0 := 24) dX9_vote_21 fX9_29 (by first | rfl | assumption | exact RW.s (by assumption) | exact TW.s (by assumption)) rfl rfl ?_
  refine g_iload_n (p0 := 25) (i := 1) dX9_vote_24 rfl rfl rfl ?_
  refine g_cV2P (p0 := 28) (r1 := mX0_poll) dX9_vote_25 lX9_207 vX0_poll (by first | rfl | assumption | exact RW.s (by assumption) | exact TW.s (by assumption)) ⟨_, _, rfl⟩ (FITi rfl rfl) (Nat.le_of_ble_eq_true rfl) (h) rfl ?_
  rintro σ1 ⟨hfc, hw⟩
  refine g_aload_n (p0 := 29) (i := 0) dX9_vote_28 rfl rfl rfl ?_
  refine g_getR (p0 := 32) dX9_vote_29 fX9_43 (by first | rfl | assumption | exact RW.s (by assumption) | exact TW.s (by assumption)) rfl rfl ?_
  refine g_getI (p0 := 35) dX9_vote_32 fX9_211 (by first | rfl | assumption | exact RW.s (by assumption) | exact TW.s (by assumption)) rfl (by first | assumption | ((repeat (first | exact up_hit | refine up_nv (by decide) ?_ | refine up_mv (by first | decide | omega) ?_)) <;> first | assumption | rfl)) rfl ?_
  refine g_iconst (p0 := 36) (v := -1) dX9_vote_35 rfl rfl ?_
  first | ((with_reducible refine isN2 ?_); refine g_icmpN_ne (tgt := 42) (p1 := 39) dX9_vote_36 rfl (by omega) (by omega) rfl (fun c_36 => by exfalso; first | omega | contradiction | exact absurd h c_36 | exact h c_36 | exact c_36 h | exact c_36 (by decide) | exact nI_ne_m1b (by omega) c_36 | exact c_36 rfl) (fun c_36 => ?_)) | refine g_icmp_ne (tgt := 42) (p1 := 39) dX9_vote_36 rfl rfl (fun c_36 => by exfalso; first | omega | contradiction | exact absurd h c_36 | exact h c_36 | exact c_36 h | exact c_36 (by decide) | exact nI_ne_m1b (by omega) c_36 | exact c_36 rfl) (fun c_36 => ?_)
  refine g_ldc (p0 := 41) dX9_vote_39 qX9_122 rfl ?_
  refine g_ireturn dX9_vote_41 rfl rfl (?_)
  exact ⟨rfl, hfc⟩
set_option maxRecDepth 20000 in
set_option maxHeartbeats 2000000 in
theorem vt_c0 {j y : Nat} {v : Int32} {σ : Sg} (hj : j < 2147483648) (hy : y < 25) (h : CM mX0_poll [ar 73, ar 33, ai (nI j)] σ (RelV (fun σ1 => FC σ σ1 ∧ σ1 73 1 = nI y ∧ σ1 73 2 = v))) : CM mX9_vote [ar 0, ai (nI j), ai (nI 0)] σ (CPQ σ (nI y)) := by
  refine CM_in (ls := [some (ar 0), some (ai (nI j)), some (ai (nI 0))]) rfl ?_
  refine g_iload_n (p0 := 1) (i := 1) dX9_vote_0 rfl rfl rfl ?_
  first | ((with_reducible refine isN1 ?_); refine g_ifN_lt (tgt := 13) (p1 := 4) dX9_vote_1 rfl (by omega) rfl (fun c_1 => by exfalso; first | omega | contradiction | exact absurd h c_1 | exact h c_1 | exact c_1 h | exact c_1 (by decide) | exact nI_ne_m1b (by omega) c_1 | exact c_1 rfl) (fun c_1 => ?_)) | refine g_if_lt (tgt := 13) (p1 := 4) dX9_vote_1 rfl rfl (fun c_1 => by exfalso; first | omega | contradiction | exact absurd h c_1 | exact h c_1 | exact c_1 h | exact c_1 (by decide) | exact nI_ne_m1b (by omega) c_1 | exact c_1 rfl) (fun c_1 => ?_)
  refine g_iload_n (p0 := 5) (i := 2) dX9_vote_4 rfl rfl rfl ?_
  first | ((with_reducible refine isN1 ?_); refine g_ifN_lt (tgt := 13) (p1 := 8) dX9_vote_5 rfl (by omega) rfl (fun c_5 => by exfalso; first | omega | contradiction | exact absurd h c_5 | exact h c_5 | exact c_5 h | exact c_5 (by decide) | exact nI_ne_m1b (by omega) c_5 | exact c_5 rfl) (fun c_5 => ?_)) | refine g_if_lt (tgt := 13) (p1 := 8) dX9_vote_5 rfl rfl (fun c_5 => by exfalso; first | omega | contradiction | exact absurd h c_5 | exact h c_5 | exact c_5 h | exact c_5 (by decide) | exact nI_ne_m1b (by omega) c_5 | exact c_5 rfl) (fun c_5 => ?_)
  refine g_iload_n (p0 := 9) (i := 2) dX9_vote_8 rfl rfl rfl ?_
  refine g_iconst (p0 := 10) (v := nI 2) dX9_vote_9 rfl rfl ?_
  first | ((with_reducible refine isN2 ?_); refine g_icmpN_le (tgt := 16) (p1 := 13) dX9_vote_10 rfl (by omega) (by omega) rfl (fun c_10 => ?_) (fun c_10 => by exfalso; first | omega | contradiction | exact absurd h c_10 | exact h c_10 | exact c_10 h | exact c_10 (by decide) | exact nI_ne_m1b (by omega) c_10 | exact c_10 rfl)) | refine g_icmp_le (tgt := 16) (p1 := 13) dX9_vote_10 rfl rfl (fun c_10 => ?_) (fun c_10 => by exfalso; first | omega | contradiction | exact absurd h c_10 | exact h c_10 | exact c_10 h | exact c_10 (by decide) | exact nI_ne_m1b (by omega) c_10 | exact c_10 rfl)
  refine g_aload_n (p0 := 17) (i := 0) dX9_vote_16 rfl rfl rfl ?_
  refine g_getR (p0 := 20) dX9_vote_17 fX9_43 (by first | rfl | assumption | exact RW.s (by assumption) | exact TW.s (by assumption)) rfl rfl ?_
  refine g_aload_n (p0 := 21) (i := 0) dX9_vote_20 rfl rfl rfl ?_
  refine g_getR (p0 := 24) dX9_vote_21 fX9_29 (by first | rfl | assumption | exact RW.s (by assumption) | exact TW.s (by assumption)) rfl rfl ?_
  refine g_iload_n (p0 := 25) (i := 1) dX9_vote_24 rfl rfl rfl ?_
  refine g_cV2P (p0 := 28) (r1 := mX0_poll) dX9_vote_25 lX9_207 vX0_poll (by first | rfl | assumption | exact RW.s (by assumption) | exact TW.s (by assumption)) ⟨_, _, rfl⟩ (FITi rfl rfl) (Nat.le_of_ble_eq_true rfl) (h) rfl ?_
  rintro σ1 ⟨hfc, hw, hv⟩
  refine g_aload_n (p0 := 29) (i := 0) dX9_vote_28 rfl rfl rfl ?_
  refine g_getR (p0 := 32) dX9_vote_29 fX9_43 (by first | rfl | assumption | exact RW.s (by assumption) | exact TW.s (by assumption)) rfl rfl ?_
  refine g_getI (p0 := 35) dX9_vote_32 fX9_211 (by first | rfl | assumption | exact RW.s (by assumption) | exact TW.s (by assumption)) rfl (by first | assumption | ((repeat (first | exact up_hit | refine up_nv (by decide) ?_ | refine up_mv (by first | decide | omega) ?_)) <;> first | assumption | rfl)) rfl ?_
  refine g_iconst (p0 := 36) (v := -1) dX9_vote_35 rfl rfl ?_
  first | ((with_reducible refine isN2 ?_); refine g_icmpN_ne (tgt := 42) (p1 := 39) dX9_vote_36 rfl (by omega) (by omega) rfl (fun c_36 => ?_) (fun c_36 => by exfalso; first | omega | contradiction | exact absurd h c_36 | exact h c_36 | exact c_36 h | exact c_36 (by decide) | exact nI_ne_m1b (by omega) c_36 | exact c_36 rfl)) | refine g_icmp_ne (tgt := 42) (p1 := 39) dX9_vote_36 rfl rfl (fun c_36 => ?_) (fun c_36 => by exfalso; first | omega | contradiction | exact absurd h c_36 | exact h c_36 | exact c_36 h | exact c_36 (by decide) | exact nI_ne_m1b (by omega) c_36 | exact c_36 rfl)
  refine g_iload_n (p0 := 43) (i := 2) dX9_vote_42 rfl rfl rfl ?_
  refine g_look (tgt := 68) (off := 25) dX9_vote_43 (by decide +kernel) (by decide +kernel) rfl ?_
  refine g_aload_n (p0 := 69) (i := 0) dX9_vote_68 rfl rfl rfl ?_
  refine g_getR (p0 := 72) dX9_vote_69 fX9_43 (by first | rfl | assumption | exact RW.s (by assumption) | exact TW.s (by assumption)) rfl rfl ?_
  refine g_getI (p0 := 75) dX9_vote_72 fX9_211 (by first | rfl | assumption | exact RW.s (by assumption) | exact TW.s (by assumption)) rfl (by first | assumption | ((repeat (first | exact up_hit | refine up_nv (by decide) ?_ | refine up_mv (by first | decide | omega) ?_)) <;> first | assumption | rfl)) rfl ?_
  refine g_ireturn dX9_vote_75 rfl rfl (?_)
  exact ⟨rfl, hfc⟩
set_option maxRecDepth 20000 in
set_option maxHeartbeats 2000000 in
theorem vt_c1z {j : Nat} {σ : Sg} (hj : j < 2147483648) (h : CM mX0_poll [ar 73, ar 33, ai (nI j)] σ (RelV (fun σ1 => FC σ σ1 ∧ σ1 73 1 = (-1)))) : CM mX9_vote [ar 0, ai (nI j), ai (nI 1)] σ (CPQ σ (-1000004)) := by
  refine CM_in (ls := [some (ar 0), some (ai (nI j)), some (ai (nI 1))]) rfl ?_
  refine g_iload_n (p0 := 1) (i := 1) dX9_vote_0 rfl rfl rfl ?_
  first | ((with_reducible refine isN1 ?_); refine g_ifN_lt (tgt := 13) (p1 := 4) dX9_vote_1 rfl (by omega) rfl (fun c_1 => by exfalso; first | omega | contradiction | exact absurd h c_1 | exact h c_1 | exact c_1 h | exact c_1 (by decide) | exact nI_ne_m1b (by omega) c_1 | exact c_1 rfl) (fun c_1 => ?_)) | refine g_if_lt (tgt := 13) (p1 := 4) dX9_vote_1 rfl rfl (fun c_1 => by exfalso; first | omega | contradiction | exact absurd h c_1 | exact h c_1 | exact c_1 h | exact c_1 (by decide) | exact nI_ne_m1b (by omega) c_1 | exact c_1 rfl) (fun c_1 => ?_)
  refine g_iload_n (p0 := 5) (i := 2) dX9_vote_4 rfl rfl rfl ?_
  first | ((with_reducible refine isN1 ?_); refine g_ifN_lt (tgt := 13) (p1 := 8) dX9_vote_5 rfl (by omega) rfl (fun c_5 => by exfalso; first | omega | contradiction | exact absurd h c_5 | exact h c_5 | exact c_5 h | exact c_5 (by decide) | exact nI_ne_m1b (by omega) c_5 | exact c_5 rfl) (fun c_5 => ?_)) | refine g_if_lt (tgt := 13) (p1 := 8) dX9_vote_5 rfl rfl (fun c_5 => by exfalso; first | omega | contradiction | exact absurd h c_5 | exact h c_5 | exact c_5 h | exact c_5 (by decide) | exact nI_ne_m1b (by omega) c_5 | exact c_5 rfl) (fun c_5 => ?_)
  refine g_iload_n (p0 := 9) (i := 2) dX9_vote_8 rfl rfl rfl ?_
  refine g_iconst (p0 := 10) (v := nI 2) dX9_vote_9 rfl rfl ?_
  first | ((with_reducible refine isN2 ?_); refine g_icmpN_le (tgt := 16) (p1 := 13) dX9_vote_10 rfl (by omega) (by omega) rfl (fun c_10 => ?_) (fun c_10 => by exfalso; first | omega | contradiction | exact absurd h c_10 | exact h c_10 | exact c_10 h | exact c_10 (by decide) | exact nI_ne_m1b (by omega) c_10 | exact c_10 rfl)) | refine g_icmp_le (tgt := 16) (p1 := 13) dX9_vote_10 rfl rfl (fun c_10 => ?_) (fun c_10 => by exfalso; first | omega | contradiction | exact absurd h c_10 | exact h c_10 | exact c_10 h | exact c_10 (by decide) | exact nI_ne_m1b (by omega) c_10 | exact c_10 rfl)
  refine g_aload_n (p0 := 17) (i := 0) dX9_vote_16 rfl rfl rfl ?_
  refine g_getR (p0 := 20) dX9_vote_17 fX9_43 (by first | rfl | assumption | exact RW.s (by assumption) | exact TW.s (by assumption)) rfl rfl ?_
  refine g_aload_n (p0 := 21) (i := 0) dX9_vote_20 rfl rfl rfl ?_
  refine g_getR (p0 := 24) dX9_vote_21 fX9_29 (by first | rfl | assumption | exact RW.s (by assumption) | exact TW.s (by assumption)) rfl rfl ?_
  refine g_iload_n (p0 := 25) (i := 1) dX9_vote_24 rfl rfl rfl ?_
  refine g_cV2P (p0 := 28) (r1 := mX0_poll) dX9_vote_25 lX9_207 vX0_poll (by first | rfl | assumption | exact RW.s (by assumption) | exact TW.s (by assumption)) ⟨_, _, rfl⟩ (FITi rfl rfl) (Nat.le_of_ble_eq_true rfl) (h) rfl ?_
  rintro σ1 ⟨hfc, hw⟩
  refine g_aload_n (p0 := 29) (i := 0) dX9_vote_28 rfl rfl rfl ?_
  refine g_getR (p0 := 32) dX9_vote_29 fX9_43 (by first | rfl | assumption | exact RW.s (by assumption) | exact TW.s (by assumption)) rfl rfl ?_
  refine g_getI (p0 := 35) dX9_vote_32 fX9_211 (by first | rfl | assumption | exact RW.s (by assumption) | exact TW.s (by assumption)) rfl (by first | assumption | ((repeat (first | exact up_hit | refine up_nv (by decide) ?_ | refine up_mv (by first | decide | omega) ?_)) <;> first | assumption | rfl)) rfl ?_
  refine g_iconst (p0 := 36) (v := -1) dX9_vote_35 rfl rfl ?_
  first | ((with_reducible refine isN2 ?_); refine g_icmpN_ne (tgt := 42) (p1 := 39) dX9_vote_36 rfl (by omega) (by omega) rfl (fun c_36 => by exfalso; first | omega | contradiction | exact absurd h c_36 | exact h c_36 | exact c_36 h | exact c_36 (by decide) | exact nI_ne_m1b (by omega) c_36 | exact c_36 rfl) (fun c_36 => ?_)) | refine g_icmp_ne (tgt := 42) (p1 := 39) dX9_vote_36 rfl rfl (fun c_36 => by exfalso; first | omega | contradiction | exact absurd h c_36 | exact h c_36 | exact c_36 h | exact c_36 (by decide) | exact nI_ne_m1b (by omega) c_36 | exact c_36 rfl) (fun c_36 => ?_)
  refine g_ldc (p0 := 41) dX9_vote_39 qX9_122 rfl ?_
  refine g_ireturn dX9_vote_41 rfl rfl (?_)
  exact ⟨rfl, hfc⟩
set_option maxRecDepth 20000 in
set_option maxHeartbeats 2000000 in
theorem vt_c1 {j y : Nat} {v : Int32} {σ : Sg} (hj : j < 2147483648) (hy : y < 25) (h : CM mX0_poll [ar 73, ar 33, ai (nI j)] σ (RelV (fun σ1 => FC σ σ1 ∧ σ1 73 1 = nI y ∧ σ1 73 2 = v))) : CM mX9_vote [ar 0, ai (nI j), ai (nI 1)] σ (CPQ σ v) := by
  refine CM_in (ls := [some (ar 0), some (ai (nI j)), some (ai (nI 1))]) rfl ?_
  refine g_iload_n (p0 := 1) (i := 1) dX9_vote_0 rfl rfl rfl ?_
  first | ((with_reducible refine isN1 ?_); refine g_ifN_lt (tgt := 13) (p1 := 4) dX9_vote_1 rfl (by omega) rfl (fun c_1 => by exfalso; first | omega | contradiction | exact absurd h c_1 | exact h c_1 | exact c_1 h | exact c_1 (by decide) | exact nI_ne_m1b (by omega) c_1 | exact c_1 rfl) (fun c_1 => ?_)) | refine g_if_lt (tgt := 13) (p1 := 4) dX9_vote_1 rfl rfl (fun c_1 => by exfalso; first | omega | contradiction | exact absurd h c_1 | exact h c_1 | exact c_1 h | exact c_1 (by decide) | exact nI_ne_m1b (by omega) c_1 | exact c_1 rfl) (fun c_1 => ?_)
  refine g_iload_n (p0 := 5) (i := 2) dX9_vote_4 rfl rfl rfl ?_
  first | ((with_reducible refine isN1 ?_); refine g_ifN_lt (tgt := 13) (p1 := 8) dX9_vote_5 rfl (by omega) rfl (fun c_5 => by exfalso; first | omega | contradiction | exact absurd h c_5 | exact h c_5 | exact c_5 h | exact c_5 (by decide) | exact nI_ne_m1b (by omega) c_5 | exact c_5 rfl) (fun c_5 => ?_)) | refine g_if_lt (tgt := 13) (p1 := 8) dX9_vote_5 rfl rfl (fun c_5 => by exfalso; first | omega | contradiction | exact absurd h c_5 | exact h c_5 | exact c_5 h | exact c_5 (by decide) | exact nI_ne_m1b (by omega) c_5 | exact c_5 rfl) (fun c_5 => ?_)
  refine g_iload_n (p0 := 9) (i := 2) dX9_vote_8 rfl rfl rfl ?_
  refine g_iconst (p0 := 10) (v := nI 2) dX9_vote_9 rfl rfl ?_
  first | ((with_reducible refine isN2 ?_); refine g_icmpN_le (tgt := 16) (p1 := 13) dX9_vote_10 rfl (by omega) (by omega) rfl (fun c_10 => ?_) (fun c_10 => by exfalso; first | omega | contradiction | exact absurd h c_10 | exact h c_10 | exact c_10 h | exact c_10 (by decide) | exact nI_ne_m1b (by omega) c_10 | exact c_10 rfl)) | refine g_icmp_le (tgt := 16) (p1 := 13) dX9_vote_10 rfl rfl (fun c_10 => ?_) (fun c_10 => by exfalso; first | omega | contradiction | exact absurd h c_10 | exact h c_10 | exact c_10 h | exact c_10 (by decide) | exact nI_ne_m1b (by omega) c_10 | exact c_10 rfl)
  refine g_aload_n (p0 := 17) (i := 0) dX9_vote_16 rfl rfl rfl ?_
  refine g_getR (p0 := 20) dX9_vote_17 fX9_43 (by first | rfl | assumption | exact RW.s (by assumption) | exact TW.s (by assumption)) rfl rfl ?_
  refine g_aload_n (p0 := 21) (i := 0) dX9_vote_20 rfl rfl rfl ?_
  refine g_getR (p0 := 24) dX9_vote_21 fX9_29 (by first | rfl | assumption | exact RW.s (by assumption) | exact TW.s (by assumption)) rfl rfl ?_
  refine g_iload_n (p0 := 25) (i := 1) dX9_vote_24 rfl rfl rfl ?_
  refine g_cV2P (p0 := 28) (r1 := mX0_poll) dX9_vote_25 lX9_207 vX0_poll (by first | rfl | assumption | exact RW.s (by assumption) | exact TW.s (by assumption)) ⟨_, _, rfl⟩ (FITi rfl rfl) (Nat.le_of_ble_eq_true rfl) (h) rfl ?_
  rintro σ1 ⟨hfc, hw, hv⟩
  refine g_aload_n (p0 := 29) (i := 0) dX9_vote_28 rfl rfl rfl ?_
  refine g_getR (p0 := 32) dX9_vote_29 fX9_43 (by first | rfl | assumption | exact RW.s (by assumption) | exact TW.s (by assumption)) rfl rfl ?_
  refine g_getI (p0 := 35) dX9_vote_32 fX9_211 (by first | rfl | assumption | exact RW.s (by assumption) | exact TW.s (by assumption)) rfl (by first | assumption | ((repeat (first | exact up_hit | refine up_nv (by decide) ?_ | refine up_mv (by first | decide | omega) ?_)) <;> first | assumption | rfl)) rfl ?_
  refine g_iconst (p0 := 36) (v := -1) dX9_vote_35 rfl rfl ?_
  first | ((with_reducible refine isN2 ?_); refine g_icmpN_ne (tgt := 42) (p1 := 39) dX9_vote_36 rfl (by omega) (by omega) rfl (fun c_36 => ?_) (fun c_36 => by exfalso; first | omega | contradiction | exact absurd h c_36 | exact h c_36 | exact c_36 h | exact c_36 (by decide) | exact nI_ne_m1b (by omega) c_36 | exact c_36 rfl)) | refine g_icmp_ne (tgt := 42) (p1 := 39) dX9_vote_36 rfl rfl (fun c_36 => ?_) (fun c_36 => by exfalso; first | omega | contradiction | exact absurd h c_36 | exact h c_36 | exact c_36 h | exact c_36 (by decide) | exact nI_ne_m1b (by omega) c_36 | exact c_36 rfl)
  refine g_iload_n (p0 := 43) (i := 2) dX9_vote_42 rfl rfl rfl ?_
  refine g_look (tgt := 76) (off := 33) dX9_vote_43 (by decide +kernel) (by decide +kernel) rfl ?_
  refine g_aload_n (p0 := 77) (i := 0) dX9_vote_76 rfl rfl rfl ?_
  refine g_getR (p0 := 80) dX9_vote_77 fX9_43 (by first | rfl | assumption | exact RW.s (by assumption) | exact TW.s (by assumption)) rfl rfl ?_
  refine g_getI (p0 := 83) dX9_vote_80 fX9_214 (by first | rfl | assumption | exact RW.s (by assumption) | exact TW.s (by assumption)) rfl (by first | assumption | ((repeat (first | exact up_hit | refine up_nv (by decide) ?_ | refine up_mv (by first | decide | omega) ?_)) <;> first | assumption | rfl)) rfl ?_
  refine g_ireturn dX9_vote_83 rfl rfl (?_)
  exact ⟨rfl, hfc⟩
set_option maxRecDepth 20000 in
set_option maxHeartbeats 2000000 in
theorem vt_c2z {j : Nat} {σ : Sg} (hj : j < 2147483648) (h : CM mX0_poll [ar 73, ar 33, ai (nI j)] σ (RelV (fun σ1 => FC σ σ1 ∧ σ1 73 1 = (-1)))) : CM mX9_vote [ar 0, ai (nI j), ai (nI 2)] σ (CPQ σ (-1000004)) := by
  refine CM_in (ls := [some (ar 0), some (ai (nI j)), some (ai (nI 2))]) rfl ?_
  refine g_iload_n (p0 := 1) (i := 1) dX9_vote_0 rfl rfl rfl ?_
  first | ((with_reducible refine isN1 ?_); refine g_ifN_lt (tgt := 13) (p1 := 4) dX9_vote_1 rfl (by omega) rfl (fun c_1 => by exfalso; first | omega | contradiction | exact absurd h c_1 | exact h c_1 | exact c_1 h | exact c_1 (by decide) | exact nI_ne_m1b (by omega) c_1 | exact c_1 rfl) (fun c_1 => ?_)) | refine g_if_lt (tgt := 13) (p1 := 4) dX9_vote_1 rfl rfl (fun c_1 => by exfalso; first | omega | contradiction | exact absurd h c_1 | exact h c_1 | exact c_1 h | exact c_1 (by decide) | exact nI_ne_m1b (by omega) c_1 | exact c_1 rfl) (fun c_1 => ?_)
  refine g_iload_n (p0 := 5) (i := 2) dX9_vote_4 rfl rfl rfl ?_
  first | ((with_reducible refine isN1 ?_); refine g_ifN_lt (tgt := 13) (p1 := 8) dX9_vote_5 rfl (by omega) rfl (fun c_5 => by exfalso; first | omega | contradiction | exact absurd h c_5 | exact h c_5 | exact c_5 h | exact c_5 (by decide) | exact nI_ne_m1b (by omega) c_5 | exact c_5 rfl) (fun c_5 => ?_)) | refine g_if_lt (tgt := 13) (p1 := 8) dX9_vote_5 rfl rfl (fun c_5 => by exfalso; first | omega | contradiction | exact absurd h c_5 | exact h c_5 | exact c_5 h | exact c_5 (by decide) | exact nI_ne_m1b (by omega) c_5 | exact c_5 rfl) (fun c_5 => ?_)
  refine g_iload_n (p0 := 9) (i := 2) dX9_vote_8 rfl rfl rfl ?_
  refine g_iconst (p0 := 10) (v := nI 2) dX9_vote_9 rfl rfl ?_
  first | ((with_reducible refine isN2 ?_); refine g_icmpN_le (tgt := 16) (p1 := 13) dX9_vote_10 rfl (by omega) (by omega) rfl (fun c_10 => ?_) (fun c_10 => by exfalso; first | omega | contradiction | exact absurd h c_10 | exact h c_10 | exact c_10 h | exact c_10 (by decide) | exact nI_ne_m1b (by omega) c_10 | exact c_10 rfl)) | refine g_icmp_le (tgt := 16) (p1 := 13) dX9_vote_10 rfl rfl (fun c_10 => ?_) (fun c_10 => by exfalso; first | omega | contradiction | exact absurd h c_10 | exact h c_10 | exact c_10 h | exact c_10 (by decide) | exact nI_ne_m1b (by omega) c_10 | exact c_10 rfl)
  refine g_aload_n (p0 := 17) (i := 0) dX9_vote_16 rfl rfl rfl ?_
  refine g_getR (p0 := 20) dX9_vote_17 fX9_43 (by first | rfl | assumption | exact RW.s (by assumption) | exact TW.s (by assumption)) rfl rfl ?_
  refine g_aload_n (p0 := 21) (i := 0) dX9_vote_20 rfl rfl rfl ?_
  refine g_getR (p0 := 24) dX9_vote_21 fX9_29 (by first | rfl | assumption | exact RW.s (by assumption) | exact TW.s (by assumption)) rfl rfl ?_
  refine g_iload_n (p0 := 25) (i := 1) dX9_vote_24 rfl rfl rfl ?_
  refine g_cV2P (p0 := 28) (r1 := mX0_poll) dX9_vote_25 lX9_207 vX0_poll (by first | rfl | assumption | exact RW.s (by assumption) | exact TW.s (by assumption)) ⟨_, _, rfl⟩ (FITi rfl rfl) (Nat.le_of_ble_eq_true rfl) (h) rfl ?_
  rintro σ1 ⟨hfc, hw⟩
  refine g_aload_n (p0 := 29) (i := 0) dX9_vote_28 rfl rfl rfl ?_
  refine g_getR (p0 := 32) dX9_vote_29 fX9_43 (by first | rfl | assumption | exact RW.s (by assumption) | exact TW.s (by assumption)) rfl rfl ?_
  refine g_getI (p0 := 35) dX9_vote_32 fX9_211 (by first | rfl | assumption | exact RW.s (by assumption) | exact TW.s (by assumption)) rfl (by first | assumption | ((repeat (first | exact up_hit | refine up_nv (by decide) ?_ | refine up_mv (by first | decide | omega) ?_)) <;> first | assumption | rfl)) rfl ?_
  refine g_iconst (p0 := 36) (v := -1) dX9_vote_35 rfl rfl ?_
  first | ((with_reducible refine isN2 ?_); refine g_icmpN_ne (tgt := 42) (p1 := 39) dX9_vote_36 rfl (by omega) (by omega) rfl (fun c_36 => by exfalso; first | omega | contradiction | exact absurd h c_36 | exact h c_36 | exact c_36 h | exact c_36 (by decide) | exact nI_ne_m1b (by omega) c_36 | exact c_36 rfl) (fun c_36 => ?_)) | refine g_icmp_ne (tgt := 42) (p1 := 39) dX9_vote_36 rfl rfl (fun c_36 => by exfalso; first | omega | contradiction | exact absurd h c_36 | exact h c_36 | exact c_36 h | exact c_36 (by decide) | exact nI_ne_m1b (by omega) c_36 | exact c_36 rfl) (fun c_36 => ?_)
  refine g_ldc (p0 := 41) dX9_vote_39 qX9_122 rfl ?_
  refine g_ireturn dX9_vote_41 rfl rfl (?_)
  exact ⟨rfl, hfc⟩
set_option maxRecDepth 20000 in
set_option maxHeartbeats 2000000 in
theorem vt_c20 {j y : Nat} {σ : Sg} (hj : j < 2147483648) (hy : y < 25) (h : CM mX0_poll [ar 73, ar 33, ai (nI j)] σ (RelV (fun σ1 => FC σ σ1 ∧ σ1 73 1 = nI y ∧ σ1 73 3 = nI 0))) : CM mX9_vote [ar 0, ai (nI j), ai (nI 2)] σ (CPQ σ (nI 0)) := by
  refine CM_in (ls := [some (ar 0), some (ai (nI j)), some (ai (nI 2))]) rfl ?_
  refine g_iload_n (p0 := 1) (i := 1) dX9_vote_0 rfl rfl rfl ?_
  first | ((with_reducible refine isN1 ?_); refine g_ifN_lt (tgt := 13) (p1 := 4) dX9_vote_1 rfl (by omega) rfl (fun c_1 => by exfalso; first | omega | contradiction | exact absurd h c_1 | exact h c_1 | exact c_1 h | exact c_1 (by decide) | exact nI_ne_m1b (by omega) c_1 | exact c_1 rfl) (fun c_1 => ?_)) | refine g_if_lt (tgt := 13) (p1 := 4) dX9_vote_1 rfl rfl (fun c_1 => by exfalso; first | omega | contradiction | exact absurd h c_1 | exact h c_1 | exact c_1 h | exact c_1 (by decide) | exact nI_ne_m1b (by omega) c_1 | exact c_1 rfl) (fun c_1 => ?_)
  refine g_iload_n (p0 := 5) (i := 2) dX9_vote_4 rfl rfl rfl ?_
  first | ((with_reducible refine isN1 ?_); refine g_ifN_lt (tgt := 13) (p1 := 8) dX9_vote_5 rfl (by omega) rfl (fun c_5 => by exfalso; first | omega | contradiction | exact absurd h c_5 | exact h c_5 | exact c_5 h | exact c_5 (by decide) | exact nI_ne_m1b (by omega) c_5 | exact c_5 rfl) (fun c_5 => ?_)) | refine g_if_lt (tgt := 13) (p1 := 8) dX9_vote_5 rfl rfl (fun c_5 => by exfalso; first | omega | contradiction | exact absurd h c_5 | exact h c_5 | exact c_5 h | exact c_5 (by decide) | exact nI_ne_m1b (by omega) c_5 | exact c_5 rfl) (fun c_5 => ?_)
  refine g_iload_n (p0 := 9) (i := 2) dX9_vote_8 rfl rfl rfl ?_
  refine g_iconst (p0 := 10) (v := nI 2) dX9_vote_9 rfl rfl ?_
  first | ((with_reducible refine isN2 ?_); refine g_icmpN_le (tgt := 16) (p1 := 13) dX9_vote_10 rfl (by omega) (by omega) rfl (fun c_10 => ?_) (fun c_10 => by exfalso; first | omega | contradiction | exact absurd h c_10 | exact h c_10 | exact c_10 h | exact c_10 (by decide) | exact nI_ne_m1b (by omega) c_10 | exact c_10 rfl)) | refine g_icmp_le (tgt := 16) (p1 := 13) dX9_vote_10 rfl rfl (fun c_10 => ?_) (fun c_10 => by exfalso; first | omega | contradiction | exact absurd h c_10 | exact h c_10 | exact c_10 h | exact c_10 (by decide) | exact nI_ne_m1b (by omega) c_10 | exact c_10 rfl)
  refine g_aload_n (p0 := 17) (i := 0) dX9_vote_16 rfl rfl rfl ?_
  refine g_getR (p0 := 20) dX9_vote_17 fX9_43 (by first | rfl | assumption | exact RW.s (by assumption) | exact TW.s (by assumption)) rfl rfl ?_
  refine g_aload_n (p0 := 21) (i := 0) dX9_vote_20 rfl rfl rfl ?_
  refine g_getR (p0 := 24) dX9_vote_21 fX9_29 (by first | rfl | assumption | exact RW.s (by assumption) | exact TW.s (by assumption)) rfl rfl ?_
  refine g_iload_n (p0 := 25) (i := 1) dX9_vote_24 rfl rfl rfl ?_
  refine g_cV2P (p0 := 28) (r1 := mX0_poll) dX9_vote_25 lX9_207 vX0_poll (by first | rfl | assumption | exact RW.s (by assumption) | exact TW.s (by assumption)) ⟨_, _, rfl⟩ (FITi rfl rfl) (Nat.le_of_ble_eq_true rfl) (h) rfl ?_
  rintro σ1 ⟨hfc, hw, hv⟩
  refine g_aload_n (p0 := 29) (i := 0) dX9_vote_28 rfl rfl rfl ?_
  refine g_getR (p0 := 32) dX9_vote_29 fX9_43 (by first | rfl | assumption | exact RW.s (by assumption) | exact TW.s (by assumption)) rfl rfl ?_
  refine g_getI (p0 := 35) dX9_vote_32 fX9_211 (by first | rfl | assumption | exact RW.s (by assumption) | exact TW.s (by assumption)) rfl (by first | assumption | ((repeat (first | exact up_hit | refine up_nv (by decide) ?_ | refine up_mv (by first | decide | omega) ?_)) <;> first | assumption | rfl)) rfl ?_
  refine g_iconst (p0 := 36) (v := -1) dX9_vote_35 rfl rfl ?_
  first | ((with_reducible refine isN2 ?_); refine g_icmpN_ne (tgt := 42) (p1 := 39) dX9_vote_36 rfl (by omega) (by omega) rfl (fun c_36 => ?_) (fun c_36 => by exfalso; first | omega | contradiction | exact absurd h c_36 | exact h c_36 | exact c_36 h | exact c_36 (by decide) | exact nI_ne_m1b (by omega) c_36 | exact c_36 rfl)) | refine g_icmp_ne (tgt := 42) (p1 := 39) dX9_vote_36 rfl rfl (fun c_36 => ?_) (fun c_36 => by exfalso; first | omega | contradiction | exact absurd h c_36 | exact h c_36 | exact c_36 h | exact c_36 (by decide) | exact nI_ne_m1b (by omega) c_36 | exact c_36 rfl)
  refine g_iload_n (p0 := 43) (i := 2) dX9_vote_42 rfl rfl rfl ?_
  refine g_look (tgt := 84) (off := 41) dX9_vote_43 (by decide +kernel) (by decide +kernel) rfl ?_
  refine g_aload_n (p0 := 85) (i := 0) dX9_vote_84 rfl rfl rfl ?_
  refine g_getR (p0 := 88) dX9_vote_85 fX9_43 (by first | rfl | assumption | exact RW.s (by assumption) | exact TW.s (by assumption)) rfl rfl ?_
  refine g_getI (p0 := 91) dX9_vote_88 fX9_217 (by first | rfl | assumption | exact RW.s (by assumption) | exact TW.s (by assumption)) rfl (by first | assumption | ((repeat (first | exact up_hit | refine up_nv (by decide) ?_ | refine up_mv (by first | decide | omega) ?_)) <;> first | assumption | rfl)) rfl ?_
  first | ((with_reducible refine isN1 ?_); refine g_ifN_eq (tgt := 98) (p1 := 94) dX9_vote_91 rfl (by omega) rfl (fun c_91 => ?_) (fun c_91 => by exfalso; first | omega | contradiction | exact absurd h c_91 | exact h c_91 | exact c_91 h | exact c_91 (by decide) | exact nI_ne_m1b (by omega) c_91 | exact c_91 rfl)) | refine g_if_eq (tgt := 98) (p1 := 94) dX9_vote_91 rfl rfl (fun c_91 => ?_) (fun c_91 => by exfalso; first | omega | contradiction | exact absurd h c_91 | exact h c_91 | exact c_91 h | exact c_91 (by decide) | exact nI_ne_m1b (by omega) c_91 | exact c_91 rfl)
  refine g_iconst (p0 := 99) (v := nI 0) dX9_vote_98 rfl rfl ?_
  refine g_ireturn dX9_vote_99 rfl rfl (?_)
  exact ⟨rfl, hfc⟩
set_option maxRecDepth 20000 in
set_option maxHeartbeats 2000000 in
theorem vt_c21 {j y : Nat} {σ : Sg} (hj : j < 2147483648) (hy : y < 25) (h : CM mX0_poll [ar 73, ar 33, ai (nI j)] σ (RelV (fun σ1 => FC σ σ1 ∧ σ1 73 1 = nI y ∧ σ1 73 3 = nI 1))) : CM mX9_vote [ar 0, ai (nI j), ai (nI 2)] σ (CPQ σ (nI 1)) := by
  refine CM_in (ls := [some (ar 0), some (ai (nI j)), some (ai (nI 2))]) rfl ?_
  refine g_iload_n (p0 := 1) (i := 1) dX9_vote_0 rfl rfl rfl ?_
  first | ((with_reducible refine isN1 ?_); refine g_ifN_lt (tgt := 13) (p1 := 4) dX9_vote_1 rfl (by omega) rfl (fun c_1 => by exfalso; first | omega | contradiction | exact absurd h c_1 | exact h c_1 | exact c_1 h | exact c_1 (by decide) | exact nI_ne_m1b (by omega) c_1 | exact c_1 rfl) (fun c_1 => ?_)) | refine g_if_lt (tgt := 13) (p1 := 4) dX9_vote_1 rfl rfl (fun c_1 => by exfalso; first | omega | contradiction | exact absurd h c_1 | exact h c_1 | exact c_1 h | exact c_1 (by decide) | exact nI_ne_m1b (by omega) c_1 | exact c_1 rfl) (fun c_1 => ?_)
  refine g_iload_n (p0 := 5) (i := 2) dX9_vote_4 rfl rfl rfl ?_
  first | ((with_reducible refine isN1 ?_); refine g_ifN_lt (tgt := 13) (p1 := 8) dX9_vote_5 rfl (by omega) rfl (fun c_5 => by exfalso; first | omega | contradiction | exact absurd h c_5 | exact h c_5 | exact c_5 h | exact c_5 (by decide) | exact nI_ne_m1b (by omega) c_5 | exact c_5 rfl) (fun c_5 => ?_)) | refine g_if_lt (tgt := 13) (p1 := 8) dX9_vote_5 rfl rfl (fun c_5 => by exfalso; first | omega | contradiction | exact absurd h c_5 | exact h c_5 | exact c_5 h | exact c_5 (by decide) | exact nI_ne_m1b (by omega) c_5 | exact c_5 rfl) (fun c_5 => ?_)
  refine g_iload_n (p0 := 9) (i := 2) dX9_vote_8 rfl rfl rfl ?_
  refine g_iconst (p0 := 10) (v := nI 2) dX9_vote_9 rfl rfl ?_
  first | ((with_reducible refine isN2 ?_); refine g_icmpN_le (tgt := 16) (p1 := 13) dX9_vote_10 rfl (by omega) (by omega) rfl (fun c_10 => ?_) (fun c_10 => by exfalso; first | omega | contradiction | exact absurd h c_10 | exact h c_10 | exact c_10 h | exact c_10 (by decide) | exact nI_ne_m1b (by omega) c_10 | exact c_10 rfl)) | refine g_icmp_le (tgt := 16) (p1 := 13) dX9_vote_10 rfl rfl (fun c_10 => ?_) (fun c_10 => by exfalso; first | omega | contradiction | exact absurd h c_10 | exact h c_10 | exact c_10 h | exact c_10 (by decide) | exact nI_ne_m1b (by omega) c_10 | exact c_10 rfl)
  refine g_aload_n (p0 := 17) (i := 0) dX9_vote_16 rfl rfl rfl ?_
  refine g_getR (p0 := 20) dX9_vote_17 fX9_43 (by first | rfl | assumption | exact RW.s (by assumption) | exact TW.s (by assumption)) rfl rfl ?_
  refine g_aload_n (p0 := 21) (i := 0) dX9_vote_20 rfl rfl rfl ?_
  refine g_getR (p0 := 24) dX9_vote_21 fX9_29 (by first | rfl | assumption | exact RW.s (by assumption) | exact TW.s (by assumption)) rfl rfl ?_
  refine g_iload_n (p0 := 25) (i := 1) dX9_vote_24 rfl rfl rfl ?_
  refine g_cV2P (p0 := 28) (r1 := mX0_poll) dX9_vote_25 lX9_207 vX0_poll (by first | rfl | assumption | exact RW.s (by assumption) | exact TW.s (by assumption)) ⟨_, _, rfl⟩ (FITi rfl rfl) (Nat.le_of_ble_eq_true rfl) (h) rfl ?_
  rintro σ1 ⟨hfc, hw, hv⟩
  refine g_aload_n (p0 := 29) (i := 0) dX9_vote_28 rfl rfl rfl ?_
  refine g_getR (p0 := 32) dX9_vote_29 fX9_43 (by first | rfl | assumption | exact RW.s (by assumption) | exact TW.s (by assumption)) rfl rfl ?_
  refine g_getI (p0 := 35) dX9_vote_32 fX9_211 (by first | rfl | assumption | exact RW.s (by assumption) | exact TW.s (by assumption)) rfl (by first | assumption | ((repeat (first | exact up_hit | refine up_nv (by decide) ?_ | refine up_mv (by first | decide | omega) ?_)) <;> first | assumption | rfl)) rfl ?_
  refine g_iconst (p0 := 36) (v := -1) dX9_vote_35 rfl rfl ?_
  first | ((with_reducible refine isN2 ?_); refine g_icmpN_ne (tgt := 42) (p1 := 39) dX9_vote_36 rfl (by omega) (by omega) rfl (fun c_36 => ?_) (fun c_36 => by exfalso; first | omega | contradiction | exact absurd h c_36 | exact h c_36 | exact c_36 h | exact c_36 (by decide) | exact nI_ne_m1b (by omega) c_36 | exact c_36 rfl)) | refine g_icmp_ne (tgt := 42) (p1 := 39) dX9_vote_36 rfl rfl (fun c_36 => ?_) (fun c_36 => by exfalso; first | omega | contradiction | exact absurd h c_36 | exact h c_36 | exact c_36 h | exact c_36 (by decide) | exact nI_ne_m1b (by omega) c_36 | exact c_36 rfl)
  refine g_iload_n (p0 := 43) (i := 2) dX9_vote_42 rfl rfl rfl ?_
  refine g_look (tgt := 84) (off := 41) dX9_vote_43 (by decide +kernel) (by decide +kernel) rfl ?_
  refine g_aload_n (p0 := 85) (i := 0) dX9_vote_84 rfl rfl rfl ?_
  refine g_getR (p0 := 88) dX9_vote_85 fX9_43 (by first | rfl | assumption | exact RW.s (by assumption) | exact TW.s (by assumption)) rfl rfl ?_
  refine g_getI (p0 := 91) dX9_vote_88 fX9_217 (by first | rfl | assumption | exact RW.s (by assumption) | exact TW.s (by assumption)) rfl (by first | assumption | ((repeat (first | exact up_hit | refine up_nv (by decide) ?_ | refine up_mv (by first | decide | omega) ?_)) <;> first | assumption | rfl)) rfl ?_
  first | ((with_reducible refine isN1 ?_); refine g_ifN_eq (tgt := 98) (p1 := 94) dX9_vote_91 rfl (by omega) rfl (fun c_91 => by exfalso; first | omega | contradiction | exact absurd h c_91 | exact h c_91 | exact c_91 h | exact c_91 (by decide) | exact nI_ne_m1b (by omega) c_91 | exact c_91 rfl) (fun c_91 => ?_)) | refine g_if_eq (tgt := 98) (p1 := 94) dX9_vote_91 rfl rfl (fun c_91 => by exfalso; first | omega | contradiction | exact absurd h c_91 | exact h c_91 | exact c_91 h | exact c_91 (by decide) | exact nI_ne_m1b (by omega) c_91 | exact c_91 rfl) (fun c_91 => ?_)
  refine g_iconst (p0 := 95) (v := nI 1) dX9_vote_94 rfl rfl ?_
  refine g_goto (tgt := 99) dX9_vote_95 rfl ?_
  refine g_ireturn dX9_vote_99 rfl rfl (?_)
  exact ⟨rfl, hfc⟩
set_option maxRecDepth 20000 in
set_option maxHeartbeats 2000000 in
theorem vt_rn {x y : Int32} {σ : Sg} (h : x < 0) : CM mX10_vote [ar 79, ai x, ai y] σ (Ret (-1000001) σ) := by
  refine CM_in (ls := [some (ar 79), some (ai x), some (ai y), none]) rfl ?_
  refine g_iload_n (p0 := 1) (i := 1) dX10_vote_0 rfl rfl rfl ?_
  first | ((with_reducible refine isN1 ?_); refine g_ifN_lt (tgt := 13) (p1 := 4) dX10_vote_1 rfl (by omega) rfl (fun c_1 => ?_) (fun c_1 => by exfalso; first | omega | contradiction | exact absurd h c_1 | exact h c_1 | exact c_1 h | exact c_1 (by decide) | exact nI_ne_m1b (by omega) c_1 | exact c_1 rfl)) | refine g_if_lt (tgt := 13) (p1 := 4) dX10_vote_1 rfl rfl (fun c_1 => ?_) (fun c_1 => by exfalso; first | omega | contradiction | exact absurd h c_1 | exact h c_1 | exact c_1 h | exact c_1 (by decide) | exact nI_ne_m1b (by omega) c_1 | exact c_1 rfl)
  refine g_ldc (p0 := 15) dX10_vote_13 qX10_76 rfl ?_
  refine g_ireturn dX10_vote_15 rfl rfl (?_)
  exact ⟨rfl, rfl⟩
set_option maxRecDepth 20000 in
set_option maxHeartbeats 2000000 in
theorem vt_rw {j : Nat} {y : Int32} {σ : Sg} (hj : j < 2147483648) (h : y < 0) : CM mX10_vote [ar 79, ai (nI j), ai y] σ (Ret (-1000001) σ) := by
  refine CM_in (ls := [some (ar 79), some (ai (nI j)), some (ai y), none]) rfl ?_
  refine g_iload_n (p0 := 1) (i := 1) dX10_vote_0 rfl rfl rfl ?_
  first | ((with_reducible refine isN1 ?_); refine g_ifN_lt (tgt := 13) (p1 := 4) dX10_vote_1 rfl (by omega) rfl (fun c_1 => by exfalso; first | omega | contradiction | exact absurd h c_1 | exact h c_1 | exact c_1 h | exact c_1 (by decide) | exact nI_ne_m1b (by omega) c_1 | exact c_1 rfl) (fun c_1 => ?_)) | refine g_if_lt (tgt := 13) (p1 := 4) dX10_vote_1 rfl rfl (fun c_1 => by exfalso; first | omega | contradiction | exact absurd h c_1 | exact h c_1 | exact c_1 h | exact c_1 (by decide) | exact nI_ne_m1b (by omega) c_1 | exact c_1 rfl) (fun c_1 => ?_)
  refine g_iload_n (p0 := 5) (i := 2) dX10_vote_4 rfl rfl rfl ?_
  refine g_iconst (p0 := 6) (v := nI 0) dX10_vote_5 rfl rfl ?_
  refine g_iconst (p0 := 7) (v := nI 2) dX10_vote_6 rfl rfl ?_
  refine g_cS3R (p0 := 10) (r1 := mX10_in) dX10_vote_7 (Or.inl lX10_65) vX10_in (FITi rfl rfl) (Nat.le_of_ble_eq_true rfl) (in_F1 h) rfl ?_
  first | ((with_reducible refine isN1 ?_); refine g_ifN_ne (tgt := 16) (p1 := 13) dX10_vote_10 rfl (by omega) rfl (fun c_10 => by exfalso; first | omega | contradiction | exact absurd h c_10 | exact h c_10 | exact c_10 h | exact c_10 (by decide) | exact nI_ne_m1b (by omega) c_10 | exact c_10 rfl) (fun c_10 => ?_)) | refine g_if_ne (tgt := 16) (p1 := 13) dX10_vote_10 rfl rfl (fun c_10 => by exfalso; first | omega | contradiction | exact absurd h c_10 | exact h c_10 | exact c_10 h | exact c_10 (by decide) | exact nI_ne_m1b (by omega) c_10 | exact c_10 rfl) (fun c_10 => ?_)
  refine g_ldc (p0 := 15) dX10_vote_13 qX10_76 rfl ?_
  refine g_ireturn dX10_vote_15 rfl rfl (?_)
  exact ⟨rfl, rfl⟩
set_option maxRecDepth 20000 in
set_option maxHeartbeats 2000000 in
theorem vt_rx {j k : Nat} {σ : Sg} (hj : j < 2147483648) (hk : k < 2147483648) (h : 2 < k) : CM mX10_vote [ar 79, ai (nI j), ai (nI k)] σ (Ret (-1000001) σ) := by
  refine CM_in (ls := [some (ar 79), some (ai (nI j)), some (ai (nI k)), none]) rfl ?_
  refine g_iload_n (p0 := 1) (i := 1) dX10_vote_0 rfl rfl rfl ?_
  first | ((with_reducible refine isN1 ?_); refine g_ifN_lt (tgt := 13) (p1 := 4) dX10_vote_1 rfl (by omega) rfl (fun c_1 => by exfalso; first | omega | contradiction | exact absurd (by assumption) c_1 | (simp_all; done)) (fun c_1 => ?_)) | refine g_if_lt (tgt := 13) (p1 := 4) dX10_vote_1 rfl rfl (fun c_1 => by exfalso; first | omega | contradiction | exact absurd (by assumption) c_1 | (simp_all; done)) (fun c_1 => ?_)
  refine g_iload_n (p0 := 5) (i := 2) dX10_vote_4 rfl rfl rfl ?_
  refine g_iconst (p0 := 6) (v := nI 0) dX10_vote_5 rfl rfl ?_
  refine g_iconst (p0 := 7) (v := nI 2) dX10_vote_6 rfl rfl ?_
  refine g_cS3R (p0 := 10) (r1 := mX10_in) dX10_vote_7 (Or.inl lX10_65) vX10_in (FITi rfl rfl) (Nat.le_of_ble_eq_true rfl) (in_F2 (fun q => by rw [nI_lt_iff (by omega) (by omega)] at q; omega) ((nI_lt_iff (by omega) (by omega)).mpr (by omega))) rfl ?_
  first | ((with_reducible refine isN1 ?_); refine g_ifN_ne (tgt := 16) (p1 := 13) dX10_vote_10 rfl (by omega) rfl (fun c_10 => by exfalso; first | omega | contradiction | exact absurd (by assumption) c_10 | (simp_all; done)) (fun c_10 => ?_)) | refine g_if_ne (tgt := 16) (p1 := 13) dX10_vote_10 rfl rfl (fun c_10 => by exfalso; first | omega | contradiction | exact absurd (by assumption) c_10 | (simp_all; done)) (fun c_10 => ?_)
  refine g_ldc (p0 := 15) dX10_vote_13 qX10_76 rfl ?_
  refine g_ireturn dX10_vote_15 rfl rfl (?_)
  exact ⟨rfl, rfl⟩
set_option maxRecDepth 20000 in
set_option maxHeartbeats 2000000 in
theorem vt_r0z {P : Sg → Prop} {j : Nat} {σ : Sg} (hly : CM mX10_lays [ar 79] σ (RelV (fun σ' => P σ' ∧ FRl σ σ'))) (hj : j < 2147483648) (h : ∀ σ', P σ' → CM mX10_voted [ar 79, ai (nI j)] σ' (RelI (fun u σ2 => u = -1000004 ∧ FQ σ' σ2))) : CM mX10_vote [ar 79, ai (nI j), ai (nI 0)] σ (RPQ σ (-1000004)) := by
  refine CM_in (ls := [some (ar 79), some (ai (nI j)), some (ai (nI 0)), none]) rfl ?_
  refine g_iload_n (p0 := 1) (i := 1) dX10_vote_0 rfl rfl rfl ?_
  first | ((with_reducible refine isN1 ?_); refine g_ifN_lt (tgt := 13) (p1 := 4) dX10_vote_1 rfl (by omega) rfl (fun c_1 => by exfalso; first | omega | contradiction | exact absurd h c_1 | exact h c_1 | exact c_1 h | exact c_1 (by decide) | exact nI_ne_m1b (by omega) c_1 | exact c_1 rfl) (fun c_1 => ?_)) | refine g_if_lt (tgt := 13) (p1 := 4) dX10_vote_1 rfl rfl (fun c_1 => by exfalso; first | omega | contradiction | exact absurd h c_1 | exact h c_1 | exact c_1 h | exact c_1 (by decide) | exact nI_ne_m1b (by omega) c_1 | exact c_1 rfl) (fun c_1 => ?_)
  refine g_iload_n (p0 := 5) (i := 2) dX10_vote_4 rfl rfl rfl ?_
  refine g_iconst (p0 := 6) (v := nI 0) dX10_vote_5 rfl rfl ?_
  refine g_iconst (p0 := 7) (v := nI 2) dX10_vote_6 rfl rfl ?_
  refine g_cS3R (p0 := 10) (r1 := mX10_in) dX10_vote_7 (Or.inl lX10_65) vX10_in (FITi rfl rfl) (Nat.le_of_ble_eq_true rfl) (in_T (by decide) (by decide)) rfl ?_
  first | ((with_reducible refine isN1 ?_); refine g_ifN_ne (tgt := 16) (p1 := 13) dX10_vote_10 rfl (by omega) rfl (fun c_10 => ?_) (fun c_10 => by exfalso; first | omega | contradiction | exact absurd h c_10 | exact h c_10 | exact c_10 h | exact c_10 (by decide) | exact nI_ne_m1b (by omega) c_10 | exact c_10 rfl)) | refine g_if_ne (tgt := 16) (p1 := 13) dX10_vote_10 rfl rfl (fun c_10 => ?_) (fun c_10 => by exfalso; first | omega | contradiction | exact absurd h c_10 | exact h c_10 | exact c_10 h | exact c_10 (by decide) | exact nI_ne_m1b (by omega) c_10 | exact c_10 rfl)
  refine g_aload_n (p0 := 17) (i := 0) dX10_vote_16 rfl rfl rfl ?_
  refine g_cV0P (p0 := 20) (r1 := mX10_lays) dX10_vote_17 lX10_151 vX10_lays (by first | rfl | assumption | exact RW.s (by assumption) | exact TW.s (by assumption)) ⟨_, _, rfl⟩ (FITi rfl rfl) (Nat.le_of_ble_eq_true rfl) (hly) rfl ?_
  rintro σ1 ⟨hP, hf⟩
  refine g_aload_n (p0 := 21) (i := 0) dX10_vote_20 rfl rfl rfl ?_
  refine g_iload_n (p0 := 22) (i := 1) dX10_vote_21 rfl rfl rfl ?_
  refine g_cV1I (p0 := 25) (r1 := mX10_voted) dX10_vote_22 lX10_177 vX10_voted (by first | rfl | assumption | exact RW.s (by assumption) | exact TW.s (by assumption)) ⟨_, _, rfl⟩ (FITi rfl rfl) (Nat.le_of_ble_eq_true rfl) (h _ hP) rfl ?_
  rintro u σ2 ⟨rfl, hf2⟩
  refine g_istore_n (p0 := 26) (i := 3) (ls2 := [_, _, _, _]) dX10_vote_25 rfl (Nat.le_of_ble_eq_true rfl) rfl rfl ?_
  refine g_iload_n (p0 := 27) (i := 3) dX10_vote_26 rfl rfl rfl ?_
  first | ((with_reducible refine isN1 ?_); refine g_ifN_lt (tgt := 34) (p1 := 30) dX10_vote_27 rfl (by omega) rfl (fun c_27 => ?_) (fun c_27 => by exfalso; first | omega | contradiction | exact absurd h c_27 | exact h c_27 | exact c_27 h | exact c_27 (by decide) | exact nI_ne_m1b (by omega) c_27 | exact c_27 rfl)) | refine g_if_lt (tgt := 34) (p1 := 30) dX10_vote_27 rfl rfl (fun c_27 => ?_) (fun c_27 => by exfalso; first | omega | contradiction | exact absurd h c_27 | exact h c_27 | exact c_27 h | exact c_27 (by decide) | exact nI_ne_m1b (by omega) c_27 | exact c_27 rfl)
  refine g_iload_n (p0 := 35) (i := 3) dX10_vote_34 rfl rfl rfl ?_
  refine g_goto (tgt := 62) dX10_vote_35 rfl ?_
  refine g_ireturn dX10_vote_62 rfl rfl (?_)
  exact ⟨rfl, hf.fq.trans hf2⟩
set_option maxRecDepth 20000 in
set_option maxHeartbeats 2000000 in
theorem vt_r0 {P : Sg → Prop} {j y : Nat} {σ : Sg} (hly : CM mX10_lays [ar 79] σ (RelV (fun σ' => P σ' ∧ FRl σ σ'))) (hj : j < 2147483648) (hy : y < 25) (h : ∀ σ', P σ' → CM mX10_voted [ar 79, ai (nI j)] σ' (RelI (fun u σ2 => u = nI y ∧ FQ σ' σ2))) : CM mX10_vote [ar 79, ai (nI j), ai (nI 0)] σ (RPQ σ (nI y)) := by
  refine CM_in (ls := [some (ar 79), some (ai (nI j)), some (ai (nI 0)), none]) rfl ?_
  refine g_iload_n (p0 := 1) (i := 1) dX10_vote_0 rfl rfl rfl ?_
  first | ((with_reducible refine isN1 ?_); refine g_ifN_lt (tgt := 13) (p1 := 4) dX10_vote_1 rfl (by omega) rfl (fun c_1 => by exfalso; first | omega | contradiction | exact absurd h c_1 | exact h c_1 | exact c_1 h | exact c_1 (by decide) | exact nI_ne_m1b (by omega) c_1 | exact c_1 rfl) (fun c_1 => ?_)) | refine g_if_lt (tgt := 13) (p1 := 4) dX10_vote_1 rfl rfl (fun c_1 => by exfalso; first | omega | contradiction | exact absurd h c_1 | exact h c_1 | exact c_1 h | exact c_1 (by decide) | exact nI_ne_m1b (by omega) c_1 | exact c_1 rfl) (fun c_1 => ?_)
  refine g_iload_n (p0 := 5) (i := 2) dX10_vote_4 rfl rfl rfl ?_
  refine g_iconst (p0 := 6) (v := nI 0) dX10_vote_5 rfl rfl ?_
  refine g_iconst (p0 := 7) (v := nI 2) dX10_vote_6 rfl rfl ?_
  refine g_cS3R (p0 := 10) (r1 := mX10_in) dX10_vote_7 (Or.inl lX10_65) vX10_in (FITi rfl rfl) (Nat.le_of_ble_eq_true rfl) (in_T (by decide) (by decide)) rfl ?_
  first | ((with_reducible refine isN1 ?_); refine g_ifN_ne (tgt := 16) (p1 := 13) dX10_vote_10 rfl (by omega) rfl (fun c_10 => ?_) (fun c_10 => by exfalso; first | omega | contradiction | exact absurd h c_10 | exact h c_10 | exact c_10 h | exact c_10 (by decide) | exact nI_ne_m1b (by omega) c_10 | exact c_10 rfl)) | refine g_if_ne (tgt := 16) (p1 := 13) dX10_vote_10 rfl rfl (fun c_10 => ?_) (fun c_10 => by exfalso; first | omega | contradiction | exact absurd h c_10 | exact h c_10 | exact c_10 h | exact c_10 (by decide) | exact nI_ne_m1b (by omega) c_10 | exact c_10 rfl)
  refine g_aload_n (p0 := 17) (i := 0) dX10_vote_16 rfl rfl rfl ?_
  refine g_cV0P (p0 := 20) (r1 := mX10_lays) dX10_vote_17 lX10_151 vX10_lays (by first | rfl | assumption | exact RW.s (by assumption) | exact TW.s (by assumption)) ⟨_, _, rfl⟩ (FITi rfl rfl) (Nat.le_of_ble_eq_true rfl) (hly) rfl ?_
  rintro σ1 ⟨hP, hf⟩
  refine g_aload_n (p0 := 21) (i := 0) dX10_vote_20 rfl rfl rfl ?_
  refine g_iload_n (p0 := 22) (i := 1) dX10_vote_21 rfl rfl rfl ?_
  refine g_cV1I (p0 := 25) (r1 := mX10_voted) dX10_vote_22 lX10_177 vX10_voted (by first | rfl | assumption | exact RW.s (by assumption) | exact TW.s (by assumption)) ⟨_, _, rfl⟩ (FITi rfl rfl) (Nat.le_of_ble_eq_true rfl) (h _ hP) rfl ?_
  rintro u σ2 ⟨rfl, hf2⟩
  refine g_istore_n (p0 := 26) (i := 3) (ls2 := [_, _, _, _]) dX10_vote_25 rfl (Nat.le_of_ble_eq_true rfl) rfl rfl ?_
  refine g_iload_n (p0 := 27) (i := 3) dX10_vote_26 rfl rfl rfl ?_
  first | ((with_reducible refine isN1 ?_); refine g_ifN_lt (tgt := 34) (p1 := 30) dX10_vote_27 rfl (by omega) rfl (fun c_27 => by exfalso; first | omega | contradiction | exact absurd h c_27 | exact h c_27 | exact c_27 h | exact c_27 (by decide) | exact nI_ne_m1b (by omega) c_27 | exact c_27 rfl) (fun c_27 => ?_)) | refine g_if_lt (tgt := 34) (p1 := 30) dX10_vote_27 rfl rfl (fun c_27 => by exfalso; first | omega | contradiction | exact absurd h c_27 | exact h c_27 | exact c_27 h | exact c_27 (by decide) | exact nI_ne_m1b (by omega) c_27 | exact c_27 rfl) (fun c_27 => ?_)
  refine g_iload_n (p0 := 31) (i := 2) dX10_vote_30 rfl rfl rfl ?_
  first | ((with_reducible refine isN1 ?_); refine g_ifN_ne (tgt := 38) (p1 := 34) dX10_vote_31 rfl (by omega) rfl (fun c_31 => by exfalso; first | omega | contradiction | exact absurd h c_31 | exact h c_31 | exact c_31 h | exact c_31 (by decide) | exact nI_ne_m1b (by omega) c_31 | exact c_31 rfl) (fun c_31 => ?_)) | refine g_if_ne (tgt := 38) (p1 := 34) dX10_vote_31 rfl rfl (fun c_31 => by exfalso; first | omega | contradiction | exact absurd h c_31 | exact h c_31 | exact c_31 h | exact c_31 (by decide) | exact nI_ne_m1b (by omega) c_31 | exact c_31 rfl) (fun c_31 => ?_)
  refine g_iload_n (p0 := 35) (i := 3) dX10_vote_34 rfl rfl rfl ?_
  refine g_goto (tgt := 62) dX10_vote_35 rfl ?_
  refine g_ireturn dX10_vote_62 rfl rfl (?_)
  exact ⟨rfl, hf.fq.trans hf2⟩
set_option maxRecDepth 20000 in
set_option maxHeartbeats 2000000 in
theorem vt_r1z {P : Sg → Prop} {j : Nat} {σ : Sg} (hly : CM mX10_lays [ar 79] σ (RelV (fun σ' => P σ' ∧ FRl σ σ'))) (hj : j < 2147483648) (h : ∀ σ', P σ' → CM mX10_voted [ar 79, ai (nI j)] σ' (RelI (fun u σ2 => u = -1000004 ∧ FQ σ' σ2))) : CM mX10_vote [ar 79, ai (nI j), ai (nI 1)] σ (RPQ σ (-1000004)) := by
  refine CM_in (ls := [some (ar 79), some (ai (nI j)), some (ai (nI 1)), none]) rfl ?_
  refine g_iload_n (p0 := 1) (i := 1) dX10_vote_0 rfl rfl rfl ?_
  first | ((with_reducible refine isN1 ?_); refine g_ifN_lt (tgt := 13) (p1 := 4) dX10_vote_1 rfl (by omega) rfl (fun c_1 => by exfalso; first | omega | contradiction | exact absurd h c_1 | exact h c_1 | exact c_1 h | exact c_1 (by decide) | exact nI_ne_m1b (by omega) c_1 | exact c_1 rfl) (fun c_1 => ?_)) | refine g_if_lt (tgt := 13) (p1 := 4) dX10_vote_1 rfl rfl (fun c_1 => by exfalso; first | omega | contradiction | exact absurd h c_1 | exact h c_1 | exact c_1 h | exact c_1 (by decide) | exact nI_ne_m1b (by omega) c_1 | exact c_1 rfl) (fun c_1 => ?_)
  refine g_iload_n (p0 := 5) (i := 2) dX10_vote_4 rfl rfl rfl ?_
  refine g_iconst (p0 := 6) (v := nI 0) dX10_vote_5 rfl rfl ?_
  refine g_iconst (p0 := 7) (v := nI 2) dX10_vote_6 rfl rfl ?_
  refine g_cS3R (p0 := 10) (r1 := mX10_in) dX10_vote_7 (Or.inl lX10_65) vX10_in (FITi rfl rfl) (Nat.le_of_ble_eq_true rfl) (in_T (by decide) (by decide)) rfl ?_
  first | ((with_reducible refine isN1 ?_); refine g_ifN_ne (tgt := 16) (p1 := 13) dX10_vote_10 rfl (by omega) rfl (fun c_10 => ?_) (fun c_10 => by exfalso; first | omega | contradiction | exact absurd h c_10 | exact h c_10 | exact c_10 h | exact c_10 (by decide) | exact nI_ne_m1b (by omega) c_10 | exact c_10 rfl)) | refine g_if_ne (tgt := 16) (p1 := 13) dX10_vote_10 rfl rfl (fun c_10 => ?_) (fun c_10 => by exfalso; first | omega | contradiction | exact absurd h c_10 | exact h c_10 | exact c_10 h | exact c_10 (by decide) | exact nI_ne_m1b (by omega) c_10 | exact c_10 rfl)
  refine g_aload_n (p0 := 17) (i := 0) dX10_vote_16 rfl rfl rfl ?_
  refine g_cV0P (p0 := 20) (r1 := mX10_lays) dX10_vote_17 lX10_151 vX10_lays (by first | rfl | assumption | exact RW.s (by assumption) | exact TW.s (by assumption)) ⟨_, _, rfl⟩ (FITi rfl rfl) (Nat.le_of_ble_eq_true rfl) (hly) rfl ?_
  rintro σ1 ⟨hP, hf⟩
  refine g_aload_n (p0 := 21) (i := 0) dX10_vote_20 rfl rfl rfl ?_
  refine g_iload_n (p0 := 22) (i := 1) dX10_vote_21 rfl rfl rfl ?_
  refine g_cV1I (p0 := 25) (r1 := mX10_voted) dX10_vote_22 lX10_177 vX10_voted (by first | rfl | assumption | exact RW.s (by assumption) | exact TW.s (by assumption)) ⟨_, _, rfl⟩ (FITi rfl rfl) (Nat.le_of_ble_eq_true rfl) (h _ hP) rfl ?_
  rintro u σ2 ⟨rfl, hf2⟩
  refine g_istore_n (p0 := 26) (i := 3) (ls2 := [_, _, _, _]) dX10_vote_25 rfl (Nat.le_of_ble_eq_true rfl) rfl rfl ?_
  refine g_iload_n (p0 := 27) (i := 3) dX10_vote_26 rfl rfl rfl ?_
  first | ((with_reducible refine isN1 ?_); refine g_ifN_lt (tgt := 34) (p1 := 30) dX10_vote_27 rfl (by omega) rfl (fun c_27 => ?_) (fun c_27 => by exfalso; first | omega | contradiction | exact absurd h c_27 | exact h c_27 | exact c_27 h | exact c_27 (by decide) | exact nI_ne_m1b (by omega) c_27 | exact c_27 rfl)) | refine g_if_lt (tgt := 34) (p1 := 30) dX10_vote_27 rfl rfl (fun c_27 => ?_) (fun c_27 => by exfalso; first | omega | contradiction | exact absurd h c_27 | exact h c_27 | exact c_27 h | exact c_27 (by decide) | exact nI_ne_m1b (by omega) c_27 | exact c_27 rfl)
  refine g_iload_n (p0 := 35) (i := 3) dX10_vote_34 rfl rfl rfl ?_
  refine g_goto (tgt := 62) dX10_vote_35 rfl ?_
  refine g_ireturn dX10_vote_62 rfl rfl (?_)
  exact ⟨rfl, hf.fq.trans hf2⟩
set_option maxRecDepth 20000 in
set_option maxHeartbeats 2000000 in
theorem vt_r1 {P : Sg → Prop} {j y : Nat} {σ : Sg} (hly : CM mX10_lays [ar 79] σ (RelV (fun σ' => P σ' ∧ FRl σ σ'))) (hj : j < 2147483648) {v : Int32} (hy : y < 25) (h : ∀ σ', P σ' → CM mX10_voted [ar 79, ai (nI j)] σ' (RelI (fun u σ2 => u = nI y ∧ FQ σ' σ2 ∧ σ2 79 21 = v))) : CM mX10_vote [ar 79, ai (nI j), ai (nI 1)] σ (RPQ σ v) := by
  refine CM_in (ls := [some (ar 79), some (ai (nI j)), some (ai (nI 1)), none]) rfl ?_
  refine g_iload_n (p0 := 1) (i := 1) dX10_vote_0 rfl rfl rfl ?_
  first | ((with_reducible refine isN1 ?_); refine g_ifN_lt (tgt := 13) (p1 := 4) dX10_vote_1 rfl (by omega) rfl (fun c_1 => by exfalso; first | omega | contradiction | exact absurd h c_1 | exact h c_1 | exact c_1 h | exact c_1 (by decide) | exact nI_ne_m1b (by omega) c_1 | exact c_1 rfl) (fun c_1 => ?_)) | refine g_if_lt (tgt := 13) (p1 := 4) dX10_vote_1 rfl rfl (fun c_1 => by exfalso; first | omega | contradiction | exact absurd h c_1 | exact h c_1 | exact c_1 h | exact c_1 (by decide) | exact nI_ne_m1b (by omega) c_1 | exact c_1 rfl) (fun c_1 => ?_)
  refine g_iload_n (p0 := 5) (i := 2) dX10_vote_4 rfl rfl rfl ?_
  refine g_iconst (p0 := 6) (v := nI 0) dX10_vote_5 rfl rfl ?_
  refine g_iconst (p0 := 7) (v := nI 2) dX10_vote_6 rfl rfl ?_
  refine g_cS3R (p0 := 10) (r1 := mX10_in) dX10_vote_7 (Or.inl lX10_65) vX10_in (FITi rfl rfl) (Nat.le_of_ble_eq_true rfl) (in_T (by decide) (by decide)) rfl ?_
  first | ((with_reducible refine isN1 ?_); refine g_ifN_ne (tgt := 16) (p1 := 13) dX10_vote_10 rfl (by omega) rfl (fun c_10 => ?_) (fun c_10 => by exfalso; first | omega | contradiction | exact absurd h c_10 | exact h c_10 | exact c_10 h | exact c_10 (by decide) | exact nI_ne_m1b (by omega) c_10 | exact c_10 rfl)) | refine g_if_ne (tgt := 16) (p1 := 13) dX10_vote_10 rfl rfl (fun c_10 => ?_) (fun c_10 => by exfalso; first | omega | contradiction | exact absurd h c_10 | exact h c_10 | exact c_10 h | exact c_10 (by decide) | exact nI_ne_m1b (by omega) c_10 | exact c_10 rfl)
  refine g_aload_n (p0 := 17) (i := 0) dX10_vote_16 rfl rfl rfl ?_
  refine g_cV0P (p0 := 20) (r1 := mX10_lays) dX10_vote_17 lX10_151 vX10_lays (by first | rfl | assumption | exact RW.s (by assumption) | exact TW.s (by assumption)) ⟨_, _, rfl⟩ (FITi rfl rfl) (Nat.le_of_ble_eq_true rfl) (hly) rfl ?_
  rintro σ1 ⟨hP, hf⟩
  refine g_aload_n (p0 := 21) (i := 0) dX10_vote_20 rfl rfl rfl ?_
  refine g_iload_n (p0 := 22) (i := 1) dX10_vote_21 rfl rfl rfl ?_
  refine g_cV1I (p0 := 25) (r1 := mX10_voted) dX10_vote_22 lX10_177 vX10_voted (by first | rfl | assumption | exact RW.s (by assumption) | exact TW.s (by assumption)) ⟨_, _, rfl⟩ (FITi rfl rfl) (Nat.le_of_ble_eq_true rfl) (h _ hP) rfl ?_
  rintro u σ2 ⟨rfl, hf2, hv⟩
  refine g_istore_n (p0 := 26) (i := 3) (ls2 := [_, _, _, _]) dX10_vote_25 rfl (Nat.le_of_ble_eq_true rfl) rfl rfl ?_
  refine g_iload_n (p0 := 27) (i := 3) dX10_vote_26 rfl rfl rfl ?_
  first | ((with_reducible refine isN1 ?_); refine g_ifN_lt (tgt := 34) (p1 := 30) dX10_vote_27 rfl (by omega) rfl (fun c_27 => by exfalso; first | omega | contradiction | exact absurd h c_27 | exact h c_27 | exact c_27 h | exact c_27 (by decide) | exact nI_ne_m1b (by omega) c_27 | exact c_27 rfl) (fun c_27 => ?_)) | refine g_if_lt (tgt := 34) (p1 := 30) dX10_vote_27 rfl rfl (fun c_27 => by exfalso; first | omega | contradiction | exact absurd h c_27 | exact h c_27 | exact c_27 h | exact c_27 (by decide) | exact nI_ne_m1b (by omega) c_27 | exact c_27 rfl) (fun c_27 => ?_)
  refine g_iload_n (p0 := 31) (i := 2) dX10_vote_30 rfl rfl rfl ?_
  first | ((with_reducible refine isN1 ?_); refine g_ifN_ne (tgt := 38) (p1 := 34) dX10_vote_31 rfl (by omega) rfl (fun c_31 => ?_) (fun c_31 => by exfalso; first | omega | contradiction | exact absurd h c_31 | exact h c_31 | exact c_31 h | exact c_31 (by decide) | exact nI_ne_m1b (by omega) c_31 | exact c_31 rfl)) | refine g_if_ne (tgt := 38) (p1 := 34) dX10_vote_31 rfl rfl (fun c_31 => ?_) (fun c_31 => by exfalso; first | omega | contradiction | exact absurd h c_31 | exact h c_31 | exact c_31 h | exact c_31 (by decide) | exact nI_ne_m1b (by omega) c_31 | exact c_31 rfl)
  refine g_iload_n (p0 := 39) (i := 2) dX10_vote_38 rfl rfl rfl ?_
  refine g_iconst (p0 := 40) (v := nI 1) dX10_vote_39 rfl rfl ?_
  first | ((with_reducible refine isN2 ?_); refine g_icmpN_ne (tgt := 50) (p1 := 43) dX10_vote_40 rfl (by omega) (by omega) rfl (fun c_40 => by exfalso; first | omega | contradiction | exact absurd h c_40 | exact h c_40 | exact c_40 h | exact c_40 (by decide) | exact nI_ne_m1b (by omega) c_40 | exact c_40 rfl) (fun c_40 => ?_)) | refine g_icmp_ne (tgt := 50) (p1 := 43) dX10_vote_40 rfl rfl (fun c_40 => by exfalso; first | omega | contradiction | exact absurd h c_40 | exact h c_40 | exact c_40 h | exact c_40 (by decide) | exact nI_ne_m1b (by omega) c_40 | exact c_40 rfl) (fun c_40 => ?_)
  refine g_aload_n (p0 := 44) (i := 0) dX10_vote_43 rfl rfl rfl ?_
  refine g_getI (p0 := 47) dX10_vote_44 fX10_170 (by first | rfl | assumption | exact RW.s (by assumption) | exact TW.s (by assumption)) rfl (by first | assumption | ((repeat (first | exact up_hit | refine up_nv (by decide) ?_ | refine up_mv (by first | decide | omega) ?_)) <;> first | assumption | rfl)) rfl ?_
  refine g_goto (tgt := 62) dX10_vote_47 rfl ?_
  refine g_ireturn dX10_vote_62 rfl rfl (?_)
  exact ⟨rfl, hf.fq.trans hf2⟩
set_option maxRecDepth 20000 in
set_option maxHeartbeats 2000000 in
theorem vt_r2z {P : Sg → Prop} {j : Nat} {σ : Sg} (hly : CM mX10_lays [ar 79] σ (RelV (fun σ' => P σ' ∧ FRl σ σ'))) (hj : j < 2147483648) (h : ∀ σ', P σ' → CM mX10_voted [ar 79, ai (nI j)] σ' (RelI (fun u σ2 => u = -1000004 ∧ FQ σ' σ2))) : CM mX10_vote [ar 79, ai (nI j), ai (nI 2)] σ (RPQ σ (-1000004)) := by
  refine CM_in (ls := [some (ar 79), some (ai (nI j)), some (ai (nI 2)), none]) rfl ?_
  refine g_iload_n (p0 := 1) (i := 1) dX10_vote_0 rfl rfl rfl ?_
  first | ((with_reducible refine isN1 ?_); refine g_ifN_lt (tgt := 13) (p1 := 4) dX10_vote_1 rfl (by omega) rfl (fun c_1 => by exfalso; first | omega | contradiction | exact absurd h c_1 | exact h c_1 | exact c_1 h | exact c_1 (by decide) | exact nI_ne_m1b (by omega) c_1 | exact c_1 rfl) (fun c_1 => ?_)) | refine g_if_lt (tgt := 13) (p1 := 4) dX10_vote_1 rfl rfl (fun c_1 => by exfalso; first | omega | contradiction | exact absurd h c_1 | exact h c_1 | exact c_1 h | exact c_1 (by decide) | exact nI_ne_m1b (by omega) c_1 | exact c_1 rfl) (fun c_1 => ?_)
  refine g_iload_n (p0 := 5) (i := 2) dX10_vote_4 rfl rfl rfl ?_
  refine g_iconst (p0 := 6) (v := nI 0) dX10_vote_5 rfl rfl ?_
  refine g_iconst (p0 := 7) (v := nI 2) dX10_vote_6 rfl rfl ?_
  refine g_cS3R (p0 := 10) (r1 := mX10_in) dX10_vote_7 (Or.inl lX10_65) vX10_in (FITi rfl rfl) (Nat.le_of_ble_eq_true rfl) (in_T (by decide) (by decide)) rfl ?_
  first | ((with_reducible refine isN1 ?_); refine g_ifN_ne (tgt := 16) (p1 := 13) dX10_vote_10 rfl (by omega) rfl (fun c_10 => ?_) (fun c_10 => by exfalso; first | omega | contradiction | exact absurd h c_10 | exact h c_10 | exact c_10 h | exact c_10 (by decide) | exact nI_ne_m1b (by omega) c_10 | exact c_10 rfl)) | refine g_if_ne (tgt := 16) (p1 := 13) dX10_vote_10 rfl rfl (fun c_10 => ?_) (fun c_10 => by exfalso; first | omega | contradiction | exact absurd h c_10 | exact h c_10 | exact c_10 h | exact c_10 (by decide) | exact nI_ne_m1b (by omega) c_10 | exact c_10 rfl)
  refine g_aload_n (p0 := 17) (i := 0) dX10_vote_16 rfl rfl rfl ?_
  refine g_cV0P (p0 := 20) (r1 := mX10_lays) dX10_vote_17 lX10_151 vX10_lays (by first | rfl | assumption | exact RW.s (by assumption) | exact TW.s (by assumption)) ⟨_, _, rfl⟩ (FITi rfl rfl) (Nat.le_of_ble_eq_true rfl) (hly) rfl ?_
  rintro σ1 ⟨hP, hf⟩
  refine g_aload_n (p0 := 21) (i := 0) dX10_vote_20 rfl rfl rfl ?_
  refine g_iload_n (p0 := 22) (i := 1) dX10_vote_21 rfl rfl rfl ?_
  refine g_cV1I (p0 := 25) (r1 := mX10_voted) dX10_vote_22 lX10_177 vX10_voted (by first | rfl | assumption | exact RW.s (by assumption) | exact TW.s (by assumption)) ⟨_, _, rfl⟩ (FITi rfl rfl) (Nat.le_of_ble_eq_true rfl) (h _ hP) rfl ?_
  rintro u σ2 ⟨rfl, hf2⟩
  refine g_istore_n (p0 := 26) (i := 3) (ls2 := [_, _, _, _]) dX10_vote_25 rfl (Nat.le_of_ble_eq_true rfl) rfl rfl ?_
  refine g_iload_n (p0 := 27) (i := 3) dX10_vote_26 rfl rfl rfl ?_
  first | ((with_reducible refine isN1 ?_); refine g_ifN_lt (tgt := 34) (p1 := 30) dX10_vote_27 rfl (by omega) rfl (fun c_27 => ?_) (fun c_27 => by exfalso; first | omega | contradiction | exact absurd h c_27 | exact h c_27 | exact c_27 h | exact c_27 (by decide) | exact nI_ne_m1b (by omega) c_27 | exact c_27 rfl)) | refine g_if_lt (tgt := 34) (p1 := 30) dX10_vote_27 rfl rfl (fun c_27 => ?_) (fun c_27 => by exfalso; first | omega | contradiction | exact absurd h c_27 | exact h c_27 | exact c_27 h | exact c_27 (by decide) | exact nI_ne_m1b (by omega) c_27 | exact c_27 rfl)
  refine g_iload_n (p0 := 35) (i := 3) dX10_vote_34 rfl rfl rfl ?_
  refine g_goto (tgt := 62) dX10_vote_35 rfl ?_
  refine g_ireturn dX10_vote_62 rfl rfl (?_)
  exact ⟨rfl, hf.fq.trans hf2⟩
set_option maxRecDepth 20000 in
set_option maxHeartbeats 2000000 in
theorem vt_r20 {P : Sg → Prop} {j y : Nat} {σ : Sg} (hly : CM mX10_lays [ar 79] σ (RelV (fun σ' => P σ' ∧ FRl σ σ'))) (hj : j < 2147483648) (hy : y < 25) (h : ∀ σ', P σ' → CM mX10_voted [ar 79, ai (nI j)] σ' (RelI (fun u σ2 => u = nI y ∧ FQ σ' σ2 ∧ σ2 79 22 = nI 0))) : CM mX10_vote [ar 79, ai (nI j), ai (nI 2)] σ (RPQ σ (nI 0)) := by
  refine CM_in (ls := [some (ar 79), some (ai (nI j)), some (ai (nI 2)), none]) rfl ?_
  refine g_iload_n (p0 := 1) (i := 1) dX10_vote_0 rfl rfl rfl ?_
  first | ((with_reducible refine isN1 ?_); refine g_ifN_lt (tgt := 13) (p1 := 4) dX10_vote_1 rfl (by omega) rfl (fun c_1 => by exfalso; first | omega | contradiction | exact absurd h c_1 | exact h c_1 | exact c_1 h | exact c_1 (by decide) | exact nI_ne_m1b (by omega) c_1 | exact c_1 rfl) (fun c_1 => ?_)) | refine g_if_lt (tgt := 13) (p1 := 4) dX10_vote_1 rfl rfl (fun c_1 => by exfalso; first | omega | contradiction | exact absurd h c_1 | exact h c_1 | exact c_1 h | exact c_1 (by decide) | exact nI_ne_m1b (by omega) c_1 | exact c_1 rfl) (fun c_1 => ?_)
  refine g_iload_n (p0 := 5) (i := 2) dX10_vote_4 rfl rfl rfl ?_
  refine g_iconst (p0 := 6) (v := nI 0) dX10_vote_5 rfl rfl ?_
  refine g_iconst (p0 := 7) (v := nI 2) dX10_vote_6 rfl rfl ?_
  refine g_cS3R (p0 := 10) (r1 := mX10_in) dX10_vote_7 (Or.inl lX10_65) vX10_in (FITi rfl rfl) (Nat.le_of_ble_eq_true rfl) (in_T (by decide) (by decide)) rfl ?_
  first | ((with_reducible refine isN1 ?_); refine g_ifN_ne (tgt := 16) (p1 := 13) dX10_vote_10 rfl (by omega) rfl (fun c_10 => ?_) (fun c_10 => by exfalso; first | omega | contradiction | exact absurd h c_10 | exact h c_10 | exact c_10 h | exact c_10 (by decide) | exact nI_ne_m1b (by omega) c_10 | exact c_10 rfl)) | refine g_if_ne (tgt := 16) (p1 := 13) dX10_vote_10 rfl rfl (fun c_10 => ?_) (fun c_10 => by exfalso; first | omega | contradiction | exact absurd h c_10 | exact h c_10 | exact c_10 h | exact c_10 (by decide) | exact nI_ne_m1b (by omega) c_10 | exact c_10 rfl)
  refine g_aload_n (p0 := 17) (i := 0) dX10_vote_16 rfl rfl rfl ?_
  refine g_cV0P (p0 := 20) (r1 := mX10_lays) dX10_vote_17 lX10_151 vX10_lays (by first | rfl | assumption | exact RW.s (by assumption) | exact TW.s (by assumption)) ⟨_, _, rfl⟩ (FITi rfl rfl) (Nat.le_of_ble_eq_true rfl) (hly) rfl ?_
  rintro σ1 ⟨hP, hf⟩
  refine g_aload_n (p0 := 21) (i := 0) dX10_vote_20 rfl rfl rfl ?_
  refine g_iload_n (p0 := 22) (i := 1) dX10_vote_21 rfl rfl rfl ?_
  refine g_cV1I (p0 := 25) (r1 := mX10_voted) dX10_vote_22 lX10_177 vX10_voted (by first | rfl | assumption | exact RW.s (by assumption) | exact TW.s (by assumption)) ⟨_, _, rfl⟩ (FITi rfl rfl) (Nat.le_of_ble_eq_true rfl) (h _ hP) rfl ?_
  rintro u σ2 ⟨rfl, hf2, hv⟩
  refine g_istore_n (p0 := 26) (i := 3) (ls2 := [_, _, _, _]) dX10_vote_25 rfl (Nat.le_of_ble_eq_true rfl) rfl rfl ?_
  refine g_iload_n (p0 := 27) (i := 3) dX10_vote_26 rfl rfl rfl ?_
  first | ((with_reducible refine isN1 ?_); refine g_ifN_lt (tgt := 34) (p1 := 30) dX10_vote_27 rfl (by omega) rfl (fun c_27 => by exfalso; first | omega | contradiction | exact absurd h c_27 | exact h c_27 | exact c_27 h | exact c_27 (by decide) | exact nI_ne_m1b (by omega) c_27 | exact c_27 rfl) (fun c_27 => ?_)) | refine g_if_lt (tgt := 34) (p1 := 30) dX10_vote_27 rfl rfl (fun c_27 => by exfalso; first | omega | contradiction | exact absurd h c_27 | exact h c_27 | exact c_27 h | exact c_27 (by decide) | exact nI_ne_m1b (by omega) c_27 | exact c_27 rfl) (fun c_27 => ?_)
  refine g_iload_n (p0 := 31) (i := 2) dX10_vote_30 rfl rfl rfl ?_
  first | ((with_reducible refine isN1 ?_); refine g_ifN_ne (tgt := 38) (p1 := 34) dX10_vote_31 rfl (by omega) rfl (fun c_31 => ?_) (fun c_31 => by exfalso; first | omega | contradiction | exact absurd h c_31 | exact h c_31 | exact c_31 h | exact c_31 (by decide) | exact nI_ne_m1b (by omega) c_31 | exact c_31 rfl)) | refine g_if_ne (tgt := 38) (p1 := 34) dX10_vote_31 rfl rfl (fun c_31 => ?_) (fun c_31 => by exfalso; first | omega | contradiction | exact absurd h c_31 | exact h c_31 | exact c_31 h | exact c_31 (by decide) | exact nI_ne_m1b (by omega) c_31 | exact c_31 rfl)
  refine g_iload_n (p0 := 39) (i := 2) dX10_vote_38 rfl rfl rfl ?_
  refine g_iconst (p0 := 40) (v := nI 1) dX10_vote_39 rfl rfl ?_
  first | ((with_reducible refine isN2 ?_); refine g_icmpN_ne (tgt := 50) (p1 := 43) dX10_vote_40 rfl (by omega) (by omega) rfl (fun c_40 => ?_) (fun c_40 => by exfalso; first | omega | contradiction | exact absurd h c_40 | exact h c_40 | exact c_40 h | exact c_40 (by decide) | exact nI_ne_m1b (by omega) c_40 | exact c_40 rfl)) | refine g_icmp_ne (tgt := 50) (p1 := 43) dX10_vote_40 rfl rfl (fun c_40 => ?_) (fun c_40 => by exfalso; first | omega | contradiction | exact absurd h c_40 | exact h c_40 | exact c_40 h | exact c_40 (by decide) | exact nI_ne_m1b (by omega) c_40 | exact c_40 rfl)
  refine g_aload_n (p0 := 51) (i := 0) dX10_vote_50 rfl rfl rfl ?_
  refine g_getI (p0 := 54) dX10_vote_51 fX10_173 (by first | rfl | assumption | exact RW.s (by assumption) | exact TW.s (by assumption)) rfl (by first | assumption | ((repeat (first | exact up_hit | refine up_nv (by decide) ?_ | refine up_mv (by first | decide | omega) ?_)) <;> first | assumption | rfl)) rfl ?_
  first | ((with_reducible refine isN1 ?_); refine g_ifN_eq (tgt := 61) (p1 := 57) dX10_vote_54 rfl (by omega) rfl (fun c_54 => ?_) (fun c_54 => by exfalso; first | omega | contradiction | exact absurd h c_54 | exact h c_54 | exact c_54 h | exact c_54 (by decide) | exact nI_ne_m1b (by omega) c_54 | exact c_54 rfl)) | refine g_if_eq (tgt := 61) (p1 := 57) dX10_vote_54 rfl rfl (fun c_54 => ?_) (fun c_54 => by exfalso; first | omega | contradiction | exact absurd h c_54 | exact h c_54 | exact c_54 h | exact c_54 (by decide) | exact nI_ne_m1b (by omega) c_54 | exact c_54 rfl)
  refine g_iconst (p0 := 62) (v := nI 0) dX10_vote_61 rfl rfl ?_
  refine g_ireturn dX10_vote_62 rfl rfl (?_)
  exact ⟨rfl, hf.fq.trans hf2⟩
set_option maxRecDepth 20000 in
set_option maxHeartbeats 2000000 in
theorem vt_r21 {P : Sg → Prop} {j y : Nat} {σ : Sg} (hly : CM mX10_lays [ar 79] σ (RelV (fun σ' => P σ' ∧ FRl σ σ'))) (hj : j < 2147483648) (hy : y < 25) (h : ∀ σ', P σ' → CM mX10_voted [ar 79, ai (nI j)] σ' (RelI (fun u σ2 => u = nI y ∧ FQ σ' σ2 ∧ σ2 79 22 = nI 1))) : CM mX10_vote [ar 79, ai (nI j), ai (nI 2)] σ (RPQ σ (nI 1)) := by
  refine CM_in (ls := [some (ar 79), some (ai (nI j)), some (ai (nI 2)), none]) rfl ?_
  refine g_iload_n (p0 := 1) (i := 1) dX10_vote_0 rfl rfl rfl ?_
  first | ((with_reducible refine isN1 ?_); refine g_ifN_lt (tgt := 13) (p1 := 4) dX10_vote_1 rfl (by omega) rfl (fun c_1 => by exfalso; first | omega | contradiction | exact absurd h c_1 | exact h c_1 | exact c_1 h | exact c_1 (by decide) | exact nI_ne_m1b (by omega) c_1 | exact c_1 rfl) (fun c_1 => ?_)) | refine g_if_lt (tgt := 13) (p1 := 4) dX10_vote_1 rfl rfl (fun c_1 => by exfalso; first | omega | contradiction | exact absurd h c_1 | exact h c_1 | exact c_1 h | exact c_1 (by decide) | exact nI_ne_m1b (by omega) c_1 | exact c_1 rfl) (fun c_1 => ?_)
  refine g_iload_n (p0 := 5) (i := 2) dX10_vote_4 rfl rfl rfl ?_
  refine g_iconst (p0 := 6) (v := nI 0) dX10_vote_5 rfl rfl ?_
  refine g_iconst (p0 := 7) (v := nI 2) dX10_vote_6 rfl rfl ?_
  refine g_cS3R (p0 := 10) (r1 := mX10_in) dX10_vote_7 (Or.inl lX10_65) vX10_in (FITi rfl rfl) (Nat.le_of_ble_eq_true rfl) (in_T (by decide) (by decide)) rfl ?_
  first | ((with_reducible refine isN1 ?_); refine g_ifN_ne (tgt := 16) (p1 := 13) dX10_vote_10 rfl (by omega) rfl (fun c_10 => ?_) (fun c_10 => by exfalso; first | omega | contradiction | exact absurd h c_10 | exact h c_10 | exact c_10 h | exact c_10 (by decide) | exact nI_ne_m1b (by omega) c_10 | exact c_10 rfl)) | refine g_if_ne (tgt := 16) (p1 := 13) dX10_vote_10 rfl rfl (fun c_10 => ?_) (fun c_10 => by exfalso; first | omega | contradiction | exact absurd h c_10 | exact h c_10 | exact c_10 h | exact c_10 (by decide) | exact nI_ne_m1b (by omega) c_10 | exact c_10 rfl)
  refine g_aload_n (p0 := 17) (i := 0) dX10_vote_16 rfl rfl rfl ?_
  refine g_cV0P (p0 := 20) (r1 := mX10_lays) dX10_vote_17 lX10_151 vX10_lays (by first | rfl | assumption | exact RW.s (by assumption) | exact TW.s (by assumption)) ⟨_, _, rfl⟩ (FITi rfl rfl) (Nat.le_of_ble_eq_true rfl) (hly) rfl ?_
  rintro σ1 ⟨hP, hf⟩
  refine g_aload_n (p0 := 21) (i := 0) dX10_vote_20 rfl rfl rfl ?_
  refine g_iload_n (p0 := 22) (i := 1) dX10_vote_21 rfl rfl rfl ?_
  refine g_cV1I (p0 := 25) (r1 := mX10_voted) dX10_vote_22 lX10_177 vX10_voted (by first | rfl | assumption | exact RW.s (by assumption) | exact TW.s (by assumption)) ⟨_, _, rfl⟩ (FITi rfl rfl) (Nat.le_of_ble_eq_true rfl) (h _ hP) rfl ?_
  rintro u σ2 ⟨rfl, hf2, hv⟩
  refine g_istore_n (p0 := 26) (i := 3) (ls2 := [_, _, _, _]) dX10_vote_25 rfl (Nat.le_of_ble_eq_true rfl) rfl rfl ?_
  refine g_iload_n (p0 := 27) (i := 3) dX10_vote_26 rfl rfl rfl ?_
  first | ((with_reducible refine isN1 ?_); refine g_ifN_lt (tgt := 34) (p1 := 30) dX10_vote_27 rfl (by omega) rfl (fun c_27 => by exfalso; first | omega | contradiction | exact absurd h c_27 | exact h c_27 | exact c_27 h | exact c_27 (by decide) | exact nI_ne_m1b (by omega) c_27 | exact c_27 rfl) (fun c_27 => ?_)) | refine g_if_lt (tgt := 34) (p1 := 30) dX10_vote_27 rfl rfl (fun c_27 => by exfalso; first | omega | contradiction | exact absurd h c_27 | exact h c_27 | exact c_27 h | exact c_27 (by decide) | exact nI_ne_m1b (by omega) c_27 | exact c_27 rfl) (fun c_27 => ?_)
  refine g_iload_n (p0 := 31) (i := 2) dX10_vote_30 rfl rfl rfl ?_
  first | ((with_reducible refine isN1 ?_); refine g_ifN_ne (tgt := 38) (p1 := 34) dX10_vote_31 rfl (by omega) rfl (fun c_31 => ?_) (fun c_31 => by exfalso; first | omega | contradiction | exact absurd h c_31 | exact h c_31 | exact c_31 h | exact c_31 (by decide) | exact nI_ne_m1b (by omega) c_31 | exact c_31 rfl)) | refine g_if_ne (tgt := 38) (p1 := 34) dX10_vote_31 rfl rfl (fun c_31 => ?_) (fun c_31 => by exfalso; first | omega | contradiction | exact absurd h c_31 | exact h c_31 | exact c_31 h | exact c_31 (by decide) | exact nI_ne_m1b (by omega) c_31 | exact c_31 rfl)
  refine g_iload_n (p0 := 39) (i := 2) dX10_vote_38 rfl rfl rfl ?_
  refine g_iconst (p0 := 40) (v := nI 1) dX10_vote_39 rfl rfl ?_
  first | ((with_reducible refine isN2 ?_); refine g_icmpN_ne (tgt := 50) (p1 := 43) dX10_vote_40 rfl (by omega) (by omega) rfl (fun c_40 => ?_) (fun c_40 => by exfalso; first | omega | contradiction | exact absurd h c_40 | exact h c_40 | exact c_40 h | exact c_40 (by decide) | exact nI_ne_m1b (by omega) c_40 | exact c_40 rfl)) | refine g_icmp_ne (tgt := 50) (p1 := 43) dX10_vote_40 rfl rfl (fun c_40 => ?_) (fun c_40 => by exfalso; first | omega | contradiction | exact absurd h c_40 | exact h c_40 | exact c_40 h | exact c_40 (by decide) | exact nI_ne_m1b (by omega) c_40 | exact c_40 rfl)
  refine g_aload_n (p0 := 51) (i := 0) dX10_vote_50 rfl rfl rfl ?_
  refine g_getI (p0 := 54) dX10_vote_51 fX10_173 (by first | rfl | assumption | exact RW.s (by assumption) | exact TW.s (by assumption)) rfl (by first | assumption | ((repeat (first | exact up_hit | refine up_nv (by decide) ?_ | refine up_mv (by first | decide | omega) ?_)) <;> first | assumption | rfl)) rfl ?_
  first | ((with_reducible refine isN1 ?_); refine g_ifN_eq (tgt := 61) (p1 := 57) dX10_vote_54 rfl (by omega) rfl (fun c_54 => by exfalso; first | omega | contradiction | exact absurd h c_54 | exact h c_54 | exact c_54 h | exact c_54 (by decide) | exact nI_ne_m1b (by omega) c_54 | exact c_54 rfl) (fun c_54 => ?_)) | refine g_if_eq (tgt := 61) (p1 := 57) dX10_vote_54 rfl rfl (fun c_54 => by exfalso; first | omega | contradiction | exact absurd h c_54 | exact h c_54 | exact c_54 h | exact c_54 (by decide) | exact nI_ne_m1b (by omega) c_54 | exact c_54 rfl) (fun c_54 => ?_)
  refine g_iconst (p0 := 58) (v := nI 1) dX10_vote_57 rfl rfl ?_
  refine g_goto (tgt := 62) dX10_vote_58 rfl ?_
  refine g_ireturn dX10_vote_62 rfl rfl (?_)
  exact ⟨rfl, hf.fq.trans hf2⟩
theorem op_vote (x0 x1 : Int32) : OpOK Inv mX9_vote mX10_vote [ai x0, ai x1] := by
  intro σ hI
  obtain ⟨s, M, L, c, fs, f, n, p, d, g, a, b, hs, hs1, hC, hJ⟩ := JQ hI
  have hr : ∀ l, l < L → σ 42 l = -1 ∨ ∃ x, x < 25 ∧ σ 42 l = nI x := by
    intro l hl
    rw [(hC.2.2 l hl).2.2.2.2]
    exact VR hI hs hs1 (by have := hC.1.2.2.2; omega) _ _ _
  rcases i32c x0 with h | ⟨j, hj, rfl⟩
  · exact op_ask hI (CPQ_of (vt_cn h)) (fun σ1 hf hI1 => RPQ_of (vt_rn h))
  · rcases i32c x1 with h | ⟨k, hk, rfl⟩
    · exact op_ask hI (CPQ_of (vt_cw hj h)) (fun σ1 hf hI1 => RPQ_of (vt_rw hj h))
    · by_cases h3 : k < 3
      · have hp := poll_r2 (FC.refl σ) hC hr hj
        have hv : ∀ σ' : Sg, REF σ' s M L c fs f n p d g a b (σ 42) (σ 44) → _ := fun σ' hP => voted_r2 hP hj
        have hc : k = 0 ∨ k = 1 ∨ k = 2 := by omega
        by_cases h0 : moF (fun k => vc (σ 42) f n j k M) 25 = 0
        · have e1 : wv (-1) (fun k => vc (σ 42) f n j k M) 25 = -1 := by rw [wv, if_pos h0]
          have e2 : wv (-1000004) (fun k => vc (σ 42) f n j k M) 25 = -1000004 := by rw [wv, if_pos h0]
          have hp2 : CM mX0_poll [ar 73, ar 33, ai (nI j)] σ (RelV (fun σ1 => FC σ σ1 ∧ σ1 73 1 = -1)) := by
            refine CM.mono hp ?_
            rintro w σ1 ⟨rfl, z1, z2, _⟩
            exact ⟨rfl, z1, z2.trans e1⟩
          have hv2 : ∀ σ' : Sg, REF σ' s M L c fs f n p d g a b (σ 42) (σ 44) → CM mX10_voted [ar 79, ai (nI j)] σ' (RelI (fun u σ2 => u = -1000004 ∧ FQ σ' σ2)) := by
            intro σ' hP
            refine CM.mono (hv σ' hP) ?_
            rintro w σ1 ⟨u, rfl, z1, z2, _⟩
            exact ⟨u, rfl, z1.trans e2, z2⟩
          rcases hc with rfl | rfl | rfl
          · exact op_ask hI (vt_c0z hj hp2) (fun σ1 hf hI1 => vt_r0z (hJ σ1 hf) hj hv2)
          · exact op_ask hI (vt_c1z hj hp2) (fun σ1 hf hI1 => vt_r1z (hJ σ1 hf) hj hv2)
          · exact op_ask hI (vt_c2z hj hp2) (fun σ1 hf hI1 => vt_r2z (hJ σ1 hf) hj hv2)
        · have e1 : wv (-1) (fun k => vc (σ 42) f n j k M) 25 = nI (wiF (fun k => vc (σ 42) f n j k M) 25) := by rw [wv, if_neg h0]
          have e2 : wv (-1000004) (fun k => vc (σ 42) f n j k M) 25 = nI (wiF (fun k => vc (σ 42) f n j k M) 25) := by rw [wv, if_neg h0]
          have hy := wiF_lt (c := (fun k => vc (σ 42) f n j k M)) 25 (by decide)
          rcases hc with rfl | rfl | rfl
          · refine op_ask hI (vt_c0 (v := nI (moF (fun k => vc (σ 42) f n j k M) 25)) hj hy (CM.mono hp ?_)) (fun σ1 hf hI1 => vt_r0 (hJ σ1 hf) hj hy (fun σ' hP => CM.mono (hv σ' hP) ?_))
            · rintro w σ1 ⟨rfl, z1, z2, z3, _⟩
              exact ⟨rfl, z1, z2.trans e1, z3⟩
            · rintro w σ1 ⟨u, rfl, z1, z2, _⟩
              exact ⟨u, rfl, z1.trans e2, z2⟩
          · refine op_ask hI (vt_c1 (v := nI (moF (fun k => vc (σ 42) f n j k M) 25)) hj hy (CM.mono hp ?_)) (fun σ1 hf hI1 => vt_r1 (v := nI (moF (fun k => vc (σ 42) f n j k M) 25)) (hJ σ1 hf) hj hy (fun σ' hP => CM.mono (hv σ' hP) ?_))
            · rintro w σ1 ⟨rfl, z1, z2, z3, _⟩
              exact ⟨rfl, z1, z2.trans e1, z3⟩
            · rintro w σ1 ⟨u, rfl, z1, z2, z3, _⟩
              exact ⟨u, rfl, z1.trans e2, z2, z3⟩
          · rcases duF_le (c := (fun k => vc (σ 42) f n j k M)) 25 with hd | hd
            · rw [hd] at hp hv
              refine op_ask hI (vt_c20 hj hy (CM.mono hp ?_)) (fun σ1 hf hI1 => vt_r20 (hJ σ1 hf) hj hy (fun σ' hP => CM.mono (hv σ' hP) ?_))
              · rintro w σ1 ⟨rfl, z1, z2, z3, z4⟩
                exact ⟨rfl, z1, z2.trans e1, z4⟩
              · rintro w σ1 ⟨u, rfl, z1, z2, z3, z4⟩
                exact ⟨u, rfl, z1.trans e2, z2, z4⟩
            · rw [hd] at hp hv
              refine op_ask hI (vt_c21 hj hy (CM.mono hp ?_)) (fun σ1 hf hI1 => vt_r21 (hJ σ1 hf) hj hy (fun σ' hP => CM.mono (hv σ' hP) ?_))
              · rintro w σ1 ⟨rfl, z1, z2, z3, z4⟩
                exact ⟨rfl, z1, z2.trans e1, z4⟩
              · rintro w σ1 ⟨u, rfl, z1, z2, z3, z4⟩
                exact ⟨u, rfl, z1.trans e2, z2, z4⟩
      · exact op_ask hI (CPQ_of (vt_cx hj hk (by omega))) (fun σ1 hf hI1 => RPQ_of (vt_rx hj hk (by omega)))
