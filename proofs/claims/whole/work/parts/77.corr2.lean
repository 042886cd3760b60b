/-! QUESTIONS: correction -/
set_option maxRecDepth 20000 in
set_option maxHeartbeats 2000000 in
theorem cr_cF {x y z : Int32} {σ : Sg} (h : CM mX6_hasMessage [ar 33, ai x] σ (Ret (nI 0) σ)) : CM mX9_correction [ar 0, ai x, ai y, ai z] σ (Ret (-1000001) σ) := by
  refine CM_in (ls := [some (ar 0), some (ai x), some (ai y), some (ai z)]) rfl ?_
  refine g_aload_n (p0 := 1) (i := 0) dX9_correction_0 rfl rfl rfl ?_
  refine g_getR (p0 := 4) dX9_correction_1 fX9_29 (by first | rfl | assumption | exact RW.s (by assumption) | exact TW.s (by assumption)) rfl rfl ?_
  refine g_iload_n (p0 := 5) (i := 1) dX9_correction_4 rfl rfl rfl ?_
  refine g_cV1R (p0 := 8) (r1 := mX6_hasMessage) dX9_correction_5 lX9_133 vX6_hasMessage (by first | rfl | assumption | exact RW.s (by assumption) | exact TW.s (by assumption)) ⟨_, _, rfl⟩ (FITi rfl rfl) (Nat.le_of_ble_eq_true rfl) (h) rfl ?_
  first | ((with_reducible refine isN1 ?_); refine g_ifN_eq (tgt := 24) (p1 := 11) dX9_correction_8 rfl (by omega) rfl (fun c_8 => ?_) (fun c_8 => by exfalso; first | omega | contradiction | exact absurd (by assumption) c_8 | (simp_all; done))) | refine g_if_eq (tgt := 24) (p1 := 11) dX9_correction_8 rfl rfl (fun c_8 => ?_) (fun c_8 => by exfalso; first | omega | contradiction | exact absurd (by assumption) c_8 | (simp_all; done))
  refine g_ldc (p0 := 26) dX9_correction_24 qX9_68 rfl ?_
  refine g_ireturn dX9_correction_26 rfl rfl (?_)
  exact ⟨rfl, rfl⟩
set_option maxRecDepth 20000 in
set_option maxHeartbeats 2000000 in
theorem cr_ci {x y : Int32} {m M : Nat} {σ : Sg} (hM : σ 45 7 = nI M) (hM1 : M ≤ 160) (hm : m < M) (h : x < 0) : CM mX9_correction [ar 0, ai (nI m), ai x, ai y] σ (Ret (-1000001) σ) := by
  refine CM_in (ls := [some (ar 0), some (ai (nI m)), some (ai x), some (ai y)]) rfl ?_
  refine g_aload_n (p0 := 1) (i := 0) dX9_correction_0 rfl rfl rfl ?_
  refine g_getR (p0 := 4) dX9_correction_1 fX9_29 (by first | rfl | assumption | exact RW.s (by assumption) | exact TW.s (by assumption)) rfl rfl ?_
  refine g_iload_n (p0 := 5) (i := 1) dX9_correction_4 rfl rfl rfl ?_
  refine g_cV1R (p0 := 8) (r1 := mX6_hasMessage) dX9_correction_5 lX9_133 vX6_hasMessage (by first | rfl | assumption | exact RW.s (by assumption) | exact TW.s (by assumption)) ⟨_, _, rfl⟩ (FITi rfl rfl) (Nat.le_of_ble_eq_true rfl) (hasMessage_T hM hM1 hm) rfl ?_
  first | ((with_reducible refine isN1 ?_); refine g_ifN_eq (tgt := 24) (p1 := 11) dX9_correction_8 rfl (by omega) rfl (fun c_8 => by exfalso; first | omega | contradiction | exact absurd h c_8 | exact h c_8 | exact c_8 h | exact c_8 (by decide)) (fun c_8 => ?_)) | refine g_if_eq (tgt := 24) (p1 := 11) dX9_correction_8 rfl rfl (fun c_8 => by exfalso; first | omega | contradiction | exact absurd h c_8 | exact h c_8 | exact c_8 h | exact c_8 (by decide)) (fun c_8 => ?_)
  refine g_iload_n (p0 := 12) (i := 2) dX9_correction_11 rfl rfl rfl ?_
  first | ((with_reducible refine isN1 ?_); refine g_ifN_lt (tgt := 24) (p1 := 15) dX9_correction_12 rfl (by omega) rfl (fun c_12 => ?_) (fun c_12 => by exfalso; first | omega | contradiction | exact absurd h c_12 | exact h c_12 | exact c_12 h | exact c_12 (by decide))) | refine g_if_lt (tgt := 24) (p1 := 15) dX9_correction_12 rfl rfl (fun c_12 => ?_) (fun c_12 => by exfalso; first | omega | contradiction | exact absurd h c_12 | exact h c_12 | exact c_12 h | exact c_12 (by decide))
  refine g_ldc (p0 := 26) dX9_correction_24 qX9_68 rfl ?_
  refine g_ireturn dX9_correction_26 rfl rfl (?_)
  exact ⟨rfl, rfl⟩
set_option maxRecDepth 20000 in
set_option maxHeartbeats 2000000 in
theorem cr_cw {y : Int32} {j : Nat} {m M : Nat} {σ : Sg} (hM : σ 45 7 = nI M) (hM1 : M ≤ 160) (hm : m < M) (hj : j < 2147483648) (h : y < 0) : CM mX9_correction [ar 0, ai (nI m), ai (nI j), ai y] σ (Ret (-1000001) σ) := by
  refine CM_in (ls := [some (ar 0), some (ai (nI m)), some (ai (nI j)), some (ai y)]) rfl ?_
  refine g_aload_n (p0 := 1) (i := 0) dX9_correction_0 rfl rfl rfl ?_
  refine g_getR (p0 := 4) dX9_correction_1 fX9_29 (by first | rfl | assumption | exact RW.s (by assumption) | exact TW.s (by assumption)) rfl rfl ?_
  refine g_iload_n (p0 := 5) (i := 1) dX9_correction_4 rfl rfl rfl ?_
  refine g_cV1R (p0 := 8) (r1 := mX6_hasMessage) dX9_correction_5 lX9_133 vX6_hasMessage (by first | rfl | assumption | exact RW.s (by assumption) | exact TW.s (by assumption)) ⟨_, _, rfl⟩ (FITi rfl rfl) (Nat.le_of_ble_eq_true rfl) (hasMessage_T hM hM1 hm) rfl ?_
  first | ((with_reducible refine isN1 ?_); refine g_ifN_eq (tgt := 24) (p1 := 11) dX9_correction_8 rfl (by omega) rfl (fun c_8 => by exfalso; first | omega | contradiction | exact absurd h c_8 | exact h c_8 | exact c_8 h | exact c_8 (by decide)) (fun c_8 => ?_)) | refine g_if_eq (tgt := 24) (p1 := 11) dX9_correction_8 rfl rfl (fun c_8 => by exfalso; first | omega | contradiction | exact absurd h c_8 | exact h c_8 | exact c_8 h | exact c_8 (by decide)) (fun c_8 => ?_)
  refine g_iload_n (p0 := 12) (i := 2) dX9_correction_11 rfl rfl rfl ?_
  first | ((with_reducible refine isN1 ?_); refine g_ifN_lt (tgt := 24) (p1 := 15) dX9_correction_12 rfl (by omega) rfl (fun c_12 => by exfalso; first | omega | contradiction | exact absurd h c_12 | exact h c_12 | exact c_12 h | exact c_12 (by decide)) (fun c_12 => ?_)) | refine g_if_lt (tgt := 24) (p1 := 15) dX9_correction_12 rfl rfl (fun c_12 => by exfalso; first | omega | contradiction | exact absurd h c_12 | exact h c_12 | exact c_12 h | exact c_12 (by decide)) (fun c_12 => ?_)
  refine g_iload_n (p0 := 16) (i := 3) dX9_correction_15 rfl rfl rfl ?_
  first | ((with_reducible refine isN1 ?_); refine g_ifN_lt (tgt := 24) (p1 := 19) dX9_correction_16 rfl (by omega) rfl (fun c_16 => ?_) (fun c_16 => by exfalso; first | omega | contradiction | exact absurd h c_16 | exact h c_16 | exact c_16 h | exact c_16 (by decide))) | refine g_if_lt (tgt := 24) (p1 := 19) dX9_correction_16 rfl rfl (fun c_16 => ?_) (fun c_16 => by exfalso; first | omega | contradiction | exact absurd h c_16 | exact h c_16 | exact c_16 h | exact c_16 (by decide))
  refine g_ldc (p0 := 26) dX9_correction_24 qX9_68 rfl ?_
  refine g_ireturn dX9_correction_26 rfl rfl (?_)
  exact ⟨rfl, rfl⟩
set_option maxRecDepth 20000 in
set_option maxHeartbeats 2000000 in
theorem cr_cx {j k : Nat} {m M : Nat} {σ : Sg} (hM : σ 45 7 = nI M) (hM1 : M ≤ 160) (hm : m < M) (hj : j < 2147483648) (hk : k < 2147483648) (h : 3 < k) : CM mX9_correction [ar 0, ai (nI m), ai (nI j), ai (nI k)] σ (Ret (-1000001) σ) := by
  refine CM_in (ls := [some (ar 0), some (ai (nI m)), some (ai (nI j)), some (ai (nI k))]) rfl ?_
  refine g_aload_n (p0 := 1) (i := 0) dX9_correction_0 rfl rfl rfl ?_
  refine g_getR (p0 := 4) dX9_correction_1 fX9_29 (by first | rfl | assumption | exact RW.s (by assumption) | exact TW.s (by assumption)) rfl rfl ?_
  refine g_iload_n (p0 := 5) (i := 1) dX9_correction_4 rfl rfl rfl ?_
  refine g_cV1R (p0 := 8) (r1 := mX6_hasMessage) dX9_correction_5 lX9_133 vX6_hasMessage (by first | rfl | assumption | exact RW.s (by assumption) | exact TW.s (by assumption)) ⟨_, _, rfl⟩ (FITi rfl rfl) (Nat.le_of_ble_eq_true rfl) (hasMessage_T hM hM1 hm) rfl ?_
  first | ((with_reducible refine isN1 ?_); refine g_ifN_eq (tgt := 24) (p1 := 11) dX9_correction_8 rfl (by omega) rfl (fun c_8 => by exfalso; first | omega | contradiction | exact absurd (by assumption) c_8 | (simp_all; done)) (fun c_8 => ?_)) | refine g_if_eq (tgt := 24) (p1 := 11) dX9_correction_8 rfl rfl (fun c_8 => by exfalso; first | omega | contradiction | exact absurd (by assumption) c_8 | (simp_all; done)) (fun c_8 => ?_)
  refine g_iload_n (p0 := 12) (i := 2) dX9_correction_11 rfl rfl rfl ?_
  first | ((with_reducible refine isN1 ?_); refine g_ifN_lt (tgt := 24) (p1 := 15) dX9_correction_12 rfl (by omega) rfl (fun c_12 => by exfalso; first | omega | contradiction | exact absurd (by assumption) c_12 | (simp_all; done)) (fun c_12 => ?_)) | refine g_if_lt (tgt := 24) (p1 := 15) dX9_correction_12 rfl rfl (fun c_12 => by exfalso; first | omega | contradiction | exact absurd (by assumption) c_12 | (simp_all; done)) (fun c_12 => ?_)
  refine g_iload_n (p0 := 16) (i := 3) dX9_correction_15 rfl rfl rfl ?_
  first | ((with_reducible refine isN1 ?_); refine g_ifN_lt (tgt := 24) (p1 := 19) dX9_correction_16 rfl (by omega) rfl (fun c_16 => by exfalso; first | omega | contradiction | exact absurd (by assumption) c_16 | (simp_all; done)) (fun c_16 => ?_)) | refine g_if_lt (tgt := 24) (p1 := 19) dX9_correction_16 rfl rfl (fun c_16 => by exfalso; first | omega | contradiction | exact absurd (by assumption) c_16 | (simp_all; done)) (fun c_16 => ?_)
  refine g_iload_n (p0 := 20) (i := 3) dX9_correction_19 rfl rfl rfl ?_
  refine g_iconst (p0 := 21) (v := nI 3) dX9_correction_20 rfl rfl ?_
  first | ((with_reducible refine isN2 ?_); refine g_icmpN_le (tgt := 27) (p1 := 24) dX9_correction_21 rfl (by omega) (by omega) rfl (fun c_21 => by exfalso; first | omega | contradiction | exact absurd (by assumption) c_21 | (simp_all; done)) (fun c_21 => ?_)) | refine g_icmp_le (tgt := 27) (p1 := 24) dX9_correction_21 rfl rfl (fun c_21 => by exfalso; first | omega | contradiction | exact absurd (by assumption) c_21 | (simp_all; done)) (fun c_21 => ?_)
  refine g_ldc (p0 := 26) dX9_correction_24 qX9_68 rfl ?_
  refine g_ireturn dX9_correction_26 rfl rfl (?_)
  exact ⟨rfl, rfl⟩
set_option maxRecDepth 20000 in
set_option maxHeartbeats 2000000 in
theorem cr_c0_0 {j : Nat} {m M : Nat} {σ : Sg} (hM : σ 45 7 = nI M) (hM1 : M ≤ 160) (hm : m < M) (hj : j < 2147483648) (h : CM mX1_find [ar 72, ar 33, ai (nI m), ai (nI j)] σ (RelI (fun u σ1 => u = nI 0 ∧ FC σ σ1))) : CM mX9_correction [ar 0, ai (nI m), ai (nI j), ai (nI 0)] σ (CPQ σ (-1000004)) := by
  refine CM_in (ls := [some (ar 0), some (ai (nI m)), some (ai (nI j)), some (ai (nI 0))]) rfl ?_
  refine g_aload_n (p0 := 1) (i := 0) dX9_correction_0 rfl rfl rfl ?_
  refine g_getR (p0 := 4) dX9_correction_1 fX9_29 (by first | rfl | assumption | exact RW.s (by assumption) | exact TW.s (by assumption)) rfl rfl ?_
  refine g_iload_n (p0 := 5) (i := 1) dX9_correction_4 rfl rfl rfl ?_
  refine g_cV1R (p0 := 8) (r1 := mX6_hasMessage) dX9_correction_5 lX9_133 vX6_hasMessage (by first | rfl | assumption | exact RW.s (by assumption) | exact TW.s (by assumption)) ⟨_, _, rfl⟩ (FITi rfl rfl) (Nat.le_of_ble_eq_true rfl) (hasMessage_T hM hM1 hm) rfl ?_
  first | ((with_reducible refine isN1 ?_); refine g_ifN_eq (tgt := 24) (p1 := 11) dX9_correction_8 rfl (by omega) rfl (fun c_8 => by exfalso; first | omega | contradiction | exact absurd (by assumption) c_8 | (simp_all; done)) (fun c_8 => ?_)) | refine g_if_eq (tgt := 24) (p1 := 11) dX9_correction_8 rfl rfl (fun c_8 => by exfalso; first | omega | contradiction | exact absurd (by assumption) c_8 | (simp_all; done)) (fun c_8 => ?_)
  refine g_iload_n (p0 := 12) (i := 2) dX9_correction_11 rfl rfl rfl ?_
  first | ((with_reducible refine isN1 ?_); refine g_ifN_lt (tgt := 24) (p1 := 15) dX9_correction_12 rfl (by omega) rfl (fun c_12 => by exfalso; first | omega | contradiction | exact absurd (by assumption) c_12 | (simp_all; done)) (fun c_12 => ?_)) | refine g_if_lt (tgt := 24) (p1 := 15) dX9_correction_12 rfl rfl (fun c_12 => by exfalso; first | omega | contradiction | exact absurd (by assumption) c_12 | (simp_all; done)) (fun c_12 => ?_)
  refine g_iload_n (p0 := 16) (i := 3) dX9_correction_15 rfl rfl rfl ?_
  first | ((with_reducible refine isN1 ?_); refine g_ifN_lt (tgt := 24) (p1 := 19) dX9_correction_16 rfl (by omega) rfl (fun c_16 => by exfalso; first | omega | contradiction | exact absurd (by assumption) c_16 | (simp_all; done)) (fun c_16 => ?_)) | refine g_if_lt (tgt := 24) (p1 := 19) dX9_correction_16 rfl rfl (fun c_16 => by exfalso; first | omega | contradiction | exact absurd (by assumption) c_16 | (simp_all; done)) (fun c_16 => ?_)
  refine g_iload_n (p0 := 20) (i := 3) dX9_correction_19 rfl rfl rfl ?_
  refine g_iconst (p0 := 21) (v := nI 3) dX9_correction_20 rfl rfl ?_
  first | ((with_reducible refine isN2 ?_); refine g_icmpN_le (tgt := 27) (p1 := 24) dX9_correction_21 rfl (by omega) (by omega) rfl (fun c_21 => ?_) (fun c_21 => by exfalso; first | omega | contradiction | exact absurd (by assumption) c_21 | (simp_all; done))) | refine g_icmp_le (tgt := 27) (p1 := 24) dX9_correction_21 rfl rfl (fun c_21 => ?_) (fun c_21 => by exfalso; first | omega | contradiction | exact absurd (by assumption) c_21 | (simp_all; done))
  refine g_aload_n (p0 := 28) (i := 0) dX9_correction_27 rfl rfl rfl ?_
  refine g_getR (p0 := 31) dX9_correction_28 fX9_36 (by first | rfl | assumption | exact RW.s (by assumption) | exact TW.s (by assumption)) rfl rfl ?_
  refine g_aload_n (p0 := 32) (i := 0) dX9_correction_31 rfl rfl rfl ?_
  refine g_getR (p0 := 35) dX9_correction_32 fX9_29 (by first | rfl | assumption | exact RW.s (by assumption) | exact TW.s (by assumption)) rfl rfl ?_
  refine g_iload_n (p0 := 36) (i := 1) dX9_correction_35 rfl rfl rfl ?_
  refine g_iload_n (p0 := 37) (i := 2) dX9_correction_36 rfl rfl rfl ?_
  refine g_cV3I (p0 := 40) (r1 := mX1_find) dX9_correction_37 lX9_191 vX1_find (by first | rfl | assumption | exact RW.s (by assumption) | exact TW.s (by assumption)) ⟨_, _, rfl⟩ (FITi rfl rfl) (Nat.le_of_ble_eq_true rfl) (h) rfl ?_
  rintro u σ1 ⟨rfl, hfc⟩
  first | ((with_reducible refine isN1 ?_); refine g_ifN_ne (tgt := 46) (p1 := 43) dX9_correction_40 rfl (by omega) rfl (fun c_40 => by exfalso; first | omega | contradiction | exact absurd (by assumption) c_40 | (simp_all; done)) (fun c_40 => ?_)) | refine g_if_ne (tgt := 46) (p1 := 43) dX9_correction_40 rfl rfl (fun c_40 => by exfalso; first | omega | contradiction | exact absurd (by assumption) c_40 | (simp_all; done)) (fun c_40 => ?_)
  refine g_ldc (p0 := 45) dX9_correction_43 qX9_122 rfl ?_
  refine g_ireturn dX9_correction_45 rfl rfl (?_)
  exact ⟨rfl, hfc⟩
set_option maxRecDepth 20000 in
set_option maxHeartbeats 2000000 in
theorem cr_c1_0 {v : Int32} {j : Nat} {m M : Nat} {σ : Sg} (hM : σ 45 7 = nI M) (hM1 : M ≤ 160) (hm : m < M) (hj : j < 2147483648) (h : CM mX1_find [ar 72, ar 33, ai (nI m), ai (nI j)] σ (RelI (fun u σ1 => u = nI 1 ∧ FC σ σ1 ∧ σ1 72 0 = v))) : CM mX9_correction [ar 0, ai (nI m), ai (nI j), ai (nI 0)] σ (CPQ σ v) := by
  refine CM_in (ls := [some (ar 0), some (ai (nI m)), some (ai (nI j)), some (ai (nI 0))]) rfl ?_
  refine g_aload_n (p0 := 1) (i := 0) dX9_correction_0 rfl rfl rfl ?_
  refine g_getR (p0 := 4) dX9_correction_1 fX9_29 (by first | rfl | assumption | exact RW.s (by assumption) | exact TW.s (by assumption)) rfl rfl ?_
  refine g_iload_n (p0 := 5) (i := 1) dX9_correction_4 rfl rfl rfl ?_
  refine g_cV1R (p0 := 8) (r1 := mX6_hasMessage) dX9_correction_5 lX9_133 vX6_hasMessage (by first | rfl | assumption | exact RW.s (by assumption) | exact TW.s (by assumption)) ⟨_, _, rfl⟩ (FITi rfl rfl) (Nat.le_of_ble_eq_true rfl) (hasMessage_T hM hM1 hm) rfl ?_
  first | ((with_reducible refine isN1 ?_); refine g_ifN_eq (tgt := 24) (p1 := 11) dX9_correction_8 rfl (by omega) rfl (fun c_8 => by exfalso; first | omega | contradiction | exact absurd (by assumption) c_8 | (simp_all; done)) (fun c_8 => ?_)) | refine g_if_eq (tgt := 24) (p1 := 11) dX9_correction_8 rfl rfl (fun c_8 => by exfalso; first | omega | contradiction | exact absurd (by assumption) c_8 | (simp_all; done)) (fun c_8 => ?_)
  refine g_iload_n (p0 := 12) (i := 2) dX9_correction_11 rfl rfl rfl ?_
  first | ((with_reducible refine isN1 ?_); refine g_ifN_lt (tgt := 24) (p1 := 15) dX9_correction_12 rfl (by omega) rfl (fun c_12 => by exfalso; first | omega | contradiction | exact absurd (by assumption) c_12 | (simp_all; done)) (fun c_12 => ?_)) | refine g_if_lt (tgt := 24) (p1 := 15) dX9_correction_12 rfl rfl (fun c_12 => by exfalso; first | omega | contradiction | exact absurd (by assumption) c_12 | (simp_all; done)) (fun c_12 => ?_)
  refine g_iload_n (p0 := 16) (i := 3) dX9_correction_15 rfl rfl rfl ?_
  first | ((with_reducible refine isN1 ?_); refine g_ifN_lt (tgt := 24) (p1 := 19) dX9_correction_16 rfl (by omega) rfl (fun c_16 => by exfalso; first | omega | contradiction | exact absurd (by assumption) c_16 | (simp_all; done)) (fun c_16 => ?_)) | refine g_if_lt (tgt := 24) (p1 := 19) dX9_correction_16 rfl rfl (fun c_16 => by exfalso; first | omega | contradiction | exact absurd (by assumption) c_16 | (simp_all; done)) (fun c_16 => ?_)
  refine g_iload_n (p0 := 20) (i := 3) dX9_correction_19 rfl rfl rfl ?_
  refine g_iconst (p0 := 21) (v := nI 3) dX9_correction_20 rfl rfl ?_
  first | ((with_reducible refine isN2 ?_); refine g_icmpN_le (tgt := 27) (p1 := 24) dX9_correction_21 rfl (by omega) (by omega) rfl (fun c_21 => ?_) (fun c_21 => by exfalso; first | omega | contradiction | exact absurd (by assumption) c_21 | (simp_all; done))) | refine g_icmp_le (tgt := 27) (p1 := 24) dX9_correction_21 rfl rfl (fun c_21 => ?_) (fun c_21 => by exfalso; first | omega | contradiction | exact absurd (by assumption) c_21 | (simp_all; done))
  refine g_aload_n (p0 := 28) (i := 0) dX9_correction_27 rfl rfl rfl ?_
  refine g_getR (p0 := 31) dX9_correction_28 fX9_36 (by first | rfl | assumption | exact RW.s (by assumption) | exact TW.s (by assumption)) rfl rfl ?_
  refine g_aload_n (p0 := 32) (i := 0) dX9_correction_31 rfl rfl rfl ?_
  refine g_getR (p0 := 35) dX9_correction_32 fX9_29 (by first | rfl | assumption | exact RW.s (by assumption) | exact TW.s (by assumption)) rfl rfl ?_
  refine g_iload_n (p0 := 36) (i := 1) dX9_correction_35 rfl rfl rfl ?_
  refine g_iload_n (p0 := 37) (i := 2) dX9_correction_36 rfl rfl rfl ?_
  refine g_cV3I (p0 := 40) (r1 := mX1_find) dX9_correction_37 lX9_191 vX1_find (by first | rfl | assumption | exact RW.s (by assumption) | exact TW.s (by assumption)) ⟨_, _, rfl⟩ (FITi rfl rfl) (Nat.le_of_ble_eq_true rfl) (h) rfl ?_
  rintro u σ1 ⟨rfl, hfc, hv⟩
  first | ((with_reducible refine isN1 ?_); refine g_ifN_ne (tgt := 46) (p1 := 43) dX9_correction_40 rfl (by omega) rfl (fun c_40 => ?_) (fun c_40 => by exfalso; first | omega | contradiction | exact absurd (by assumption) c_40 | (simp_all; done))) | refine g_if_ne (tgt := 46) (p1 := 43) dX9_correction_40 rfl rfl (fun c_40 => ?_) (fun c_40 => by exfalso; first | omega | contradiction | exact absurd (by assumption) c_40 | (simp_all; done))
  refine g_iload_n (p0 := 47) (i := 3) dX9_correction_46 rfl rfl rfl ?_
  refine g_tabIn (tgt := 72) (off := 25) dX9_correction_47 (by decide) (by decide) (by decide +kernel) rfl ?_
  refine g_aload_n (p0 := 73) (i := 0) dX9_correction_72 rfl rfl rfl ?_
  refine g_getR (p0 := 76) dX9_correction_73 fX9_36 (by first | rfl | assumption | exact RW.s (by assumption) | exact TW.s (by assumption)) rfl rfl ?_
  refine g_getI (p0 := 79) dX9_correction_76 fX9_195 (by first | rfl | assumption | exact RW.s (by assumption) | exact TW.s (by assumption)) rfl (by first | assumption | ((repeat (first | exact up_hit | refine up_nv (by decide) ?_ | refine up_mv (by first | decide | omega) ?_)) <;> first | assumption | rfl)) rfl ?_
  refine g_ireturn dX9_correction_79 rfl rfl (?_)
  exact ⟨rfl, hfc⟩
set_option maxRecDepth 20000 in
set_option maxHeartbeats 2000000 in
theorem cr_c0_1 {j : Nat} {m M : Nat} {σ : Sg} (hM : σ 45 7 = nI M) (hM1 : M ≤ 160) (hm : m < M) (hj : j < 2147483648) (h : CM mX1_find [ar 72, ar 33, ai (nI m), ai (nI j)] σ (RelI (fun u σ1 => u = nI 0 ∧ FC σ σ1))) : CM mX9_correction [ar 0, ai (nI m), ai (nI j), ai (nI 1)] σ (CPQ σ (-1000004)) := by
  refine CM_in (ls := [some (ar 0), some (ai (nI m)), some (ai (nI j)), some (ai (nI 1))]) rfl ?_
  refine g_aload_n (p0 := 1) (i := 0) dX9_correction_0 rfl rfl rfl ?_
  refine g_getR (p0 := 4) dX9_correction_1 fX9_29 (by first | rfl | assumption | exact RW.s (by assumption) | exact TW.s (by assumption)) rfl rfl ?_
  refine g_iload_n (p0 := 5) (i := 1) dX9_correction_4 rfl rfl rfl ?_
  refine g_cV1R (p0 := 8) (r1 := mX6_hasMessage) dX9_correction_5 lX9_133 vX6_hasMessage (by first | rfl | assumption | exact RW.s (by assumption) | exact TW.s (by assumption)) ⟨_, _, rfl⟩ (FITi rfl rfl) (Nat.le_of_ble_eq_true rfl) (hasMessage_T hM hM1 hm) rfl ?_
  first | ((with_reducible refine isN1 ?_); refine g_ifN_eq (tgt := 24) (p1 := 11) dX9_correction_8 rfl (by omega) rfl (fun c_8 => by exfalso; first | omega | contradiction | exact absurd (by assumption) c_8 | (simp_all; done)) (fun c_8 => ?_)) | refine g_if_eq (tgt := 24) (p1 := 11) dX9_correction_8 rfl rfl (fun c_8 => by exfalso; first | omega | contradiction | exact absurd (by assumption) c_8 | (simp_all; done)) (fun c_8 => ?_)
  refine g_iload_n (p0 := 12) (i := 2) dX9_correction_11 rfl rfl rfl ?_
  first | ((with_reducible refine isN1 ?_); refine g_ifN_lt (tgt := 24) (p1 := 15) dX9_correction_12 rfl (by omega) rfl (fun c_12 => by exfalso; first | omega | contradiction | exact absurd (by assumption) c_12 | (simp_all; done)) (fun c_12 => ?_)) | refine g_if_lt (tgt := 24) (p1 := 15) dX9_correction_12 rfl rfl (fun c_12 => by exfalso; first | omega | contradiction | exact absurd (by assumption) c_12 | (simp_all; done)) (fun c_12 => ?_)
  refine g_iload_n (p0 := 16) (i := 3) dX9_correction_15 rfl rfl rfl ?_
  first | ((with_reducible refine isN1 ?_); refine g_ifN_lt (tgt := 24) (p1 := 19) dX9_correction_16 rfl (by omega) rfl (fun c_16 => by exfalso; first | omega | contradiction | exact absurd (by assumption) c_16 | (simp_all; done)) (fun c_16 => ?_)) | refine g_if_lt (tgt := 24) (p1 := 19) dX9_correction_16 rfl rfl (fun c_16 => by exfalso; first | omega | contradiction | exact absurd (by assumption) c_16 | (simp_all; done)) (fun c_16 => ?_)
  refine g_iload_n (p0 := 20) (i := 3) dX9_correction_19 rfl rfl rfl ?_
  refine g_iconst (p0 := 21) (v := nI 3) dX9_correction_20 rfl rfl ?_
  first | ((with_reducible refine isN2 ?_); refine g_icmpN_le (tgt := 27) (p1 := 24) dX9_correction_21 rfl (by omega) (by omega) rfl (fun c_21 => ?_) (fun c_21 => by exfalso; first | omega | contradiction | exact absurd (by assumption) c_21 | (simp_all; done))) | refine g_icmp_le (tgt := 27) (p1 := 24) dX9_correction_21 rfl rfl (fun c_21 => ?_) (fun c_21 => by exfalso; first | omega | contradiction | exact absurd (by assumption) c_21 | (simp_all; done))
  refine g_aload_n (p0 := 28) (i := 0) dX9_correction_27 rfl rfl rfl ?_
  refine g_getR (p0 := 31) dX9_correction_28 fX9_36 (by first | rfl | assumption | exact RW.s (by assumption) | exact TW.s (by assumption)) rfl rfl ?_
  refine g_aload_n (p0 := 32) (i := 0) dX9_correction_31 rfl rfl rfl ?_
  refine g_getR (p0 := 35) dX9_correction_32 fX9_29 (by first | rfl | assumption | exact RW.s (by assumption) | exact TW.s (by assumption)) rfl rfl ?_
  refine g_iload_n (p0 := 36) (i := 1) dX9_correction_35 rfl rfl rfl ?_
  refine g_iload_n (p0 := 37) (i := 2) dX9_correction_36 rfl rfl rfl ?_
  refine g_cV3I (p0 := 40) (r1 := mX1_find) dX9_correction_37 lX9_191 vX1_find (by first | rfl | assumption | exact RW.s (by assumption) | exact TW.s (by assumption)) ⟨_, _, rfl⟩ (FITi rfl rfl) (Nat.le_of_ble_eq_true rfl) (h) rfl ?_
  rintro u σ1 ⟨rfl, hfc⟩
  first | ((with_reducible refine isN1 ?_); refine g_ifN_ne (tgt := 46) (p1 := 43) dX9_correction_40 rfl (by omega) rfl (fun c_40 => by exfalso; first | omega | contradiction | exact absurd (by assumption) c_40 | (simp_all; done)) (fun c_40 => ?_)) | refine g_if_ne (tgt := 46) (p1 := 43) dX9_correction_40 rfl rfl (fun c_40 => by exfalso; first | omega | contradiction | exact absurd (by assumption) c_40 | (simp_all; done)) (fun c_40 => ?_)
  refine g_ldc (p0 := 45) dX9_correction_43 qX9_122 rfl ?_
  refine g_ireturn dX9_correction_45 rfl rfl (?_)
  exact ⟨rfl, hfc⟩
set_option maxRecDepth 20000 in
set_option maxHeartbeats 2000000 in
theorem cr_c1_1 {v : Int32} {j : Nat} {m M : Nat} {σ : Sg} (hM : σ 45 7 = nI M) (hM1 : M ≤ 160) (hm : m < M) (hj : j < 2147483648) (h : CM mX1_find [ar 72, ar 33, ai (nI m), ai (nI j)] σ (RelI (fun u σ1 => u = nI 1 ∧ FC σ σ1 ∧ σ1 72 1 = v))) : CM mX9_correction [ar 0, ai (nI m), ai (nI j), ai (nI 1)] σ (CPQ σ v) := by
  refine CM_in (ls := [some (ar 0), some (ai (nI m)), some (ai (nI j)), some (ai (nI 1))]) rfl ?_
  refine g_aload_n (p0 := 1) (i := 0) dX9_correction_0 rfl rfl rfl ?_
  refine g_getR (p0 := 4) dX9_correction_1 fX9_29 (by first | rfl | assumption | exact RW.s (by assumption) | exact TW.s (by assumption)) rfl rfl ?_
  refine g_iload_n (p0 := 5) (i := 1) dX9_correction_4 rfl rfl rfl ?_
  refine g_cV1R (p0 := 8) (r1 := mX6_hasMessage) dX9_correction_5 lX9_133 vX6_hasMessage (by first | rfl | assumption | exact RW.s (by assumption) | exact TW.s (by assumption)) ⟨_, _, rfl⟩ (FITi rfl rfl) (Nat.le_of_ble_eq_true rfl) (hasMessage_T hM hM1 hm) rfl ?_
  first | ((with_reducible refine isN1 ?_); refine g_ifN_eq (tgt := 24) (p1 := 11) dX9_correction_8 rfl (by omega) rfl (fun c_8 => by exfalso; first | omega | contradiction | exact absurd (by assumption) c_8 | (simp_all; done)) (fun c_8 => ?_)) | refine g_if_eq (tgt := 24) (p1 := 11) dX9_correction_8 rfl rfl (fun c_8 => by exfalso; first | omega | contradiction | exact absurd (by assumption) c_8 | (simp_all; done)) (fun c_8 => ?_)
  refine g_iload_n (p0 := 12) (i := 2) dX9_correction_11 rfl rfl rfl ?_
  first | ((with_reducible refine isN1 ?_); refine g_ifN_lt (tgt := 24) (p1 := 15) dX9_correction_12 rfl (by omega) rfl (fun c_12 => by exfalso; first | omega | contradiction | exact absurd (by assumption) c_12 | (simp_all; done)) (fun c_12 => ?_)) | refine g_if_lt (tgt := 24) (p1 := 15) dX9_correction_12 rfl rfl (fun c_12 => by exfalso; first | omega | contradiction | exact absurd (by assumption) c_12 | (simp_all; done)) (fun c_12 => ?_)
  refine g_iload_n (p0 := 16) (i := 3) dX9_correction_15 rfl rfl rfl ?_
  first | ((with_reducible refine isN1 ?_); refine g_ifN_lt (tgt := 24) (p1 := 19) dX9_correction_16 rfl (by omega) rfl (fun c_16 => by exfalso; first | omega | contradiction | exact absurd (by assumption) c_16 | (simp_all; done)) (fun c_16 => ?_)) | refine g_if_lt (tgt := 24) (p1 := 19) dX9_correction_16 rfl rfl (fun c_16 => by exfalso; first | omega | contradiction | exact absurd (by assumption) c_16 | (simp_all; done)) (fun c_16 => ?_)
  refine g_iload_n (p0 := 20) (i := 3) dX9_correction_19 rfl rfl rfl ?_
  refine g_iconst (p0 := 21) (v := nI 3) dX9_correction_20 rfl rfl ?_
  first | ((with_reducible refine isN2 ?_); refine g_icmpN_le (tgt := 27) (p1 := 24) dX9_correction_21 rfl (by omega) (by omega) rfl (fun c_21 => ?_) (fun c_21 => by exfalso; first | omega | contradiction | exact absurd (by assumption) c_21 | (simp_all; done))) | refine g_icmp_le (tgt := 27) (p1 := 24) dX9_correction_21 rfl rfl (fun c_21 => ?_) (fun c_21 => by exfalso; first | omega | contradiction | exact absurd (by assumption) c_21 | (simp_all; done))
  refine g_aload_n (p0 := 28) (i := 0) dX9_correction_27 rfl rfl rfl ?_
  refine g_getR (p0 := 31) dX9_correction_28 fX9_36 (by first | rfl | assumption | exact RW.s (by assumption) | exact TW.s (by assumption)) rfl rfl ?_
  refine g_aload_n (p0 := 32) (i := 0) dX9_correction_31 rfl rfl rfl ?_
  refine g_getR (p0 := 35) dX9_correction_32 fX9_29 (by first | rfl | assumption | exact RW.s (by assumption) | exact TW.s (by assumption)) rfl rfl ?_
  refine g_iload_n (p0 := 36) (i := 1) dX9_correction_35 rfl rfl rfl ?_
  refine g_iload_n (p0 := 37) (i := 2) dX9_correction_36 rfl rfl rfl ?_
  refine g_cV3I (p0 := 40) (r1 := mX1_find) dX9_correction_37 lX9_191 vX1_find (by first | rfl | assumption | exact RW.s (by assumption) | exact TW.s (by assumption)) ⟨_, _, rfl⟩ (FITi rfl rfl) (Nat.le_of_ble_eq_true rfl) (h) rfl ?_
  rintro u σ1 ⟨rfl, hfc, hv⟩
  first | ((with_reducible refine isN1 ?_); refine g_ifN_ne (tgt := 46) (p1 := 43) dX9_correction_40 rfl (by omega) rfl (fun c_40 => ?_) (fun c_40 => by exfalso; first | omega | contradiction | exact absurd (by assumption) c_40 | (simp_all; done))) | refine g_if_ne (tgt := 46) (p1 := 43) dX9_correction_40 rfl rfl (fun c_40 => ?_) (fun c_40 => by exfalso; first | omega | contradiction | exact absurd (by assumption) c_40 | (simp_all; done))
  refine g_iload_n (p0 := 47) (i := 3) dX9_correction_46 rfl rfl rfl ?_
  refine g_tabIn (tgt := 80) (off := 33) dX9_correction_47 (by decide) (by decide) (by decide +kernel) rfl ?_
  refine g_aload_n (p0 := 81) (i := 0) dX9_correction_80 rfl rfl rfl ?_
  refine g_getR (p0 := 84) dX9_correction_81 fX9_36 (by first | rfl | assumption | exact RW.s (by assumption) | exact TW.s (by assumption)) rfl rfl ?_
  refine g_getI (p0 := 87) dX9_correction_84 fX9_198 (by first | rfl | assumption | exact RW.s (by assumption) | exact TW.s (by assumption)) rfl (by first | assumption | ((repeat (first | exact up_hit | refine up_nv (by decide) ?_ | refine up_mv (by first | decide | omega) ?_)) <;> first | assumption | rfl)) rfl ?_
  refine g_ireturn dX9_correction_87 rfl rfl (?_)
  exact ⟨rfl, hfc⟩
set_option maxRecDepth 20000 in
set_option maxHeartbeats 2000000 in
theorem cr_c0_2 {j : Nat} {m M : Nat} {σ : Sg} (hM : σ 45 7 = nI M) (hM1 : M ≤ 160) (hm : m < M) (hj : j < 2147483648) (h : CM mX1_find [ar 72, ar 33, ai (nI m), ai (nI j)] σ (RelI (fun u σ1 => u = nI 0 ∧ FC σ σ1))) : CM mX9_correction [ar 0, ai (nI m), ai (nI j), ai (nI 2)] σ (CPQ σ (-1000004)) := by
  refine CM_in (ls := [some (ar 0), some (ai (nI m)), some (ai (nI j)), some (ai (nI 2))]) rfl ?_
  refine g_aload_n (p0 := 1) (i := 0) dX9_correction_0 rfl rfl rfl ?_
  refine g_getR (p0 := 4) dX9_correction_1 fX9_29 (by first | rfl | assumption | exact RW.s (by assumption) | exact TW.s (by assumption)) rfl rfl ?_
  refine g_iload_n (p0 := 5) (i := 1) dX9_correction_4 rfl rfl rfl ?_
  refine g_cV1R (p0 := 8) (r1 := mX6_hasMessage) dX9_correction_5 lX9_133 vX6_hasMessage (by first | rfl | assumption | exact RW.s (by assumption) | exact TW.s (by assumption)) ⟨_, _, rfl⟩ (FITi rfl rfl) (Nat.le_of_ble_eq_true rfl) (hasMessage_T hM hM1 hm) rfl ?_
  first | ((with_reducible refine isN1 ?_); refine g_ifN_eq (tgt := 24) (p1 := 11) dX9_correction_8 rfl (by omega) rfl (fun c_8 => by exfalso; first | omega | contradiction | exact absurd (by assumption) c_8 | (simp_all; done)) (fun c_8 => ?_)) | refine g_if_eq (tgt := 24) (p1 := 11) dX9_correction_8 rfl rfl (fun c_8 => by exfalso; first | omega | contradiction | exact absurd (by assumption) c_8 | (simp_all; done)) (fun c_8 => ?_)
  refine g_iload_n (p0 := 12) (i := 2) dX9_correction_11 rfl rfl rfl ?_
  first | ((with_reducible refine isN1 ?_); refine g_ifN_lt (tgt := 24) (p1 := 15) dX9_correction_12 rfl (by omega) rfl (fun c_12 => by exfalso; first | omega | contradiction | exact absurd (by assumption) c_12 | (simp_all; done)) (fun c_12 => ?_)) | refine g_if_lt (tgt := 24) (p1 := 15) dX9_correction_12 rfl rfl (fun c_12 => by exfalso; first | omega | contradiction | exact absurd (by assumption) c_12 | (simp_all; done)) (fun c_12 => ?_)
  refine g_iload_n (p0 := 16) (i := 3) dX9_correction_15 rfl rfl rfl ?_
  first | ((with_reducible refine isN1 ?_); refine g_ifN_lt (tgt := 24) (p1 := 19) dX9_correction_16 rfl (by omega) rfl (fun c_16 => by exfalso; first | omega | contradiction | exact absurd (by assumption) c_16 | (simp_all; done)) (fun c_16 => ?_)) | refine g_if_lt (tgt := 24) (p1 := 19) dX9_correction_16 rfl rfl (fun c_16 => by exfalso; first | omega | contradiction | exact absurd (by assumption) c_16 | (simp_all; done)) (fun c_16 => ?_)
  refine g_iload_n (p0 := 20) (i := 3) dX9_correction_19 rfl rfl rfl ?_
  refine g_iconst (p0 := 21) (v := nI 3) dX9_correction_20 rfl rfl ?_
  first | ((with_reducible refine isN2 ?_); refine g_icmpN_le (tgt := 27) (p1 := 24) dX9_correction_21 rfl (by omega) (by omega) rfl (fun c_21 => ?_) (fun c_21 => by exfalso; first | omega | contradiction | exact absurd (by assumption) c_21 | (simp_all; done))) | refine g_icmp_le (tgt := 27) (p1 := 24) dX9_correction_21 rfl rfl (fun c_21 => ?_) (fun c_21 => by exfalso; first | omega | contradiction | exact absurd (by assumption) c_21 | (simp_all; done))
  refine g_aload_n (p0 := 28) (i := 0) dX9_correction_27 rfl rfl rfl ?_
  refine g_getR (p0 := 31) dX9_correction_28 fX9_36 (by first | rfl | assumption | exact RW.s (by assumption) | exact TW.s (by assumption)) rfl rfl ?_
  refine g_aload_n (p0 := 32) (i := 0) dX9_correction_31 rfl rfl rfl ?_
  refine g_getR (p0 := 35) dX9_correction_32 fX9_29 (by first | rfl | assumption | exact RW.s (by assumption) | exact TW.s (by assumption)) rfl rfl ?_
  refine g_iload_n (p0 := 36) (i := 1) dX9_correction_35 rfl rfl rfl ?_
  refine g_iload_n (p0 := 37) (i := 2) dX9_correction_36 rfl rfl rfl ?_
  refine g_cV3I (p0 := 40) (r1 := mX1_find) dX9_correction_37 lX9_191 vX1_find (by first | rfl | assumption | exact RW.s (by assumption) | exact TW.s (by assumption)) ⟨_, _, rfl⟩ (FITi rfl rfl) (Nat.le_of_ble_eq_true rfl) (h) rfl ?_
  rintro u σ1 ⟨rfl, hfc⟩
  first | ((with_reducible refine isN1 ?_); refine g_ifN_ne (tgt := 46) (p1 := 43) dX9_correction_40 rfl (by omega) rfl (fun c_40 => by exfalso; first | omega | contradiction | exact absurd (by assumption) c_40 | (simp_all; done)) (fun c_40 => ?_)) | refine g_if_ne (tgt := 46) (p1 := 43) dX9_correction_40 rfl rfl (fun c_40 => by exfalso; first | omega | contradiction | exact absurd (by assumption) c_40 | (simp_all; done)) (fun c_40 => ?_)
  refine g_ldc (p0 := 45) dX9_correction_43 qX9_122 rfl ?_
  refine g_ireturn dX9_correction_45 rfl rfl (?_)
  exact ⟨rfl, hfc⟩
set_option maxRecDepth 20000 in
set_option maxHeartbeats 2000000 in
theorem cr_c1_20 {j : Nat} {m M : Nat} {σ : Sg} (hM : σ 45 7 = nI M) (hM1 : M ≤ 160) (hm : m < M) (hj : j < 2147483648) (h : CM mX1_find [ar 72, ar 33, ai (nI m), ai (nI j)] σ (RelI (fun u σ1 => u = nI 1 ∧ FC σ σ1 ∧ σ1 72 2 = (-1)))) : CM mX9_correction [ar 0, ai (nI m), ai (nI j), ai (nI 2)] σ (CPQ σ (nI 0)) := by
  refine CM_in (ls := [some (ar 0), some (ai (nI m)), some (ai (nI j)), some (ai (nI 2))]) rfl ?_
  refine g_aload_n (p0 := 1) (i := 0) dX9_correction_0 rfl rfl rfl ?_
  refine g_getR (p0 := 4) dX9_correction_1 fX9_29 (by first | rfl | assumption | exact RW.s (by assumption) | exact TW.s (by assumption)) rfl rfl ?_
  refine g_iload_n (p0 := 5) (i := 1) dX9_correction_4 rfl rfl rfl ?_
  refine g_cV1R (p0 := 8) (r1 := mX6_hasMessage) dX9_correction_5 lX9_133 vX6_hasMessage (by first | rfl | assumption | exact RW.s (by assumption) | exact TW.s (by assumption)) ⟨_, _, rfl⟩ (FITi rfl rfl) (Nat.le_of_ble_eq_true rfl) (hasMessage_T hM hM1 hm) rfl ?_
  first | ((with_reducible refine isN1 ?_); refine g_ifN_eq (tgt := 24) (p1 := 11) dX9_correction_8 rfl (by omega) rfl (fun c_8 => by exfalso; first | omega | contradiction | exact absurd h c_8 | exact h c_8 | exact c_8 h | exact c_8 (by decide)) (fun c_8 => ?_)) | refine g_if_eq (tgt := 24) (p1 := 11) dX9_correction_8 rfl rfl (fun c_8 => by exfalso; first | omega | contradiction | exact absurd h c_8 | exact h c_8 | exact c_8 h | exact c_8 (by decide)) (fun c_8 => ?_)
  refine g_iload_n (p0 := 12) (i := 2) dX9_correction_11 rfl rfl rfl ?_
  first | ((with_reducible refine isN1 ?_); refine g_ifN_lt (tgt := 24) (p1 := 15) dX9_correction_12 rfl (by omega) rfl (fun c_12 => by exfalso; first | omega | contradiction | exact absurd h c_12 | exact h c_12 | exact c_12 h | exact c_12 (by decide)) (fun c_12 => ?_)) | refine g_if_lt (tgt := 24) (p1 := 15) dX9_correction_12 rfl rfl (fun c_12 => by exfalso; first | omega | contradiction | exact absurd h c_12 | exact h c_12 | exact c_12 h | exact c_12 (by decide)) (fun c_12 => ?_)
  refine g_iload_n (p0 := 16) (i := 3) dX9_correction_15 rfl rfl rfl ?_
  first | ((with_reducible refine isN1 ?_); refine g_ifN_lt (tgt := 24) (p1 := 19) dX9_correction_16 rfl (by omega) rfl (fun c_16 => by exfalso; first | omega | contradiction | exact absurd h c_16 | exact h c_16 | exact c_16 h | exact c_16 (by decide)) (fun c_16 => ?_)) | refine g_if_lt (tgt := 24) (p1 := 19) dX9_correction_16 rfl rfl (fun c_16 => by exfalso; first | omega | contradiction | exact absurd h c_16 | exact h c_16 | exact c_16 h | exact c_16 (by decide)) (fun c_16 => ?_)
  refine g_iload_n (p0 := 20) (i := 3) dX9_correction_19 rfl rfl rfl ?_
  refine g_iconst (p0 := 21) (v := nI 3) dX9_correction_20 rfl rfl ?_
  first | ((with_reducible refine isN2 ?_); refine g_icmpN_le (tgt := 27) (p1 := 24) dX9_correction_21 rfl (by omega) (by omega) rfl (fun c_21 => ?_) (fun c_21 => by exfalso; first | omega | contradiction | exact absurd h c_21 | exact h c_21 | exact c_21 h | exact c_21 (by decide))) | refine g_icmp_le (tgt := 27) (p1 := 24) dX9_correction_21 rfl rfl (fun c_21 => ?_) (fun c_21 => by exfalso; first | omega | contradiction | exact absurd h c_21 | exact h c_21 | exact c_21 h | exact c_21 (by decide))
  refine g_aload_n (p0 := 28) (i := 0) dX9_correction_27 rfl rfl rfl ?_
  refine g_getR (p0 := 31) dX9_correction_28 fX9_36 (by first | rfl | assumption | exact RW.s (by assumption) | exact TW.s (by assumption)) rfl rfl ?_
  refine g_aload_n (p0 := 32) (i := 0) dX9_correction_31 rfl rfl rfl ?_
  refine g_getR (p0 := 35) dX9_correction_32 fX9_29 (by first | rfl | assumption | exact RW.s (by assumption) | exact TW.s (by assumption)) rfl rfl ?_
  refine g_iload_n (p0 := 36) (i := 1) dX9_correction_35 rfl rfl rfl ?_
  refine g_iload_n (p0 := 37) (i := 2) dX9_correction_36 rfl rfl rfl ?_
  refine g_cV3I (p0 := 40) (r1 := mX1_find) dX9_correction_37 lX9_191 vX1_find (by first | rfl | assumption | exact RW.s (by assumption) | exact TW.s (by assumption)) ⟨_, _, rfl⟩ (FITi rfl rfl) (Nat.le_of_ble_eq_true rfl) (h) rfl ?_
  rintro u σ1 ⟨rfl, hfc, hv⟩
  first | ((with_reducible refine isN1 ?_); refine g_ifN_ne (tgt := 46) (p1 := 43) dX9_correction_40 rfl (by omega) rfl (fun c_40 => ?_) (fun c_40 => by exfalso; first | omega | contradiction | exact absurd h c_40 | exact h c_40 | exact c_40 h | exact c_40 (by decide))) | refine g_if_ne (tgt := 46) (p1 := 43) dX9_correction_40 rfl rfl (fun c_40 => ?_) (fun c_40 => by exfalso; first | omega | contradiction | exact absurd h c_40 | exact h c_40 | exact c_40 h | exact c_40 (by decide))
  refine g_iload_n (p0 := 47) (i := 3) dX9_correction_46 rfl rfl rfl ?_
  refine g_tabIn (tgt := 88) (off := 41) dX9_correction_47 (by decide) (by decide) (by decide +kernel) rfl ?_
  refine g_aload_n (p0 := 89) (i := 0) dX9_correction_88 rfl rfl rfl ?_
  refine g_getR (p0 := 92) dX9_correction_89 fX9_36 (by first | rfl | assumption | exact RW.s (by assumption) | exact TW.s (by assumption)) rfl rfl ?_
  refine g_getI (p0 := 95) dX9_correction_92 fX9_201 (by first | rfl | assumption | exact RW.s (by assumption) | exact TW.s (by assumption)) rfl (by first | assumption | ((repeat (first | exact up_hit | refine up_nv (by decide) ?_ | refine up_mv (by first | decide | omega) ?_)) <;> first | assumption | rfl)) rfl ?_
  first | ((with_reducible refine isN1 ?_); refine g_ifN_le (tgt := 102) (p1 := 98) dX9_correction_95 rfl (by omega) rfl (fun c_95 => ?_) (fun c_95 => by exfalso; first | omega | contradiction | exact absurd h c_95 | exact h c_95 | exact c_95 h | exact c_95 (by decide))) | refine g_if_le (tgt := 102) (p1 := 98) dX9_correction_95 rfl rfl (fun c_95 => ?_) (fun c_95 => by exfalso; first | omega | contradiction | exact absurd h c_95 | exact h c_95 | exact c_95 h | exact c_95 (by decide))
  refine g_iconst (p0 := 103) (v := nI 0) dX9_correction_102 rfl rfl ?_
  refine g_ireturn dX9_correction_103 rfl rfl (?_)
  exact ⟨rfl, hfc⟩
set_option maxRecDepth 20000 in
set_option maxHeartbeats 2000000 in
theorem cr_c1_21 {j : Nat} {m M : Nat} {σ : Sg} (hM : σ 45 7 = nI M) (hM1 : M ≤ 160) (hm : m < M) (hj : j < 2147483648) (h : CM mX1_find [ar 72, ar 33, ai (nI m), ai (nI j)] σ (RelI (fun u σ1 => u = nI 1 ∧ FC σ σ1 ∧ σ1 72 2 = nI 1))) : CM mX9_correction [ar 0, ai (nI m), ai (nI j), ai (nI 2)] σ (CPQ σ (nI 1)) := by
  refine CM_in (ls := [some (ar 0), some (ai (nI m)), some (ai (nI j)), some (ai (nI 2))]) rfl ?_
  refine g_aload_n (p0 := 1) (i := 0) dX9_correction_0 rfl rfl rfl ?_
  refine g_getR (p0 := 4) dX9_correction_1 fX9_29 (by first | rfl | assumption | exact RW.s (by assumption) | exact TW.s (by assumption)) rfl rfl ?_
  refine g_iload_n (p0 := 5) (i := 1) dX9_correction_4 rfl rfl rfl ?_
  refine g_cV1R (p0 := 8) (r1 := mX6_hasMessage) dX9_correction_5 lX9_133 vX6_hasMessage (by first | rfl | assumption | exact RW.s (by assumption) | exact TW.s (by assumption)) ⟨_, _, rfl⟩ (FITi rfl rfl) (Nat.le_of_ble_eq_true rfl) (hasMessage_T hM hM1 hm) rfl ?_
  first | ((with_reducible refine isN1 ?_); refine g_ifN_eq (tgt := 24) (p1 := 11) dX9_correction_8 rfl (by omega) rfl (fun c_8 => by exfalso; first | omega | contradiction | exact absurd h c_8 | exact h c_8 | exact c_8 h | exact c_8 (by decide)) (fun c_8 => ?_)) | refine g_if_eq (tgt := 24) (p1 := 11) dX9_correction_8 rfl rfl (fun c_8 => by exfalso; first | omega | contradiction | exact absurd h c_8 | exact h c_8 | exact c_8 h | exact c_8 (by decide)) (fun c_8 => ?_)
  refine g_iload_n (p0 := 12) (i := 2) dX9_correction_11 rfl rfl rfl ?_
  first | ((with_reducible refine isN1 ?_); refine g_ifN_lt (tgt := 24) (p1 := 15) dX9_correction_12 rfl (by omega) rfl (fun c_12 => by exfalso; first | omega | contradiction | exact absurd h c_12 | exact h c_12 | exact c_12 h | exact c_12 (by decide)) (fun c_12 => ?_)) | refine g_if_lt (tgt := 24) (p1 := 15) dX9_correction_12 rfl rfl (fun c_12 => by exfalso; first | omega | contradiction | exact absurd h c_12 | exact h c_12 | exact c_12 h | exact c_12 (by decide)) (fun c_12 => ?_)
  refine g_iload_n (p0 := 16) (i := 3) dX9_correction_15 rfl rfl rfl ?_
  first | ((with_reducible refine isN1 ?_); refine g_ifN_lt (tgt := 24) (p1 := 19) dX9_correction_16 rfl (by omega) rfl (fun c_16 => by exfalso; first | omega | contradiction | exact absurd h c_16 | exact h c_16 | exact c_16 h | exact c_16 (by decide)) (fun c_16 => ?_)) | refine g_if_lt (tgt := 24) (p1 := 19) dX9_correction_16 rfl rfl (fun c_16 => by exfalso; first | omega | contradiction | exact absurd h c_16 | exact h c_16 | exact c_16 h | exact c_16 (by decide)) (fun c_16 => ?_)
  refine g_iload_n (p0 := 20) (i := 3) dX9_correction_19 rfl rfl rfl ?_
  refine g_iconst (p0 := 21) (v := nI 3) dX9_correction_20 rfl rfl ?_
  first | ((with_reducible refine isN2 ?_); refine g_icmpN_le (tgt := 27) (p1 := 24) dX9_correction_21 rfl (by omega) (by omega) rfl (fun c_21 => ?_) (fun c_21 => by exfalso; first | omega | contradiction | exact absurd h c_21 | exact h c_21 | exact c_21 h | exact c_21 (by decide))) | refine g_icmp_le (tgt := 27) (p1 := 24) dX9_correction_21 rfl rfl (fun c_21 => ?_) (fun c_21 => by exfalso; first | omega | contradiction | exact absurd h c_21 | exact h c_21 | exact c_21 h | exact c_21 (by decide))
  refine g_aload_n (p0 := 28) (i := 0) dX9_correction_27 rfl rfl rfl ?_
  refine g_getR (p0 := 31) dX9_correction_28 fX9_36 (by first | rfl | assumption | exact RW.s (by assumption) | exact TW.s (by assumption)) rfl rfl ?_
  refine g_aload_n (p0 := 32) (i := 0) dX9_correction_31 rfl rfl rfl ?_
  refine g_getR (p0 := 35) dX9_correction_32 fX9_29 (by first | rfl | assumption | exact RW.s (by assumption) | exact TW.s (by assumption)) rfl rfl ?_
  refine g_iload_n (p0 := 36) (i := 1) dX9_correction_35 rfl rfl rfl ?_
  refine g_iload_n (p0 := 37) (i := 2) dX9_correction_36 rfl rfl rfl ?_
  refine g_cV3I (p0 := 40) (r1 := mX1_find) dX9_correction_37 lX9_191 vX1_find (by first | rfl | assumption | exact RW.s (by assumption) | exact TW.s (by assumption)) ⟨_, _, rfl⟩ (FITi rfl rfl) (Nat.le_of_ble_eq_true rfl) (h) rfl ?_
  rintro u σ1 ⟨rfl, hfc, hv⟩
  first | ((with_reducible refine isN1 ?_); refine g_ifN_ne (tgt := 46) (p1 := 43) dX9_correction_40 rfl (by omega) rfl (fun c_40 => ?_) (fun c_40 => by exfalso; first | omega | contradiction | exact absurd h c_40 | exact h c_40 | exact c_40 h | exact c_40 (by decide))) | refine g_if_ne (tgt := 46) (p1 := 43) dX9_correction_40 rfl rfl (fun c_40 => ?_) (fun c_40 => by exfalso; first | omega | contradiction | exact absurd h c_40 | exact h c_40 | exact c_40 h | exact c_40 (by decide))
  refine g_iload_n (p0 := 47) (i := 3) dX9_correction_46 rfl rfl rfl ?_
  refine g_tabIn (tgt := 88) (off := 41) dX9_correction_47 (by decide) (by decide) (by decide +kernel) rfl ?_
  refine g_aload_n (p0 := 89) (i := 0) dX9_correction_88 rfl rfl rfl ?_
  refine g_getR (p0 := 92) dX9_correction_89 fX9_36 (by first | rfl | assumption | exact RW.s (by assumption) | exact TW.s (by assumption)) rfl rfl ?_
  refine g_getI (p0 := 95) dX9_correction_92 fX9_201 (by first | rfl | assumption | exact RW.s (by assumption) | exact TW.s (by assumption)) rfl (by first | assumption | ((repeat (first | exact up_hit | refine up_nv (by decide) ?_ | refine up_mv (by first | decide | omega) ?_)) <;> first | assumption | rfl)) rfl ?_
  first | ((with_reducible refine isN1 ?_); refine g_ifN_le (tgt := 102) (p1 := 98) dX9_correction_95 rfl (by omega) rfl (fun c_95 => by exfalso; first | omega | contradiction | exact absurd h c_95 | exact h c_95 | exact c_95 h | exact c_95 (by decide)) (fun c_95 => ?_)) | refine g_if_le (tgt := 102) (p1 := 98) dX9_correction_95 rfl rfl (fun c_95 => by exfalso; first | omega | contradiction | exact absurd h c_95 | exact h c_95 | exact c_95 h | exact c_95 (by decide)) (fun c_95 => ?_)
  refine g_iconst (p0 := 99) (v := nI 1) dX9_correction_98 rfl rfl ?_
  refine g_goto (tgt := 103) dX9_correction_99 rfl ?_
  refine g_ireturn dX9_correction_103 rfl rfl (?_)
  exact ⟨rfl, hfc⟩
set_option maxRecDepth 20000 in
set_option maxHeartbeats 2000000 in
theorem cr_c0_3 {j : Nat} {m M : Nat} {σ : Sg} (hM : σ 45 7 = nI M) (hM1 : M ≤ 160) (hm : m < M) (hj : j < 2147483648) (h : CM mX1_find [ar 72, ar 33, ai (nI m), ai (nI j)] σ (RelI (fun u σ1 => u = nI 0 ∧ FC σ σ1))) : CM mX9_correction [ar 0, ai (nI m), ai (nI j), ai (nI 3)] σ (CPQ σ (-1000004)) := by
  refine CM_in (ls := [some (ar 0), some (ai (nI m)), some (ai (nI j)), some (ai (nI 3))]) rfl ?_
  refine g_aload_n (p0 := 1) (i := 0) dX9_correction_0 rfl rfl rfl ?_
  refine g_getR (p0 := 4) dX9_correction_1 fX9_29 (by first | rfl | assumption | exact RW.s (by assumption) | exact TW.s (by assumption)) rfl rfl ?_
  refine g_iload_n (p0 := 5) (i := 1) dX9_correction_4 rfl rfl rfl ?_
  refine g_cV1R (p0 := 8) (r1 := mX6_hasMessage) dX9_correction_5 lX9_133 vX6_hasMessage (by first | rfl | assumption | exact RW.s (by assumption) | exact TW.s (by assumption)) ⟨_, _, rfl⟩ (FITi rfl rfl) (Nat.le_of_ble_eq_true rfl) (hasMessage_T hM hM1 hm) rfl ?_
  first | ((with_reducible refine isN1 ?_); refine g_ifN_eq (tgt := 24) (p1 := 11) dX9_correction_8 rfl (by omega) rfl (fun c_8 => by exfalso; first | omega | contradiction | exact absurd (by assumption) c_8 | (simp_all; done)) (fun c_8 => ?_)) | refine g_if_eq (tgt := 24) (p1 := 11) dX9_correction_8 rfl rfl (fun c_8 => by exfalso; first | omega | contradiction | exact absurd (by assumption) c_8 | (simp_all; done)) (fun c_8 => ?_)
  refine g_iload_n (p0 := 12) (i := 2) dX9_correction_11 rfl rfl rfl ?_
  first | ((with_reducible refine isN1 ?_); refine g_ifN_lt (tgt := 24) (p1 := 15) dX9_correction_12 rfl (by omega) rfl (fun c_12 => by exfalso; first | omega | contradiction | exact absurd (by assumption) c_12 | (simp_all; done)) (fun c_12 => ?_)) | refine g_if_lt (tgt := 24) (p1 := 15) dX9_correction_12 rfl rfl (fun c_12 => by exfalso; first | omega | contradiction | exact absurd (by assumption) c_12 | (simp_all; done)) (fun c_12 => ?_)
  refine g_iload_n (p0 := 16) (i := 3) dX9_correction_15 rfl rfl rfl ?_
  first | ((with_reducible refine isN1 ?_); refine g_ifN_lt (tgt := 24) (p1 := 19) dX9_correction_16 rfl (by omega) rfl (fun c_16 => by exfalso; first | omega | contradiction | exact absurd (by assumption) c_16 | (simp_all; done)) (fun c_16 => ?_)) | refine g_if_lt (tgt := 24) (p1 := 19) dX9_correction_16 rfl rfl (fun c_16 => by exfalso; first | omega | contradiction | exact absurd (by assumption) c_16 | (simp_all; done)) (fun c_16 => ?_)
  refine g_iload_n (p0 := 20) (i := 3) dX9_correction_19 rfl rfl rfl ?_
  refine g_iconst (p0 := 21) (v := nI 3) dX9_correction_20 rfl rfl ?_
  first | ((with_reducible refine isN2 ?_); refine g_icmpN_le (tgt := 27) (p1 := 24) dX9_correction_21 rfl (by omega) (by omega) rfl (fun c_21 => ?_) (fun c_21 => by exfalso; first | omega | contradiction | exact absurd (by assumption) c_21 | (simp_all; done))) | refine g_icmp_le (tgt := 27) (p1 := 24) dX9_correction_21 rfl rfl (fun c_21 => ?_) (fun c_21 => by exfalso; first | omega | contradiction | exact absurd (by assumption) c_21 | (simp_all; done))
  refine g_aload_n (p0 := 28) (i := 0) dX9_correction_27 rfl rfl rfl ?_
  refine g_getR (p0 := 31) dX9_correction_28 fX9_36 (by first | rfl | assumption | exact RW.s (by assumption) | exact TW.s (by assumption)) rfl rfl ?_
  refine g_aload_n (p0 := 32) (i := 0) dX9_correction_31 rfl rfl rfl ?_
  refine g_getR (p0 := 35) dX9_correction_32 fX9_29 (by first | rfl | assumption | exact RW.s (by assumption) | exact TW.s (by assumption)) rfl rfl ?_
  refine g_iload_n (p0 := 36) (i := 1) dX9_correction_35 rfl rfl rfl ?_
  refine g_iload_n (p0 := 37) (i := 2) dX9_correction_36 rfl rfl rfl ?_
  refine g_cV3I (p0 := 40) (r1 := mX1_find) dX9_correction_37 lX9_191 vX1_find (by first | rfl | assumption | exact RW.s (by assumption) | exact TW.s (by assumption)) ⟨_, _, rfl⟩ (FITi rfl rfl) (Nat.le_of_ble_eq_true rfl) (h) rfl ?_
  rintro u σ1 ⟨rfl, hfc⟩
  first | ((with_reducible refine isN1 ?_); refine g_ifN_ne (tgt := 46) (p1 := 43) dX9_correction_40 rfl (by omega) rfl (fun c_40 => by exfalso; first | omega | contradiction | exact absurd (by assumption) c_40 | (simp_all; done)) (fun c_40 => ?_)) | refine g_if_ne (tgt := 46) (p1 := 43) dX9_correction_40 rfl rfl (fun c_40 => by exfalso; first | omega | contradiction | exact absurd (by assumption) c_40 | (simp_all; done)) (fun c_40 => ?_)
  refine g_ldc (p0 := 45) dX9_correction_43 qX9_122 rfl ?_
  refine g_ireturn dX9_correction_45 rfl rfl (?_)
  exact ⟨rfl, hfc⟩
set_option maxRecDepth 20000 in
set_option maxHeartbeats 2000000 in
theorem cr_c1_3 {v : Int32} {j : Nat} {m M : Nat} {σ : Sg} (hM : σ 45 7 = nI M) (hM1 : M ≤ 160) (hm : m < M) (hj : j < 2147483648) (h : CM mX1_find [ar 72, ar 33, ai (nI m), ai (nI j)] σ (RelI (fun u σ1 => u = nI 1 ∧ FC σ σ1 ∧ σ1 72 3 = v))) : CM mX9_correction [ar 0, ai (nI m), ai (nI j), ai (nI 3)] σ (CPQ σ v) := by
  refine CM_in (ls := [some (ar 0), some (ai (nI m)), some (ai (nI j)), some (ai (nI 3))]) rfl ?_
  refine g_aload_n (p0 := 1) (i := 0) dX9_correction_0 rfl rfl rfl ?_
  refine g_getR (p0 := 4) dX9_correction_1 fX9_29 (by first | rfl | assumption | exact RW.s (by assumption) | exact TW.s (by assumption)) rfl rfl ?_
  refine g_iload_n (p0 := 5) (i := 1) dX9_correction_4 rfl rfl rfl ?_
  refine g_cV1R (p0 := 8) (r1 := mX6_hasMessage) dX9_correction_5 lX9_133 vX6_hasMessage (by first | rfl | assumption | exact RW.s (by assumption) | exact TW.s (by assumption)) ⟨_, _, rfl⟩ (FITi rfl rfl) (Nat.le_of_ble_eq_true rfl) (hasMessage_T hM hM1 hm) rfl ?_
  first | ((with_reducible refine isN1 ?_); refine g_ifN_eq (tgt := 24) (p1 := 11) dX9_correction_8 rfl (by omega) rfl (fun c_8 => by exfalso; first | omega | contradiction | exact absurd (by assumption) c_8 | (simp_all; done)) (fun c_8 => ?_)) | refine g_if_eq (tgt := 24) (p1 := 11) dX9_correction_8 rfl rfl (fun c_8 => by exfalso; first | omega | contradiction | exact absurd (by assumption) c_8 | (simp_all; done)) (fun c_8 => ?_)
  refine g_iload_n (p0 := 12) (i := 2) dX9_correction_11 rfl rfl rfl ?_
  first | ((with_reducible refine isN1 ?_); refine g_ifN_lt (tgt := 24) (p1 := 15) dX9_correction_12 rfl (by omega) rfl (fun c_12 => by exfalso; first | omega | contradiction | exact absurd (by assumption) c_12 | (simp_all; done)) (fun c_12 => ?_)) | refine g_if_lt (tgt := 24) (p1 := 15) dX9_correction_12 rfl rfl (fun c_12 => by exfalso; first | omega | contradiction | exact absurd (by assumption) c_12 | (simp_all; done)) (fun c_12 => ?_)
  refine g_iload_n (p0 := 16) (i := 3) dX9_correction_15 rfl rfl rfl ?_
  first | ((with_reducible refine isN1 ?_); refine g_ifN_lt (tgt := 24) (p1 := 19) dX9_correction_16 rfl (by omega) rfl (fun c_16 => by exfalso; first | omega | contradiction | exact absurd (by assumption) c_16 | (simp_all; done)) (fun c_16 => ?_)) | refine g_if_lt (tgt := 24) (p1 := 19) dX9_correction_16 rfl rfl (fun c_16 => by exfalso; first | omega | contradiction | exact absurd (by assumption) c_16 | (simp_all; done)) (fun c_16 => ?_)
  refine g_iload_n (p0 := 20) (i := 3) dX9_correction_19 rfl rfl rfl ?_
  refine g_iconst (p0 := 21) (v := nI 3) dX9_correction_20 rfl rfl ?_
  first | ((with_reducible refine isN2 ?_); refine g_icmpN_le (tgt := 27) (p1 := 24) dX9_correction_21 rfl (by omega) (by omega) rfl (fun c_21 => ?_) (fun c_21 => by exfalso; first | omega | contradiction | exact absurd (by assumption) c_21 | (simp_all; done))) | refine g_icmp_le (tgt := 27) (p1 := 24) dX9_correction_21 rfl rfl (fun c_21 => ?_) (fun c_21 => by exfalso; first | omega | contradiction | exact absurd (by assumption) c_21 | (simp_all; done))
  refine g_aload_n (p0 := 28) (i := 0) dX9_correction_27 rfl rfl rfl ?_
  refine g_getR (p0 := 31) dX9_correction_28 fX9_36 (by first | rfl | assumption | exact RW.s (by assumption) | exact TW.s (by assumption)) rfl rfl ?_
  refine g_aload_n (p0 := 32) (i := 0) dX9_correction_31 rfl rfl rfl ?_
  refine g_getR (p0 := 35) dX9_correction_32 fX9_29 (by first | rfl | assumption | exact RW.s (by assumption) | exact TW.s (by assumption)) rfl rfl ?_
  refine g_iload_n (p0 := 36) (i := 1) dX9_correction_35 rfl rfl rfl ?_
  refine g_iload_n (p0 := 37) (i := 2) dX9_correction_36 rfl rfl rfl ?_
  refine g_cV3I (p0 := 40) (r1 := mX1_find) dX9_correction_37 lX9_191 vX1_find (by first | rfl | assumption | exact RW.s (by assumption) | exact TW.s (by assumption)) ⟨_, _, rfl⟩ (FITi rfl rfl) (Nat.le_of_ble_eq_true rfl) (h) rfl ?_
  rintro u σ1 ⟨rfl, hfc, hv⟩
  first | ((with_reducible refine isN1 ?_); refine g_ifN_ne (tgt := 46) (p1 := 43) dX9_correction_40 rfl (by omega) rfl (fun c_40 => ?_) (fun c_40 => by exfalso; first | omega | contradiction | exact absurd (by assumption) c_40 | (simp_all; done))) | refine g_if_ne (tgt := 46) (p1 := 43) dX9_correction_40 rfl rfl (fun c_40 => ?_) (fun c_40 => by exfalso; first | omega | contradiction | exact absurd (by assumption) c_40 | (simp_all; done))
  refine g_iload_n (p0 := 47) (i := 3) dX9_correction_46 rfl rfl rfl ?_
  refine g_tabOut (tgt := 104) dX9_correction_47 (by decide) rfl ?_
  refine g_aload_n (p0 := 105) (i := 0) dX9_correction_104 rfl rfl rfl ?_
  refine g_getR (p0 := 108) dX9_correction_105 fX9_36 (by first | rfl | assumption | exact RW.s (by assumption) | exact TW.s (by assumption)) rfl rfl ?_
  refine g_getI (p0 := 111) dX9_correction_108 fX9_204 (by first | rfl | assumption | exact RW.s (by assumption) | exact TW.s (by assumption)) rfl (by first | assumption | ((repeat (first | exact up_hit | refine up_nv (by decide) ?_ | refine up_mv (by first | decide | omega) ?_)) <;> first | assumption | rfl)) rfl ?_
  refine g_ireturn dX9_correction_111 rfl rfl (?_)
  exact ⟨rfl, hfc⟩
set_option maxRecDepth 20000 in
set_option maxHeartbeats 2000000 in
theorem cr_rF {P : Sg → Prop} {x y z : Int32} {σ : Sg} (hly : CM mX10_lays [ar 79] σ (RelV (fun σ' => P σ' ∧ FRl σ σ'))) (him : ∀ σ', P σ' → CM mX10_isMessage [ar 79, ai x] σ' (Ret (nI 0) σ')) : CM mX10_correction [ar 79, ai x, ai y, ai z] σ (RPQ σ (-1000001)) := by
  refine CM_in (ls := [some (ar 79), some (ai x), some (ai y), some (ai z)]) rfl ?_
  refine g_aload_n (p0 := 1) (i := 0) dX10_correction_0 rfl rfl rfl ?_
  refine g_cV0P (p0 := 4) (r1 := mX10_lays) dX10_correction_1 lX10_151 vX10_lays (by first | rfl | assumption | exact RW.s (by assumption) | exact TW.s (by assumption)) ⟨_, _, rfl⟩ (FITi rfl rfl) (Nat.le_of_ble_eq_true rfl) (hly) rfl ?_
  rintro σ1 ⟨hP, hf⟩
  refine g_aload_n (p0 := 5) (i := 0) dX10_correction_4 rfl rfl rfl ?_
  refine g_iload_n (p0 := 6) (i := 1) dX10_correction_5 rfl rfl rfl ?_
  refine g_cV1R (p0 := 9) (r1 := mX10_isMessage) dX10_correction_6 lX10_158 vX10_isMessage (by first | rfl | assumption | exact RW.s (by assumption) | exact TW.s (by assumption)) ⟨_, _, rfl⟩ (FITi rfl rfl) (Nat.le_of_ble_eq_true rfl) (him _ hP) rfl ?_
  first | ((with_reducible refine isN1 ?_); refine g_ifN_eq (tgt := 25) (p1 := 12) dX10_correction_9 rfl (by omega) rfl (fun c_9 => ?_) (fun c_9 => by exfalso; first | omega | contradiction | exact absurd (by assumption) c_9 | (simp_all; done))) | refine g_if_eq (tgt := 25) (p1 := 12) dX10_correction_9 rfl rfl (fun c_9 => ?_) (fun c_9 => by exfalso; first | omega | contradiction | exact absurd (by assumption) c_9 | (simp_all; done))
  refine g_ldc (p0 := 27) dX10_correction_25 qX10_76 rfl ?_
  refine g_ireturn dX10_correction_27 rfl rfl (?_)
  exact ⟨rfl, hf.fq⟩
set_option maxRecDepth 20000 in
set_option maxHeartbeats 2000000 in
theorem cr_ri {P : Sg → Prop} {m : Nat} {x y : Int32} {σ : Sg} (hly : CM mX10_lays [ar 79] σ (RelV (fun σ' => P σ' ∧ FRl σ σ'))) (him : ∀ σ', P σ' → CM mX10_isMessage [ar 79, ai (nI m)] σ' (Ret (nI 1) σ')) (h : x < 0) : CM mX10_correction [ar 79, ai (nI m), ai x, ai y] σ (RPQ σ (-1000001)) := by
  refine CM_in (ls := [some (ar 79), some (ai (nI m)), some (ai x), some (ai y)]) rfl ?_
  refine g_aload_n (p0 := 1) (i := 0) dX10_correction_0 rfl rfl rfl ?_
  refine g_cV0P (p0 := 4) (r1 := mX10_lays) dX10_correction_1 lX10_151 vX10_lays (by first | rfl | assumption | exact RW.s (by assumption) | exact TW.s (by assumption)) ⟨_, _, rfl⟩ (FITi rfl rfl) (Nat.le_of_ble_eq_true rfl) (hly) rfl ?_
  rintro σ1 ⟨hP, hf⟩
  refine g_aload_n (p0 := 5) (i := 0) dX10_correction_4 rfl rfl rfl ?_
  refine g_iload_n (p0 := 6) (i := 1) dX10_correction_5 rfl rfl rfl ?_
  refine g_cV1R (p0 := 9) (r1 := mX10_isMessage) dX10_correction_6 lX10_158 vX10_isMessage (by first | rfl | assumption | exact RW.s (by assumption) | exact TW.s (by assumption)) ⟨_, _, rfl⟩ (FITi rfl rfl) (Nat.le_of_ble_eq_true rfl) (him _ hP) rfl ?_
  first | ((with_reducible refine isN1 ?_); refine g_ifN_eq (tgt := 25) (p1 := 12) dX10_correction_9 rfl (by omega) rfl (fun c_9 => by exfalso; first | omega | contradiction | exact absurd h c_9 | exact h c_9 | exact c_9 h | exact c_9 (by decide)) (fun c_9 => ?_)) | refine g_if_eq (tgt := 25) (p1 := 12) dX10_correction_9 rfl rfl (fun c_9 => by exfalso; first | omega | contradiction | exact absurd h c_9 | exact h c_9 | exact c_9 h | exact c_9 (by decide)) (fun c_9 => ?_)
  refine g_iload_n (p0 := 13) (i := 2) dX10_correction_12 rfl rfl rfl ?_
  first | ((with_reducible refine isN1 ?_); refine g_ifN_lt (tgt := 25) (p1 := 16) dX10_correction_13 rfl (by omega) rfl (fun c_13 => ?_) (fun c_13 => by exfalso; first | omega | contradiction | exact absurd h c_13 | exact h c_13 | exact c_13 h | exact c_13 (by decide))) | refine g_if_lt (tgt := 25) (p1 := 16) dX10_correction_13 rfl rfl (fun c_13 => ?_) (fun c_13 => by exfalso; first | omega | contradiction | exact absurd h c_13 | exact h c_13 | exact c_13 h | exact c_13 (by decide))
  refine g_ldc (p0 := 27) dX10_correction_25 qX10_76 rfl ?_
  refine g_ireturn dX10_correction_27 rfl rfl (?_)
  exact ⟨rfl, hf.fq⟩
set_option maxRecDepth 20000 in
set_option maxHeartbeats 2000000 in
theorem cr_rw {P : Sg → Prop} {m j : Nat} {y : Int32} {σ : Sg} (hly : CM mX10_lays [ar 79] σ (RelV (fun σ' => P σ' ∧ FRl σ σ'))) (him : ∀ σ', P σ' → CM mX10_isMessage [ar 79, ai (nI m)] σ' (Ret (nI 1) σ')) (hj : j < 2147483648) (h : y < 0) : CM mX10_correction [ar 79, ai (nI m), ai (nI j), ai y] σ (RPQ σ (-1000001)) := by
  refine CM_in (ls := [some (ar 79), some (ai (nI m)), some (ai (nI j)), some (ai y)]) rfl ?_
  refine g_aload_n (p0 := 1) (i := 0) dX10_correction_0 rfl rfl rfl ?_
  refine g_cV0P (p0 := 4) (r1 := mX10_lays) dX10_correction_1 lX10_151 vX10_lays (by first | rfl | assumption | exact RW.s (by assumption) | exact TW.s (by assumption)) ⟨_, _, rfl⟩ (FITi rfl rfl) (Nat.le_of_ble_eq_true rfl) (hly) rfl ?_
  rintro σ1 ⟨hP, hf⟩
  refine g_aload_n (p0 := 5) (i := 0) dX10_correction_4 rfl rfl rfl ?_
  refine g_iload_n (p0 := 6) (i := 1) dX10_correction_5 rfl rfl rfl ?_
  refine g_cV1R (p0 := 9) (r1 := mX10_isMessage) dX10_correction_6 lX10_158 vX10_isMessage (by first | rfl | assumption | exact RW.s (by assumption) | exact TW.s (by assumption)) ⟨_, _, rfl⟩ (FITi rfl rfl) (Nat.le_of_ble_eq_true rfl) (him _ hP) rfl ?_
  first | ((with_reducible refine isN1 ?_); refine g_ifN_eq (tgt := 25) (p1 := 12) dX10_correction_9 rfl (by omega) rfl (fun c_9 => by exfalso; first | omega | contradiction | exact absurd (by assumption) c_9 | (simp_all; done)) (fun c_9 => ?_)) | refine g_if_eq (tgt := 25) (p1 := 12) dX10_correction_9 rfl rfl (fun c_9 => by exfalso; first | omega | contradiction | exact absurd (by assumption) c_9 | (simp_all; done)) (fun c_9 => ?_)
  refine g_iload_n (p0 := 13) (i := 2) dX10_correction_12 rfl rfl rfl ?_
  first | ((with_reducible refine isN1 ?_); refine g_ifN_lt (tgt := 25) (p1 := 16) dX10_correction_13 rfl (by omega) rfl (fun c_13 => by exfalso; first | omega | contradiction | exact absurd (by assumption) c_13 | (simp_all; done)) (fun c_13 => ?_)) | refine g_if_lt (tgt := 25) (p1 := 16) dX10_correction_13 rfl rfl (fun c_13 => by exfalso; first | omega | contradiction | exact absurd (by assumption) c_13 | (simp_all; done)) (fun c_13 => ?_)
  refine g_iload_n (p0 := 17) (i := 3) dX10_correction_16 rfl rfl rfl ?_
  refine g_iconst (p0 := 18) (v := nI 0) dX10_correction_17 rfl rfl ?_
  refine g_iconst (p0 := 19) (v := nI 3) dX10_correction_18 rfl rfl ?_
  refine g_cS3R (p0 := 22) (r1 := mX10_in) dX10_correction_19 (Or.inl lX10_65) vX10_in (FITi rfl rfl) (Nat.le_of_ble_eq_true rfl) (in_F1 h) rfl ?_
  first | ((with_reducible refine isN1 ?_); refine g_ifN_ne (tgt := 28) (p1 := 25) dX10_correction_22 rfl (by omega) rfl (fun c_22 => by exfalso; first | omega | contradiction | exact absurd (by assumption) c_22 | (simp_all; done)) (fun c_22 => ?_)) | refine g_if_ne (tgt := 28) (p1 := 25) dX10_correction_22 rfl rfl (fun c_22 => by exfalso; first | omega | contradiction | exact absurd (by assumption) c_22 | (simp_all; done)) (fun c_22 => ?_)
  refine g_ldc (p0 := 27) dX10_correction_25 qX10_76 rfl ?_
  refine g_ireturn dX10_correction_27 rfl rfl (?_)
  exact ⟨rfl, hf.fq⟩
set_option maxRecDepth 20000 in
set_option maxHeartbeats 2000000 in
theorem cr_rx {P : Sg → Prop} {m j k : Nat} {σ : Sg} (hly : CM mX10_lays [ar 79] σ (RelV (fun σ' => P σ' ∧ FRl σ σ'))) (him : ∀ σ', P σ' → CM mX10_isMessage [ar 79, ai (nI m)] σ' (Ret (nI 1) σ')) (hj : j < 2147483648) (hk : k < 2147483648) (h : 3 < k) : CM mX10_correction [ar 79, ai (nI m), ai (nI j), ai (nI k)] σ (RPQ σ (-1000001)) := by
  refine CM_in (ls := [some (ar 79), some (ai (nI m)), some (ai (nI j)), some (ai (nI k))]) rfl ?_
  refine g_aload_n (p0 := 1) (i := 0) dX10_correction_0 rfl rfl rfl ?_
  refine g_cV0P (p0 := 4) (r1 := mX10_lays) dX10_correction_1 lX10_151 vX10_lays (by first | rfl | assumption | exact RW.s (by assumption) | exact TW.s (by assumption)) ⟨_, _, rfl⟩ (FITi rfl rfl) (Nat.le_of_ble_eq_true rfl) (hly) rfl ?_
  rintro σ1 ⟨hP, hf⟩
  refine g_aload_n (p0 := 5) (i := 0) dX10_correction_4 rfl rfl rfl ?_
  refine g_iload_n (p0 := 6) (i := 1) dX10_correction_5 rfl rfl rfl ?_
  refine g_cV1R (p0 := 9) (r1 := mX10_isMessage) dX10_correction_6 lX10_158 vX10_isMessage (by first | rfl | assumption | exact RW.s (by assumption) | exact TW.s (by assumption)) ⟨_, _, rfl⟩ (FITi rfl rfl) (Nat.le_of_ble_eq_true rfl) (him _ hP) rfl ?_
  first | ((with_reducible refine isN1 ?_); refine g_ifN_eq (tgt := 25) (p1 := 12) dX10_correction_9 rfl (by omega) rfl (fun c_9 => by exfalso; first | omega | contradiction | exact absurd (by assumption) c_9 | (simp_all; done)) (fun c_9 => ?_)) | refine g_if_eq (tgt := 25) (p1 := 12) dX10_correction_9 rfl rfl (fun c_9 => by exfalso; first | omega | contradiction | exact absurd (by assumption) c_9 | (simp_all; done)) (fun c_9 => ?_)
  refine g_iload_n (p0 := 13) (i := 2) dX10_correction_12 rfl rfl rfl ?_
  first | ((with_reducible refine isN1 ?_); refine g_ifN_lt (tgt := 25) (p1 := 16) dX10_correction_13 rfl (by omega) rfl (fun c_13 => by exfalso; first | omega | contradiction | exact absurd (by assumption) c_13 | (simp_all; done)) (fun c_13 => ?_)) | refine g_if_lt (tgt := 25) (p1 := 16) dX10_correction_13 rfl rfl (fun c_13 => by exfalso; first | omega | contradiction | exact absurd (by assumption) c_13 | (simp_all; done)) (fun c_13 => ?_)
  refine g_iload_n (p0 := 17) (i := 3) dX10_correction_16 rfl rfl rfl ?_
  refine g_iconst (p0 := 18) (v := nI 0) dX10_correction_17 rfl rfl ?_
  refine g_iconst (p0 := 19) (v := nI 3) dX10_correction_18 rfl rfl ?_
  refine g_cS3R (p0 := 22) (r1 := mX10_in) dX10_correction_19 (Or.inl lX10_65) vX10_in (FITi rfl rfl) (Nat.le_of_ble_eq_true rfl) (in_F2 (fun q => by rw [nI_lt_iff (by omega) (by omega)] at q; omega) ((nI_lt_iff (by omega) (by omega)).mpr (by omega))) rfl ?_
  first | ((with_reducible refine isN1 ?_); refine g_ifN_ne (tgt := 28) (p1 := 25) dX10_correction_22 rfl (by omega) rfl (fun c_22 => by exfalso; first | omega | contradiction | exact absurd (by assumption) c_22 | (simp_all; done)) (fun c_22 => ?_)) | refine g_if_ne (tgt := 28) (p1 := 25) dX10_correction_22 rfl rfl (fun c_22 => by exfalso; first | omega | contradiction | exact absurd (by assumption) c_22 | (simp_all; done)) (fun c_22 => ?_)
  refine g_ldc (p0 := 27) dX10_correction_25 qX10_76 rfl ?_
  refine g_ireturn dX10_correction_27 rfl rfl (?_)
  exact ⟨rfl, hf.fq⟩
set_option maxRecDepth 20000 in
set_option maxHeartbeats 2000000 in
theorem cr_r0_0 {P : Sg → Prop} {m j cn : Nat} {σ : Sg} (hly : CM mX10_lays [ar 79] σ (RelV (fun σ' => P σ' ∧ FRl σ σ'))) (him : ∀ σ', P σ' → CM mX10_isMessage [ar 79, ai (nI m)] σ' (Ret (nI 1) σ')) (hj : j < 2147483648) (hcn : cn ≤ 1000) (h : ∀ σ', P σ' → CM mX10_corrections [ar 79, ai (nI m), ai (nI j)] σ' (RelI (fun u σ2 => u = nI cn ∧ (∀ z, z ≠ 96 → σ2 z = σ' z)))) (hle : cn ≤ j) : CM mX10_correction [ar 79, ai (nI m), ai (nI j), ai (nI 0)] σ (RPQ σ (-1000004)) := by
  refine CM_in (ls := [some (ar 79), some (ai (nI m)), some (ai (nI j)), some (ai (nI 0))]) rfl ?_
  refine g_aload_n (p0 := 1) (i := 0) dX10_correction_0 rfl rfl rfl ?_
  refine g_cV0P (p0 := 4) (r1 := mX10_lays) dX10_correction_1 lX10_151 vX10_lays (by first | rfl | assumption | exact RW.s (by assumption) | exact TW.s (by assumption)) ⟨_, _, rfl⟩ (FITi rfl rfl) (Nat.le_of_ble_eq_true rfl) (hly) rfl ?_
  rintro σ1 ⟨hP, hf⟩
  refine g_aload_n (p0 := 5) (i := 0) dX10_correction_4 rfl rfl rfl ?_
  refine g_iload_n (p0 := 6) (i := 1) dX10_correction_5 rfl rfl rfl ?_
  refine g_cV1R (p0 := 9) (r1 := mX10_isMessage) dX10_correction_6 lX10_158 vX10_isMessage (by first | rfl | assumption | exact RW.s (by assumption) | exact TW.s (by assumption)) ⟨_, _, rfl⟩ (FITi rfl rfl) (Nat.le_of_ble_eq_true rfl) (him _ hP) rfl ?_
  first | ((with_reducible refine isN1 ?_); refine g_ifN_eq (tgt := 25) (p1 := 12) dX10_correction_9 rfl (by omega) rfl (fun c_9 => by exfalso; first | omega | contradiction | exact absurd (by assumption) c_9 | (simp_all; done)) (fun c_9 => ?_)) | refine g_if_eq (tgt := 25) (p1 := 12) dX10_correction_9 rfl rfl (fun c_9 => by exfalso; first | omega | contradiction | exact absurd (by assumption) c_9 | (simp_all; done)) (fun c_9 => ?_)
  refine g_iload_n (p0 := 13) (i := 2) dX10_correction_12 rfl rfl rfl ?_
  first | ((with_reducible refine isN1 ?_); refine g_ifN_lt (tgt := 25) (p1 := 16) dX10_correction_13 rfl (by omega) rfl (fun c_13 => by exfalso; first | omega | contradiction | exact absurd (by assumption) c_13 | (simp_all; done)) (fun c_13 => ?_)) | refine g_if_lt (tgt := 25) (p1 := 16) dX10_correction_13 rfl rfl (fun c_13 => by exfalso; first | omega | contradiction | exact absurd (by assumption) c_13 | (simp_all; done)) (fun c_13 => ?_)
  refine g_iload_n (p0 := 17) (i := 3) dX10_correction_16 rfl rfl rfl ?_
  refine g_iconst (p0 := 18) (v := nI 0) dX10_correction_17 rfl rfl ?_
  refine g_iconst (p0 := 19) (v := nI 3) dX10_correction_18 rfl rfl ?_
  refine g_cS3R (p0 := 22) (r1 := mX10_in) dX10_correction_19 (Or.inl lX10_65) vX10_in (FITi rfl rfl) (Nat.le_of_ble_eq_true rfl) (in_T (by decide) (by decide)) rfl ?_
  first | ((with_reducible refine isN1 ?_); refine g_ifN_ne (tgt := 28) (p1 := 25) dX10_correction_22 rfl (by omega) rfl (fun c_22 => ?_) (fun c_22 => by exfalso; first | omega | contradiction | exact absurd (by assumption) c_22 | (simp_all; done))) | refine g_if_ne (tgt := 28) (p1 := 25) dX10_correction_22 rfl rfl (fun c_22 => ?_) (fun c_22 => by exfalso; first | omega | contradiction | exact absurd (by assumption) c_22 | (simp_all; done))
  refine g_aload_n (p0 := 29) (i := 0) dX10_correction_28 rfl rfl rfl ?_
  refine g_iload_n (p0 := 30) (i := 1) dX10_correction_29 rfl rfl rfl ?_
  refine g_iload_n (p0 := 31) (i := 2) dX10_correction_30 rfl rfl rfl ?_
  refine g_cV2I (p0 := 34) (r1 := mX10_corrections) dX10_correction_31 lX10_164 vX10_corrections (by first | rfl | assumption | exact RW.s (by assumption) | exact TW.s (by assumption)) ⟨_, _, rfl⟩ (FITi rfl rfl) (Nat.le_of_ble_eq_true rfl) (h _ hP) rfl ?_
  rintro u σ2 ⟨rfl, hf2⟩
  refine g_iload_n (p0 := 35) (i := 2) dX10_correction_34 rfl rfl rfl ?_
  first | ((with_reducible refine isN2 ?_); refine g_icmpN_le (tgt := 47) (p1 := 38) dX10_correction_35 rfl (by omega) (by omega) rfl (fun c_35 => ?_) (fun c_35 => by exfalso; first | omega | contradiction | exact absurd (by assumption) c_35 | (simp_all; done))) | refine g_icmp_le (tgt := 47) (p1 := 38) dX10_correction_35 rfl rfl (fun c_35 => ?_) (fun c_35 => by exfalso; first | omega | contradiction | exact absurd (by assumption) c_35 | (simp_all; done))
  refine g_ldc (p0 := 49) dX10_correction_47 qX10_154 rfl ?_
  refine g_ireturn dX10_correction_49 rfl rfl (?_)
  exact ⟨rfl, hf.fq.trans (FQ_96 hf2)⟩
set_option maxRecDepth 20000 in
set_option maxHeartbeats 2000000 in
theorem cr_r1_0 {v : Int32} {P : Sg → Prop} {m j cn : Nat} {σ : Sg} (hly : CM mX10_lays [ar 79] σ (RelV (fun σ' => P σ' ∧ FRl σ σ'))) (him : ∀ σ', P σ' → CM mX10_isMessage [ar 79, ai (nI m)] σ' (Ret (nI 1) σ')) (hj : j < 2147483648) (hcn : cn ≤ 1000) (h : ∀ σ', P σ' → CM mX10_corrections [ar 79, ai (nI m), ai (nI j)] σ' (RelI (fun u σ2 => u = nI cn ∧ (∀ z, z ≠ 96 → σ2 z = σ' z) ∧ σ2 96 0 = v))) (hlt : j < cn) : CM mX10_correction [ar 79, ai (nI m), ai (nI j), ai (nI 0)] σ (RPQ σ v) := by
  refine CM_in (ls := [some (ar 79), some (ai (nI m)), some (ai (nI j)), some (ai (nI 0))]) rfl ?_
  refine g_aload_n (p0 := 1) (i := 0) dX10_correction_0 rfl rfl rfl ?_
  refine g_cV0P (p0 := 4) (r1 := mX10_lays) dX10_correction_1 lX10_151 vX10_lays (by first | rfl | assumption | exact RW.s (by assumption) | exact TW.s (by assumption)) ⟨_, _, rfl⟩ (FITi rfl rfl) (Nat.le_of_ble_eq_true rfl) (hly) rfl ?_
  rintro σ1 ⟨hP, hf⟩
  refine g_aload_n (p0 := 5) (i := 0) dX10_correction_4 rfl rfl rfl ?_
  refine g_iload_n (p0 := 6) (i := 1) dX10_correction_5 rfl rfl rfl ?_
  refine g_cV1R (p0 := 9) (r1 := mX10_isMessage) dX10_correction_6 lX10_158 vX10_isMessage (by first | rfl | assumption | exact RW.s (by assumption) | exact TW.s (by assumption)) ⟨_, _, rfl⟩ (FITi rfl rfl) (Nat.le_of_ble_eq_true rfl) (him _ hP) rfl ?_
  first | ((with_reducible refine isN1 ?_); refine g_ifN_eq (tgt := 25) (p1 := 12) dX10_correction_9 rfl (by omega) rfl (fun c_9 => by exfalso; first | omega | contradiction | exact absurd (by assumption) c_9 | (simp_all; done)) (fun c_9 => ?_)) | refine g_if_eq (tgt := 25) (p1 := 12) dX10_correction_9 rfl rfl (fun c_9 => by exfalso; first | omega | contradiction | exact absurd (by assumption) c_9 | (simp_all; done)) (fun c_9 => ?_)
  refine g_iload_n (p0 := 13) (i := 2) dX10_correction_12 rfl rfl rfl ?_
  first | ((with_reducible refine isN1 ?_); refine g_ifN_lt (tgt := 25) (p1 := 16) dX10_correction_13 rfl (by omega) rfl (fun c_13 => by exfalso; first | omega | contradiction | exact absurd (by assumption) c_13 | (simp_all; done)) (fun c_13 => ?_)) | refine g_if_lt (tgt := 25) (p1 := 16) dX10_correction_13 rfl rfl (fun c_13 => by exfalso; first | omega | contradiction | exact absurd (by assumption) c_13 | (simp_all; done)) (fun c_13 => ?_)
  refine g_iload_n (p0 := 17) (i := 3) dX10_correction_16 rfl rfl rfl ?_
  refine g_iconst (p0 := 18) (v := nI 0) dX10_correction_17 rfl rfl ?_
  refine g_iconst (p0 := 19) (v := nI 3) dX10_correction_18 rfl rfl ?_
  refine g_cS3R (p0 := 22) (r1 := mX10_in) dX10_correction_19 (Or.inl lX10_65) vX10_in (FITi rfl rfl) (Nat.le_of_ble_eq_true rfl) (in_T (by decide) (by decide)) rfl ?_
  first | ((with_reducible refine isN1 ?_); refine g_ifN_ne (tgt := 28) (p1 := 25) dX10_correction_22 rfl (by omega) rfl (fun c_22 => ?_) (fun c_22 => by exfalso; first | omega | contradiction | exact absurd (by assumption) c_22 | (simp_all; done))) | refine g_if_ne (tgt := 28) (p1 := 25) dX10_correction_22 rfl rfl (fun c_22 => ?_) (fun c_22 => by exfalso; first | omega | contradiction | exact absurd (by assumption) c_22 | (simp_all; done))
  refine g_aload_n (p0 := 29) (i := 0) dX10_correction_28 rfl rfl rfl ?_
  refine g_iload_n (p0 := 30) (i := 1) dX10_correction_29 rfl rfl rfl ?_
  refine g_iload_n (p0 := 31) (i := 2) dX10_correction_30 rfl rfl rfl ?_
  refine g_cV2I (p0 := 34) (r1 := mX10_corrections) dX10_correction_31 lX10_164 vX10_corrections (by first | rfl | assumption | exact RW.s (by assumption) | exact TW.s (by assumption)) ⟨_, _, rfl⟩ (FITi rfl rfl) (Nat.le_of_ble_eq_true rfl) (h _ hP) rfl ?_
  rintro u σ2 ⟨rfl, hf2, hv⟩
  refine g_iload_n (p0 := 35) (i := 2) dX10_correction_34 rfl rfl rfl ?_
  first | ((with_reducible refine isN2 ?_); refine g_icmpN_le (tgt := 47) (p1 := 38) dX10_correction_35 rfl (by omega) (by omega) rfl (fun c_35 => by exfalso; first | omega | contradiction | exact absurd (by assumption) c_35 | (simp_all; done)) (fun c_35 => ?_)) | refine g_icmp_le (tgt := 47) (p1 := 38) dX10_correction_35 rfl rfl (fun c_35 => by exfalso; first | omega | contradiction | exact absurd (by assumption) c_35 | (simp_all; done)) (fun c_35 => ?_)
  refine g_aload_n (p0 := 39) (i := 0) dX10_correction_38 rfl rfl rfl ?_
  refine g_getR (p0 := 42) dX10_correction_39 fX10_58 (by first | rfl | assumption | exact RW.s (by assumption) | exact TW.s (by assumption)) rfl rfl ?_
  refine g_iload_n (p0 := 43) (i := 3) dX10_correction_42 rfl rfl rfl ?_
  first | ((with_reducible refine isN1 ?_); refine g_aldN (p0 := 44) dX10_correction_43 (by first | rfl | assumption | exact RW.s (by assumption) | exact TW.s (by assumption)) (by first | decide | assumption) (by omega) (by first | assumption | ((repeat (first | exact up_hit | refine up_nv (by decide) ?_ | refine up_mv (by first | decide | omega) ?_)) <;> first | assumption | rfl)) rfl ?_) | refine g_ald (p0 := 44) dX10_correction_43 (by first | rfl | assumption | exact RW.s (by assumption) | exact TW.s (by assumption)) (by assumption) (by first | assumption | ((repeat (first | exact up_hit | refine up_nv (by decide) ?_ | refine up_mv (by first | decide | omega) ?_)) <;> first | assumption | rfl)) rfl ?_
  refine g_goto (tgt := 49) dX10_correction_44 rfl ?_
  refine g_ireturn dX10_correction_49 rfl rfl (?_)
  exact ⟨rfl, hf.fq.trans (FQ_96 hf2)⟩
set_option maxRecDepth 20000 in
set_option maxHeartbeats 2000000 in
theorem cr_r0_1 {P : Sg → Prop} {m j cn : Nat} {σ : Sg} (hly : CM mX10_lays [ar 79] σ (RelV (fun σ' => P σ' ∧ FRl σ σ'))) (him : ∀ σ', P σ' → CM mX10_isMessage [ar 79, ai (nI m)] σ' (Ret (nI 1) σ')) (hj : j < 2147483648) (hcn : cn ≤ 1000) (h : ∀ σ', P σ' → CM mX10_corrections [ar 79, ai (nI m), ai (nI j)] σ' (RelI (fun u σ2 => u = nI cn ∧ (∀ z, z ≠ 96 → σ2 z = σ' z)))) (hle : cn ≤ j) : CM mX10_correction [ar 79, ai (nI m), ai (nI j), ai (nI 1)] σ (RPQ σ (-1000004)) := by
  refine CM_in (ls := [some (ar 79), some (ai (nI m)), some (ai (nI j)), some (ai (nI 1))]) rfl ?_
  refine g_aload_n (p0 := 1) (i := 0) dX10_correction_0 rfl rfl rfl ?_
  refine g_cV0P (p0 := 4) (r1 := mX10_lays) dX10_correction_1 lX10_151 vX10_lays (by first | rfl | assumption | exact RW.s (by assumption) | exact TW.s (by assumption)) ⟨_, _, rfl⟩ (FITi rfl rfl) (Nat.le_of_ble_eq_true rfl) (hly) rfl ?_
  rintro σ1 ⟨hP, hf⟩
  refine g_aload_n (p0 := 5) (i := 0) dX10_correction_4 rfl rfl rfl ?_
  refine g_iload_n (p0 := 6) (i := 1) dX10_correction_5 rfl rfl rfl ?_
  refine g_cV1R (p0 := 9) (r1 := mX10_isMessage) dX10_correction_6 lX10_158 vX10_isMessage (by first | rfl | assumption | exact RW.s (by assumption) | exact TW.s (by assumption)) ⟨_, _, rfl⟩ (FITi rfl rfl) (Nat.le_of_ble_eq_true rfl) (him _ hP) rfl ?_
  first | ((with_reducible refine isN1 ?_); refine g_ifN_eq (tgt := 25) (p1 := 12) dX10_correction_9 rfl (by omega) rfl (fun c_9 => by exfalso; first | omega | contradiction | exact absurd (by assumption) c_9 | (simp_all; done)) (fun c_9 => ?_)) | refine g_if_eq (tgt := 25) (p1 := 12) dX10_correction_9 rfl rfl (fun c_9 => by exfalso; first | omega | contradiction | exact absurd (by assumption) c_9 | (simp_all; done)) (fun c_9 => ?_)
  refine g_iload_n (p0 := 13) (i := 2) dX10_correction_12 rfl rfl rfl ?_
  first | ((with_reducible refine isN1 ?_); refine g_ifN_lt (tgt := 25) (p1 := 16) dX10_correction_13 rfl (by omega) rfl (fun c_13 => by exfalso; first | omega | contradiction | exact absurd (by assumption) c_13 | (simp_all; done)) (fun c_13 => ?_)) | refine g_if_lt (tgt := 25) (p1 := 16) dX10_correction_13 rfl rfl (fun c_13 => by exfalso; first | omega | contradiction | exact absurd (by assumption) c_13 | (simp_all; done)) (fun c_13 => ?_)
  refine g_iload_n (p0 := 17) (i := 3) dX10_correction_16 rfl rfl rfl ?_
  refine g_iconst (p0 := 18) (v := nI 0) dX10_correction_17 rfl rfl ?_
  refine g_iconst (p0 := 19) (v := nI 3) dX10_correction_18 rfl rfl ?_
  refine g_cS3R (p0 := 22) (r1 := mX10_in) dX10_correction_19 (Or.inl lX10_65) vX10_in (FITi rfl rfl) (Nat.le_of_ble_eq_true rfl) (in_T (by decide) (by decide)) rfl ?_
  first | ((with_reducible refine isN1 ?_); refine g_ifN_ne (tgt := 28) (p1 := 25) dX10_correction_22 rfl (by omega) rfl (fun c_22 => ?_) (fun c_22 => by exfalso; first | omega | contradiction | exact absurd (by assumption) c_22 | (simp_all; done))) | refine g_if_ne (tgt := 28) (p1 := 25) dX10_correction_22 rfl rfl (fun c_22 => ?_) (fun c_22 => by exfalso; first | omega | contradiction | exact absurd (by assumption) c_22 | (simp_all; done))
  refine g_aload_n (p0 := 29) (i := 0) dX10_correction_28 rfl rfl rfl ?_
  refine g_iload_n (p0 := 30) (i := 1) dX10_correction_29 rfl rfl rfl ?_
  refine g_iload_n (p0 := 31) (i := 2) dX10_correction_30 rfl rfl rfl ?_
  refine g_cV2I (p0 := 34) (r1 := mX10_corrections) dX10_correction_31 lX10_164 vX10_corrections (by first | rfl | assumption | exact RW.s (by assumption) | exact TW.s (by assumption)) ⟨_, _, rfl⟩ (FITi rfl rfl) (Nat.le_of_ble_eq_true rfl) (h _ hP) rfl ?_
  rintro u σ2 ⟨rfl, hf2⟩
  refine g_iload_n (p0 := 35) (i := 2) dX10_correction_34 rfl rfl rfl ?_
  first | ((with_reducible refine isN2 ?_); refine g_icmpN_le (tgt := 47) (p1 := 38) dX10_correction_35 rfl (by omega) (by omega) rfl (fun c_35 => ?_) (fun c_35 => by exfalso; first | omega | contradiction | exact absurd (by assumption) c_35 | (simp_all; done))) | refine g_icmp_le (tgt := 47) (p1 := 38) dX10_correction_35 rfl rfl (fun c_35 => ?_) (fun c_35 => by exfalso; first | omega | contradiction | exact absurd (by assumption) c_35 | (simp_all; done))
  refine g_ldc (p0 := 49) dX10_correction_47 qX10_154 rfl ?_
  refine g_ireturn dX10_correction_49 rfl rfl (?_)
  exact ⟨rfl, hf.fq.trans (FQ_96 hf2)⟩
set_option maxRecDepth 20000 in
set_option maxHeartbeats 2000000 in
theorem cr_r1_1 {v : Int32} {P : Sg → Prop} {m j cn : Nat} {σ : Sg} (hly : CM mX10_lays [ar 79] σ (RelV (fun σ' => P σ' ∧ FRl σ σ'))) (him : ∀ σ', P σ' → CM mX10_isMessage [ar 79, ai (nI m)] σ' (Ret (nI 1) σ')) (hj : j < 2147483648) (hcn : cn ≤ 1000) (h : ∀ σ', P σ' → CM mX10_corrections [ar 79, ai (nI m), ai (nI j)] σ' (RelI (fun u σ2 => u = nI cn ∧ (∀ z, z ≠ 96 → σ2 z = σ' z) ∧ σ2 96 1 = v))) (hlt : j < cn) : CM mX10_correction [ar 79, ai (nI m), ai (nI j), ai (nI 1)] σ (RPQ σ v) := by
  refine CM_in (ls := [some (ar 79), some (ai (nI m)), some (ai (nI j)), some (ai (nI 1))]) rfl ?_
  refine g_aload_n (p0 := 1) (i := 0) dX10_correction_0 rfl rfl rfl ?_
  refine g_cV0P (p0 := 4) (r1 := mX10_lays) dX10_correction_1 lX10_151 vX10_lays (by first | rfl | assumption | exact RW.s (by assumption) | exact TW.s (by assumption)) ⟨_, _, rfl⟩ (FITi rfl rfl) (Nat.le_of_ble_eq_true rfl) (hly) rfl ?_
  rintro σ1 ⟨hP, hf⟩
  refine g_aload_n (p0 := 5) (i := 0) dX10_correction_4 rfl rfl rfl ?_
  refine g_iload_n (p0 := 6) (i := 1) dX10_correction_5 rfl rfl rfl ?_
  refine g_cV1R (p0 := 9) (r1 := mX10_isMessage) dX10_correction_6 lX10_158 vX10_isMessage (by first | rfl | assumption | exact RW.s (by assumption) | exact TW.s (by assumption)) ⟨_, _, rfl⟩ (FITi rfl rfl) (Nat.le_of_ble_eq_true rfl) (him _ hP) rfl ?_
  first | ((with_reducible refine isN1 ?_); refine g_ifN_eq (tgt := 25) (p1 := 12) dX10_correction_9 rfl (by omega) rfl (fun c_9 => by exfalso; first | omega | contradiction | exact absurd (by assumption) c_9 | (simp_all; done)) (fun c_9 => ?_)) | refine g_if_eq (tgt := 25) (p1 := 12) dX10_correction_9 rfl rfl (fun c_9 => by exfalso; first | omega | contradiction | exact absurd (by assumption) c_9 | (simp_all; done)) (fun c_9 => ?_)
  refine g_iload_n (p0 := 13) (i := 2) dX10_correction_12 rfl rfl rfl ?_
  first | ((with_reducible refine isN1 ?_); refine g_ifN_lt (tgt := 25) (p1 := 16) dX10_correction_13 rfl (by omega) rfl (fun c_13 => by exfalso; first | omega | contradiction | exact absurd (by assumption) c_13 | (simp_all; done)) (fun c_13 => ?_)) | refine g_if_lt (tgt := 25) (p1 := 16) dX10_correction_13 rfl rfl (fun c_13 => by exfalso; first | omega | contradiction | exact absurd (by assumption) c_13 | (simp_all; done)) (fun c_13 => ?_)
  refine g_iload_n (p0 := 17) (i := 3) dX10_correction_16 rfl rfl rfl ?_
  refine g_iconst (p0 := 18) (v := nI 0) dX10_correction_17 rfl rfl ?_
  refine g_iconst (p0 := 19) (v := nI 3) dX10_correction_18 rfl rfl ?_
  refine g_cS3R (p0 := 22) (r1 := mX10_in) dX10_correction_19 (Or.inl lX10_65) vX10_in (FITi rfl rfl) (Nat.le_of_ble_eq_true rfl) (in_T (by decide) (by decide)) rfl ?_
  first | ((with_reducible refine isN1 ?_); refine g_ifN_ne (tgt := 28) (p1 := 25) dX10_correction_22 rfl (by omega) rfl (fun c_22 => ?_) (fun c_22 => by exfalso; first | omega | contradiction | exact absurd (by assumption) c_22 | (simp_all; done))) | refine g_if_ne (tgt := 28) (p1 := 25) dX10_correction_22 rfl rfl (fun c_22 => ?_) (fun c_22 => by exfalso; first | omega | contradiction | exact absurd (by assumption) c_22 | (simp_all; done))
  refine g_aload_n (p0 := 29) (i := 0) dX10_correction_28 rfl rfl rfl ?_
  refine g_iload_n (p0 := 30) (i := 1) dX10_correction_29 rfl rfl rfl ?_
  refine g_iload_n (p0 := 31) (i := 2) dX10_correction_30 rfl rfl rfl ?_
  refine g_cV2I (p0 := 34) (r1 := mX10_corrections) dX10_correction_31 lX10_164 vX10_corrections (by first | rfl | assumption | exact RW.s (by assumption) | exact TW.s (by assumption)) ⟨_, _, rfl⟩ (FITi rfl rfl) (Nat.le_of_ble_eq_true rfl) (h _ hP) rfl ?_
  rintro u σ2 ⟨rfl, hf2, hv⟩
  refine g_iload_n (p0 := 35) (i := 2) dX10_correction_34 rfl rfl rfl ?_
  first | ((with_reducible refine isN2 ?_); refine g_icmpN_le (tgt := 47) (p1 := 38) dX10_correction_35 rfl (by omega) (by omega) rfl (fun c_35 => by exfalso; first | omega | contradiction | exact absurd (by assumption) c_35 | (simp_all; done)) (fun c_35 => ?_)) | refine g_icmp_le (tgt := 47) (p1 := 38) dX10_correction_35 rfl rfl (fun c_35 => by exfalso; first | omega | contradiction | exact absurd (by assumption) c_35 | (simp_all; done)) (fun c_35 => ?_)
  refine g_aload_n (p0 := 39) (i := 0) dX10_correction_38 rfl rfl rfl ?_
  refine g_getR (p0 := 42) dX10_correction_39 fX10_58 (by first | rfl | assumption | exact RW.s (by assumption) | exact TW.s (by assumption)) rfl rfl ?_
  refine g_iload_n (p0 := 43) (i := 3) dX10_correction_42 rfl rfl rfl ?_
  first | ((with_reducible refine isN1 ?_); refine g_aldN (p0 := 44) dX10_correction_43 (by first | rfl | assumption | exact RW.s (by assumption) | exact TW.s (by assumption)) (by first | decide | assumption) (by omega) (by first | assumption | ((repeat (first | exact up_hit | refine up_nv (by decide) ?_ | refine up_mv (by first | decide | omega) ?_)) <;> first | assumption | rfl)) rfl ?_) | refine g_ald (p0 := 44) dX10_correction_43 (by first | rfl | assumption | exact RW.s (by assumption) | exact TW.s (by assumption)) (by assumption) (by first | assumption | ((repeat (first | exact up_hit | refine up_nv (by decide) ?_ | refine up_mv (by first | decide | omega) ?_)) <;> first | assumption | rfl)) rfl ?_
  refine g_goto (tgt := 49) dX10_correction_44 rfl ?_
  refine g_ireturn dX10_correction_49 rfl rfl (?_)
  exact ⟨rfl, hf.fq.trans (FQ_96 hf2)⟩
set_option maxRecDepth 20000 in
set_option maxHeartbeats 2000000 in
theorem cr_r0_2 {P : Sg → Prop} {m j cn : Nat} {σ : Sg} (hly : CM mX10_lays [ar 79] σ (RelV (fun σ' => P σ' ∧ FRl σ σ'))) (him : ∀ σ', P σ' → CM mX10_isMessage [ar 79, ai (nI m)] σ' (Ret (nI 1) σ')) (hj : j < 2147483648) (hcn : cn ≤ 1000) (h : ∀ σ', P σ' → CM mX10_corrections [ar 79, ai (nI m), ai (nI j)] σ' (RelI (fun u σ2 => u = nI cn ∧ (∀ z, z ≠ 96 → σ2 z = σ' z)))) (hle : cn ≤ j) : CM mX10_correction [ar 79, ai (nI m), ai (nI j), ai (nI 2)] σ (RPQ σ (-1000004)) := by
  refine CM_in (ls := [some (ar 79), some (ai (nI m)), some (ai (nI j)), some (ai (nI 2))]) rfl ?_
  refine g_aload_n (p0 := 1) (i := 0) dX10_correction_0 rfl rfl rfl ?_
  refine g_cV0P (p0 := 4) (r1 := mX10_lays) dX10_correction_1 lX10_151 vX10_lays (by first | rfl | assumption | exact RW.s (by assumption) | exact TW.s (by assumption)) ⟨_, _, rfl⟩ (FITi rfl rfl) (Nat.le_of_ble_eq_true rfl) (hly) rfl ?_
  rintro σ1 ⟨hP, hf⟩
  refine g_aload_n (p0 := 5) (i := 0) dX10_correction_4 rfl rfl rfl ?_
  refine g_iload_n (p0 := 6) (i := 1) dX10_correction_5 rfl rfl rfl ?_
  refine g_cV1R (p0 := 9) (r1 := mX10_isMessage) dX10_correction_6 lX10_158 vX10_isMessage (by first | rfl | assumption | exact RW.s (by assumption) | exact TW.s (by assumption)) ⟨_, _, rfl⟩ (FITi rfl rfl) (Nat.le_of_ble_eq_true rfl) (him _ hP) rfl ?_
  first | ((with_reducible refine isN1 ?_); refine g_ifN_eq (tgt := 25) (p1 := 12) dX10_correction_9 rfl (by omega) rfl (fun c_9 => by exfalso; first | omega | contradiction | exact absurd (by assumption) c_9 | (simp_all; done)) (fun c_9 => ?_)) | refine g_if_eq (tgt := 25) (p1 := 12) dX10_correction_9 rfl rfl (fun c_9 => by exfalso; first | omega | contradiction | exact absurd (by assumption) c_9 | (simp_all; done)) (fun c_9 => ?_)
  refine g_iload_n (p0 := 13) (i := 2) dX10_correction_12 rfl rfl rfl ?_
  first | ((with_reducible refine isN1 ?_); refine g_ifN_lt (tgt := 25) (p1 := 16) dX10_correction_13 rfl (by omega) rfl (fun c_13 => by exfalso; first | omega | contradiction | exact absurd (by assumption) c_13 | (simp_all; done)) (fun c_13 => ?_)) | refine g_if_lt (tgt := 25) (p1 := 16) dX10_correction_13 rfl rfl (fun c_13 => by exfalso; first | omega | contradiction | exact absurd (by assumption) c_13 | (simp_all; done)) (fun c_13 => ?_)
  refine g_iload_n (p0 := 17) (i := 3) dX10_correction_16 rfl rfl rfl ?_
  refine g_iconst (p0 := 18) (v := nI 0) dX10_correction_17 rfl rfl ?_
  refine g_iconst (p0 := 19) (v := nI 3) dX10_correction_18 rfl rfl ?_
  refine g_cS3R (p0 := 22) (r1 := mX10_in) dX10_correction_19 (Or.inl lX10_65) vX10_in (FITi rfl rfl) (Nat.le_of_ble_eq_true rfl) (in_T (by decide) (by decide)) rfl ?_
  first | ((with_reducible refine isN1 ?_); refine g_ifN_ne (tgt := 28) (p1 := 25) dX10_correction_22 rfl (by omega) rfl (fun c_22 => ?_) (fun c_22 => by exfalso; first | omega | contradiction | exact absurd (by assumption) c_22 | (simp_all; done))) | refine g_if_ne (tgt := 28) (p1 := 25) dX10_correction_22 rfl rfl (fun c_22 => ?_) (fun c_22 => by exfalso; first | omega | contradiction | exact absurd (by assumption) c_22 | (simp_all; done))
  refine g_aload_n (p0 := 29) (i := 0) dX10_correction_28 rfl rfl rfl ?_
  refine g_iload_n (p0 := 30) (i := 1) dX10_correction_29 rfl rfl rfl ?_
  refine g_iload_n (p0 := 31) (i := 2) dX10_correction_30 rfl rfl rfl ?_
  refine g_cV2I (p0 := 34) (r1 := mX10_corrections) dX10_correction_31 lX10_164 vX10_corrections (by first | rfl | assumption | exact RW.s (by assumption) | exact TW.s (by assumption)) ⟨_, _, rfl⟩ (FITi rfl rfl) (Nat.le_of_ble_eq_true rfl) (h _ hP) rfl ?_
  rintro u σ2 ⟨rfl, hf2⟩
  refine g_iload_n (p0 := 35) (i := 2) dX10_correction_34 rfl rfl rfl ?_
  first | ((with_reducible refine isN2 ?_); refine g_icmpN_le (tgt := 47) (p1 := 38) dX10_correction_35 rfl (by omega) (by omega) rfl (fun c_35 => ?_) (fun c_35 => by exfalso; first | omega | contradiction | exact absurd (by assumption) c_35 | (simp_all; done))) | refine g_icmp_le (tgt := 47) (p1 := 38) dX10_correction_35 rfl rfl (fun c_35 => ?_) (fun c_35 => by exfalso; first | omega | contradiction | exact absurd (by assumption) c_35 | (simp_all; done))
  refine g_ldc (p0 := 49) dX10_correction_47 qX10_154 rfl ?_
  refine g_ireturn dX10_correction_49 rfl rfl (?_)
  exact ⟨rfl, hf.fq.trans (FQ_96 hf2)⟩
set_option maxRecDepth 20000 in
set_option maxHeartbeats 2000000 in
theorem cr_r1_2 {v : Int32} {P : Sg → Prop} {m j cn : Nat} {σ : Sg} (hly : CM mX10_lays [ar 79] σ (RelV (fun σ' => P σ' ∧ FRl σ σ'))) (him : ∀ σ', P σ' → CM mX10_isMessage [ar 79, ai (nI m)] σ' (Ret (nI 1) σ')) (hj : j < 2147483648) (hcn : cn ≤ 1000) (h : ∀ σ', P σ' → CM mX10_corrections [ar 79, ai (nI m), ai (nI j)] σ' (RelI (fun u σ2 => u = nI cn ∧ (∀ z, z ≠ 96 → σ2 z = σ' z) ∧ σ2 96 2 = v))) (hlt : j < cn) : CM mX10_correction [ar 79, ai (nI m), ai (nI j), ai (nI 2)] σ (RPQ σ v) := by
  refine CM_in (ls := [some (ar 79), some (ai (nI m)), some (ai (nI j)), some (ai (nI 2))]) rfl ?_
  refine g_aload_n (p0 := 1) (i := 0) dX10_correction_0 rfl rfl rfl ?_
  refine g_cV0P (p0 := 4) (r1 := mX10_lays) dX10_correction_1 lX10_151 vX10_lays (by first | rfl | assumption | exact RW.s (by assumption) | exact TW.s (by assumption)) ⟨_, _, rfl⟩ (FITi rfl rfl) (Nat.le_of_ble_eq_true rfl) (hly) rfl ?_
  rintro σ1 ⟨hP, hf⟩
  refine g_aload_n (p0 := 5) (i := 0) dX10_correction_4 rfl rfl rfl ?_
  refine g_iload_n (p0 := 6) (i := 1) dX10_correction_5 rfl rfl rfl ?_
  refine g_cV1R (p0 := 9) (r1 := mX10_isMessage) dX10_correction_6 lX10_158 vX10_isMessage (by first | rfl | assumption | exact RW.s (by assumption) | exact TW.s (by assumption)) ⟨_, _, rfl⟩ (FITi rfl rfl) (Nat.le_of_ble_eq_true rfl) (him _ hP) rfl ?_
  first | ((with_reducible refine isN1 ?_); refine g_ifN_eq (tgt := 25) (p1 := 12) dX10_correction_9 rfl (by omega) rfl (fun c_9 => by exfalso; first | omega | contradiction | exact absurd (by assumption) c_9 | (simp_all; done)) (fun c_9 => ?_)) | refine g_if_eq (tgt := 25) (p1 := 12) dX10_correction_9 rfl rfl (fun c_9 => by exfalso; first | omega | contradiction | exact absurd (by assumption) c_9 | (simp_all; done)) (fun c_9 => ?_)
  refine g_iload_n (p0 := 13) (i := 2) dX10_correction_12 rfl rfl rfl ?_
  first | ((with_reducible refine isN1 ?_); refine g_ifN_lt (tgt := 25) (p1 := 16) dX10_correction_13 rfl (by omega) rfl (fun c_13 => by exfalso; first | omega | contradiction | exact absurd (by assumption) c_13 | (simp_all; done)) (fun c_13 => ?_)) | refine g_if_lt (tgt := 25) (p1 := 16) dX10_correction_13 rfl rfl (fun c_13 => by exfalso; first | omega | contradiction | exact absurd (by assumption) c_13 | (simp_all; done)) (fun c_13 => ?_)
  refine g_iload_n (p0 := 17) (i := 3) dX10_correction_16 rfl rfl rfl ?_
  refine g_iconst (p0 := 18) (v := nI 0) dX10_correction_17 rfl rfl ?_
  refine g_iconst (p0 := 19) (v := nI 3) dX10_correction_18 rfl rfl ?_
  refine g_cS3R (p0 := 22) (r1 := mX10_in) dX10_correction_19 (Or.inl lX10_65) vX10_in (FITi rfl rfl) (Nat.le_of_ble_eq_true rfl) (in_T (by decide) (by decide)) rfl ?_
  first | ((with_reducible refine isN1 ?_); refine g_ifN_ne (tgt := 28) (p1 := 25) dX10_correction_22 rfl (by omega) rfl (fun c_22 => ?_) (fun c_22 => by exfalso; first | omega | contradiction | exact absurd (by assumption) c_22 | (simp_all; done))) | refine g_if_ne (tgt := 28) (p1 := 25) dX10_correction_22 rfl rfl (fun c_22 => ?_) (fun c_22 => by exfalso; first | omega | contradiction | exact absurd (by assumption) c_22 | (simp_all; done))
  refine g_aload_n (p0 := 29) (i := 0) dX10_correction_28 rfl rfl rfl ?_
  refine g_iload_n (p0 := 30) (i := 1) dX10_correction_29 rfl rfl rfl ?_
  refine g_iload_n (p0 := 31) (i := 2) dX10_correction_30 rfl rfl rfl ?_
  refine g_cV2I (p0 := 34) (r1 := mX10_corrections) dX10_correction_31 lX10_164 vX10_corrections (by first | rfl | assumption | exact RW.s (by assumption) | exact TW.s (by assumption)) ⟨_, _, rfl⟩ (FITi rfl rfl) (Nat.le_of_ble_eq_true rfl) (h _ hP) rfl ?_
  rintro u σ2 ⟨rfl, hf2, hv⟩
  refine g_iload_n (p0 := 35) (i := 2) dX10_correction_34 rfl rfl rfl ?_
  first | ((with_reducible refine isN2 ?_); refine g_icmpN_le (tgt := 47) (p1 := 38) dX10_correction_35 rfl (by omega) (by omega) rfl (fun c_35 => by exfalso; first | omega | contradiction | exact absurd (by assumption) c_35 | (simp_all; done)) (fun c_35 => ?_)) | refine g_icmp_le (tgt := 47) (p1 := 38) dX10_correction_35 rfl rfl (fun c_35 => by exfalso; first | omega | contradiction | exact absurd (by assumption) c_35 | (simp_all; done)) (fun c_35 => ?_)
  refine g_aload_n (p0 := 39) (i := 0) dX10_correction_38 rfl rfl rfl ?_
  refine g_getR (p0 := 42) dX10_correction_39 fX10_58 (by first | rfl | assumption | exact RW.s (by assumption) | exact TW.s (by assumption)) rfl rfl ?_
  refine g_iload_n (p0 := 43) (i := 3) dX10_correction_42 rfl rfl rfl ?_
  first | ((with_reducible refine isN1 ?_); refine g_aldN (p0 := 44) dX10_correction_43 (by first | rfl | assumption | exact RW.s (by assumption) | exact TW.s (by assumption)) (by first | decide | assumption) (by omega) (by first | assumption | ((repeat (first | exact up_hit | refine up_nv (by decide) ?_ | refine up_mv (by first | decide | omega) ?_)) <;> first | assumption | rfl)) rfl ?_) | refine g_ald (p0 := 44) dX10_correction_43 (by first | rfl | assumption | exact RW.s (by assumption) | exact TW.s (by assumption)) (by assumption) (by first | assumption | ((repeat (first | exact up_hit | refine up_nv (by decide) ?_ | refine up_mv (by first | decide | omega) ?_)) <;> first | assumption | rfl)) rfl ?_
  refine g_goto (tgt := 49) dX10_correction_44 rfl ?_
  refine g_ireturn dX10_correction_49 rfl rfl (?_)
  exact ⟨rfl, hf.fq.trans (FQ_96 hf2)⟩
set_option maxRecDepth 20000 in
set_option maxHeartbeats 2000000 in
theorem cr_r0_3 {P : Sg → Prop} {m j cn : Nat} {σ : Sg} (hly : CM mX10_lays [ar 79] σ (RelV (fun σ' => P σ' ∧ FRl σ σ'))) (him : ∀ σ', P σ' → CM mX10_isMessage [ar 79, ai (nI m)] σ' (Ret (nI 1) σ')) (hj : j < 2147483648) (hcn : cn ≤ 1000) (h : ∀ σ', P σ' → CM mX10_corrections [ar 79, ai (nI m), ai (nI j)] σ' (RelI (fun u σ2 => u = nI cn ∧ (∀ z, z ≠ 96 → σ2 z = σ' z)))) (hle : cn ≤ j) : CM mX10_correction [ar 79, ai (nI m), ai (nI j), ai (nI 3)] σ (RPQ σ (-1000004)) := by
  refine CM_in (ls := [some (ar 79), some (ai (nI m)), some (ai (nI j)), some (ai (nI 3))]) rfl ?_
  refine g_aload_n (p0 := 1) (i := 0) dX10_correction_0 rfl rfl rfl ?_
  refine g_cV0P (p0 := 4) (r1 := mX10_lays) dX10_correction_1 lX10_151 vX10_lays (by first | rfl | assumption | exact RW.s (by assumption) | exact TW.s (by assumption)) ⟨_, _, rfl⟩ (FITi rfl rfl) (Nat.le_of_ble_eq_true rfl) (hly) rfl ?_
  rintro σ1 ⟨hP, hf⟩
  refine g_aload_n (p0 := 5) (i := 0) dX10_correction_4 rfl rfl rfl ?_
  refine g_iload_n (p0 := 6) (i := 1) dX10_correction_5 rfl rfl rfl ?_
  refine g_cV1R (p0 := 9) (r1 := mX10_isMessage) dX10_correction_6 lX10_158 vX10_isMessage (by first | rfl | assumption | exact RW.s (by assumption) | exact TW.s (by assumption)) ⟨_, _, rfl⟩ (FITi rfl rfl) (Nat.le_of_ble_eq_true rfl) (him _ hP) rfl ?_
  first | ((with_reducible refine isN1 ?_); refine g_ifN_eq (tgt := 25) (p1 := 12) dX10_correction_9 rfl (by omega) rfl (fun c_9 => by exfalso; first | omega | contradiction | exact absurd (by assumption) c_9 | (simp_all; done)) (fun c_9 => ?_)) | refine g_if_eq (tgt := 25) (p1 := 12) dX10_correction_9 rfl rfl (fun c_9 => by exfalso; first | omega | contradiction | exact absurd (by assumption) c_9 | (simp_all; done)) (fun c_9 => ?_)
  refine g_iload_n (p0 := 13) (i := 2) dX10_correction_12 rfl rfl rfl ?_
  first | ((with_reducible refine isN1 ?_); refine g_ifN_lt (tgt := 25) (p1 := 16) dX10_correction_13 rfl (by omega) rfl (fun c_13 => by exfalso; first | omega | contradiction | exact absurd (by assumption) c_13 | (simp_all; done)) (fun c_13 => ?_)) | refine g_if_lt (tgt := 25) (p1 := 16) dX10_correction_13 rfl rfl (fun c_13 => by exfalso; first | omega | contradiction | exact absurd (by assumption) c_13 | (simp_all; done)) (fun c_13 => ?_)
  refine g_iload_n (p0 := 17) (i := 3) dX10_correction_16 rfl rfl rfl ?_
  refine g_iconst (p0 := 18) (v := nI 0) dX10_correction_17 rfl rfl ?_
  refine g_iconst (p0 := 19) (v := nI 3) dX10_correction_18 rfl rfl ?_
  refine g_cS3R (p0 := 22) (r1 := mX10_in) dX10_correction_19 (Or.inl lX10_65) vX10_in (FITi rfl rfl) (Nat.le_of_ble_eq_true rfl) (in_T (by decide) (by decide)) rfl ?_
  first | ((with_reducible refine isN1 ?_); refine g_ifN_ne (tgt := 28) (p1 := 25) dX10_correction_22 rfl (by omega) rfl (fun c_22 => ?_) (fun c_22 => by exfalso; first | omega | contradiction | exact absurd (by assumption) c_22 | (simp_all; done))) | refine g_if_ne (tgt := 28) (p1 := 25) dX10_correction_22 rfl rfl (fun c_22 => ?_) (fun c_22 => by exfalso; first | omega | contradiction | exact absurd (by assumption) c_22 | (simp_all; done))
  refine g_aload_n (p0 := 29) (i := 0) dX10_correction_28 rfl rfl rfl ?_
  refine g_iload_n (p0 := 30) (i := 1) dX10_correction_29 rfl rfl rfl ?_
  refine g_iload_n (p0 := 31) (i := 2) dX10_correction_30 rfl rfl rfl ?_
  refine g_cV2I (p0 := 34) (r1 := mX10_corrections) dX10_correction_31 lX10_164 vX10_corrections (by first | rfl | assumption | exact RW.s (by assumption) | exact TW.s (by assumption)) ⟨_, _, rfl⟩ (FITi rfl rfl) (Nat.le_of_ble_eq_true rfl) (h _ hP) rfl ?_
  rintro u σ2 ⟨rfl, hf2⟩
  refine g_iload_n (p0 := 35) (i := 2) dX10_correction_34 rfl rfl rfl ?_
  first | ((with_reducible refine isN2 ?_); refine g_icmpN_le (tgt := 47) (p1 := 38) dX10_correction_35 rfl (by omega) (by omega) rfl (fun c_35 => ?_) (fun c_35 => by exfalso; first | omega | contradiction | exact absurd (by assumption) c_35 | (simp_all; done))) | refine g_icmp_le (tgt := 47) (p1 := 38) dX10_correction_35 rfl rfl (fun c_35 => ?_) (fun c_35 => by exfalso; first | omega | contradiction | exact absurd (by assumption) c_35 | (simp_all; done))
  refine g_ldc (p0 := 49) dX10_correction_47 qX10_154 rfl ?_
  refine g_ireturn dX10_correction_49 rfl rfl (?_)
  exact ⟨rfl, hf.fq.trans (FQ_96 hf2)⟩
set_option maxRecDepth 20000 in
set_option maxHeartbeats 2000000 in
theorem cr_r1_3 {v : Int32} {P : Sg → Prop} {m j cn : Nat} {σ : Sg} (hly : CM mX10_lays [ar 79] σ (RelV (fun σ' => P σ' ∧ FRl σ σ'))) (him : ∀ σ', P σ' → CM mX10_isMessage [ar 79, ai (nI m)] σ' (Ret (nI 1) σ')) (hj : j < 2147483648) (hcn : cn ≤ 1000) (h : ∀ σ', P σ' → CM mX10_corrections [ar 79, ai (nI m), ai (nI j)] σ' (RelI (fun u σ2 => u = nI cn ∧ (∀ z, z ≠ 96 → σ2 z = σ' z) ∧ σ2 96 3 = v))) (hlt : j < cn) : CM mX10_correction [ar 79, ai (nI m), ai (nI j), ai (nI 3)] σ (RPQ σ v) := by
  refine CM_in (ls := [some (ar 79), some (ai (nI m)), some (ai (nI j)), some (ai (nI 3))]) rfl ?_
  refine g_aload_n (p0 := 1) (i := 0) dX10_correction_0 rfl rfl rfl ?_
  refine g_cV0P (p0 := 4) (r1 := mX10_lays) dX10_correction_1 lX10_151 vX10_lays (by first | rfl | assumption | exact RW.s (by assumption) | exact TW.s (by assumption)) ⟨_, _, rfl⟩ (FITi rfl rfl) (Nat.le_of_ble_eq_true rfl) (hly) rfl ?_
  rintro σ1 ⟨hP, hf⟩
  refine g_aload_n (p0 := 5) (i := 0) dX10_correction_4 rfl rfl rfl ?_
  refine g_iload_n (p0 := 6) (i := 1) dX10_correction_5 rfl rfl rfl ?_
  refine g_cV1R (p0 := 9) (r1 := mX10_isMessage) dX10_correction_6 lX10_158 vX10_isMessage (by first | rfl | assumption | exact RW.s (by assumption) | exact TW.s (by assumption)) ⟨_, _, rfl⟩ (FITi rfl rfl) (Nat.le_of_ble_eq_true rfl) (him _ hP) rfl ?_
  first | ((with_reducible refine isN1 ?_); refine g_ifN_eq (tgt := 25) (p1 := 12) dX10_correction_9 rfl (by omega) rfl (fun c_9 => by exfalso; first | omega | contradiction | exact absurd (by assumption) c_9 | (simp_all; done)) (fun c_9 => ?_)) | refine g_if_eq (tgt := 25) (p1 := 12) dX10_correction_9 rfl rfl (fun c_9 => by exfalso; first | omega | contradiction | exact absurd (by assumption) c_9 | (simp_all; done)) (fun c_9 => ?_)
  refine g_iload_n (p0 := 13) (i := 2) dX10_correction_12 rfl rfl rfl ?_
  first | ((with_reducible refine isN1 ?_); refine g_ifN_lt (tgt := 25) (p1 := 16) dX10_correction_13 rfl (by omega) rfl (fun c_13 => by exfalso; first | omega | contradiction | exact absurd (by assumption) c_13 | (simp_all; done)) (fun c_13 => ?_)) | refine g_if_lt (tgt := 25) (p1 := 16) dX10_correction_13 rfl rfl (fun c_13 => by exfalso; first | omega | contradiction | exact absurd (by assumption) c_13 | (simp_all; done)) (fun c_13 => ?_)
  refine g_iload_n (p0 := 17) (i := 3) dX10_correction_16 rfl rfl rfl ?_
  refine g_iconst (p0 := 18) (v := nI 0) dX10_correction_17 rfl rfl ?_
  refine g_iconst (p0 := 19) (v := nI 3) dX10_correction_18 rfl rfl ?_
  refine g_cS3R (p0 := 22) (r1 := mX10_in) dX10_correction_19 (Or.inl lX10_65) vX10_in (FITi rfl rfl) (Nat.le_of_ble_eq_true rfl) (in_T (by decide) (by decide)) rfl ?_
  first | ((with_reducible refine isN1 ?_); refine g_ifN_ne (tgt := 28) (p1 := 25) dX10_correction_22 rfl (by omega) rfl (fun c_22 => ?_) (fun c_22 => by exfalso; first | omega | contradiction | exact absurd (by assumption) c_22 | (simp_all; done))) | refine g_if_ne (tgt := 28) (p1 := 25) dX10_correction_22 rfl rfl (fun c_22 => ?_) (fun c_22 => by exfalso; first | omega | contradiction | exact absurd (by assumption) c_22 | (simp_all; done))
  refine g_aload_n (p0 := 29) (i := 0) dX10_correction_28 rfl rfl rfl ?_
  refine g_iload_n (p0 := 30) (i := 1) dX10_correction_29 rfl rfl rfl ?_
  refine g_iload_n (p0 := 31) (i := 2) dX10_correction_30 rfl rfl rfl ?_
  refine g_cV2I (p0 := 34) (r1 := mX10_corrections) dX10_correction_31 lX10_164 vX10_corrections (by first | rfl | assumption | exact RW.s (by assumption) | exact TW.s (by assumption)) ⟨_, _, rfl⟩ (FITi rfl rfl) (Nat.le_of_ble_eq_true rfl) (h _ hP) rfl ?_
  rintro u σ2 ⟨rfl, hf2, hv⟩
  refine g_iload_n (p0 := 35) (i := 2) dX10_correction_34 rfl rfl rfl ?_
  first | ((with_reducible refine isN2 ?_); refine g_icmpN_le (tgt := 47) (p1 := 38) dX10_correction_35 rfl (by omega) (by omega) rfl (fun c_35 => by exfalso; first | omega | contradiction | exact absurd (by assumption) c_35 | (simp_all; done)) (fun c_35 => ?_)) | refine g_icmp_le (tgt := 47) (p1 := 38) dX10_correction_35 rfl rfl (fun c_35 => by exfalso; first | omega | contradiction | exact absurd (by assumption) c_35 | (simp_all; done)) (fun c_35 => ?_)
  refine g_aload_n (p0 := 39) (i := 0) dX10_correction_38 rfl rfl rfl ?_
  refine g_getR (p0 := 42) dX10_correction_39 fX10_58 (by first | rfl | assumption | exact RW.s (by assumption) | exact TW.s (by assumption)) rfl rfl ?_
  refine g_iload_n (p0 := 43) (i := 3) dX10_correction_42 rfl rfl rfl ?_
  first | ((with_reducible refine isN1 ?_); refine g_aldN (p0 := 44) dX10_correction_43 (by first | rfl | assumption | exact RW.s (by assumption) | exact TW.s (by assumption)) (by first | decide | assumption) (by omega) (by first | assumption | ((repeat (first | exact up_hit | refine up_nv (by decide) ?_ | refine up_mv (by first | decide | omega) ?_)) <;> first | assumption | rfl)) rfl ?_) | refine g_ald (p0 := 44) dX10_correction_43 (by first | rfl | assumption | exact RW.s (by assumption) | exact TW.s (by assumption)) (by assumption) (by first | assumption | ((repeat (first | exact up_hit | refine up_nv (by decide) ?_ | refine up_mv (by first | decide | omega) ?_)) <;> first | assumption | rfl)) rfl ?_
  refine g_goto (tgt := 49) dX10_correction_44 rfl ?_
  refine g_ireturn dX10_correction_49 rfl rfl (?_)
  exact ⟨rfl, hf.fq.trans (FQ_96 hf2)⟩
theorem op_correction (x0 x1 x2 : Int32) : OpOK Inv mX9_correction mX10_correction [ai x0, ai x1, ai x2] := by
  intro σ hI
  obtain ⟨s, M, L, c, fs, f, n, p, d, g, a, b, hs, hs1, hC, hJ⟩ := JQ hI
  obtain ⟨⟨c1, c2, c3, k1, k2, k3⟩, cM, cL⟩ := id hC
  have hM1 : M ≤ 160 := by omega
  rcases msg_c hM1 x0 with ⟨m, hm, rfl⟩ | ⟨h1, h2⟩
  · obtain ⟨⟨n1, n2⟩, a1, a2, a3, a4, a5, a6, a7⟩ := cM m hm
    have him : ∀ σ' : Sg, REF σ' s M L c fs f n p d g a b (σ 42) (σ 44) → CM mX10_isMessage [ar 79, ai (nI m)] σ' (Ret (nI 1) σ') := fun σ' hP => isMessage_T hP.1.2.2.1 hM1 hm
    rcases i32c x1 with hneg | ⟨j, hj, rfl⟩
    · exact op_ask hI (CPQ_of (cr_ci c1 hM1 hm hneg)) (fun σ1 hf hI1 => cr_ri (hJ σ1 hf) him hneg)
    · rcases i32c x2 with hneg | ⟨k, hk, rfl⟩
      · exact op_ask hI (CPQ_of (cr_cw c1 hM1 hm hj hneg)) (fun σ1 hf hI1 => cr_rw (hJ σ1 hf) him hj hneg)
      · by_cases h4 : k < 4
        · have hb := cnF_le (F := (FIQ (σ 42) (σ 44) g a b (f m) (n m))) (4 * n m)
          have hcn : cnF (FIQ (σ 42) (σ 44) g a b (f m) (n m)) (4 * n m) ≤ 1000 := by omega
          have hc : k = 0 ∨ k = 1 ∨ k = 2 ∨ k = 3 := by omega
          by_cases hlt : j < cnF (FIQ (σ 42) (σ 44) g a b (f m) (n m)) (4 * n m)
          · obtain ⟨q, hq, hF, hcq⟩ := cnF_hit (4 * n m) hlt
            rcases hc with rfl | rfl | rfl | rfl
            · exact op_ask hI (cr_c1_0 c1 hM1 hm hj (CM.mono (find_1 hC hm hj hlt) (by rintro w σ2 ⟨u, rfl, h3, h4⟩; exact ⟨u, rfl, h3, h4.of, (h4.2.2 q hq hF (by rw [hcq])).1⟩))) (fun σ1 hf hI1 => cr_r1_0 (hJ σ1 hf) him hj hcn (fun σ' hP => CM.mono (corrections_r hP (REF.pos hC) hm) (by rintro w σ2 ⟨u, rfl, h3, h4⟩; exact ⟨u, rfl, h3, h4.1, (h4.2 q hq hF (by rw [hcq])).1⟩)) hlt)
            · exact op_ask hI (cr_c1_1 c1 hM1 hm hj (CM.mono (find_1 hC hm hj hlt) (by rintro w σ2 ⟨u, rfl, h3, h4⟩; exact ⟨u, rfl, h3, h4.of, (h4.2.2 q hq hF (by rw [hcq])).2.1⟩))) (fun σ1 hf hI1 => cr_r1_1 (hJ σ1 hf) him hj hcn (fun σ' hP => CM.mono (corrections_r hP (REF.pos hC) hm) (by rintro w σ2 ⟨u, rfl, h3, h4⟩; exact ⟨u, rfl, h3, h4.1, (h4.2 q hq hF (by rw [hcq])).2.1⟩)) hlt)
            · by_cases hp : q % 2 = 0
              · exact op_ask hI (cr_c1_21 c1 hM1 hm hj (CM.mono (find_1 hC hm hj hlt) (by rintro w σ2 ⟨u, rfl, h3, h4⟩; refine ⟨u, rfl, h3, h4.of, ?_⟩; have h5 := (h4.2.2 q hq hF (by rw [hcq])).2.2.1; rw [if_pos hp] at h5; exact h5))) (fun σ1 hf hI1 => cr_r1_2 (hJ σ1 hf) him hj hcn (fun σ' hP => CM.mono (corrections_r hP (REF.pos hC) hm) (by rintro w σ2 ⟨u, rfl, h3, h4⟩; refine ⟨u, rfl, h3, h4.1, ?_⟩; have h5 := (h4.2 q hq hF (by rw [hcq])).2.2.1; rw [hp] at h5; exact h5)) hlt)
              · have hp1 : q % 2 = 1 := by omega
                exact op_ask hI (cr_c1_20 c1 hM1 hm hj (CM.mono (find_1 hC hm hj hlt) (by rintro w σ2 ⟨u, rfl, h3, h4⟩; refine ⟨u, rfl, h3, h4.of, ?_⟩; have h5 := (h4.2.2 q hq hF (by rw [hcq])).2.2.1; rw [if_neg hp] at h5; exact h5))) (fun σ1 hf hI1 => cr_r1_2 (hJ σ1 hf) him hj hcn (fun σ' hP => CM.mono (corrections_r hP (REF.pos hC) hm) (by rintro w σ2 ⟨u, rfl, h3, h4⟩; refine ⟨u, rfl, h3, h4.1, ?_⟩; have h5 := (h4.2 q hq hF (by rw [hcq])).2.2.1; rw [hp1] at h5; exact h5)) hlt)
            · exact op_ask hI (cr_c1_3 c1 hM1 hm hj (CM.mono (find_1 hC hm hj hlt) (by rintro w σ2 ⟨u, rfl, h3, h4⟩; exact ⟨u, rfl, h3, h4.of, (h4.2.2 q hq hF (by rw [hcq])).2.2.2⟩))) (fun σ1 hf hI1 => cr_r1_3 (hJ σ1 hf) him hj hcn (fun σ' hP => CM.mono (corrections_r hP (REF.pos hC) hm) (by rintro w σ2 ⟨u, rfl, h3, h4⟩; exact ⟨u, rfl, h3, h4.1, (h4.2 q hq hF (by rw [hcq])).2.2.2⟩)) hlt)
          · have hfd : CM mX1_find [ar 72, ar 33, ai (nI m), ai (nI j)] σ (RelI (fun u σ1 => u = nI 0 ∧ FC σ σ1)) := by
              refine CM.mono (find_0 hC hm hj hlt) ?_
              rintro w σ2 ⟨u, rfl, h3, h4⟩
              exact ⟨u, rfl, h3, h4.of⟩
            have hcr : ∀ σ' : Sg, REF σ' s M L c fs f n p d g a b (σ 42) (σ 44) → CM mX10_corrections [ar 79, ai (nI m), ai (nI j)] σ' (RelI (fun u σ2 => u = nI (cnF (FIQ (σ 42) (σ 44) g a b (f m) (n m)) (4 * n m)) ∧ (∀ z, z ≠ 96 → σ2 z = σ' z))) := by
              intro σ' hP
              refine CM.mono (corrections_r hP (REF.pos hC) hm) ?_
              rintro w σ2 ⟨u, rfl, h3, h4⟩
              exact ⟨u, rfl, h3, h4.1⟩
            rcases hc with rfl | rfl | rfl | rfl
            · exact op_ask hI (cr_c0_0 c1 hM1 hm hj hfd) (fun σ1 hf hI1 => cr_r0_0 (hJ σ1 hf) him hj hcn hcr (by omega))
            · exact op_ask hI (cr_c0_1 c1 hM1 hm hj hfd) (fun σ1 hf hI1 => cr_r0_1 (hJ σ1 hf) him hj hcn hcr (by omega))
            · exact op_ask hI (cr_c0_2 c1 hM1 hm hj hfd) (fun σ1 hf hI1 => cr_r0_2 (hJ σ1 hf) him hj hcn hcr (by omega))
            · exact op_ask hI (cr_c0_3 c1 hM1 hm hj hfd) (fun σ1 hf hI1 => cr_r0_3 (hJ σ1 hf) him hj hcn hcr (by omega))
        · exact op_ask hI (CPQ_of (cr_cx c1 hM1 hm hj hk (by omega))) (fun σ1 hf hI1 => cr_rx (hJ σ1 hf) him hj hk (by omega))
  · exact op_ask hI (CPQ_of (cr_cF (h1 σ c1))) (fun σ1 hf hI1 => cr_rF (hJ σ1 hf) (fun σ' hP => h2 σ' hP.1.2.2.1))
