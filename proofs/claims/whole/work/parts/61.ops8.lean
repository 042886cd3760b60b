/-! OPERATIONS: shift -/
set_option maxRecDepth 20000 in
set_option maxHeartbeats 2000000 in
theorem shift_ca {x y : Int32} {σ : Sg} (h : CM mX8_hasStroke [ar 1, ai x] σ (Ret (nI 0) σ)) : CM mX9_shift [ar 0, ai x, ai y] σ (Ret (-1000001) σ) := by
  refine CM_in (ls := [some (ar 0), some (ai x), some (ai y), none, none]) rfl ?_
  refine g_aload_n (p0 := 1) (i := 0) dX9_shift_0 rfl rfl rfl ?_
  refine g_getR (p0 := 4) dX9_shift_1 fX9_10 (by first | rfl | assumption | exact RW.s (by assumption) | exact TW.s (by assumption)) rfl rfl ?_
  refine g_iload_n (p0 := 5) (i := 1) dX9_shift_4 rfl rfl rfl ?_
  refine g_cV1R (p0 := 8) (r1 := mX8_hasStroke) dX9_shift_5 lX9_107 vX8_hasStroke (by first | rfl | assumption | exact RW.s (by assumption) | exact TW.s (by assumption)) ⟨_, _, rfl⟩ (FITi rfl rfl) (Nat.le_of_ble_eq_true rfl) (h) rfl ?_
  first | ((with_reducible refine isN1 ?_); refine g_ifN_eq (tgt := 27) (p1 := 11) dX9_shift_8 rfl (by omega) rfl (fun c_8 => ?_) (fun c_8 => by exfalso; first | omega | contradiction | exact h0 c_8 | exact c_8 (Int32.not_lt.mp h3) | exact absurd h (Int32.not_lt.mpr c_8))) | refine g_if_eq (tgt := 27) (p1 := 11) dX9_shift_8 rfl rfl (fun c_8 => ?_) (fun c_8 => by exfalso; first | omega | contradiction | exact h0 c_8 | exact c_8 (Int32.not_lt.mp h3) | exact absurd h (Int32.not_lt.mpr c_8))
  refine g_ldc (p0 := 29) dX9_shift_27 qX9_68 rfl ?_
  refine g_ireturn dX9_shift_29 rfl rfl (?_)
  exact ⟨rfl, rfl⟩
set_option maxRecDepth 20000 in
set_option maxHeartbeats 2000000 in
theorem shift_ra {x y : Int32} {σ : Sg} (h : CM mX10_isStroke [ar 79, ai x] σ (Ret (nI 0) σ)) : CM mX10_shift [ar 79, ai x, ai y] σ (Ret (-1000001) σ) := by
  refine CM_in (ls := [some (ar 79), some (ai x), some (ai y), none]) rfl ?_
  refine g_aload_n (p0 := 1) (i := 0) dX10_shift_0 rfl rfl rfl ?_
  refine g_iload_n (p0 := 2) (i := 1) dX10_shift_1 rfl rfl rfl ?_
  refine g_cV1R (p0 := 5) (r1 := mX10_isStroke) dX10_shift_2 lX10_109 vX10_isStroke (by first | rfl | assumption | exact RW.s (by assumption) | exact TW.s (by assumption)) ⟨_, _, rfl⟩ (FITi rfl rfl) (Nat.le_of_ble_eq_true rfl) (h) rfl ?_
  first | ((with_reducible refine isN1 ?_); refine g_ifN_eq (tgt := 23) (p1 := 8) dX10_shift_5 rfl (by omega) rfl (fun c_5 => ?_) (fun c_5 => by exfalso; first | omega | contradiction | exact h0 c_5 | exact c_5 (Int32.not_lt.mp h3) | exact absurd h (Int32.not_lt.mpr c_5))) | refine g_if_eq (tgt := 23) (p1 := 8) dX10_shift_5 rfl rfl (fun c_5 => ?_) (fun c_5 => by exfalso; first | omega | contradiction | exact h0 c_5 | exact c_5 (Int32.not_lt.mp h3) | exact absurd h (Int32.not_lt.mpr c_5))
  refine g_ldc (p0 := 25) dX10_shift_23 qX10_76 rfl ?_
  refine g_ireturn dX10_shift_25 rfl rfl (?_)
  exact ⟨rfl, rfl⟩
set_option maxRecDepth 20000 in
set_option maxHeartbeats 2000000 in
theorem shift_cb {p s : Nat} {σ : Sg} (hs : σ 1 2 = nI s) (hs1 : s ≤ 160) (hp : p < s)  : CM mX9_shift [ar 0, ai (nI p), ai (nI 0)] σ (Ret (-1000001) σ) := by
  refine CM_in (ls := [some (ar 0), some (ai (nI p)), some (ai (nI 0)), none, none]) rfl ?_
  refine g_aload_n (p0 := 1) (i := 0) dX9_shift_0 rfl rfl rfl ?_
  refine g_getR (p0 := 4) dX9_shift_1 fX9_10 (by first | rfl | assumption | exact RW.s (by assumption) | exact TW.s (by assumption)) rfl rfl ?_
  refine g_iload_n (p0 := 5) (i := 1) dX9_shift_4 rfl rfl rfl ?_
  refine g_cV1R (p0 := 8) (r1 := mX8_hasStroke) dX9_shift_5 lX9_107 vX8_hasStroke (by first | rfl | assumption | exact RW.s (by assumption) | exact TW.s (by assumption)) ⟨_, _, rfl⟩ (FITi rfl rfl) (Nat.le_of_ble_eq_true rfl) (hasStroke_T TW1 hs hs1 hp) rfl ?_
  first | ((with_reducible refine isN1 ?_); refine g_ifN_eq (tgt := 27) (p1 := 11) dX9_shift_8 rfl (by omega) rfl (fun c_8 => by exfalso; first | omega | contradiction | exact h0 c_8 | exact c_8 (Int32.not_lt.mp h3) | exact absurd h (Int32.not_lt.mpr c_8)) (fun c_8 => ?_)) | refine g_if_eq (tgt := 27) (p1 := 11) dX9_shift_8 rfl rfl (fun c_8 => by exfalso; first | omega | contradiction | exact h0 c_8 | exact c_8 (Int32.not_lt.mp h3) | exact absurd h (Int32.not_lt.mpr c_8)) (fun c_8 => ?_)
  refine g_iload_n (p0 := 12) (i := 2) dX9_shift_11 rfl rfl rfl ?_
  first | ((with_reducible refine isN1 ?_); refine g_ifN_eq (tgt := 27) (p1 := 15) dX9_shift_12 rfl (by omega) rfl (fun c_12 => ?_) (fun c_12 => by exfalso; first | omega | contradiction | exact h0 c_12 | exact c_12 (Int32.not_lt.mp h3) | exact absurd h (Int32.not_lt.mpr c_12))) | refine g_if_eq (tgt := 27) (p1 := 15) dX9_shift_12 rfl rfl (fun c_12 => ?_) (fun c_12 => by exfalso; first | omega | contradiction | exact h0 c_12 | exact c_12 (Int32.not_lt.mp h3) | exact absurd h (Int32.not_lt.mpr c_12))
  refine g_ldc (p0 := 29) dX9_shift_27 qX9_68 rfl ?_
  refine g_ireturn dX9_shift_29 rfl rfl (?_)
  exact ⟨rfl, rfl⟩
set_option maxRecDepth 20000 in
set_option maxHeartbeats 2000000 in
theorem shift_rb {p s : Nat} {σ : Sg} (hs : σ 80 3 = nI s) (hs1 : s ≤ 160) (hp : p < s)  : CM mX10_shift [ar 79, ai (nI p), ai (nI 0)] σ (Ret (-1000001) σ) := by
  refine CM_in (ls := [some (ar 79), some (ai (nI p)), some (ai (nI 0)), none]) rfl ?_
  refine g_aload_n (p0 := 1) (i := 0) dX10_shift_0 rfl rfl rfl ?_
  refine g_iload_n (p0 := 2) (i := 1) dX10_shift_1 rfl rfl rfl ?_
  refine g_cV1R (p0 := 5) (r1 := mX10_isStroke) dX10_shift_2 lX10_109 vX10_isStroke (by first | rfl | assumption | exact RW.s (by assumption) | exact TW.s (by assumption)) ⟨_, _, rfl⟩ (FITi rfl rfl) (Nat.le_of_ble_eq_true rfl) (isStroke_T hs hs1 hp) rfl ?_
  first | ((with_reducible refine isN1 ?_); refine g_ifN_eq (tgt := 23) (p1 := 8) dX10_shift_5 rfl (by omega) rfl (fun c_5 => by exfalso; first | omega | contradiction | exact h0 c_5 | exact c_5 (Int32.not_lt.mp h3) | exact absurd h (Int32.not_lt.mpr c_5)) (fun c_5 => ?_)) | refine g_if_eq (tgt := 23) (p1 := 8) dX10_shift_5 rfl rfl (fun c_5 => by exfalso; first | omega | contradiction | exact h0 c_5 | exact c_5 (Int32.not_lt.mp h3) | exact absurd h (Int32.not_lt.mpr c_5)) (fun c_5 => ?_)
  refine g_iload_n (p0 := 9) (i := 2) dX10_shift_8 rfl rfl rfl ?_
  refine g_bipush (p0 := 11) (v := -99) dX10_shift_9 (by decide) rfl ?_
  refine g_bipush (p0 := 13) (v := nI 99) dX10_shift_11 (by decide) rfl ?_
  refine g_cS3R (p0 := 16) (r1 := mX10_in) dX10_shift_13 (Or.inl lX10_65) vX10_in (FITi rfl rfl) (Nat.le_of_ble_eq_true rfl) (in_T (by decide) (by decide)) rfl ?_
  first | ((with_reducible refine isN1 ?_); refine g_ifN_eq (tgt := 23) (p1 := 19) dX10_shift_16 rfl (by omega) rfl (fun c_16 => by exfalso; first | omega | contradiction | exact h0 c_16 | exact c_16 (Int32.not_lt.mp h3) | exact absurd h (Int32.not_lt.mpr c_16)) (fun c_16 => ?_)) | refine g_if_eq (tgt := 23) (p1 := 19) dX10_shift_16 rfl rfl (fun c_16 => by exfalso; first | omega | contradiction | exact h0 c_16 | exact c_16 (Int32.not_lt.mp h3) | exact absurd h (Int32.not_lt.mpr c_16)) (fun c_16 => ?_)
  refine g_iload_n (p0 := 20) (i := 2) dX10_shift_19 rfl rfl rfl ?_
  first | ((with_reducible refine isN1 ?_); refine g_ifN_ne (tgt := 26) (p1 := 23) dX10_shift_20 rfl (by omega) rfl (fun c_20 => by exfalso; first | omega | contradiction | exact h0 c_20 | exact c_20 (Int32.not_lt.mp h3) | exact absurd h (Int32.not_lt.mpr c_20)) (fun c_20 => ?_)) | refine g_if_ne (tgt := 26) (p1 := 23) dX10_shift_20 rfl rfl (fun c_20 => by exfalso; first | omega | contradiction | exact h0 c_20 | exact c_20 (Int32.not_lt.mp h3) | exact absurd h (Int32.not_lt.mpr c_20)) (fun c_20 => ?_)
  refine g_ldc (p0 := 25) dX10_shift_23 qX10_76 rfl ?_
  refine g_ireturn dX10_shift_25 rfl rfl (?_)
  exact ⟨rfl, rfl⟩
set_option maxRecDepth 20000 in
set_option maxHeartbeats 2000000 in
theorem shift_cc {p s : Nat} {x : Int32} {σ : Sg} (hs : σ 1 2 = nI s) (hs1 : s ≤ 160) (hp : p < s) (h0 : ¬ x = 0) (h : x < -99) : CM mX9_shift [ar 0, ai (nI p), ai x] σ (Ret (-1000001) σ) := by
  refine CM_in (ls := [some (ar 0), some (ai (nI p)), some (ai x), none, none]) rfl ?_
  refine g_aload_n (p0 := 1) (i := 0) dX9_shift_0 rfl rfl rfl ?_
  refine g_getR (p0 := 4) dX9_shift_1 fX9_10 (by first | rfl | assumption | exact RW.s (by assumption) | exact TW.s (by assumption)) rfl rfl ?_
  refine g_iload_n (p0 := 5) (i := 1) dX9_shift_4 rfl rfl rfl ?_
  refine g_cV1R (p0 := 8) (r1 := mX8_hasStroke) dX9_shift_5 lX9_107 vX8_hasStroke (by first | rfl | assumption | exact RW.s (by assumption) | exact TW.s (by assumption)) ⟨_, _, rfl⟩ (FITi rfl rfl) (Nat.le_of_ble_eq_true rfl) (hasStroke_T TW1 hs hs1 hp) rfl ?_
  first | ((with_reducible refine isN1 ?_); refine g_ifN_eq (tgt := 27) (p1 := 11) dX9_shift_8 rfl (by omega) rfl (fun c_8 => by exfalso; first | omega | contradiction | exact h0 c_8 | exact c_8 (Int32.not_lt.mp h3) | exact absurd h (Int32.not_lt.mpr c_8)) (fun c_8 => ?_)) | refine g_if_eq (tgt := 27) (p1 := 11) dX9_shift_8 rfl rfl (fun c_8 => by exfalso; first | omega | contradiction | exact h0 c_8 | exact c_8 (Int32.not_lt.mp h3) | exact absurd h (Int32.not_lt.mpr c_8)) (fun c_8 => ?_)
  refine g_iload_n (p0 := 12) (i := 2) dX9_shift_11 rfl rfl rfl ?_
  first | ((with_reducible refine isN1 ?_); refine g_ifN_eq (tgt := 27) (p1 := 15) dX9_shift_12 rfl (by omega) rfl (fun c_12 => by exfalso; first | omega | contradiction | exact h0 c_12 | exact c_12 (Int32.not_lt.mp h3) | exact absurd h (Int32.not_lt.mpr c_12)) (fun c_12 => ?_)) | refine g_if_eq (tgt := 27) (p1 := 15) dX9_shift_12 rfl rfl (fun c_12 => by exfalso; first | omega | contradiction | exact h0 c_12 | exact c_12 (Int32.not_lt.mp h3) | exact absurd h (Int32.not_lt.mpr c_12)) (fun c_12 => ?_)
  refine g_iload_n (p0 := 16) (i := 2) dX9_shift_15 rfl rfl rfl ?_
  refine g_bipush (p0 := 18) (v := -99) dX9_shift_16 (by decide) rfl ?_
  first | ((with_reducible refine isN2 ?_); refine g_icmpN_lt (tgt := 27) (p1 := 21) dX9_shift_18 rfl (by omega) (by omega) rfl (fun c_18 => ?_) (fun c_18 => by exfalso; first | omega | contradiction | exact h0 c_18 | exact c_18 (Int32.not_lt.mp h3) | exact absurd h (Int32.not_lt.mpr c_18))) | refine g_icmp_lt (tgt := 27) (p1 := 21) dX9_shift_18 rfl rfl (fun c_18 => ?_) (fun c_18 => by exfalso; first | omega | contradiction | exact h0 c_18 | exact c_18 (Int32.not_lt.mp h3) | exact absurd h (Int32.not_lt.mpr c_18))
  refine g_ldc (p0 := 29) dX9_shift_27 qX9_68 rfl ?_
  refine g_ireturn dX9_shift_29 rfl rfl (?_)
  exact ⟨rfl, rfl⟩
set_option maxRecDepth 20000 in
set_option maxHeartbeats 2000000 in
theorem shift_rc {p s : Nat} {x : Int32} {σ : Sg} (hs : σ 80 3 = nI s) (hs1 : s ≤ 160) (hp : p < s) (h : x < -99) : CM mX10_shift [ar 79, ai (nI p), ai x] σ (Ret (-1000001) σ) := by
  refine CM_in (ls := [some (ar 79), some (ai (nI p)), some (ai x), none]) rfl ?_
  refine g_aload_n (p0 := 1) (i := 0) dX10_shift_0 rfl rfl rfl ?_
  refine g_iload_n (p0 := 2) (i := 1) dX10_shift_1 rfl rfl rfl ?_
  refine g_cV1R (p0 := 5) (r1 := mX10_isStroke) dX10_shift_2 lX10_109 vX10_isStroke (by first | rfl | assumption | exact RW.s (by assumption) | exact TW.s (by assumption)) ⟨_, _, rfl⟩ (FITi rfl rfl) (Nat.le_of_ble_eq_true rfl) (isStroke_T hs hs1 hp) rfl ?_
  first | ((with_reducible refine isN1 ?_); refine g_ifN_eq (tgt := 23) (p1 := 8) dX10_shift_5 rfl (by omega) rfl (fun c_5 => by exfalso; first | omega | contradiction | exact h0 c_5 | exact c_5 (Int32.not_lt.mp h3) | exact absurd h (Int32.not_lt.mpr c_5)) (fun c_5 => ?_)) | refine g_if_eq (tgt := 23) (p1 := 8) dX10_shift_5 rfl rfl (fun c_5 => by exfalso; first | omega | contradiction | exact h0 c_5 | exact c_5 (Int32.not_lt.mp h3) | exact absurd h (Int32.not_lt.mpr c_5)) (fun c_5 => ?_)
  refine g_iload_n (p0 := 9) (i := 2) dX10_shift_8 rfl rfl rfl ?_
  refine g_bipush (p0 := 11) (v := -99) dX10_shift_9 (by decide) rfl ?_
  refine g_bipush (p0 := 13) (v := nI 99) dX10_shift_11 (by decide) rfl ?_
  refine g_cS3R (p0 := 16) (r1 := mX10_in) dX10_shift_13 (Or.inl lX10_65) vX10_in (FITi rfl rfl) (Nat.le_of_ble_eq_true rfl) (in_F1 h) rfl ?_
  first | ((with_reducible refine isN1 ?_); refine g_ifN_eq (tgt := 23) (p1 := 19) dX10_shift_16 rfl (by omega) rfl (fun c_16 => ?_) (fun c_16 => by exfalso; first | omega | contradiction | exact h0 c_16 | exact c_16 (Int32.not_lt.mp h3) | exact absurd h (Int32.not_lt.mpr c_16))) | refine g_if_eq (tgt := 23) (p1 := 19) dX10_shift_16 rfl rfl (fun c_16 => ?_) (fun c_16 => by exfalso; first | omega | contradiction | exact h0 c_16 | exact c_16 (Int32.not_lt.mp h3) | exact absurd h (Int32.not_lt.mpr c_16))
  refine g_ldc (p0 := 25) dX10_shift_23 qX10_76 rfl ?_
  refine g_ireturn dX10_shift_25 rfl rfl (?_)
  exact ⟨rfl, rfl⟩
set_option maxRecDepth 20000 in
set_option maxHeartbeats 2000000 in
theorem shift_cd {p s : Nat} {x : Int32} {σ : Sg} (hs : σ 1 2 = nI s) (hs1 : s ≤ 160) (hp : p < s) (h0 : ¬ x = 0) (h2 : ¬ x < -99) (h : nI 99 < x) : CM mX9_shift [ar 0, ai (nI p), ai x] σ (Ret (-1000001) σ) := by
  refine CM_in (ls := [some (ar 0), some (ai (nI p)), some (ai x), none, none]) rfl ?_
  refine g_aload_n (p0 := 1) (i := 0) dX9_shift_0 rfl rfl rfl ?_
  refine g_getR (p0 := 4) dX9_shift_1 fX9_10 (by first | rfl | assumption | exact RW.s (by assumption) | exact TW.s (by assumption)) rfl rfl ?_
  refine g_iload_n (p0 := 5) (i := 1) dX9_shift_4 rfl rfl rfl ?_
  refine g_cV1R (p0 := 8) (r1 := mX8_hasStroke) dX9_shift_5 lX9_107 vX8_hasStroke (by first | rfl | assumption | exact RW.s (by assumption) | exact TW.s (by assumption)) ⟨_, _, rfl⟩ (FITi rfl rfl) (Nat.le_of_ble_eq_true rfl) (hasStroke_T TW1 hs hs1 hp) rfl ?_
  first | ((with_reducible refine isN1 ?_); refine g_ifN_eq (tgt := 27) (p1 := 11) dX9_shift_8 rfl (by omega) rfl (fun c_8 => by exfalso; first | omega | contradiction | exact h0 c_8 | exact c_8 (Int32.not_lt.mp h3) | exact absurd h (Int32.not_lt.mpr c_8)) (fun c_8 => ?_)) | refine g_if_eq (tgt := 27) (p1 := 11) dX9_shift_8 rfl rfl (fun c_8 => by exfalso; first | omega | contradiction | exact h0 c_8 | exact c_8 (Int32.not_lt.mp h3) | exact absurd h (Int32.not_lt.mpr c_8)) (fun c_8 => ?_)
  refine g_iload_n (p0 := 12) (i := 2) dX9_shift_11 rfl rfl rfl ?_
  first | ((with_reducible refine isN1 ?_); refine g_ifN_eq (tgt := 27) (p1 := 15) dX9_shift_12 rfl (by omega) rfl (fun c_12 => by exfalso; first | omega | contradiction | exact h0 c_12 | exact c_12 (Int32.not_lt.mp h3) | exact absurd h (Int32.not_lt.mpr c_12)) (fun c_12 => ?_)) | refine g_if_eq (tgt := 27) (p1 := 15) dX9_shift_12 rfl rfl (fun c_12 => by exfalso; first | omega | contradiction | exact h0 c_12 | exact c_12 (Int32.not_lt.mp h3) | exact absurd h (Int32.not_lt.mpr c_12)) (fun c_12 => ?_)
  refine g_iload_n (p0 := 16) (i := 2) dX9_shift_15 rfl rfl rfl ?_
  refine g_bipush (p0 := 18) (v := -99) dX9_shift_16 (by decide) rfl ?_
  first | ((with_reducible refine isN2 ?_); refine g_icmpN_lt (tgt := 27) (p1 := 21) dX9_shift_18 rfl (by omega) (by omega) rfl (fun c_18 => by exfalso; first | omega | contradiction | exact h0 c_18 | exact c_18 (Int32.not_lt.mp h3) | exact absurd h (Int32.not_lt.mpr c_18)) (fun c_18 => ?_)) | refine g_icmp_lt (tgt := 27) (p1 := 21) dX9_shift_18 rfl rfl (fun c_18 => by exfalso; first | omega | contradiction | exact h0 c_18 | exact c_18 (Int32.not_lt.mp h3) | exact absurd h (Int32.not_lt.mpr c_18)) (fun c_18 => ?_)
  refine g_iload_n (p0 := 22) (i := 2) dX9_shift_21 rfl rfl rfl ?_
  refine g_bipush (p0 := 24) (v := nI 99) dX9_shift_22 (by decide) rfl ?_
  first | ((with_reducible refine isN2 ?_); refine g_icmpN_le (tgt := 30) (p1 := 27) dX9_shift_24 rfl (by omega) (by omega) rfl (fun c_24 => by exfalso; first | omega | contradiction | exact h0 c_24 | exact c_24 (Int32.not_lt.mp h3) | exact absurd h (Int32.not_lt.mpr c_24)) (fun c_24 => ?_)) | refine g_icmp_le (tgt := 30) (p1 := 27) dX9_shift_24 rfl rfl (fun c_24 => by exfalso; first | omega | contradiction | exact h0 c_24 | exact c_24 (Int32.not_lt.mp h3) | exact absurd h (Int32.not_lt.mpr c_24)) (fun c_24 => ?_)
  refine g_ldc (p0 := 29) dX9_shift_27 qX9_68 rfl ?_
  refine g_ireturn dX9_shift_29 rfl rfl (?_)
  exact ⟨rfl, rfl⟩
set_option maxRecDepth 20000 in
set_option maxHeartbeats 2000000 in
theorem shift_rd {p s : Nat} {x : Int32} {σ : Sg} (hs : σ 80 3 = nI s) (hs1 : s ≤ 160) (hp : p < s) (h2 : ¬ x < -99) (h : nI 99 < x) : CM mX10_shift [ar 79, ai (nI p), ai x] σ (Ret (-1000001) σ) := by
  refine CM_in (ls := [some (ar 79), some (ai (nI p)), some (ai x), none]) rfl ?_
  refine g_aload_n (p0 := 1) (i := 0) dX10_shift_0 rfl rfl rfl ?_
  refine g_iload_n (p0 := 2) (i := 1) dX10_shift_1 rfl rfl rfl ?_
  refine g_cV1R (p0 := 5) (r1 := mX10_isStroke) dX10_shift_2 lX10_109 vX10_isStroke (by first | rfl | assumption | exact RW.s (by assumption) | exact TW.s (by assumption)) ⟨_, _, rfl⟩ (FITi rfl rfl) (Nat.le_of_ble_eq_true rfl) (isStroke_T hs hs1 hp) rfl ?_
  first | ((with_reducible refine isN1 ?_); refine g_ifN_eq (tgt := 23) (p1 := 8) dX10_shift_5 rfl (by omega) rfl (fun c_5 => by exfalso; first | omega | contradiction | exact h0 c_5 | exact c_5 (Int32.not_lt.mp h3) | exact absurd h (Int32.not_lt.mpr c_5)) (fun c_5 => ?_)) | refine g_if_eq (tgt := 23) (p1 := 8) dX10_shift_5 rfl rfl (fun c_5 => by exfalso; first | omega | contradiction | exact h0 c_5 | exact c_5 (Int32.not_lt.mp h3) | exact absurd h (Int32.not_lt.mpr c_5)) (fun c_5 => ?_)
  refine g_iload_n (p0 := 9) (i := 2) dX10_shift_8 rfl rfl rfl ?_
  refine g_bipush (p0 := 11) (v := -99) dX10_shift_9 (by decide) rfl ?_
  refine g_bipush (p0 := 13) (v := nI 99) dX10_shift_11 (by decide) rfl ?_
  refine g_cS3R (p0 := 16) (r1 := mX10_in) dX10_shift_13 (Or.inl lX10_65) vX10_in (FITi rfl rfl) (Nat.le_of_ble_eq_true rfl) (in_F2 h2 h) rfl ?_
  first | ((with_reducible refine isN1 ?_); refine g_ifN_eq (tgt := 23) (p1 := 19) dX10_shift_16 rfl (by omega) rfl (fun c_16 => ?_) (fun c_16 => by exfalso; first | omega | contradiction | exact h0 c_16 | exact c_16 (Int32.not_lt.mp h3) | exact absurd h (Int32.not_lt.mpr c_16))) | refine g_if_eq (tgt := 23) (p1 := 19) dX10_shift_16 rfl rfl (fun c_16 => ?_) (fun c_16 => by exfalso; first | omega | contradiction | exact h0 c_16 | exact c_16 (Int32.not_lt.mp h3) | exact absurd h (Int32.not_lt.mpr c_16))
  refine g_ldc (p0 := 25) dX10_shift_23 qX10_76 rfl ?_
  refine g_ireturn dX10_shift_25 rfl rfl (?_)
  exact ⟨rfl, rfl⟩
set_option maxRecDepth 20000 in
set_option maxHeartbeats 2000000 in
theorem shift_ce {p s : Nat} {x : Int32} {σ : Sg} (hs : σ 1 2 = nI s) (hs1 : s ≤ 160) (hp : p < s) {a : Int32} (h0 : ¬ x = 0) (h2 : ¬ x < -99) (h3 : ¬ nI 99 < x) (va : σ 3 p = a) (ht : a + x < 0) : CM mX9_shift [ar 0, ai (nI p), ai x] σ (Ret (-1000002) σ) := by
  refine CM_in (ls := [some (ar 0), some (ai (nI p)), some (ai x), none, none]) rfl ?_
  refine g_aload_n (p0 := 1) (i := 0) dX9_shift_0 rfl rfl rfl ?_
  refine g_getR (p0 := 4) dX9_shift_1 fX9_10 (by first | rfl | assumption | exact RW.s (by assumption) | exact TW.s (by assumption)) rfl rfl ?_
  refine g_iload_n (p0 := 5) (i := 1) dX9_shift_4 rfl rfl rfl ?_
  refine g_cV1R (p0 := 8) (r1 := mX8_hasStroke) dX9_shift_5 lX9_107 vX8_hasStroke (by first | rfl | assumption | exact RW.s (by assumption) | exact TW.s (by assumption)) ⟨_, _, rfl⟩ (FITi rfl rfl) (Nat.le_of_ble_eq_true rfl) (hasStroke_T TW1 hs hs1 hp) rfl ?_
  first | ((with_reducible refine isN1 ?_); refine g_ifN_eq (tgt := 27) (p1 := 11) dX9_shift_8 rfl (by omega) rfl (fun c_8 => by exfalso; first | omega | contradiction | exact h0 c_8 | exact c_8 (Int32.not_lt.mp h3) | exact absurd h (Int32.not_lt.mpr c_8)) (fun c_8 => ?_)) | refine g_if_eq (tgt := 27) (p1 := 11) dX9_shift_8 rfl rfl (fun c_8 => by exfalso; first | omega | contradiction | exact h0 c_8 | exact c_8 (Int32.not_lt.mp h3) | exact absurd h (Int32.not_lt.mpr c_8)) (fun c_8 => ?_)
  refine g_iload_n (p0 := 12) (i := 2) dX9_shift_11 rfl rfl rfl ?_
  first | ((with_reducible refine isN1 ?_); refine g_ifN_eq (tgt := 27) (p1 := 15) dX9_shift_12 rfl (by omega) rfl (fun c_12 => by exfalso; first | omega | contradiction | exact h0 c_12 | exact c_12 (Int32.not_lt.mp h3) | exact absurd h (Int32.not_lt.mpr c_12)) (fun c_12 => ?_)) | refine g_if_eq (tgt := 27) (p1 := 15) dX9_shift_12 rfl rfl (fun c_12 => by exfalso; first | omega | contradiction | exact h0 c_12 | exact c_12 (Int32.not_lt.mp h3) | exact absurd h (Int32.not_lt.mpr c_12)) (fun c_12 => ?_)
  refine g_iload_n (p0 := 16) (i := 2) dX9_shift_15 rfl rfl rfl ?_
  refine g_bipush (p0 := 18) (v := -99) dX9_shift_16 (by decide) rfl ?_
  first | ((with_reducible refine isN2 ?_); refine g_icmpN_lt (tgt := 27) (p1 := 21) dX9_shift_18 rfl (by omega) (by omega) rfl (fun c_18 => by exfalso; first | omega | contradiction | exact h0 c_18 | exact c_18 (Int32.not_lt.mp h3) | exact absurd h (Int32.not_lt.mpr c_18)) (fun c_18 => ?_)) | refine g_icmp_lt (tgt := 27) (p1 := 21) dX9_shift_18 rfl rfl (fun c_18 => by exfalso; first | omega | contradiction | exact h0 c_18 | exact c_18 (Int32.not_lt.mp h3) | exact absurd h (Int32.not_lt.mpr c_18)) (fun c_18 => ?_)
  refine g_iload_n (p0 := 22) (i := 2) dX9_shift_21 rfl rfl rfl ?_
  refine g_bipush (p0 := 24) (v := nI 99) dX9_shift_22 (by decide) rfl ?_
  first | ((with_reducible refine isN2 ?_); refine g_icmpN_le (tgt := 30) (p1 := 27) dX9_shift_24 rfl (by omega) (by omega) rfl (fun c_24 => ?_) (fun c_24 => by exfalso; first | omega | contradiction | exact h0 c_24 | exact c_24 (Int32.not_lt.mp h3) | exact absurd h (Int32.not_lt.mpr c_24))) | refine g_icmp_le (tgt := 30) (p1 := 27) dX9_shift_24 rfl rfl (fun c_24 => ?_) (fun c_24 => by exfalso; first | omega | contradiction | exact h0 c_24 | exact c_24 (Int32.not_lt.mp h3) | exact absurd h (Int32.not_lt.mpr c_24))
  refine g_aload_n (p0 := 31) (i := 0) dX9_shift_30 rfl rfl rfl ?_
  refine g_getR (p0 := 34) dX9_shift_31 fX9_10 (by first | rfl | assumption | exact RW.s (by assumption) | exact TW.s (by assumption)) rfl rfl ?_
  refine g_getR (p0 := 37) dX9_shift_34 fX9_110 (by first | rfl | assumption | exact RW.s (by assumption) | exact TW.s (by assumption)) rfl rfl ?_
  refine g_iload_n (p0 := 38) (i := 1) dX9_shift_37 rfl rfl rfl ?_
  refine g_cV1R (p0 := 41) (r1 := mX7_at) dX9_shift_38 lX9_114 vX7_at (by first | rfl | assumption | exact RW.s (by assumption) | exact TW.s (by assumption)) ⟨_, _, rfl⟩ (FITi rfl rfl) (Nat.le_of_ble_eq_true rfl) (at_N (by first | exact ⟨rfl, rfl, by decide⟩ | assumption) (by omega) va) rfl ?_
  refine g_iload_n (p0 := 42) (i := 2) dX9_shift_41 rfl rfl rfl ?_
  first | ((with_reducible refine isN2 ?_); refine g_iaddN (p0 := 43) dX9_shift_42 rfl ?_) | refine g_iadd (p0 := 43) dX9_shift_42 rfl ?_
  refine g_istore_n (p0 := 44) (i := 3) (ls2 := [_, _, _, _, _]) dX9_shift_43 rfl (Nat.le_of_ble_eq_true rfl) rfl rfl ?_
  refine g_iload_n (p0 := 45) (i := 3) dX9_shift_44 rfl rfl rfl ?_
  first | ((with_reducible refine isN1 ?_); refine g_ifN_lt (tgt := 66) (p1 := 48) dX9_shift_45 rfl (by omega) rfl (fun c_45 => ?_) (fun c_45 => by exfalso; first | omega | contradiction | exact h0 c_45 | exact c_45 (Int32.not_lt.mp h3) | exact absurd h (Int32.not_lt.mpr c_45))) | refine g_if_lt (tgt := 66) (p1 := 48) dX9_shift_45 rfl rfl (fun c_45 => ?_) (fun c_45 => by exfalso; first | omega | contradiction | exact h0 c_45 | exact c_45 (Int32.not_lt.mp h3) | exact absurd h (Int32.not_lt.mpr c_45))
  refine g_ldc (p0 := 68) dX9_shift_66 qX9_96 rfl ?_
  refine g_ireturn dX9_shift_68 rfl rfl (?_)
  exact ⟨rfl, rfl⟩
set_option maxRecDepth 20000 in
set_option maxHeartbeats 2000000 in
theorem shift_re {p s : Nat} {x : Int32} {σ : Sg} (hs : σ 80 3 = nI s) (hs1 : s ≤ 160) (hp : p < s) {a : Int32} (h0 : ¬ x = 0) (h2 : ¬ x < -99) (h3 : ¬ nI 99 < x) (va : σ 80 (29 + p) = a) (ht : a + x < 0) : CM mX10_shift [ar 79, ai (nI p), ai x] σ (Ret (-1000002) σ) := by
  refine CM_in (ls := [some (ar 79), some (ai (nI p)), some (ai x), none]) rfl ?_
  refine g_aload_n (p0 := 1) (i := 0) dX10_shift_0 rfl rfl rfl ?_
  refine g_iload_n (p0 := 2) (i := 1) dX10_shift_1 rfl rfl rfl ?_
  refine g_cV1R (p0 := 5) (r1 := mX10_isStroke) dX10_shift_2 lX10_109 vX10_isStroke (by first | rfl | assumption | exact RW.s (by assumption) | exact TW.s (by assumption)) ⟨_, _, rfl⟩ (FITi rfl rfl) (Nat.le_of_ble_eq_true rfl) (isStroke_T hs hs1 hp) rfl ?_
  first | ((with_reducible refine isN1 ?_); refine g_ifN_eq (tgt := 23) (p1 := 8) dX10_shift_5 rfl (by omega) rfl (fun c_5 => by exfalso; first | omega | contradiction | exact h0 c_5 | exact c_5 (Int32.not_lt.mp h3) | exact absurd h (Int32.not_lt.mpr c_5)) (fun c_5 => ?_)) | refine g_if_eq (tgt := 23) (p1 := 8) dX10_shift_5 rfl rfl (fun c_5 => by exfalso; first | omega | contradiction | exact h0 c_5 | exact c_5 (Int32.not_lt.mp h3) | exact absurd h (Int32.not_lt.mpr c_5)) (fun c_5 => ?_)
  refine g_iload_n (p0 := 9) (i := 2) dX10_shift_8 rfl rfl rfl ?_
  refine g_bipush (p0 := 11) (v := -99) dX10_shift_9 (by decide) rfl ?_
  refine g_bipush (p0 := 13) (v := nI 99) dX10_shift_11 (by decide) rfl ?_
  refine g_cS3R (p0 := 16) (r1 := mX10_in) dX10_shift_13 (Or.inl lX10_65) vX10_in (FITi rfl rfl) (Nat.le_of_ble_eq_true rfl) (in_T h2 h3) rfl ?_
  first | ((with_reducible refine isN1 ?_); refine g_ifN_eq (tgt := 23) (p1 := 19) dX10_shift_16 rfl (by omega) rfl (fun c_16 => by exfalso; first | omega | contradiction | exact h0 c_16 | exact c_16 (Int32.not_lt.mp h3) | exact absurd h (Int32.not_lt.mpr c_16)) (fun c_16 => ?_)) | refine g_if_eq (tgt := 23) (p1 := 19) dX10_shift_16 rfl rfl (fun c_16 => by exfalso; first | omega | contradiction | exact h0 c_16 | exact c_16 (Int32.not_lt.mp h3) | exact absurd h (Int32.not_lt.mpr c_16)) (fun c_16 => ?_)
  refine g_iload_n (p0 := 20) (i := 2) dX10_shift_19 rfl rfl rfl ?_
  first | ((with_reducible refine isN1 ?_); refine g_ifN_ne (tgt := 26) (p1 := 23) dX10_shift_20 rfl (by omega) rfl (fun c_20 => ?_) (fun c_20 => by exfalso; first | omega | contradiction | exact h0 c_20 | exact c_20 (Int32.not_lt.mp h3) | exact absurd h (Int32.not_lt.mpr c_20))) | refine g_if_ne (tgt := 26) (p1 := 23) dX10_shift_20 rfl rfl (fun c_20 => ?_) (fun c_20 => by exfalso; first | omega | contradiction | exact h0 c_20 | exact c_20 (Int32.not_lt.mp h3) | exact absurd h (Int32.not_lt.mpr c_20))
  refine g_aload_n (p0 := 27) (i := 0) dX10_shift_26 rfl rfl rfl ?_
  refine g_getR (p0 := 30) dX10_shift_27 fX10_7 (by first | rfl | assumption | exact RW.s (by assumption) | exact TW.s (by assumption)) rfl rfl ?_
  refine g_bipush (p0 := 32) (v := nI 29) dX10_shift_30 (by decide) rfl ?_
  refine g_iload_n (p0 := 33) (i := 1) dX10_shift_32 rfl rfl rfl ?_
  first | ((with_reducible refine isN2 ?_); refine g_iaddN (p0 := 34) dX10_shift_33 rfl ?_) | refine g_iadd (p0 := 34) dX10_shift_33 rfl ?_
  first | ((with_reducible refine isN1 ?_); refine g_aldN (p0 := 35) dX10_shift_34 (by first | rfl | assumption | exact RW.s (by assumption) | exact TW.s (by assumption)) (by first | decide | assumption) (by omega) (by first | assumption | ((repeat (first | exact up_hit | refine up_nv (by decide) ?_ | refine up_mv (by first | decide | omega) ?_)) <;> first | assumption | rfl)) rfl ?_) | refine g_ald (p0 := 35) dX10_shift_34 (by first | rfl | assumption | exact RW.s (by assumption) | exact TW.s (by assumption)) (by assumption) (by first | assumption | ((repeat (first | exact up_hit | refine up_nv (by decide) ?_ | refine up_mv (by first | decide | omega) ?_)) <;> first | assumption | rfl)) rfl ?_
  refine g_iload_n (p0 := 36) (i := 2) dX10_shift_35 rfl rfl rfl ?_
  first | ((with_reducible refine isN2 ?_); refine g_iaddN (p0 := 37) dX10_shift_36 rfl ?_) | refine g_iadd (p0 := 37) dX10_shift_36 rfl ?_
  refine g_istore_n (p0 := 38) (i := 3) (ls2 := [_, _, _, _]) dX10_shift_37 rfl (Nat.le_of_ble_eq_true rfl) rfl rfl ?_
  refine g_iload_n (p0 := 39) (i := 3) dX10_shift_38 rfl rfl rfl ?_
  refine g_iconst (p0 := 40) (v := nI 0) dX10_shift_39 rfl rfl ?_
  refine g_sipush (p0 := 43) (v := nI 9999) dX10_shift_40 (by decide) rfl ?_
  refine g_cS3R (p0 := 46) (r1 := mX10_in) dX10_shift_43 (Or.inl lX10_65) vX10_in (FITi rfl rfl) (Nat.le_of_ble_eq_true rfl) (in_F1 ht) rfl ?_
  first | ((with_reducible refine isN1 ?_); refine g_ifN_eq (tgt := 57) (p1 := 49) dX10_shift_46 rfl (by omega) rfl (fun c_46 => ?_) (fun c_46 => by exfalso; first | omega | contradiction | exact h0 c_46 | exact c_46 (Int32.not_lt.mp h3) | exact absurd h (Int32.not_lt.mpr c_46))) | refine g_if_eq (tgt := 57) (p1 := 49) dX10_shift_46 rfl rfl (fun c_46 => ?_) (fun c_46 => by exfalso; first | omega | contradiction | exact h0 c_46 | exact c_46 (Int32.not_lt.mp h3) | exact absurd h (Int32.not_lt.mpr c_46))
  refine g_ldc (p0 := 59) dX10_shift_57 qX10_102 rfl ?_
  refine g_ireturn dX10_shift_59 rfl rfl (?_)
  exact ⟨rfl, rfl⟩
set_option maxRecDepth 20000 in
set_option maxHeartbeats 2000000 in
theorem shift_cf {p s : Nat} {x : Int32} {σ : Sg} (hs : σ 1 2 = nI s) (hs1 : s ≤ 160) (hp : p < s) {a : Int32} (h0 : ¬ x = 0) (h2 : ¬ x < -99) (h3 : ¬ nI 99 < x) (va : σ 3 p = a) {j : Nat} (ht : a + x = nI j) (hj : j < 2147483648) (hb : 9999 < j) : CM mX9_shift [ar 0, ai (nI p), ai x] σ (Ret (-1000002) σ) := by
  refine CM_in (ls := [some (ar 0), some (ai (nI p)), some (ai x), none, none]) rfl ?_
  refine g_aload_n (p0 := 1) (i := 0) dX9_shift_0 rfl rfl rfl ?_
  refine g_getR (p0 := 4) dX9_shift_1 fX9_10 (by first | rfl | assumption | exact RW.s (by assumption) | exact TW.s (by assumption)) rfl rfl ?_
  refine g_iload_n (p0 := 5) (i := 1) dX9_shift_4 rfl rfl rfl ?_
  refine g_cV1R (p0 := 8) (r1 := mX8_hasStroke) dX9_shift_5 lX9_107 vX8_hasStroke (by first | rfl | assumption | exact RW.s (by assumption) | exact TW.s (by assumption)) ⟨_, _, rfl⟩ (FITi rfl rfl) (Nat.le_of_ble_eq_true rfl) (hasStroke_T TW1 hs hs1 hp) rfl ?_
  first | ((with_reducible refine isN1 ?_); refine g_ifN_eq (tgt := 27) (p1 := 11) dX9_shift_8 rfl (by omega) rfl (fun c_8 => by exfalso; first | omega | contradiction | exact h0 c_8 | exact c_8 (Int32.not_lt.mp h3) | exact absurd h (Int32.not_lt.mpr c_8)) (fun c_8 => ?_)) | refine g_if_eq (tgt := 27) (p1 := 11) dX9_shift_8 rfl rfl (fun c_8 => by exfalso; first | omega | contradiction | exact h0 c_8 | exact c_8 (Int32.not_lt.mp h3) | exact absurd h (Int32.not_lt.mpr c_8)) (fun c_8 => ?_)
  refine g_iload_n (p0 := 12) (i := 2) dX9_shift_11 rfl rfl rfl ?_
  first | ((with_reducible refine isN1 ?_); refine g_ifN_eq (tgt := 27) (p1 := 15) dX9_shift_12 rfl (by omega) rfl (fun c_12 => by exfalso; first | omega | contradiction | exact h0 c_12 | exact c_12 (Int32.not_lt.mp h3) | exact absurd h (Int32.not_lt.mpr c_12)) (fun c_12 => ?_)) | refine g_if_eq (tgt := 27) (p1 := 15) dX9_shift_12 rfl rfl (fun c_12 => by exfalso; first | omega | contradiction | exact h0 c_12 | exact c_12 (Int32.not_lt.mp h3) | exact absurd h (Int32.not_lt.mpr c_12)) (fun c_12 => ?_)
  refine g_iload_n (p0 := 16) (i := 2) dX9_shift_15 rfl rfl rfl ?_
  refine g_bipush (p0 := 18) (v := -99) dX9_shift_16 (by decide) rfl ?_
  first | ((with_reducible refine isN2 ?_); refine g_icmpN_lt (tgt := 27) (p1 := 21) dX9_shift_18 rfl (by omega) (by omega) rfl (fun c_18 => by exfalso; first | omega | contradiction | exact h0 c_18 | exact c_18 (Int32.not_lt.mp h3) | exact absurd h (Int32.not_lt.mpr c_18)) (fun c_18 => ?_)) | refine g_icmp_lt (tgt := 27) (p1 := 21) dX9_shift_18 rfl rfl (fun c_18 => by exfalso; first | omega | contradiction | exact h0 c_18 | exact c_18 (Int32.not_lt.mp h3) | exact absurd h (Int32.not_lt.mpr c_18)) (fun c_18 => ?_)
  refine g_iload_n (p0 := 22) (i := 2) dX9_shift_21 rfl rfl rfl ?_
  refine g_bipush (p0 := 24) (v := nI 99) dX9_shift_22 (by decide) rfl ?_
  first | ((with_reducible refine isN2 ?_); refine g_icmpN_le (tgt := 30) (p1 := 27) dX9_shift_24 rfl (by omega) (by omega) rfl (fun c_24 => ?_) (fun c_24 => by exfalso; first | omega | contradiction | exact h0 c_24 | exact c_24 (Int32.not_lt.mp h3) | exact absurd h (Int32.not_lt.mpr c_24))) | refine g_icmp_le (tgt := 30) (p1 := 27) dX9_shift_24 rfl rfl (fun c_24 => ?_) (fun c_24 => by exfalso; first | omega | contradiction | exact h0 c_24 | exact c_24 (Int32.not_lt.mp h3) | exact absurd h (Int32.not_lt.mpr c_24))
  refine g_aload_n (p0 := 31) (i := 0) dX9_shift_30 rfl rfl rfl ?_
  refine g_getR (p0 := 34) dX9_shift_31 fX9_10 (by first | rfl | assumption | exact RW.s (by assumption) | exact TW.s (by assumption)) rfl rfl ?_
  refine g_getR (p0 := 37) dX9_shift_34 fX9_110 (by first | rfl | assumption | exact RW.s (by assumption) | exact TW.s (by assumption)) rfl rfl ?_
  refine g_iload_n (p0 := 38) (i := 1) dX9_shift_37 rfl rfl rfl ?_
  refine g_cV1R (p0 := 41) (r1 := mX7_at) dX9_shift_38 lX9_114 vX7_at (by first | rfl | assumption | exact RW.s (by assumption) | exact TW.s (by assumption)) ⟨_, _, rfl⟩ (FITi rfl rfl) (Nat.le_of_ble_eq_true rfl) (at_N (by first | exact ⟨rfl, rfl, by decide⟩ | assumption) (by omega) va) rfl ?_
  refine g_iload_n (p0 := 42) (i := 2) dX9_shift_41 rfl rfl rfl ?_
  first | ((with_reducible refine isN2 ?_); refine g_iaddN (p0 := 43) dX9_shift_42 rfl ?_) | refine g_iadd (p0 := 43) dX9_shift_42 rfl ?_
  rw [ht]
  refine g_istore_n (p0 := 44) (i := 3) (ls2 := [_, _, _, _, _]) dX9_shift_43 rfl (Nat.le_of_ble_eq_true rfl) rfl rfl ?_
  refine g_iload_n (p0 := 45) (i := 3) dX9_shift_44 rfl rfl rfl ?_
  first | ((with_reducible refine isN1 ?_); refine g_ifN_lt (tgt := 66) (p1 := 48) dX9_shift_45 rfl (by omega) rfl (fun c_45 => by exfalso; first | omega | contradiction | exact h0 c_45 | exact c_45 (Int32.not_lt.mp h3) | exact absurd h (Int32.not_lt.mpr c_45)) (fun c_45 => ?_)) | refine g_if_lt (tgt := 66) (p1 := 48) dX9_shift_45 rfl rfl (fun c_45 => by exfalso; first | omega | contradiction | exact h0 c_45 | exact c_45 (Int32.not_lt.mp h3) | exact absurd h (Int32.not_lt.mpr c_45)) (fun c_45 => ?_)
  refine g_iload_n (p0 := 49) (i := 3) dX9_shift_48 rfl rfl rfl ?_
  refine g_sipush (p0 := 52) (v := nI 9999) dX9_shift_49 (by decide) rfl ?_
  first | ((with_reducible refine isN2 ?_); refine g_icmpN_gt (tgt := 66) (p1 := 55) dX9_shift_52 rfl (by omega) (by omega) rfl (fun c_52 => ?_) (fun c_52 => by exfalso; first | omega | contradiction | exact h0 c_52 | exact c_52 (Int32.not_lt.mp h3) | exact absurd h (Int32.not_lt.mpr c_52))) | refine g_icmp_gt (tgt := 66) (p1 := 55) dX9_shift_52 rfl rfl (fun c_52 => ?_) (fun c_52 => by exfalso; first | omega | contradiction | exact h0 c_52 | exact c_52 (Int32.not_lt.mp h3) | exact absurd h (Int32.not_lt.mpr c_52))
  refine g_ldc (p0 := 68) dX9_shift_66 qX9_96 rfl ?_
  refine g_ireturn dX9_shift_68 rfl rfl (?_)
  exact ⟨rfl, rfl⟩
set_option maxRecDepth 20000 in
set_option maxHeartbeats 2000000 in
theorem shift_rf {p s : Nat} {x : Int32} {σ : Sg} (hs : σ 80 3 = nI s) (hs1 : s ≤ 160) (hp : p < s) {a : Int32} (h0 : ¬ x = 0) (h2 : ¬ x < -99) (h3 : ¬ nI 99 < x) (va : σ 80 (29 + p) = a) {j : Nat} (ht : a + x = nI j) (hj : j < 2147483648) (hb : 9999 < j) : CM mX10_shift [ar 79, ai (nI p), ai x] σ (Ret (-1000002) σ) := by
  refine CM_in (ls := [some (ar 79), some (ai (nI p)), some (ai x), none]) rfl ?_
  refine g_aload_n (p0 := 1) (i := 0) dX10_shift_0 rfl rfl rfl ?_
  refine g_iload_n (p0 := 2) (i := 1) dX10_shift_1 rfl rfl rfl ?_
  refine g_cV1R (p0 := 5) (r1 := mX10_isStroke) dX10_shift_2 lX10_109 vX10_isStroke (by first | rfl | assumption | exact RW.s (by assumption) | exact TW.s (by assumption)) ⟨_, _, rfl⟩ (FITi rfl rfl) (Nat.le_of_ble_eq_true rfl) (isStroke_T hs hs1 hp) rfl ?_
  first | ((with_reducible refine isN1 ?_); refine g_ifN_eq (tgt := 23) (p1 := 8) dX10_shift_5 rfl (by omega) rfl (fun c_5 => by exfalso; first | omega | contradiction | exact h0 c_5 | exact c_5 (Int32.not_lt.mp h3) | exact absurd h (Int32.not_lt.mpr c_5)) (fun c_5 => ?_)) | refine g_if_eq (tgt := 23) (p1 := 8) dX10_shift_5 rfl rfl (fun c_5 => by exfalso; first | omega | contradiction | exact h0 c_5 | exact c_5 (Int32.not_lt.mp h3) | exact absurd h (Int32.not_lt.mpr c_5)) (fun c_5 => ?_)
  refine g_iload_n (p0 := 9) (i := 2) dX10_shift_8 rfl rfl rfl ?_
  refine g_bipush (p0 := 11) (v := -99) dX10_shift_9 (by decide) rfl ?_
  refine g_bipush (p0 := 13) (v := nI 99) dX10_shift_11 (by decide) rfl ?_
  refine g_cS3R (p0 := 16) (r1 := mX10_in) dX10_shift_13 (Or.inl lX10_65) vX10_in (FITi rfl rfl) (Nat.le_of_ble_eq_true rfl) (in_T h2 h3) rfl ?_
  first | ((with_reducible refine isN1 ?_); refine g_ifN_eq (tgt := 23) (p1 := 19) dX10_shift_16 rfl (by omega) rfl (fun c_16 => by exfalso; first | omega | contradiction | exact h0 c_16 | exact c_16 (Int32.not_lt.mp h3) | exact absurd h (Int32.not_lt.mpr c_16)) (fun c_16 => ?_)) | refine g_if_eq (tgt := 23) (p1 := 19) dX10_shift_16 rfl rfl (fun c_16 => by exfalso; first | omega | contradiction | exact h0 c_16 | exact c_16 (Int32.not_lt.mp h3) | exact absurd h (Int32.not_lt.mpr c_16)) (fun c_16 => ?_)
  refine g_iload_n (p0 := 20) (i := 2) dX10_shift_19 rfl rfl rfl ?_
  first | ((with_reducible refine isN1 ?_); refine g_ifN_ne (tgt := 26) (p1 := 23) dX10_shift_20 rfl (by omega) rfl (fun c_20 => ?_) (fun c_20 => by exfalso; first | omega | contradiction | exact h0 c_20 | exact c_20 (Int32.not_lt.mp h3) | exact absurd h (Int32.not_lt.mpr c_20))) | refine g_if_ne (tgt := 26) (p1 := 23) dX10_shift_20 rfl rfl (fun c_20 => ?_) (fun c_20 => by exfalso; first | omega | contradiction | exact h0 c_20 | exact c_20 (Int32.not_lt.mp h3) | exact absurd h (Int32.not_lt.mpr c_20))
  refine g_aload_n (p0 := 27) (i := 0) dX10_shift_26 rfl rfl rfl ?_
  refine g_getR (p0 := 30) dX10_shift_27 fX10_7 (by first | rfl | assumption | exact RW.s (by assumption) | exact TW.s (by assumption)) rfl rfl ?_
  refine g_bipush (p0 := 32) (v := nI 29) dX10_shift_30 (by decide) rfl ?_
  refine g_iload_n (p0 := 33) (i := 1) dX10_shift_32 rfl rfl rfl ?_
  first | ((with_reducible refine isN2 ?_); refine g_iaddN (p0 := 34) dX10_shift_33 rfl ?_) | refine g_iadd (p0 := 34) dX10_shift_33 rfl ?_
  first | ((with_reducible refine isN1 ?_); refine g_aldN (p0 := 35) dX10_shift_34 (by first | rfl | assumption | exact RW.s (by assumption) | exact TW.s (by assumption)) (by first | decide | assumption) (by omega) (by first | assumption | ((repeat (first | exact up_hit | refine up_nv (by decide) ?_ | refine up_mv (by first | decide | omega) ?_)) <;> first | assumption | rfl)) rfl ?_) | refine g_ald (p0 := 35) dX10_shift_34 (by first | rfl | assumption | exact RW.s (by assumption) | exact TW.s (by assumption)) (by assumption) (by first | assumption | ((repeat (first | exact up_hit | refine up_nv (by decide) ?_ | refine up_mv (by first | decide | omega) ?_)) <;> first | assumption | rfl)) rfl ?_
  refine g_iload_n (p0 := 36) (i := 2) dX10_shift_35 rfl rfl rfl ?_
  first | ((with_reducible refine isN2 ?_); refine g_iaddN (p0 := 37) dX10_shift_36 rfl ?_) | refine g_iadd (p0 := 37) dX10_shift_36 rfl ?_
  rw [ht]
  refine g_istore_n (p0 := 38) (i := 3) (ls2 := [_, _, _, _]) dX10_shift_37 rfl (Nat.le_of_ble_eq_true rfl) rfl rfl ?_
  refine g_iload_n (p0 := 39) (i := 3) dX10_shift_38 rfl rfl rfl ?_
  refine g_iconst (p0 := 40) (v := nI 0) dX10_shift_39 rfl rfl ?_
  refine g_sipush (p0 := 43) (v := nI 9999) dX10_shift_40 (by decide) rfl ?_
  refine g_cS3R (p0 := 46) (r1 := mX10_in) dX10_shift_43 (Or.inl lX10_65) vX10_in (FITi rfl rfl) (Nat.le_of_ble_eq_true rfl) (in_F2 (fun q => by rw [nI_lt_iff (by omega) (by omega)] at q; omega) ((nI_lt_iff (by omega) (by omega)).mpr (by omega))) rfl ?_
  first | ((with_reducible refine isN1 ?_); refine g_ifN_eq (tgt := 57) (p1 := 49) dX10_shift_46 rfl (by omega) rfl (fun c_46 => ?_) (fun c_46 => by exfalso; first | omega | contradiction | exact h0 c_46 | exact c_46 (Int32.not_lt.mp h3) | exact absurd h (Int32.not_lt.mpr c_46))) | refine g_if_eq (tgt := 57) (p1 := 49) dX10_shift_46 rfl rfl (fun c_46 => ?_) (fun c_46 => by exfalso; first | omega | contradiction | exact h0 c_46 | exact c_46 (Int32.not_lt.mp h3) | exact absurd h (Int32.not_lt.mpr c_46))
  refine g_ldc (p0 := 59) dX10_shift_57 qX10_102 rfl ?_
  refine g_ireturn dX10_shift_59 rfl rfl (?_)
  exact ⟨rfl, rfl⟩
set_option maxRecDepth 20000 in
set_option maxHeartbeats 2000000 in
theorem shift_cg {p s : Nat} {x : Int32} {σ : Sg} (hs : σ 1 2 = nI s) (hs1 : s ≤ 160) (hp : p < s) {a : Int32} (h0 : ¬ x = 0) (h2 : ¬ x < -99) (h3 : ¬ nI 99 < x) (va : σ 3 p = a) {j : Nat} (ht : a + x = nI j) (hj : j < 2147483648) (hb : j ≤ 9999) (hth : CM mX8_hasStrokeAt [ar 1, ai (nI j)] σ (Ret (nI 1) σ)) : CM mX9_shift [ar 0, ai (nI p), ai x] σ (Ret (-1000002) σ) := by
  refine CM_in (ls := [some (ar 0), some (ai (nI p)), some (ai x), none, none]) rfl ?_
  refine g_aload_n (p0 := 1) (i := 0) dX9_shift_0 rfl rfl rfl ?_
  refine g_getR (p0 := 4) dX9_shift_1 fX9_10 (by first | rfl | assumption | exact RW.s (by assumption) | exact TW.s (by assumption)) rfl rfl ?_
  refine g_iload_n (p0 := 5) (i := 1) dX9_shift_4 rfl rfl rfl ?_
  refine g_cV1R (p0 := 8) (r1 := mX8_hasStroke) dX9_shift_5 lX9_107 vX8_hasStroke (by first | rfl | assumption | exact RW.s (by assumption) | exact TW.s (by assumption)) ⟨_, _, rfl⟩ (FITi rfl rfl) (Nat.le_of_ble_eq_true rfl) (hasStroke_T TW1 hs hs1 hp) rfl ?_
  first | ((with_reducible refine isN1 ?_); refine g_ifN_eq (tgt := 27) (p1 := 11) dX9_shift_8 rfl (by omega) rfl (fun c_8 => by exfalso; first | omega | contradiction | exact h0 c_8 | exact c_8 (Int32.not_lt.mp h3) | exact absurd h (Int32.not_lt.mpr c_8)) (fun c_8 => ?_)) | refine g_if_eq (tgt := 27) (p1 := 11) dX9_shift_8 rfl rfl (fun c_8 => by exfalso; first | omega | contradiction | exact h0 c_8 | exact c_8 (Int32.not_lt.mp h3) | exact absurd h (Int32.not_lt.mpr c_8)) (fun c_8 => ?_)
  refine g_iload_n (p0 := 12) (i := 2) dX9_shift_11 rfl rfl rfl ?_
  first | ((with_reducible refine isN1 ?_); refine g_ifN_eq (tgt := 27) (p1 := 15) dX9_shift_12 rfl (by omega) rfl (fun c_12 => by exfalso; first | omega | contradiction | exact h0 c_12 | exact c_12 (Int32.not_lt.mp h3) | exact absurd h (Int32.not_lt.mpr c_12)) (fun c_12 => ?_)) | refine g_if_eq (tgt := 27) (p1 := 15) dX9_shift_12 rfl rfl (fun c_12 => by exfalso; first | omega | contradiction | exact h0 c_12 | exact c_12 (Int32.not_lt.mp h3) | exact absurd h (Int32.not_lt.mpr c_12)) (fun c_12 => ?_)
  refine g_iload_n (p0 := 16) (i := 2) dX9_shift_15 rfl rfl rfl ?_
  refine g_bipush (p0 := 18) (v := -99) dX9_shift_16 (by decide) rfl ?_
  first | ((with_reducible refine isN2 ?_); refine g_icmpN_lt (tgt := 27) (p1 := 21) dX9_shift_18 rfl (by omega) (by omega) rfl (fun c_18 => by exfalso; first | omega | contradiction | exact h0 c_18 | exact c_18 (Int32.not_lt.mp h3) | exact absurd h (Int32.not_lt.mpr c_18)) (fun c_18 => ?_)) | refine g_icmp_lt (tgt := 27) (p1 := 21) dX9_shift_18 rfl rfl (fun c_18 => by exfalso; first | omega | contradiction | exact h0 c_18 | exact c_18 (Int32.not_lt.mp h3) | exact absurd h (Int32.not_lt.mpr c_18)) (fun c_18 => ?_)
  refine g_iload_n (p0 := 22) (i := 2) dX9_shift_21 rfl rfl rfl ?_
  refine g_bipush (p0 := 24) (v := nI 99) dX9_shift_22 (by decide) rfl ?_
  first | ((with_reducible refine isN2 ?_); refine g_icmpN_le (tgt := 30) (p1 := 27) dX9_shift_24 rfl (by omega) (by omega) rfl (fun c_24 => ?_) (fun c_24 => by exfalso; first | omega | contradiction | exact h0 c_24 | exact c_24 (Int32.not_lt.mp h3) | exact absurd h (Int32.not_lt.mpr c_24))) | refine g_icmp_le (tgt := 30) (p1 := 27) dX9_shift_24 rfl rfl (fun c_24 => ?_) (fun c_24 => by exfalso; first | omega | contradiction | exact h0 c_24 | exact c_24 (Int32.not_lt.mp h3) | exact absurd h (Int32.not_lt.mpr c_24))
  refine g_aload_n (p0 := 31) (i := 0) dX9_shift_30 rfl rfl rfl ?_
  refine g_getR (p0 := 34) dX9_shift_31 fX9_10 (by first | rfl | assumption | exact RW.s (by assumption) | exact TW.s (by assumption)) rfl rfl ?_
  refine g_getR (p0 := 37) dX9_shift_34 fX9_110 (by first | rfl | assumption | exact RW.s (by assumption) | exact TW.s (by assumption)) rfl rfl ?_
  refine g_iload_n (p0 := 38) (i := 1) dX9_shift_37 rfl rfl rfl ?_
  refine g_cV1R (p0 := 41) (r1 := mX7_at) dX9_shift_38 lX9_114 vX7_at (by first | rfl | assumption | exact RW.s (by assumption) | exact TW.s (by assumption)) ⟨_, _, rfl⟩ (FITi rfl rfl) (Nat.le_of_ble_eq_true rfl) (at_N (by first | exact ⟨rfl, rfl, by decide⟩ | assumption) (by omega) va) rfl ?_
  refine g_iload_n (p0 := 42) (i := 2) dX9_shift_41 rfl rfl rfl ?_
  first | ((with_reducible refine isN2 ?_); refine g_iaddN (p0 := 43) dX9_shift_42 rfl ?_) | refine g_iadd (p0 := 43) dX9_shift_42 rfl ?_
  rw [ht]
  refine g_istore_n (p0 := 44) (i := 3) (ls2 := [_, _, _, _, _]) dX9_shift_43 rfl (Nat.le_of_ble_eq_true rfl) rfl rfl ?_
  refine g_iload_n (p0 := 45) (i := 3) dX9_shift_44 rfl rfl rfl ?_
  first | ((with_reducible refine isN1 ?_); refine g_ifN_lt (tgt := 66) (p1 := 48) dX9_shift_45 rfl (by omega) rfl (fun c_45 => by exfalso; first | omega | contradiction | exact h0 c_45 | exact c_45 (Int32.not_lt.mp h3) | exact absurd h (Int32.not_lt.mpr c_45)) (fun c_45 => ?_)) | refine g_if_lt (tgt := 66) (p1 := 48) dX9_shift_45 rfl rfl (fun c_45 => by exfalso; first | omega | contradiction | exact h0 c_45 | exact c_45 (Int32.not_lt.mp h3) | exact absurd h (Int32.not_lt.mpr c_45)) (fun c_45 => ?_)
  refine g_iload_n (p0 := 49) (i := 3) dX9_shift_48 rfl rfl rfl ?_
  refine g_sipush (p0 := 52) (v := nI 9999) dX9_shift_49 (by decide) rfl ?_
  first | ((with_reducible refine isN2 ?_); refine g_icmpN_gt (tgt := 66) (p1 := 55) dX9_shift_52 rfl (by omega) (by omega) rfl (fun c_52 => by exfalso; first | omega | contradiction | exact h0 c_52 | exact c_52 (Int32.not_lt.mp h3) | exact absurd h (Int32.not_lt.mpr c_52)) (fun c_52 => ?_)) | refine g_icmp_gt (tgt := 66) (p1 := 55) dX9_shift_52 rfl rfl (fun c_52 => by exfalso; first | omega | contradiction | exact h0 c_52 | exact c_52 (Int32.not_lt.mp h3) | exact absurd h (Int32.not_lt.mpr c_52)) (fun c_52 => ?_)
  refine g_aload_n (p0 := 56) (i := 0) dX9_shift_55 rfl rfl rfl ?_
  refine g_getR (p0 := 59) dX9_shift_56 fX9_10 (by first | rfl | assumption | exact RW.s (by assumption) | exact TW.s (by assumption)) rfl rfl ?_
  refine g_iload_n (p0 := 60) (i := 3) dX9_shift_59 rfl rfl rfl ?_
  refine g_cV1R (p0 := 63) (r1 := mX8_hasStrokeAt) dX9_shift_60 lX9_97 vX8_hasStrokeAt (by first | rfl | assumption | exact RW.s (by assumption) | exact TW.s (by assumption)) ⟨_, _, rfl⟩ (FITi rfl rfl) (Nat.le_of_ble_eq_true rfl) (hth) rfl ?_
  first | ((with_reducible refine isN1 ?_); refine g_ifN_eq (tgt := 69) (p1 := 66) dX9_shift_63 rfl (by omega) rfl (fun c_63 => by exfalso; first | omega | contradiction | exact h0 c_63 | exact c_63 (Int32.not_lt.mp h3) | exact absurd h (Int32.not_lt.mpr c_63)) (fun c_63 => ?_)) | refine g_if_eq (tgt := 69) (p1 := 66) dX9_shift_63 rfl rfl (fun c_63 => by exfalso; first | omega | contradiction | exact h0 c_63 | exact c_63 (Int32.not_lt.mp h3) | exact absurd h (Int32.not_lt.mpr c_63)) (fun c_63 => ?_)
  refine g_ldc (p0 := 68) dX9_shift_66 qX9_96 rfl ?_
  refine g_ireturn dX9_shift_68 rfl rfl (?_)
  exact ⟨rfl, rfl⟩
set_option maxRecDepth 20000 in
set_option maxHeartbeats 2000000 in
theorem shift_rg {p s : Nat} {x : Int32} {σ : Sg} (hs : σ 80 3 = nI s) (hs1 : s ≤ 160) (hp : p < s) {a : Int32} (h0 : ¬ x = 0) (h2 : ¬ x < -99) (h3 : ¬ nI 99 < x) (va : σ 80 (29 + p) = a) {j : Nat} (ht : a + x = nI j) (hj : j < 2147483648) (hb : j ≤ 9999) (hth : CM mX10_isThere [ar 79, ai (nI j)] σ (Ret (nI 1) σ)) : CM mX10_shift [ar 79, ai (nI p), ai x] σ (Ret (-1000002) σ) := by
  refine CM_in (ls := [some (ar 79), some (ai (nI p)), some (ai x), none]) rfl ?_
  refine g_aload_n (p0 := 1) (i := 0) dX10_shift_0 rfl rfl rfl ?_
  refine g_iload_n (p0 := 2) (i := 1) dX10_shift_1 rfl rfl rfl ?_
  refine g_cV1R (p0 := 5) (r1 := mX10_isStroke) dX10_shift_2 lX10_109 vX10_isStroke (by first | rfl | assumption | exact RW.s (by assumption) | exact TW.s (by assumption)) ⟨_, _, rfl⟩ (FITi rfl rfl) (Nat.le_of_ble_eq_true rfl) (isStroke_T hs hs1 hp) rfl ?_
  first | ((with_reducible refine isN1 ?_); refine g_ifN_eq (tgt := 23) (p1 := 8) dX10_shift_5 rfl (by omega) rfl (fun c_5 => by exfalso; first | omega | contradiction | exact h0 c_5 | exact c_5 (Int32.not_lt.mp h3) | exact absurd h (Int32.not_lt.mpr c_5)) (fun c_5 => ?_)) | refine g_if_eq (tgt := 23) (p1 := 8) dX10_shift_5 rfl rfl (fun c_5 => by exfalso; first | omega | contradiction | exact h0 c_5 | exact c_5 (Int32.not_lt.mp h3) | exact absurd h (Int32.not_lt.mpr c_5)) (fun c_5 => ?_)
  refine g_iload_n (p0 := 9) (i := 2) dX10_shift_8 rfl rfl rfl ?_
  refine g_bipush (p0 := 11) (v := -99) dX10_shift_9 (by decide) rfl ?_
  refine g_bipush (p0 := 13) (v := nI 99) dX10_shift_11 (by decide) rfl ?_
  refine g_cS3R (p0 := 16) (r1 := mX10_in) dX10_shift_13 (Or.inl lX10_65) vX10_in (FITi rfl rfl) (Nat.le_of_ble_eq_true rfl) (in_T h2 h3) rfl ?_
  first | ((with_reducible refine isN1 ?_); refine g_ifN_eq (tgt := 23) (p1 := 19) dX10_shift_16 rfl (by omega) rfl (fun c_16 => by exfalso; first | omega | contradiction | exact h0 c_16 | exact c_16 (Int32.not_lt.mp h3) | exact absurd h (Int32.not_lt.mpr c_16)) (fun c_16 => ?_)) | refine g_if_eq (tgt := 23) (p1 := 19) dX10_shift_16 rfl rfl (fun c_16 => by exfalso; first | omega | contradiction | exact h0 c_16 | exact c_16 (Int32.not_lt.mp h3) | exact absurd h (Int32.not_lt.mpr c_16)) (fun c_16 => ?_)
  refine g_iload_n (p0 := 20) (i := 2) dX10_shift_19 rfl rfl rfl ?_
  first | ((with_reducible refine isN1 ?_); refine g_ifN_ne (tgt := 26) (p1 := 23) dX10_shift_20 rfl (by omega) rfl (fun c_20 => ?_) (fun c_20 => by exfalso; first | omega | contradiction | exact h0 c_20 | exact c_20 (Int32.not_lt.mp h3) | exact absurd h (Int32.not_lt.mpr c_20))) | refine g_if_ne (tgt := 26) (p1 := 23) dX10_shift_20 rfl rfl (fun c_20 => ?_) (fun c_20 => by exfalso; first | omega | contradiction | exact h0 c_20 | exact c_20 (Int32.not_lt.mp h3) | exact absurd h (Int32.not_lt.mpr c_20))
  refine g_aload_n (p0 := 27) (i := 0) dX10_shift_26 rfl rfl rfl ?_
  refine g_getR (p0 := 30) dX10_shift_27 fX10_7 (by first | rfl | assumption | exact RW.s (by assumption) | exact TW.s (by assumption)) rfl rfl ?_
  refine g_bipush (p0 := 32) (v := nI 29) dX10_shift_30 (by decide) rfl ?_
  refine g_iload_n (p0 := 33) (i := 1) dX10_shift_32 rfl rfl rfl ?_
  first | ((with_reducible refine isN2 ?_); refine g_iaddN (p0 := 34) dX10_shift_33 rfl ?_) | refine g_iadd (p0 := 34) dX10_shift_33 rfl ?_
  first | ((with_reducible refine isN1 ?_); refine g_aldN (p0 := 35) dX10_shift_34 (by first | rfl | assumption | exact RW.s (by assumption) | exact TW.s (by assumption)) (by first | decide | assumption) (by omega) (by first | assumption | ((repeat (first | exact up_hit | refine up_nv (by decide) ?_ | refine up_mv (by first | decide | omega) ?_)) <;> first | assumption | rfl)) rfl ?_) | refine g_ald (p0 := 35) dX10_shift_34 (by first | rfl | assumption | exact RW.s (by assumption) | exact TW.s (by assumption)) (by assumption) (by first | assumption | ((repeat (first | exact up_hit | refine up_nv (by decide) ?_ | refine up_mv (by first | decide | omega) ?_)) <;> first | assumption | rfl)) rfl ?_
  refine g_iload_n (p0 := 36) (i := 2) dX10_shift_35 rfl rfl rfl ?_
  first | ((with_reducible refine isN2 ?_); refine g_iaddN (p0 := 37) dX10_shift_36 rfl ?_) | refine g_iadd (p0 := 37) dX10_shift_36 rfl ?_
  rw [ht]
  refine g_istore_n (p0 := 38) (i := 3) (ls2 := [_, _, _, _]) dX10_shift_37 rfl (Nat.le_of_ble_eq_true rfl) rfl rfl ?_
  refine g_iload_n (p0 := 39) (i := 3) dX10_shift_38 rfl rfl rfl ?_
  refine g_iconst (p0 := 40) (v := nI 0) dX10_shift_39 rfl rfl ?_
  refine g_sipush (p0 := 43) (v := nI 9999) dX10_shift_40 (by decide) rfl ?_
  refine g_cS3R (p0 := 46) (r1 := mX10_in) dX10_shift_43 (Or.inl lX10_65) vX10_in (FITi rfl rfl) (Nat.le_of_ble_eq_true rfl) (in_T (fun q => by rw [nI_lt_iff (by omega) (by omega)] at q; omega) (fun q => by rw [nI_lt_iff (by omega) (by omega)] at q; omega)) rfl ?_
  first | ((with_reducible refine isN1 ?_); refine g_ifN_eq (tgt := 57) (p1 := 49) dX10_shift_46 rfl (by omega) rfl (fun c_46 => by exfalso; first | omega | contradiction | exact h0 c_46 | exact c_46 (Int32.not_lt.mp h3) | exact absurd h (Int32.not_lt.mpr c_46)) (fun c_46 => ?_)) | refine g_if_eq (tgt := 57) (p1 := 49) dX10_shift_46 rfl rfl (fun c_46 => by exfalso; first | omega | contradiction | exact h0 c_46 | exact c_46 (Int32.not_lt.mp h3) | exact absurd h (Int32.not_lt.mpr c_46)) (fun c_46 => ?_)
  refine g_aload_n (p0 := 50) (i := 0) dX10_shift_49 rfl rfl rfl ?_
  refine g_iload_n (p0 := 51) (i := 3) dX10_shift_50 rfl rfl rfl ?_
  refine g_cV1R (p0 := 54) (r1 := mX10_isThere) dX10_shift_51 lX10_103 vX10_isThere (by first | rfl | assumption | exact RW.s (by assumption) | exact TW.s (by assumption)) ⟨_, _, rfl⟩ (FITi rfl rfl) (Nat.le_of_ble_eq_true rfl) (hth) rfl ?_
  first | ((with_reducible refine isN1 ?_); refine g_ifN_eq (tgt := 60) (p1 := 57) dX10_shift_54 rfl (by omega) rfl (fun c_54 => by exfalso; first | omega | contradiction | exact h0 c_54 | exact c_54 (Int32.not_lt.mp h3) | exact absurd h (Int32.not_lt.mpr c_54)) (fun c_54 => ?_)) | refine g_if_eq (tgt := 60) (p1 := 57) dX10_shift_54 rfl rfl (fun c_54 => by exfalso; first | omega | contradiction | exact h0 c_54 | exact c_54 (Int32.not_lt.mp h3) | exact absurd h (Int32.not_lt.mpr c_54)) (fun c_54 => ?_)
  refine g_ldc (p0 := 59) dX10_shift_57 qX10_102 rfl ?_
  refine g_ireturn dX10_shift_59 rfl rfl (?_)
  exact ⟨rfl, rfl⟩
set_option maxRecDepth 20000 in
set_option maxHeartbeats 2000000 in
theorem shift_c {s n : Nat} {H : Nat → (Nat → Int32) × Nat} {σ : Sg} (hR : RowOK (σ 80) s) (hRep : Rep σ 1 (σ 80) s) (hHC : HC σ n H) (h65 : σ 65 0 = nI 0) {p j : Nat} {x : Int32} (hp : p < s) (h0 : ¬ x = 0) (h2 : ¬ x < -99) (h3 : ¬ nI 99 < x) (ht : σ 80 (29 + p) + x = nI j) (hb : j ≤ 9999) (hth : CM mX8_hasStrokeAt [ar 1, ai (nI j)] σ (Ret (nI 0) σ)) : CM mX9_shift [ar 0, ai (nI p), ai x] σ (CPost σ n H s (INS (REM (σ 80) s p) (s - 1) (nI j)) (s - 1 + 1) (nI (ah (tm (REM (σ 80) s p)) (s - 1) (nI j)))) := by
  have hs1 := hR.2.1
  have hs := hRep.1
  have va : σ 3 p = σ 80 (29 + p) := hRep.2.2.2.2.2 p hp
  refine CM_in (ls := [some (ar 0), some (ai (nI p)), some (ai x), none, none]) rfl ?_
  refine g_aload_n (p0 := 1) (i := 0) dX9_shift_0 rfl rfl rfl ?_
  refine g_getR (p0 := 4) dX9_shift_1 fX9_10 (by first | rfl | assumption | exact RW.s (by assumption) | exact TW.s (by assumption)) rfl rfl ?_
  refine g_iload_n (p0 := 5) (i := 1) dX9_shift_4 rfl rfl rfl ?_
  refine g_cV1R (p0 := 8) (r1 := mX8_hasStroke) dX9_shift_5 lX9_107 vX8_hasStroke (by first | rfl | assumption | exact RW.s (by assumption) | exact TW.s (by assumption)) ⟨_, _, rfl⟩ (FITi rfl rfl) (Nat.le_of_ble_eq_true rfl) (hasStroke_T TW1 hs hs1 hp) rfl ?_
  first | ((with_reducible refine isN1 ?_); refine g_ifN_eq (tgt := 27) (p1 := 11) dX9_shift_8 rfl (by omega) rfl (fun c_8 => by exfalso; first | omega | contradiction | exact h0 c_8 | exact c_8 (Int32.not_lt.mp h3) | exact absurd h (Int32.not_lt.mpr c_8)) (fun c_8 => ?_)) | refine g_if_eq (tgt := 27) (p1 := 11) dX9_shift_8 rfl rfl (fun c_8 => by exfalso; first | omega | contradiction | exact h0 c_8 | exact c_8 (Int32.not_lt.mp h3) | exact absurd h (Int32.not_lt.mpr c_8)) (fun c_8 => ?_)
  refine g_iload_n (p0 := 12) (i := 2) dX9_shift_11 rfl rfl rfl ?_
  first | ((with_reducible refine isN1 ?_); refine g_ifN_eq (tgt := 27) (p1 := 15) dX9_shift_12 rfl (by omega) rfl (fun c_12 => by exfalso; first | omega | contradiction | exact h0 c_12 | exact c_12 (Int32.not_lt.mp h3) | exact absurd h (Int32.not_lt.mpr c_12)) (fun c_12 => ?_)) | refine g_if_eq (tgt := 27) (p1 := 15) dX9_shift_12 rfl rfl (fun c_12 => by exfalso; first | omega | contradiction | exact h0 c_12 | exact c_12 (Int32.not_lt.mp h3) | exact absurd h (Int32.not_lt.mpr c_12)) (fun c_12 => ?_)
  refine g_iload_n (p0 := 16) (i := 2) dX9_shift_15 rfl rfl rfl ?_
  refine g_bipush (p0 := 18) (v := -99) dX9_shift_16 (by decide) rfl ?_
  first | ((with_reducible refine isN2 ?_); refine g_icmpN_lt (tgt := 27) (p1 := 21) dX9_shift_18 rfl (by omega) (by omega) rfl (fun c_18 => by exfalso; first | omega | contradiction | exact h0 c_18 | exact c_18 (Int32.not_lt.mp h3) | exact absurd h (Int32.not_lt.mpr c_18)) (fun c_18 => ?_)) | refine g_icmp_lt (tgt := 27) (p1 := 21) dX9_shift_18 rfl rfl (fun c_18 => by exfalso; first | omega | contradiction | exact h0 c_18 | exact c_18 (Int32.not_lt.mp h3) | exact absurd h (Int32.not_lt.mpr c_18)) (fun c_18 => ?_)
  refine g_iload_n (p0 := 22) (i := 2) dX9_shift_21 rfl rfl rfl ?_
  refine g_bipush (p0 := 24) (v := nI 99) dX9_shift_22 (by decide) rfl ?_
  first | ((with_reducible refine isN2 ?_); refine g_icmpN_le (tgt := 30) (p1 := 27) dX9_shift_24 rfl (by omega) (by omega) rfl (fun c_24 => ?_) (fun c_24 => by exfalso; first | omega | contradiction | exact h0 c_24 | exact c_24 (Int32.not_lt.mp h3) | exact absurd h (Int32.not_lt.mpr c_24))) | refine g_icmp_le (tgt := 30) (p1 := 27) dX9_shift_24 rfl rfl (fun c_24 => ?_) (fun c_24 => by exfalso; first | omega | contradiction | exact h0 c_24 | exact c_24 (Int32.not_lt.mp h3) | exact absurd h (Int32.not_lt.mpr c_24))
  refine g_aload_n (p0 := 31) (i := 0) dX9_shift_30 rfl rfl rfl ?_
  refine g_getR (p0 := 34) dX9_shift_31 fX9_10 (by first | rfl | assumption | exact RW.s (by assumption) | exact TW.s (by assumption)) rfl rfl ?_
  refine g_getR (p0 := 37) dX9_shift_34 fX9_110 (by first | rfl | assumption | exact RW.s (by assumption) | exact TW.s (by assumption)) rfl rfl ?_
  refine g_iload_n (p0 := 38) (i := 1) dX9_shift_37 rfl rfl rfl ?_
  refine g_cV1R (p0 := 41) (r1 := mX7_at) dX9_shift_38 lX9_114 vX7_at (by first | rfl | assumption | exact RW.s (by assumption) | exact TW.s (by assumption)) ⟨_, _, rfl⟩ (FITi rfl rfl) (Nat.le_of_ble_eq_true rfl) (at_N (by first | exact ⟨rfl, rfl, by decide⟩ | assumption) (by omega) va) rfl ?_
  refine g_iload_n (p0 := 42) (i := 2) dX9_shift_41 rfl rfl rfl ?_
  first | ((with_reducible refine isN2 ?_); refine g_iaddN (p0 := 43) dX9_shift_42 rfl ?_) | refine g_iadd (p0 := 43) dX9_shift_42 rfl ?_
  rw [ht]
  refine g_istore_n (p0 := 44) (i := 3) (ls2 := [_, _, _, _, _]) dX9_shift_43 rfl (Nat.le_of_ble_eq_true rfl) rfl rfl ?_
  refine g_iload_n (p0 := 45) (i := 3) dX9_shift_44 rfl rfl rfl ?_
  first | ((with_reducible refine isN1 ?_); refine g_ifN_lt (tgt := 66) (p1 := 48) dX9_shift_45 rfl (by omega) rfl (fun c_45 => by exfalso; first | omega | contradiction | exact h0 c_45 | exact c_45 (Int32.not_lt.mp h3) | exact absurd h (Int32.not_lt.mpr c_45)) (fun c_45 => ?_)) | refine g_if_lt (tgt := 66) (p1 := 48) dX9_shift_45 rfl rfl (fun c_45 => by exfalso; first | omega | contradiction | exact h0 c_45 | exact c_45 (Int32.not_lt.mp h3) | exact absurd h (Int32.not_lt.mpr c_45)) (fun c_45 => ?_)
  refine g_iload_n (p0 := 49) (i := 3) dX9_shift_48 rfl rfl rfl ?_
  refine g_sipush (p0 := 52) (v := nI 9999) dX9_shift_49 (by decide) rfl ?_
  first | ((with_reducible refine isN2 ?_); refine g_icmpN_gt (tgt := 66) (p1 := 55) dX9_shift_52 rfl (by omega) (by omega) rfl (fun c_52 => by exfalso; first | omega | contradiction | exact h0 c_52 | exact c_52 (Int32.not_lt.mp h3) | exact absurd h (Int32.not_lt.mpr c_52)) (fun c_52 => ?_)) | refine g_icmp_gt (tgt := 66) (p1 := 55) dX9_shift_52 rfl rfl (fun c_52 => by exfalso; first | omega | contradiction | exact h0 c_52 | exact c_52 (Int32.not_lt.mp h3) | exact absurd h (Int32.not_lt.mpr c_52)) (fun c_52 => ?_)
  refine g_aload_n (p0 := 56) (i := 0) dX9_shift_55 rfl rfl rfl ?_
  refine g_getR (p0 := 59) dX9_shift_56 fX9_10 (by first | rfl | assumption | exact RW.s (by assumption) | exact TW.s (by assumption)) rfl rfl ?_
  refine g_iload_n (p0 := 60) (i := 3) dX9_shift_59 rfl rfl rfl ?_
  refine g_cV1R (p0 := 63) (r1 := mX8_hasStrokeAt) dX9_shift_60 lX9_97 vX8_hasStrokeAt (by first | rfl | assumption | exact RW.s (by assumption) | exact TW.s (by assumption)) ⟨_, _, rfl⟩ (FITi rfl rfl) (Nat.le_of_ble_eq_true rfl) (hth) rfl ?_
  first | ((with_reducible refine isN1 ?_); refine g_ifN_eq (tgt := 69) (p1 := 66) dX9_shift_63 rfl (by omega) rfl (fun c_63 => ?_) (fun c_63 => by exfalso; first | omega | contradiction | exact h0 c_63 | exact c_63 (Int32.not_lt.mp h3) | exact absurd h (Int32.not_lt.mpr c_63))) | refine g_if_eq (tgt := 69) (p1 := 66) dX9_shift_63 rfl rfl (fun c_63 => ?_) (fun c_63 => by exfalso; first | omega | contradiction | exact h0 c_63 | exact c_63 (Int32.not_lt.mp h3) | exact absurd h (Int32.not_lt.mpr c_63))
  refine g_aload_n (p0 := 70) (i := 0) dX9_shift_69 rfl rfl rfl ?_
  refine g_getR (p0 := 73) dX9_shift_70 fX9_22 (by first | rfl | assumption | exact RW.s (by assumption) | exact TW.s (by assumption)) rfl rfl ?_
  refine g_aload_n (p0 := 74) (i := 0) dX9_shift_73 rfl rfl rfl ?_
  refine g_getR (p0 := 77) dX9_shift_74 fX9_10 (by first | rfl | assumption | exact RW.s (by assumption) | exact TW.s (by assumption)) rfl rfl ?_
  refine g_cV1P (p0 := 80) (r1 := mX2_record) dX9_shift_77 lX9_58 vX2_record (by first | rfl | assumption | exact RW.s (by assumption) | exact TW.s (by assumption)) ⟨_, _, rfl⟩ (FITi rfl rfl) (Nat.le_of_ble_eq_true rfl) (record_rel hHC hR hRep) rfl ?_
  rintro σ1 ⟨fr1, hHC1⟩
  have hRep1 : Rep σ1 1 (σ 80) s := hRep.of_eq (fr1 _ (by decide) (by decide)) (fr1 _ (by decide) (by decide)) (fr1 _ (by decide) (by decide))
  have hrm : CM mX8_removeStroke [ar 1, ai (nI p)] σ1 (RetV (remS σ1 s p)) := removeStroke_sp TW1 hRep1.1 hs1 hp
  have hRep2 := Rep_rem hRep1 hp
  have hRow3 : RowOK (INS (REM (σ 80) s p) (s - 1) (nI j)) (s - 1 + 1) := RowOK_ins (RowOK_rem hR) (by omega) ⟨j, hb, rfl⟩
  have hRep3 : Rep (insS (remS σ1 s p) (s - 1) (nI j)) 1 (INS (REM (σ 80) s p) (s - 1) (nI j)) (s - 1 + 1) := Rep_ins hRep2
  have b6 : ∀ q, q < s - 1 → remS σ1 s p 3 q = tm (REM (σ 80) s p) q := hRep2.2.2.2.2.2
  have ea : ah (remS σ1 s p 3) (s - 1) (nI j) = ah (tm (REM (σ 80) s p)) (s - 1) (nI j) := ah_congr b6
  have had : CM mX8_addStroke [ar 1, ai (nI j)] (remS σ1 s p) (Ret (nI (ah (tm (REM (σ 80) s p)) (s - 1) (nI j))) (insS (remS σ1 s p) (s - 1) (nI j))) := by
    rw [← ea]
    exact addStroke_sp TW1 hRep2.1 (by omega)
  have h652 : (insS (remS σ1 s p) (s - 1) (nI j)) 65 0 = nI 0 := by rw [insS_ne (by decide) (by decide), remS_ne (by decide) (by decide), fr1 _ (by decide) (by decide)]; exact h65
  refine g_aload_n (p0 := 81) (i := 0) dX9_shift_80 rfl rfl rfl ?_
  refine g_getR (p0 := 84) dX9_shift_81 fX9_10 (by first | rfl | assumption | exact RW.s (by assumption) | exact TW.s (by assumption)) rfl rfl ?_
  refine g_iload_n (p0 := 85) (i := 1) dX9_shift_84 rfl rfl rfl ?_
  refine g_cV1V (p0 := 88) (r1 := mX8_removeStroke) dX9_shift_85 lX9_119 vX8_removeStroke (by first | rfl | assumption | exact RW.s (by assumption) | exact TW.s (by assumption)) ⟨_, _, rfl⟩ (FITi rfl rfl) (Nat.le_of_ble_eq_true rfl) (hrm) rfl ?_
  refine g_aload_n (p0 := 89) (i := 0) dX9_shift_88 rfl rfl rfl ?_
  refine g_getR (p0 := 92) dX9_shift_89 fX9_10 (by first | rfl | assumption | exact RW.s (by assumption) | exact TW.s (by assumption)) rfl rfl ?_
  refine g_iload_n (p0 := 93) (i := 3) dX9_shift_92 rfl rfl rfl ?_
  refine g_cV1R (p0 := 96) (r1 := mX8_addStroke) dX9_shift_93 lX9_104 vX8_addStroke (by first | rfl | assumption | exact RW.s (by assumption) | exact TW.s (by assumption)) ⟨_, _, rfl⟩ (FITi rfl rfl) (Nat.le_of_ble_eq_true rfl) (had) rfl ?_
  refine g_istore (p0 := 98) (i := 4) (ls2 := [_, _, _, _, _]) dX9_shift_96 (Nat.le_of_ble_eq_true rfl) rfl rfl ?_
  refine g_aload_n (p0 := 99) (i := 0) dX9_shift_98 rfl rfl rfl ?_
  refine g_getR (p0 := 102) dX9_shift_99 fX9_29 (by first | rfl | assumption | exact RW.s (by assumption) | exact TW.s (by assumption)) rfl rfl ?_
  refine g_aload_n (p0 := 103) (i := 0) dX9_shift_102 rfl rfl rfl ?_
  refine g_getR (p0 := 106) dX9_shift_103 fX9_10 (by first | rfl | assumption | exact RW.s (by assumption) | exact TW.s (by assumption)) rfl rfl ?_
  refine g_cV1P (p0 := 109) (r1 := mX6_refresh) dX9_shift_106 lX9_62 vX6_refresh (by first | rfl | assumption | exact RW.s (by assumption) | exact TW.s (by assumption)) ⟨_, _, rfl⟩ (FITi rfl rfl) (Nat.le_of_ble_eq_true rfl) (refresh_sp hRep3 hRow3 h652) rfl ?_
  rintro σ2 ⟨hRD2, fr2⟩
  refine g_iload (p0 := 111) dX9_shift_109 rfl rfl ?_
  refine g_ireturn dX9_shift_111 rfl rfl (?_)
  exact cchg fr1 hHC1 (fun z hz => (insS_ne (by omega) (by omega)).trans (remS_ne (by omega) (by omega))) hRep3 hRD2 fr2
set_option maxRecDepth 20000 in
set_option maxHeartbeats 2000000 in
theorem shift_r {s n : Nat} {H : Nat → (Nat → Int32) × Nat} {σ σ3 : Sg} (hR : RowOK (σ 80) s) (hHR : HRf σ n H) (hn : n ≤ 4) (e : ∀ z, 72 ≤ z → σ3 z = σ z) {p j : Nat} {x : Int32} (hp : p < s) (h0 : ¬ x = 0) (h2 : ¬ x < -99) (h3 : ¬ nI 99 < x) (ht : σ 80 (29 + p) + x = nI j) (hb : j ≤ 9999) (hth : ¬ THR (σ 80) s (nI j)) : CM mX10_shift [ar 79, ai (nI p), ai x] σ3 (RPost σ σ3 n H s (INS (REM (σ 80) s p) (s - 1) (nI j)) (nI (ah (tm (REM (σ 80) s p)) (s - 1) (nI j)))) := by
  have hHR3 : HRf σ3 n H := hHR.of (by rw [e 79 (by decide)]) (e 81 (by decide))
  have hx : ∀ q, q < 189 → σ3 80 q = ((σ 80, s) : (Nat → Int32) × Nat).1 q := fun q _ => by rw [e 80 (by decide)]
  have e380 : σ3 80 = σ 80 := e 80 (by decide)
  have hs1 := hR.2.1
  have hs : σ3 80 3 = nI s := by rw [e380]; exact hR.1
  have va : σ3 80 (29 + p) = σ 80 (29 + p) := by rw [e380]
  refine CM_in (ls := [some (ar 79), some (ai (nI p)), some (ai x), none]) rfl ?_
  refine g_aload_n (p0 := 1) (i := 0) dX10_shift_0 rfl rfl rfl ?_
  refine g_iload_n (p0 := 2) (i := 1) dX10_shift_1 rfl rfl rfl ?_
  refine g_cV1R (p0 := 5) (r1 := mX10_isStroke) dX10_shift_2 lX10_109 vX10_isStroke (by first | rfl | assumption | exact RW.s (by assumption) | exact TW.s (by assumption)) ⟨_, _, rfl⟩ (FITi rfl rfl) (Nat.le_of_ble_eq_true rfl) (isStroke_T hs hs1 hp) rfl ?_
  first | ((with_reducible refine isN1 ?_); refine g_ifN_eq (tgt := 23) (p1 := 8) dX10_shift_5 rfl (by omega) rfl (fun c_5 => by exfalso; first | omega | contradiction | exact h0 c_5 | exact c_5 (Int32.not_lt.mp h3) | exact absurd h (Int32.not_lt.mpr c_5)) (fun c_5 => ?_)) | refine g_if_eq (tgt := 23) (p1 := 8) dX10_shift_5 rfl rfl (fun c_5 => by exfalso; first | omega | contradiction | exact h0 c_5 | exact c_5 (Int32.not_lt.mp h3) | exact absurd h (Int32.not_lt.mpr c_5)) (fun c_5 => ?_)
  refine g_iload_n (p0 := 9) (i := 2) dX10_shift_8 rfl rfl rfl ?_
  refine g_bipush (p0 := 11) (v := -99) dX10_shift_9 (by decide) rfl ?_
  refine g_bipush (p0 := 13) (v := nI 99) dX10_shift_11 (by decide) rfl ?_
  refine g_cS3R (p0 := 16) (r1 := mX10_in) dX10_shift_13 (Or.inl lX10_65) vX10_in (FITi rfl rfl) (Nat.le_of_ble_eq_true rfl) (in_T h2 h3) rfl ?_
  first | ((with_reducible refine isN1 ?_); refine g_ifN_eq (tgt := 23) (p1 := 19) dX10_shift_16 rfl (by omega) rfl (fun c_16 => by exfalso; first | omega | contradiction | exact h0 c_16 | exact c_16 (Int32.not_lt.mp h3) | exact absurd h (Int32.not_lt.mpr c_16)) (fun c_16 => ?_)) | refine g_if_eq (tgt := 23) (p1 := 19) dX10_shift_16 rfl rfl (fun c_16 => by exfalso; first | omega | contradiction | exact h0 c_16 | exact c_16 (Int32.not_lt.mp h3) | exact absurd h (Int32.not_lt.mpr c_16)) (fun c_16 => ?_)
  refine g_iload_n (p0 := 20) (i := 2) dX10_shift_19 rfl rfl rfl ?_
  first | ((with_reducible refine isN1 ?_); refine g_ifN_ne (tgt := 26) (p1 := 23) dX10_shift_20 rfl (by omega) rfl (fun c_20 => ?_) (fun c_20 => by exfalso; first | omega | contradiction | exact h0 c_20 | exact c_20 (Int32.not_lt.mp h3) | exact absurd h (Int32.not_lt.mpr c_20))) | refine g_if_ne (tgt := 26) (p1 := 23) dX10_shift_20 rfl rfl (fun c_20 => ?_) (fun c_20 => by exfalso; first | omega | contradiction | exact h0 c_20 | exact c_20 (Int32.not_lt.mp h3) | exact absurd h (Int32.not_lt.mpr c_20))
  refine g_aload_n (p0 := 27) (i := 0) dX10_shift_26 rfl rfl rfl ?_
  refine g_getR (p0 := 30) dX10_shift_27 fX10_7 (by first | rfl | assumption | exact RW.s (by assumption) | exact TW.s (by assumption)) rfl rfl ?_
  refine g_bipush (p0 := 32) (v := nI 29) dX10_shift_30 (by decide) rfl ?_
  refine g_iload_n (p0 := 33) (i := 1) dX10_shift_32 rfl rfl rfl ?_
  first | ((with_reducible refine isN2 ?_); refine g_iaddN (p0 := 34) dX10_shift_33 rfl ?_) | refine g_iadd (p0 := 34) dX10_shift_33 rfl ?_
  first | ((with_reducible refine isN1 ?_); refine g_aldN (p0 := 35) dX10_shift_34 (by first | rfl | assumption | exact RW.s (by assumption) | exact TW.s (by assumption)) (by first | decide | assumption) (by omega) (by first | assumption | ((repeat (first | exact up_hit | refine up_nv (by decide) ?_ | refine up_mv (by first | decide | omega) ?_)) <;> first | assumption | rfl)) rfl ?_) | refine g_ald (p0 := 35) dX10_shift_34 (by first | rfl | assumption | exact RW.s (by assumption) | exact TW.s (by assumption)) (by assumption) (by first | assumption | ((repeat (first | exact up_hit | refine up_nv (by decide) ?_ | refine up_mv (by first | decide | omega) ?_)) <;> first | assumption | rfl)) rfl ?_
  refine g_iload_n (p0 := 36) (i := 2) dX10_shift_35 rfl rfl rfl ?_
  first | ((with_reducible refine isN2 ?_); refine g_iaddN (p0 := 37) dX10_shift_36 rfl ?_) | refine g_iadd (p0 := 37) dX10_shift_36 rfl ?_
  rw [ht]
  refine g_istore_n (p0 := 38) (i := 3) (ls2 := [_, _, _, _]) dX10_shift_37 rfl (Nat.le_of_ble_eq_true rfl) rfl rfl ?_
  refine g_iload_n (p0 := 39) (i := 3) dX10_shift_38 rfl rfl rfl ?_
  refine g_iconst (p0 := 40) (v := nI 0) dX10_shift_39 rfl rfl ?_
  refine g_sipush (p0 := 43) (v := nI 9999) dX10_shift_40 (by decide) rfl ?_
  refine g_cS3R (p0 := 46) (r1 := mX10_in) dX10_shift_43 (Or.inl lX10_65) vX10_in (FITi rfl rfl) (Nat.le_of_ble_eq_true rfl) (in_T (fun q => by rw [nI_lt_iff (by omega) (by omega)] at q; omega) (fun q => by rw [nI_lt_iff (by omega) (by omega)] at q; omega)) rfl ?_
  first | ((with_reducible refine isN1 ?_); refine g_ifN_eq (tgt := 57) (p1 := 49) dX10_shift_46 rfl (by omega) rfl (fun c_46 => by exfalso; first | omega | contradiction | exact h0 c_46 | exact c_46 (Int32.not_lt.mp h3) | exact absurd h (Int32.not_lt.mpr c_46)) (fun c_46 => ?_)) | refine g_if_eq (tgt := 57) (p1 := 49) dX10_shift_46 rfl rfl (fun c_46 => by exfalso; first | omega | contradiction | exact h0 c_46 | exact c_46 (Int32.not_lt.mp h3) | exact absurd h (Int32.not_lt.mpr c_46)) (fun c_46 => ?_)
  refine g_aload_n (p0 := 50) (i := 0) dX10_shift_49 rfl rfl rfl ?_
  refine g_iload_n (p0 := 51) (i := 3) dX10_shift_50 rfl rfl rfl ?_
  refine g_cV1R (p0 := 54) (r1 := mX10_isThere) dX10_shift_51 lX10_103 vX10_isThere (by first | rfl | assumption | exact RW.s (by assumption) | exact TW.s (by assumption)) ⟨_, _, rfl⟩ (FITi rfl rfl) (Nat.le_of_ble_eq_true rfl) (there_r (s := s) (by rw [e380]; exact hR) (by rw [e380]; exact hth)) rfl ?_
  first | ((with_reducible refine isN1 ?_); refine g_ifN_eq (tgt := 60) (p1 := 57) dX10_shift_54 rfl (by omega) rfl (fun c_54 => ?_) (fun c_54 => by exfalso; first | omega | contradiction | exact h0 c_54 | exact c_54 (Int32.not_lt.mp h3) | exact absurd h (Int32.not_lt.mpr c_54))) | refine g_if_eq (tgt := 60) (p1 := 57) dX10_shift_54 rfl rfl (fun c_54 => ?_) (fun c_54 => by exfalso; first | omega | contradiction | exact h0 c_54 | exact c_54 (Int32.not_lt.mp h3) | exact absurd h (Int32.not_lt.mpr c_54))
  refine g_aload_n (p0 := 61) (i := 0) dX10_shift_60 rfl rfl rfl ?_
  refine g_cV0P (p0 := 64) (r1 := mX10_changes) dX10_shift_61 lX10_77 vX10_changes (by first | rfl | assumption | exact RW.s (by assumption) | exact TW.s (by assumption)) ⟨_, _, rfl⟩ (FITi rfl rfl) (Nat.le_of_ble_eq_true rfl) (changes_rel (σ 80, s) hHR3 hn hx) rfl ?_
  rintro σ4 ⟨hH4, fr4, fr79⟩
  have e480 : σ4 80 = σ 80 := by rw [fr4 80 (by decide) (by decide)]; exact e380
  have hs4 : σ4 80 3 = nI s := by rw [e480]; exact hR.1
  have htk : CM mX10_takes [ar 79, ai (nI p)] σ4 (Ret (σ 80 (29 + p)) (setR σ4 80 (REM (σ 80) s p))) := by
    have h := takes_sp (v := σ 80 (29 + p)) hs4 hs1 hp (by rw [e480])
    rw [e480] at h
    exact h
  have hpu : CM mX10_puts [ar 79, ai (nI j)] (setR σ4 80 (REM (σ 80) s p)) (Ret (nI (ah (tm (REM (σ 80) s p)) (s - 1) (nI j))) (setR (setR σ4 80 (REM (σ 80) s p)) 80 (INS (REM (σ 80) s p) (s - 1) (nI j)))) := by
    have h := puts_sp (x := nI j) (s := s - 1) (σ := setR σ4 80 (REM (σ 80) s p)) (by rw [setR_hit]; exact REM_3) (by omega)
    rw [setR_hit] at h
    exact h
  refine g_aload_n (p0 := 65) (i := 0) dX10_shift_64 rfl rfl rfl ?_
  refine g_iload_n (p0 := 66) (i := 1) dX10_shift_65 rfl rfl rfl ?_
  refine g_cV1R (p0 := 69) (r1 := mX10_takes) dX10_shift_66 lX10_112 vX10_takes (by first | rfl | assumption | exact RW.s (by assumption) | exact TW.s (by assumption)) ⟨_, _, rfl⟩ (FITi rfl rfl) (Nat.le_of_ble_eq_true rfl) (htk) rfl ?_
  refine g_pop (p0 := 70) dX10_shift_69 rfl ?_
  refine g_aload_n (p0 := 71) (i := 0) dX10_shift_70 rfl rfl rfl ?_
  refine g_iload_n (p0 := 72) (i := 3) dX10_shift_71 rfl rfl rfl ?_
  refine g_cV1R (p0 := 75) (r1 := mX10_puts) dX10_shift_72 lX10_106 vX10_puts (by first | rfl | assumption | exact RW.s (by assumption) | exact TW.s (by assumption)) ⟨_, _, rfl⟩ (FITi rfl rfl) (Nat.le_of_ble_eq_true rfl) (hpu) rfl ?_
  refine g_ireturn dX10_shift_75 rfl rfl (?_)
  exact rchg hH4 fr4 fr79 (fun z hz => (setR_ne hz).trans (setR_ne hz)) setR_hit
theorem op_shift (x0 x1 : Int32) : OpOK Inv mX9_shift mX10_shift [ai x0, ai x1] := by
  intro σ hI
  obtain ⟨s, n, H, len, hR, hRep, hHC, hHR, hRD, hT⟩ := id hI
  have hs1 := hR.2.1
  rcases stroke_c hR hRep x0 with ⟨p, hp, rfl⟩ | ⟨h1, h2⟩
  · have va : σ 3 p = σ 80 (29 + p) := hRep.2.2.2.2.2 p hp
    by_cases h0 : x1 = 0
    · have h0 : x1 = nI 0 := h0
      subst h0
      exact op_same hI (shift_cb hRep.1 hs1 hp) (shift_rb hR.1 hs1 hp)
    · by_cases h2 : x1 < -99
      · exact op_same hI (shift_cc hRep.1 hs1 hp h0 h2) (shift_rc hR.1 hs1 hp h2)
      · by_cases h3 : nI 99 < x1
        · exact op_same hI (shift_cd hRep.1 hs1 hp h0 h2 h3) (shift_rd hR.1 hs1 hp h2 h3)
        · rcases i32c (σ 80 (29 + p) + x1) with ht | ⟨j, hj, ht⟩
          · exact op_same hI (shift_ce hRep.1 hs1 hp h0 h2 h3 va ht) (shift_re hR.1 hs1 hp h0 h2 h3 rfl ht)
          · by_cases hb : 9999 < j
            · exact op_same hI (shift_cf hRep.1 hs1 hp h0 h2 h3 va ht hj hb) (shift_rf hR.1 hs1 hp h0 h2 h3 rfl ht hj hb)
            · rcases there_c hR hRep (nI j) with ⟨t1, t2⟩ | ⟨t1, t2⟩
              · exact op_same hI (shift_cg hRep.1 hs1 hp h0 h2 h3 va ht hj (by omega) t1) (shift_rg hR.1 hs1 hp h0 h2 h3 rfl ht hj (by omega) t2)
              · exact op_change hT (RowOK_ins (RowOK_rem hR) (by omega) ⟨j, by omega, rfl⟩) (shift_c hR hRep hHC hRD.2.2.2.2.2.2 hp h0 h2 h3 ht (by omega) t2) (fun σ3 e => shift_r hR hHR (HC_le hHC) e hp h0 h2 h3 ht (by omega) t1)
  · exact op_same hI (shift_ca h1) (shift_ra h2)
