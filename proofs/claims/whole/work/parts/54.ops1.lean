/-! OPERATIONS that change the state: type, set, pause -/
set_option maxRecDepth 20000 in
set_option maxHeartbeats 2000000 in
theorem type_c_lo {x : Int32} {σ : Sg} (hx : x < nI 32) : CM mX9_type [ar 0, ai x] σ (Ret (-1000001) σ) := by
  refine CM_in (ls := [some (ar 0), some (ai x)]) rfl ?_
  refine g_iload_n (p0 := 1) (i := 1) dX9_type_0 rfl rfl rfl ?_
  refine g_bipush (p0 := 3) (v := nI 32) dX9_type_1 (by decide) rfl ?_
  first | ((with_reducible refine isN2 ?_); refine g_icmpN_lt (tgt := 12) (p1 := 6) dX9_type_3 rfl (by omega) (by omega) rfl (fun c_3 => ?_) (fun c_3 => by exfalso; first | omega | contradiction | exact absurd (by assumption) c_3 | (simp_all; done))) | refine g_icmp_lt (tgt := 12) (p1 := 6) dX9_type_3 rfl rfl (fun c_3 => ?_) (fun c_3 => by exfalso; first | omega | contradiction | exact absurd (by assumption) c_3 | (simp_all; done))
  refine g_ldc (p0 := 14) dX9_type_12 qX9_68 rfl ?_
  refine g_ireturn dX9_type_14 rfl rfl (?_)
  exact ⟨rfl, rfl⟩
set_option maxRecDepth 20000 in
set_option maxHeartbeats 2000000 in
theorem type_r_lo {x : Int32} {σ : Sg} (hx : x < nI 32) : CM mX10_type [ar 79, ai x] σ (Ret (-1000001) σ) := by
  refine CM_in (ls := [some (ar 79), some (ai x)]) rfl ?_
  refine g_iload_n (p0 := 1) (i := 1) dX10_type_0 rfl rfl rfl ?_
  refine g_bipush (p0 := 3) (v := nI 32) dX10_type_1 (by decide) rfl ?_
  refine g_bipush (p0 := 5) (v := nI 126) dX10_type_3 (by decide) rfl ?_
  refine g_cS3R (p0 := 8) (r1 := mX10_in) dX10_type_5 (Or.inl lX10_65) vX10_in (FITi rfl rfl) (Nat.le_of_ble_eq_true rfl) (in_F1 hx) rfl ?_
  first | ((with_reducible refine isN1 ?_); refine g_ifN_ne (tgt := 14) (p1 := 11) dX10_type_8 rfl (by omega) rfl (fun c_8 => by exfalso; first | omega | contradiction | exact absurd (by assumption) c_8 | (simp_all; done)) (fun c_8 => ?_)) | refine g_if_ne (tgt := 14) (p1 := 11) dX10_type_8 rfl rfl (fun c_8 => by exfalso; first | omega | contradiction | exact absurd (by assumption) c_8 | (simp_all; done)) (fun c_8 => ?_)
  refine g_ldc (p0 := 13) dX10_type_11 qX10_76 rfl ?_
  refine g_ireturn dX10_type_13 rfl rfl (?_)
  exact ⟨rfl, rfl⟩
set_option maxRecDepth 20000 in
set_option maxHeartbeats 2000000 in
theorem type_c_hi {j : Nat} {σ : Sg} (hj : 126 < j) (hj2 : j < 2147483648) : CM mX9_type [ar 0, ai (nI j)] σ (Ret (-1000001) σ) := by
  refine CM_in (ls := [some (ar 0), some (ai (nI j))]) rfl ?_
  refine g_iload_n (p0 := 1) (i := 1) dX9_type_0 rfl rfl rfl ?_
  refine g_bipush (p0 := 3) (v := nI 32) dX9_type_1 (by decide) rfl ?_
  first | ((with_reducible refine isN2 ?_); refine g_icmpN_lt (tgt := 12) (p1 := 6) dX9_type_3 rfl (by omega) (by omega) rfl (fun c_3 => by exfalso; first | omega | contradiction | exact absurd (by assumption) c_3 | (simp_all; done)) (fun c_3 => ?_)) | refine g_icmp_lt (tgt := 12) (p1 := 6) dX9_type_3 rfl rfl (fun c_3 => by exfalso; first | omega | contradiction | exact absurd (by assumption) c_3 | (simp_all; done)) (fun c_3 => ?_)
  refine g_iload_n (p0 := 7) (i := 1) dX9_type_6 rfl rfl rfl ?_
  refine g_bipush (p0 := 9) (v := nI 126) dX9_type_7 (by decide) rfl ?_
  first | ((with_reducible refine isN2 ?_); refine g_icmpN_le (tgt := 15) (p1 := 12) dX9_type_9 rfl (by omega) (by omega) rfl (fun c_9 => by exfalso; first | omega | contradiction | exact absurd (by assumption) c_9 | (simp_all; done)) (fun c_9 => ?_)) | refine g_icmp_le (tgt := 15) (p1 := 12) dX9_type_9 rfl rfl (fun c_9 => by exfalso; first | omega | contradiction | exact absurd (by assumption) c_9 | (simp_all; done)) (fun c_9 => ?_)
  refine g_ldc (p0 := 14) dX9_type_12 qX9_68 rfl ?_
  refine g_ireturn dX9_type_14 rfl rfl (?_)
  exact ⟨rfl, rfl⟩
set_option maxRecDepth 20000 in
set_option maxHeartbeats 2000000 in
theorem type_r_hi {j : Nat} {σ : Sg} (hj : 126 < j) (hj2 : j < 2147483648) : CM mX10_type [ar 79, ai (nI j)] σ (Ret (-1000001) σ) := by
  refine CM_in (ls := [some (ar 79), some (ai (nI j))]) rfl ?_
  refine g_iload_n (p0 := 1) (i := 1) dX10_type_0 rfl rfl rfl ?_
  refine g_bipush (p0 := 3) (v := nI 32) dX10_type_1 (by decide) rfl ?_
  refine g_bipush (p0 := 5) (v := nI 126) dX10_type_3 (by decide) rfl ?_
  refine g_cS3R (p0 := 8) (r1 := mX10_in) dX10_type_5 (Or.inl lX10_65) vX10_in (FITi rfl rfl) (Nat.le_of_ble_eq_true rfl) (in_F2 (fun q => by rw [nI_lt_iff (by omega) (by omega)] at q; omega) ((nI_lt_iff (by omega) (by omega)).mpr (by omega))) rfl ?_
  first | ((with_reducible refine isN1 ?_); refine g_ifN_ne (tgt := 14) (p1 := 11) dX10_type_8 rfl (by omega) rfl (fun c_8 => by exfalso; first | omega | contradiction | exact absurd (by assumption) c_8 | (simp_all; done)) (fun c_8 => ?_)) | refine g_if_ne (tgt := 14) (p1 := 11) dX10_type_8 rfl rfl (fun c_8 => by exfalso; first | omega | contradiction | exact absurd (by assumption) c_8 | (simp_all; done)) (fun c_8 => ?_)
  refine g_ldc (p0 := 13) dX10_type_11 qX10_76 rfl ?_
  refine g_ireturn dX10_type_13 rfl rfl (?_)
  exact ⟨rfl, rfl⟩
set_option maxRecDepth 20000 in
set_option maxHeartbeats 2000000 in
theorem type_c_full {j : Nat} {σ : Sg} (h1 : 32 ≤ j) (h2 : j ≤ 126) (h : σ 76 1 = nI 60) : CM mX9_type [ar 0, ai (nI j)] σ (Ret (-1000003) σ) := by
  refine CM_in (ls := [some (ar 0), some (ai (nI j))]) rfl ?_
  refine g_iload_n (p0 := 1) (i := 1) dX9_type_0 rfl rfl rfl ?_
  refine g_bipush (p0 := 3) (v := nI 32) dX9_type_1 (by decide) rfl ?_
  first | ((with_reducible refine isN2 ?_); refine g_icmpN_lt (tgt := 12) (p1 := 6) dX9_type_3 rfl (by omega) (by omega) rfl (fun c_3 => by exfalso; first | omega | contradiction | exact absurd (by assumption) c_3 | (simp_all; done)) (fun c_3 => ?_)) | refine g_icmp_lt (tgt := 12) (p1 := 6) dX9_type_3 rfl rfl (fun c_3 => by exfalso; first | omega | contradiction | exact absurd (by assumption) c_3 | (simp_all; done)) (fun c_3 => ?_)
  refine g_iload_n (p0 := 7) (i := 1) dX9_type_6 rfl rfl rfl ?_
  refine g_bipush (p0 := 9) (v := nI 126) dX9_type_7 (by decide) rfl ?_
  first | ((with_reducible refine isN2 ?_); refine g_icmpN_le (tgt := 15) (p1 := 12) dX9_type_9 rfl (by omega) (by omega) rfl (fun c_9 => ?_) (fun c_9 => by exfalso; first | omega | contradiction | exact absurd (by assumption) c_9 | (simp_all; done))) | refine g_icmp_le (tgt := 15) (p1 := 12) dX9_type_9 rfl rfl (fun c_9 => ?_) (fun c_9 => by exfalso; first | omega | contradiction | exact absurd (by assumption) c_9 | (simp_all; done))
  refine g_aload_n (p0 := 16) (i := 0) dX9_type_15 rfl rfl rfl ?_
  refine g_getR (p0 := 19) dX9_type_16 fX9_50 (by first | rfl | assumption | exact RW.s (by assumption) | exact TW.s (by assumption)) rfl rfl ?_
  refine g_getI (p0 := 22) dX9_type_19 fX9_259 (by first | rfl | assumption | exact RW.s (by assumption) | exact TW.s (by assumption)) rfl (by first | assumption | ((repeat (first | exact up_hit | refine up_nv (by decide) ?_ | refine up_mv (by first | decide | omega) ?_)) <;> first | assumption | rfl)) rfl ?_
  refine g_bipush (p0 := 24) (v := nI 60) dX9_type_22 (by decide) rfl ?_
  first | ((with_reducible refine isN2 ?_); refine g_icmpN_lt (tgt := 30) (p1 := 27) dX9_type_24 rfl (by omega) (by omega) rfl (fun c_24 => by exfalso; first | omega | contradiction | exact absurd (by assumption) c_24 | (simp_all; done)) (fun c_24 => ?_)) | refine g_icmp_lt (tgt := 30) (p1 := 27) dX9_type_24 rfl rfl (fun c_24 => by exfalso; first | omega | contradiction | exact absurd (by assumption) c_24 | (simp_all; done)) (fun c_24 => ?_)
  refine g_ldc (p0 := 29) dX9_type_27 qX9_84 rfl ?_
  refine g_ireturn dX9_type_29 rfl rfl (?_)
  exact ⟨rfl, rfl⟩
set_option maxRecDepth 20000 in
set_option maxHeartbeats 2000000 in
theorem type_r_full {j : Nat} {σ : Sg} (h1 : 32 ≤ j) (h2 : j ≤ 126) (h : σ 79 5 = nI 60) : CM mX10_type [ar 79, ai (nI j)] σ (Ret (-1000003) σ) := by
  refine CM_in (ls := [some (ar 79), some (ai (nI j))]) rfl ?_
  refine g_iload_n (p0 := 1) (i := 1) dX10_type_0 rfl rfl rfl ?_
  refine g_bipush (p0 := 3) (v := nI 32) dX10_type_1 (by decide) rfl ?_
  refine g_bipush (p0 := 5) (v := nI 126) dX10_type_3 (by decide) rfl ?_
  refine g_cS3R (p0 := 8) (r1 := mX10_in) dX10_type_5 (Or.inl lX10_65) vX10_in (FITi rfl rfl) (Nat.le_of_ble_eq_true rfl) (in_T (fun q => by rw [nI_lt_iff (by omega) (by omega)] at q; omega) (fun q => by rw [nI_lt_iff (by omega) (by omega)] at q; omega)) rfl ?_
  first | ((with_reducible refine isN1 ?_); refine g_ifN_ne (tgt := 14) (p1 := 11) dX10_type_8 rfl (by omega) rfl (fun c_8 => ?_) (fun c_8 => by exfalso; first | omega | contradiction | exact absurd (by assumption) c_8 | (simp_all; done))) | refine g_if_ne (tgt := 14) (p1 := 11) dX10_type_8 rfl rfl (fun c_8 => ?_) (fun c_8 => by exfalso; first | omega | contradiction | exact absurd (by assumption) c_8 | (simp_all; done))
  refine g_aload_n (p0 := 15) (i := 0) dX10_type_14 rfl rfl rfl ?_
  refine g_getI (p0 := 18) dX10_type_15 fX10_187 (by first | rfl | assumption | exact RW.s (by assumption) | exact TW.s (by assumption)) rfl (by first | assumption | ((repeat (first | exact up_hit | refine up_nv (by decide) ?_ | refine up_mv (by first | decide | omega) ?_)) <;> first | assumption | rfl)) rfl ?_
  refine g_bipush (p0 := 20) (v := nI 60) dX10_type_18 (by decide) rfl ?_
  first | ((with_reducible refine isN2 ?_); refine g_icmpN_ne (tgt := 26) (p1 := 23) dX10_type_20 rfl (by omega) (by omega) rfl (fun c_20 => by exfalso; first | omega | contradiction | exact absurd (by assumption) c_20 | (simp_all; done)) (fun c_20 => ?_)) | refine g_icmp_ne (tgt := 26) (p1 := 23) dX10_type_20 rfl rfl (fun c_20 => by exfalso; first | omega | contradiction | exact absurd (by assumption) c_20 | (simp_all; done)) (fun c_20 => ?_)
  refine g_ldc (p0 := 25) dX10_type_23 qX10_97 rfl ?_
  refine g_ireturn dX10_type_25 rfl rfl (?_)
  exact ⟨rfl, rfl⟩
set_option maxRecDepth 20000 in
set_option maxHeartbeats 2000000 in
theorem append_sp {len : Nat} {x : Int32} {σ : Sg} (h : σ 76 1 = nI len) (hl : len < 60) : CM mX5_append [ar 76, ai x] σ (RetV (up (up σ 78 len x) 76 1 (nI (len + 1)))) := by
  refine CM_in (ls := [some (ar 76), some (ai x)]) rfl ?_
  refine g_aload_n (p0 := 1) (i := 0) dX5_append_0 rfl rfl rfl ?_
  refine g_getR (p0 := 4) dX5_append_1 fX5_14 (by first | rfl | assumption | exact RW.s (by assumption) | exact TW.s (by assumption)) rfl rfl ?_
  refine g_aload_n (p0 := 5) (i := 0) dX5_append_4 rfl rfl rfl ?_
  refine g_getI (p0 := 8) dX5_append_5 fX5_20 (by first | rfl | assumption | exact RW.s (by assumption) | exact TW.s (by assumption)) rfl (by first | assumption | ((repeat (first | exact up_hit | refine up_nv (by decide) ?_ | refine up_mv (by first | decide | omega) ?_)) <;> first | assumption | rfl)) rfl ?_
  refine g_iload_n (p0 := 9) (i := 1) dX5_append_8 rfl rfl rfl ?_
  refine g_cV2V (p0 := 12) (r1 := mX7_put) dX5_append_9 lX5_30 vX7_put (by first | rfl | assumption | exact RW.s (by assumption) | exact TW.s (by assumption)) ⟨_, _, rfl⟩ (FITi rfl rfl) (Nat.le_of_ble_eq_true rfl) (put_N (by first | exact ⟨rfl, rfl, by decide⟩ | assumption) hl) rfl ?_
  refine g_aload_n (p0 := 13) (i := 0) dX5_append_12 rfl rfl rfl ?_
  refine g_dup (p0 := 14) dX5_append_13 rfl ?_
  refine g_getI (p0 := 17) dX5_append_14 fX5_20 (by first | rfl | assumption | exact RW.s (by assumption) | exact TW.s (by assumption)) rfl (by first | assumption | ((repeat (first | exact up_hit | refine up_nv (by decide) ?_ | refine up_mv (by first | decide | omega) ?_)) <;> first | assumption | rfl)) rfl ?_
  refine g_iconst (p0 := 18) (v := nI 1) dX5_append_17 rfl rfl ?_
  first | ((with_reducible refine isN2 ?_); refine g_iaddN (p0 := 19) dX5_append_18 rfl ?_) | refine g_iadd (p0 := 19) dX5_append_18 rfl ?_
  refine g_put (p0 := 22) dX5_append_19 fX5_20 (by first | rfl | assumption | exact RW.s (by assumption) | exact TW.s (by assumption)) rfl nX5_1 (pX5_1 _) rfl ?_
  refine g_return dX5_append_22 rfl ?_
  exact ⟨rfl, rfl⟩
set_option maxRecDepth 20000 in
set_option maxHeartbeats 2000000 in
theorem type_c {len j : Nat} {σ : Sg} (h1 : 32 ≤ j) (h2 : j ≤ 126) (h : σ 76 1 = nI len) (hl : len < 60) : CM mX9_type [ar 0, ai (nI j)] σ (Ret (nI (len + 1)) (up (up σ 78 len (nI j)) 76 1 (nI (len + 1)))) := by
  refine CM_in (ls := [some (ar 0), some (ai (nI j))]) rfl ?_
  refine g_iload_n (p0 := 1) (i := 1) dX9_type_0 rfl rfl rfl ?_
  refine g_bipush (p0 := 3) (v := nI 32) dX9_type_1 (by decide) rfl ?_
  first | ((with_reducible refine isN2 ?_); refine g_icmpN_lt (tgt := 12) (p1 := 6) dX9_type_3 rfl (by omega) (by omega) rfl (fun c_3 => by exfalso; first | omega | contradiction | exact absurd (by assumption) c_3 | (simp_all; done)) (fun c_3 => ?_)) | refine g_icmp_lt (tgt := 12) (p1 := 6) dX9_type_3 rfl rfl (fun c_3 => by exfalso; first | omega | contradiction | exact absurd (by assumption) c_3 | (simp_all; done)) (fun c_3 => ?_)
  refine g_iload_n (p0 := 7) (i := 1) dX9_type_6 rfl rfl rfl ?_
  refine g_bipush (p0 := 9) (v := nI 126) dX9_type_7 (by decide) rfl ?_
  first | ((with_reducible refine isN2 ?_); refine g_icmpN_le (tgt := 15) (p1 := 12) dX9_type_9 rfl (by omega) (by omega) rfl (fun c_9 => ?_) (fun c_9 => by exfalso; first | omega | contradiction | exact absurd (by assumption) c_9 | (simp_all; done))) | refine g_icmp_le (tgt := 15) (p1 := 12) dX9_type_9 rfl rfl (fun c_9 => ?_) (fun c_9 => by exfalso; first | omega | contradiction | exact absurd (by assumption) c_9 | (simp_all; done))
  refine g_aload_n (p0 := 16) (i := 0) dX9_type_15 rfl rfl rfl ?_
  refine g_getR (p0 := 19) dX9_type_16 fX9_50 (by first | rfl | assumption | exact RW.s (by assumption) | exact TW.s (by assumption)) rfl rfl ?_
  refine g_getI (p0 := 22) dX9_type_19 fX9_259 (by first | rfl | assumption | exact RW.s (by assumption) | exact TW.s (by assumption)) rfl (by first | assumption | ((repeat (first | exact up_hit | refine up_nv (by decide) ?_ | refine up_mv (by first | decide | omega) ?_)) <;> first | assumption | rfl)) rfl ?_
  refine g_bipush (p0 := 24) (v := nI 60) dX9_type_22 (by decide) rfl ?_
  first | ((with_reducible refine isN2 ?_); refine g_icmpN_lt (tgt := 30) (p1 := 27) dX9_type_24 rfl (by omega) (by omega) rfl (fun c_24 => ?_) (fun c_24 => by exfalso; first | omega | contradiction | exact absurd (by assumption) c_24 | (simp_all; done))) | refine g_icmp_lt (tgt := 30) (p1 := 27) dX9_type_24 rfl rfl (fun c_24 => ?_) (fun c_24 => by exfalso; first | omega | contradiction | exact absurd (by assumption) c_24 | (simp_all; done))
  refine g_aload_n (p0 := 31) (i := 0) dX9_type_30 rfl rfl rfl ?_
  refine g_getR (p0 := 34) dX9_type_31 fX9_50 (by first | rfl | assumption | exact RW.s (by assumption) | exact TW.s (by assumption)) rfl rfl ?_
  refine g_iload_n (p0 := 35) (i := 1) dX9_type_34 rfl rfl rfl ?_
  refine g_cV1V (p0 := 38) (r1 := mX5_append) dX9_type_35 lX9_262 vX5_append (by first | rfl | assumption | exact RW.s (by assumption) | exact TW.s (by assumption)) ⟨_, _, rfl⟩ (FITi rfl rfl) (Nat.le_of_ble_eq_true rfl) (append_sp h hl) rfl ?_
  refine g_aload_n (p0 := 39) (i := 0) dX9_type_38 rfl rfl rfl ?_
  refine g_getR (p0 := 42) dX9_type_39 fX9_50 (by first | rfl | assumption | exact RW.s (by assumption) | exact TW.s (by assumption)) rfl rfl ?_
  refine g_getI (p0 := 45) dX9_type_42 fX9_259 (by first | rfl | assumption | exact RW.s (by assumption) | exact TW.s (by assumption)) rfl (by first | assumption | ((repeat (first | exact up_hit | refine up_nv (by decide) ?_ | refine up_mv (by first | decide | omega) ?_)) <;> first | assumption | rfl)) rfl ?_
  refine g_ireturn dX9_type_45 rfl rfl (?_)
  exact ⟨rfl, rfl⟩
set_option maxRecDepth 20000 in
set_option maxHeartbeats 2000000 in
theorem type_r {len j : Nat} {σ : Sg} (h1 : 32 ≤ j) (h2 : j ≤ 126) (h : σ 79 5 = nI len) (hl : len < 60) : CM mX10_type [ar 79, ai (nI j)] σ (Ret (nI (len + 1)) (up (up σ 83 len (nI j)) 79 5 (nI (len + 1)))) := by
  refine CM_in (ls := [some (ar 79), some (ai (nI j))]) rfl ?_
  refine g_iload_n (p0 := 1) (i := 1) dX10_type_0 rfl rfl rfl ?_
  refine g_bipush (p0 := 3) (v := nI 32) dX10_type_1 (by decide) rfl ?_
  refine g_bipush (p0 := 5) (v := nI 126) dX10_type_3 (by decide) rfl ?_
  refine g_cS3R (p0 := 8) (r1 := mX10_in) dX10_type_5 (Or.inl lX10_65) vX10_in (FITi rfl rfl) (Nat.le_of_ble_eq_true rfl) (in_T (fun q => by rw [nI_lt_iff (by omega) (by omega)] at q; omega) (fun q => by rw [nI_lt_iff (by omega) (by omega)] at q; omega)) rfl ?_
  first | ((with_reducible refine isN1 ?_); refine g_ifN_ne (tgt := 14) (p1 := 11) dX10_type_8 rfl (by omega) rfl (fun c_8 => ?_) (fun c_8 => by exfalso; first | omega | contradiction | exact absurd (by assumption) c_8 | (simp_all; done))) | refine g_if_ne (tgt := 14) (p1 := 11) dX10_type_8 rfl rfl (fun c_8 => ?_) (fun c_8 => by exfalso; first | omega | contradiction | exact absurd (by assumption) c_8 | (simp_all; done))
  refine g_aload_n (p0 := 15) (i := 0) dX10_type_14 rfl rfl rfl ?_
  refine g_getI (p0 := 18) dX10_type_15 fX10_187 (by first | rfl | assumption | exact RW.s (by assumption) | exact TW.s (by assumption)) rfl (by first | assumption | ((repeat (first | exact up_hit | refine up_nv (by decide) ?_ | refine up_mv (by first | decide | omega) ?_)) <;> first | assumption | rfl)) rfl ?_
  refine g_bipush (p0 := 20) (v := nI 60) dX10_type_18 (by decide) rfl ?_
  first | ((with_reducible refine isN2 ?_); refine g_icmpN_ne (tgt := 26) (p1 := 23) dX10_type_20 rfl (by omega) (by omega) rfl (fun c_20 => ?_) (fun c_20 => by exfalso; first | omega | contradiction | exact absurd (by assumption) c_20 | (simp_all; done))) | refine g_icmp_ne (tgt := 26) (p1 := 23) dX10_type_20 rfl rfl (fun c_20 => ?_) (fun c_20 => by exfalso; first | omega | contradiction | exact absurd (by assumption) c_20 | (simp_all; done))
  refine g_aload_n (p0 := 27) (i := 0) dX10_type_26 rfl rfl rfl ?_
  refine g_getR (p0 := 30) dX10_type_27 fX10_19 (by first | rfl | assumption | exact RW.s (by assumption) | exact TW.s (by assumption)) rfl rfl ?_
  refine g_aload_n (p0 := 31) (i := 0) dX10_type_30 rfl rfl rfl ?_
  refine g_getI (p0 := 34) dX10_type_31 fX10_187 (by first | rfl | assumption | exact RW.s (by assumption) | exact TW.s (by assumption)) rfl (by first | assumption | ((repeat (first | exact up_hit | refine up_nv (by decide) ?_ | refine up_mv (by first | decide | omega) ?_)) <;> first | assumption | rfl)) rfl ?_
  refine g_iload_n (p0 := 35) (i := 1) dX10_type_34 rfl rfl rfl ?_
  first | ((with_reducible refine isNS ?_); refine g_astN (p0 := 36) dX10_type_35 (by first | rfl | assumption | exact RW.s (by assumption) | exact TW.s (by assumption)) (by first | decide | assumption) (by omega) rfl ?_) | refine g_ast (p0 := 36) dX10_type_35 (by first | rfl | assumption | exact RW.s (by assumption) | exact TW.s (by assumption)) (by assumption) rfl ?_
  refine g_aload_n (p0 := 37) (i := 0) dX10_type_36 rfl rfl rfl ?_
  refine g_dup (p0 := 38) dX10_type_37 rfl ?_
  refine g_getI (p0 := 41) dX10_type_38 fX10_187 (by first | rfl | assumption | exact RW.s (by assumption) | exact TW.s (by assumption)) rfl (by first | assumption | ((repeat (first | exact up_hit | refine up_nv (by decide) ?_ | refine up_mv (by first | decide | omega) ?_)) <;> first | assumption | rfl)) rfl ?_
  refine g_iconst (p0 := 42) (v := nI 1) dX10_type_41 rfl rfl ?_
  first | ((with_reducible refine isN2 ?_); refine g_iaddN (p0 := 43) dX10_type_42 rfl ?_) | refine g_iadd (p0 := 43) dX10_type_42 rfl ?_
  refine g_put (p0 := 46) dX10_type_43 fX10_187 (by first | rfl | assumption | exact RW.s (by assumption) | exact TW.s (by assumption)) rfl nX10_5 (pX10_5 _) rfl ?_
  refine g_aload_n (p0 := 47) (i := 0) dX10_type_46 rfl rfl rfl ?_
  refine g_getI (p0 := 50) dX10_type_47 fX10_187 (by first | rfl | assumption | exact RW.s (by assumption) | exact TW.s (by assumption)) rfl (by first | assumption | ((repeat (first | exact up_hit | refine up_nv (by decide) ?_ | refine up_mv (by first | decide | omega) ?_)) <;> first | assumption | rfl)) rfl ?_
  refine g_ireturn dX10_type_50 rfl rfl (?_)
  exact ⟨rfl, rfl⟩
theorem op_type (x0 : Int32) : OpOK Inv mX9_type mX10_type [ai x0] := by
  intro σ hI
  rcases i32c x0 with h | ⟨j, hj, rfl⟩
  · have h2 : x0 < nI 32 := by
      rw [Int32.lt_iff_toInt_lt] at h ⊢
      rw [nI_toInt (by decide)]
      have h3 : x0.toInt < 0 := h
      omega
    exact op_same hI (type_c_lo h2) (type_r_lo h2)
  · by_cases h1 : j < 32
    · have h2 : nI j < nI 32 := (nI_lt_iff hj (by decide)).mpr h1
      exact op_same hI (type_c_lo h2) (type_r_lo h2)
    · by_cases h2 : 126 < j
      · exact op_same hI (type_c_hi h2 hj) (type_r_hi h2 hj)
      · obtain ⟨s, n, H, len, hR, hRep, hHC, hHR, hRD, t1, t2, t3, t4⟩ := id hI
        by_cases h60 : len = 60
        · subst h60
          exact op_same hI (type_c_full (by omega) (by omega) t1) (type_r_full (by omega) (by omega) t2)
        · refine op_two (type_c (by omega) (by omega) t1 (by omega)) (type_r (by omega) (by omega) (by rw [up_ne (by decide), up_ne (by decide)]; exact t2) (by omega)) ?_
          have f : ∀ z, z ≠ 76 → z ≠ 78 → z ≠ 79 → z ≠ 83 → (up (up (up (up σ 78 len (nI j)) 76 1 (nI (len + 1))) 83 len (nI j)) 79 5 (nI (len + 1))) z = σ z := fun z h1 h2 h3 h4 => by rw [up_ne h3, up_ne h4, up_ne h1, up_ne h2]
          refine ⟨s, n, H, len + 1, ?_, ?_, hHC.of (fun z h1 h2 => f z (by omega) (by omega) (by omega) (by omega)), hHR.of ?_ (f _ (by decide) (by decide) (by decide) (by decide)), ?_, ⟨?_, up_hit, by omega, fun i hi => ?_⟩⟩
          · rw [f 80 (by decide) (by decide) (by decide) (by decide)]; exact hR
          · rw [f 80 (by decide) (by decide) (by decide) (by decide)]; exact hRep.of_eq (f _ (by decide) (by decide) (by decide) (by decide)) (f _ (by decide) (by decide) (by decide) (by decide)) (f _ (by decide) (by decide) (by decide) (by decide))
          · rw [up_miss (by decide), up_ne (by decide), up_ne (by decide), up_ne (by decide)]
          · rw [f 80 (by decide) (by decide) (by decide) (by decide)]; exact hRD.of (fun z h1 h2 => f z (by omega) (by omega) (by omega) (by omega))
          · rw [up_ne (by decide), up_ne (by decide), up_hit]
          · rw [up_ne2 (by decide), up_ne2 (by decide), up_ne2 (by decide), up_self, up_ne2 (by decide), up_self, up_ne (by decide), up_ne (by decide)]
            by_cases e : i = len
            · subst e
              rw [upd_hit, upd_hit]
              exact ⟨rfl, j, by omega, by omega, rfl⟩
            · rw [upd_ne e, upd_ne e]
              exact t4 i (by omega)
def CPost (σ : Sg) (n : Nat) (H : Nat → (Nat → Int32) × Nat) (s : Nat) (ρ' : Nat → Int32) (s' : Nat) (v : Int32) : SP := fun w σ3 => w = some (ai v) ∧ Rep σ3 1 ρ' s' ∧ HC σ3 (pn n) (push n H (σ 80, s)) ∧ RDC σ3 ρ' s' ∧ ∀ z, 72 ≤ z → σ3 z = σ z
def RPost (σ σ3 : Sg) (n : Nat) (H : Nat → (Nat → Int32) × Nat) (s : Nat) (ρ' : Nat → Int32) (v : Int32) : SP := fun w σ' => w = some (ai v) ∧ σ' 80 = ρ' ∧ HRf σ' (pn n) (push n H (σ 80, s)) ∧ (∀ z, z < 79 → σ' z = σ3 z) ∧ σ' 79 5 = σ3 79 5 ∧ σ' 83 = σ3 83
theorem op_change {r1 r2 : MR} {As : List AV} {v : Int32} {σ : Sg} {n s s' len : Nat} {H : Nat → (Nat → Int32) × Nat} {ρ' : Nat → Int32} (hT : TX σ len) (hR : RowOK ρ' s')
    (h1 : CM r1 (ar 0 :: As) σ (CPost σ n H s ρ' s' v)) (h2 : ∀ σ3, (∀ z, 72 ≤ z → σ3 z = σ z) → CM r2 (ar 79 :: As) σ3 (RPost σ σ3 n H s ρ' v)) : CM r1 (ar 0 :: As) σ (OP r2 As) := by
  refine CM.mono h1 ?_
  rintro w σ3 ⟨rfl, a1, a2, a3, a4⟩
  refine ⟨v, rfl, CM.mono (h2 σ3 a4) ?_⟩
  rintro w2 σ4 ⟨rfl, b1, b2, b3, b4, b5⟩
  refine ⟨rfl, s', pn n, push n H (σ 80, s), len, by rw [b1]; exact hR, ?_, a2.of (fun z h1 h2 => b3 z (by omega)), b2, ?_, ?_⟩
  · rw [b1]; exact a1.of_eq (b3 _ (by decide)) (b3 _ (by decide)) (b3 _ (by decide))
  · rw [b1]; exact a3.of (fun z h1 h2 => b3 z (by omega))
  · obtain ⟨t1, t2, t3, t4⟩ := hT
    refine ⟨by rw [b3 _ (by decide), a4 _ (by decide)]; exact t1, by rw [b4, a4 _ (by decide)]; exact t2, t3, fun i hi => ?_⟩
    rw [b3 78 (by decide), b5, a4 78 (by decide), a4 83 (by decide)]
    exact t4 i hi
theorem HC_le {σ : Sg} {n : Nat} {H : Nat → (Nat → Int32) × Nat} (h : HC σ n H) : n ≤ 4 := by
  obtain ⟨_, _, _, _, h3, _⟩ := h
  exact h3
theorem RowOK.upd {ρ : Nat → Int32} {s k : Nat} {x : Int32} (h : RowOK ρ s) (hk : k < 2) (hx : k = 0 → ∃ b, b ≤ 20 ∧ x = nI b) : RowOK (upd ρ k x) s := by
  obtain ⟨h1, h2, h3, ⟨cf, h4, h5⟩, ⟨b, hb1, hb2⟩, h6⟩ := h
  refine ⟨by rw [upd_ne (by omega)]; exact h1, h2, by rw [upd_ne (by omega)]; exact h3, ⟨cf, fun l hl => by rw [upd_ne (by omega)]; exact h4 l hl, h5⟩, ?_, fun q hq => by rw [upd_ne (by omega)]; exact h6 q hq⟩
  by_cases hk0 : k = 0
  · obtain ⟨b', hb3, hb4⟩ := hx hk0
    exact ⟨b', hb3, by rw [hk0, upd_hit]; exact hb4⟩
  · exact ⟨b, hb1, by rw [upd_ne (by omega)]; exact hb2⟩
set_option maxRecDepth 20000 in
set_option maxHeartbeats 2000000 in
theorem set_c0 {s n j : Nat} {H : Nat → (Nat → Int32) × Nat} {σ : Sg} (hR : RowOK (σ 80) s) (hRep : Rep σ 1 (σ 80) s) (hHC : HC σ n H) (h65 : σ 65 0 = nI 0) (h1 : 4 ≤ j) (h2 : j ≤ 20) : CM mX9_set [ar 0, ai (nI 0), ai (nI j)] σ (CPost σ n H s (upd (σ 80) 0 (nI j)) s (σ 80 0)) := by
  have v1 : σ 1 3 = σ 80 0 := hRep.2.1
  refine CM_in (ls := [some (ar 0), some (ai (nI 0)), some (ai (nI j)), none]) rfl ?_
  refine g_iload_n (p0 := 1) (i := 1) dX9_set_0 rfl rfl rfl ?_
  first | ((with_reducible refine isN1 ?_); refine g_ifN_ne (tgt := 55) (p1 := 4) dX9_set_1 rfl (by omega) rfl (fun c_1 => by exfalso; first | omega | contradiction | exact absurd (by assumption) c_1 | (simp_all; done)) (fun c_1 => ?_)) | refine g_if_ne (tgt := 55) (p1 := 4) dX9_set_1 rfl rfl (fun c_1 => by exfalso; first | omega | contradiction | exact absurd (by assumption) c_1 | (simp_all; done)) (fun c_1 => ?_)
  refine g_iload_n (p0 := 5) (i := 2) dX9_set_4 rfl rfl rfl ?_
  refine g_iconst (p0 := 6) (v := nI 4) dX9_set_5 rfl rfl ?_
  first | ((with_reducible refine isN2 ?_); refine g_icmpN_lt (tgt := 55) (p1 := 9) dX9_set_6 rfl (by omega) (by omega) rfl (fun c_6 => by exfalso; first | omega | contradiction | exact absurd (by assumption) c_6 | (simp_all; done)) (fun c_6 => ?_)) | refine g_icmp_lt (tgt := 55) (p1 := 9) dX9_set_6 rfl rfl (fun c_6 => by exfalso; first | omega | contradiction | exact absurd (by assumption) c_6 | (simp_all; done)) (fun c_6 => ?_)
  refine g_iload_n (p0 := 10) (i := 2) dX9_set_9 rfl rfl rfl ?_
  refine g_bipush (p0 := 12) (v := nI 20) dX9_set_10 (by decide) rfl ?_
  first | ((with_reducible refine isN2 ?_); refine g_icmpN_gt (tgt := 55) (p1 := 15) dX9_set_12 rfl (by omega) (by omega) rfl (fun c_12 => by exfalso; first | omega | contradiction | exact absurd (by assumption) c_12 | (simp_all; done)) (fun c_12 => ?_)) | refine g_icmp_gt (tgt := 55) (p1 := 15) dX9_set_12 rfl rfl (fun c_12 => by exfalso; first | omega | contradiction | exact absurd (by assumption) c_12 | (simp_all; done)) (fun c_12 => ?_)
  refine g_aload_n (p0 := 16) (i := 0) dX9_set_15 rfl rfl rfl ?_
  refine g_getR (p0 := 19) dX9_set_16 fX9_10 (by first | rfl | assumption | exact RW.s (by assumption) | exact TW.s (by assumption)) rfl rfl ?_
  refine g_getI (p0 := 22) dX9_set_19 fX9_54 (by first | rfl | assumption | exact RW.s (by assumption) | exact TW.s (by assumption)) rfl (by first | assumption | ((repeat (first | exact up_hit | refine up_nv (by decide) ?_ | refine up_mv (by first | decide | omega) ?_)) <;> first | assumption | rfl)) rfl ?_
  refine g_istore_n (p0 := 23) (i := 3) (ls2 := [_, _, _, _]) dX9_set_22 rfl (Nat.le_of_ble_eq_true rfl) rfl rfl ?_
  refine g_aload_n (p0 := 24) (i := 0) dX9_set_23 rfl rfl rfl ?_
  refine g_getR (p0 := 27) dX9_set_24 fX9_22 (by first | rfl | assumption | exact RW.s (by assumption) | exact TW.s (by assumption)) rfl rfl ?_
  refine g_aload_n (p0 := 28) (i := 0) dX9_set_27 rfl rfl rfl ?_
  refine g_getR (p0 := 31) dX9_set_28 fX9_10 (by first | rfl | assumption | exact RW.s (by assumption) | exact TW.s (by assumption)) rfl rfl ?_
  refine g_cV1P (p0 := 34) (r1 := mX2_record) dX9_set_31 lX9_58 vX2_record (by first | rfl | assumption | exact RW.s (by assumption) | exact TW.s (by assumption)) ⟨_, _, rfl⟩ (FITi rfl rfl) (Nat.le_of_ble_eq_true rfl) (record_rel hHC hR hRep) rfl ?_
  rintro σ1 ⟨fr1, hHC1⟩
  have hRep1 : Rep σ1 1 (σ 80) s := hRep.of_eq (fr1 _ (by decide) (by decide)) (fr1 _ (by decide) (by decide)) (fr1 _ (by decide) (by decide))
  have hRep2 : Rep (up σ1 1 3 (nI j)) 1 (upd (σ 80) 0 (nI j)) s := by
    obtain ⟨b1, b2, b3, b4, b5, b6⟩ := hRep1
    refine ⟨by rw [up_miss (by decide)]; exact b1, by rw [up_hit, upd_hit], by rw [up_miss (by decide), upd_ne (by decide)]; exact b3, by rw [up_miss (by decide), upd_ne (by decide)]; exact b4, fun l hl => by rw [up_ne (by decide), upd_ne (by omega)]; exact b5 l hl, fun q hq => by rw [up_ne (by decide), upd_ne (by omega)]; exact b6 q hq⟩
  have h652 : (up σ1 1 3 (nI j)) 65 0 = nI 0 := by rw [up_ne (by decide), fr1 _ (by decide) (by decide)]; exact h65
  refine g_aload_n (p0 := 35) (i := 0) dX9_set_34 rfl rfl rfl ?_
  refine g_getR (p0 := 38) dX9_set_35 fX9_10 (by first | rfl | assumption | exact RW.s (by assumption) | exact TW.s (by assumption)) rfl rfl ?_
  refine g_iload_n (p0 := 39) (i := 2) dX9_set_38 rfl rfl rfl ?_
  refine g_put (p0 := 42) dX9_set_39 fX9_54 (by first | rfl | assumption | exact RW.s (by assumption) | exact TW.s (by assumption)) rfl nX8_3 (pX8_3 _) rfl ?_
  refine g_aload_n (p0 := 43) (i := 0) dX9_set_42 rfl rfl rfl ?_
  refine g_getR (p0 := 46) dX9_set_43 fX9_29 (by first | rfl | assumption | exact RW.s (by assumption) | exact TW.s (by assumption)) rfl rfl ?_
  refine g_aload_n (p0 := 47) (i := 0) dX9_set_46 rfl rfl rfl ?_
  refine g_getR (p0 := 50) dX9_set_47 fX9_10 (by first | rfl | assumption | exact RW.s (by assumption) | exact TW.s (by assumption)) rfl rfl ?_
  refine g_cV1P (p0 := 53) (r1 := mX6_refresh) dX9_set_50 lX9_62 vX6_refresh (by first | rfl | assumption | exact RW.s (by assumption) | exact TW.s (by assumption)) ⟨_, _, rfl⟩ (FITi rfl rfl) (Nat.le_of_ble_eq_true rfl) (refresh_sp hRep2 (hR.upd (by decide) (fun _ => ⟨j, h2, rfl⟩)) h652) rfl ?_
  rintro σ2 ⟨hRD2, fr2⟩
  refine g_iload_n (p0 := 54) (i := 3) dX9_set_53 rfl rfl rfl ?_
  refine g_ireturn dX9_set_54 rfl rfl (?_)
  refine ⟨rfl, hRep2.of_eq (fr2 _ (by decide)) (fr2 _ (by decide)) (fr2 _ (by decide)), ?_, hRD2, fun z hz => ?_⟩
  · refine hHC1.of (fun z h3 h4 => ?_)
    rw [fr2 z (by omega), up_ne (by omega)]
  · rw [fr2 z (by omega), up_ne (by omega), fr1 z (by omega) (by omega)]
set_option maxRecDepth 20000 in
set_option maxHeartbeats 2000000 in
theorem set_r0 {s n j : Nat} {H : Nat → (Nat → Int32) × Nat} {σ σ3 : Sg} (hHR : HRf σ n H) (hn : n ≤ 4) (e : ∀ z, 72 ≤ z → σ3 z = σ z) (h1 : 4 ≤ j) (h2 : j ≤ 20) : CM mX10_set [ar 79, ai (nI 0), ai (nI j)] σ3 (RPost σ σ3 n H s (upd (σ 80) 0 (nI j)) (σ 80 0)) := by
  have hHR3 : HRf σ3 n H := hHR.of (by rw [e 79 (by decide)]) (e 81 (by decide))
  have hx : ∀ q, q < 189 → σ3 80 q = ((σ 80, s) : (Nat → Int32) × Nat).1 q := fun q _ => by rw [e 80 (by decide)]
  refine CM_in (ls := [some (ar 79), some (ai (nI 0)), some (ai (nI j)), none]) rfl ?_
  refine g_iload_n (p0 := 1) (i := 1) dX10_set_0 rfl rfl rfl ?_
  first | ((with_reducible refine isN1 ?_); refine g_ifN_ne (tgt := 17) (p1 := 4) dX10_set_1 rfl (by omega) rfl (fun c_1 => by exfalso; first | omega | contradiction | exact absurd (by assumption) c_1 | (simp_all; done)) (fun c_1 => ?_)) | refine g_if_ne (tgt := 17) (p1 := 4) dX10_set_1 rfl rfl (fun c_1 => by exfalso; first | omega | contradiction | exact absurd (by assumption) c_1 | (simp_all; done)) (fun c_1 => ?_)
  refine g_iload_n (p0 := 5) (i := 2) dX10_set_4 rfl rfl rfl ?_
  refine g_iconst (p0 := 6) (v := nI 4) dX10_set_5 rfl rfl ?_
  refine g_bipush (p0 := 8) (v := nI 20) dX10_set_6 (by decide) rfl ?_
  refine g_cS3R (p0 := 11) (r1 := mX10_in) dX10_set_8 (Or.inl lX10_65) vX10_in (FITi rfl rfl) (Nat.le_of_ble_eq_true rfl) (in_T (fun q => by rw [nI_lt_iff (by omega) (by omega)] at q; omega) (fun q => by rw [nI_lt_iff (by omega) (by omega)] at q; omega)) rfl ?_
  first | ((with_reducible refine isN1 ?_); refine g_ifN_eq (tgt := 31) (p1 := 14) dX10_set_11 rfl (by omega) rfl (fun c_11 => by exfalso; first | omega | contradiction | exact absurd (by assumption) c_11 | (simp_all; done)) (fun c_11 => ?_)) | refine g_if_eq (tgt := 31) (p1 := 14) dX10_set_11 rfl rfl (fun c_11 => by exfalso; first | omega | contradiction | exact absurd (by assumption) c_11 | (simp_all; done)) (fun c_11 => ?_)
  refine g_goto (tgt := 34) dX10_set_14 rfl ?_
  refine g_aload_n (p0 := 35) (i := 0) dX10_set_34 rfl rfl rfl ?_
  refine g_cV0P (p0 := 38) (r1 := mX10_changes) dX10_set_35 lX10_77 vX10_changes (by first | rfl | assumption | exact RW.s (by assumption) | exact TW.s (by assumption)) ⟨_, _, rfl⟩ (FITi rfl rfl) (Nat.le_of_ble_eq_true rfl) (changes_rel (σ 80, s) hHR3 hn hx) rfl ?_
  rintro σ4 ⟨hH4, fr4, fr79⟩
  have v80 : σ4 80 0 = σ 80 0 := by rw [fr4 80 (by decide) (by decide), e 80 (by decide)]
  refine g_aload_n (p0 := 39) (i := 0) dX10_set_38 rfl rfl rfl ?_
  refine g_getR (p0 := 42) dX10_set_39 fX10_7 (by first | rfl | assumption | exact RW.s (by assumption) | exact TW.s (by assumption)) rfl rfl ?_
  refine g_iload_n (p0 := 43) (i := 1) dX10_set_42 rfl rfl rfl ?_
  first | ((with_reducible refine isN1 ?_); refine g_aldN (p0 := 44) dX10_set_43 (by first | rfl | assumption | exact RW.s (by assumption) | exact TW.s (by assumption)) (by first | decide | assumption) (by omega) (by first | assumption | ((repeat (first | exact up_hit | refine up_nv (by decide) ?_ | refine up_mv (by first | decide | omega) ?_)) <;> first | assumption | rfl)) rfl ?_) | refine g_ald (p0 := 44) dX10_set_43 (by first | rfl | assumption | exact RW.s (by assumption) | exact TW.s (by assumption)) (by assumption) (by first | assumption | ((repeat (first | exact up_hit | refine up_nv (by decide) ?_ | refine up_mv (by first | decide | omega) ?_)) <;> first | assumption | rfl)) rfl ?_
  refine g_istore_n (p0 := 45) (i := 3) (ls2 := [_, _, _, _]) dX10_set_44 rfl (Nat.le_of_ble_eq_true rfl) rfl rfl ?_
  refine g_aload_n (p0 := 46) (i := 0) dX10_set_45 rfl rfl rfl ?_
  refine g_getR (p0 := 49) dX10_set_46 fX10_7 (by first | rfl | assumption | exact RW.s (by assumption) | exact TW.s (by assumption)) rfl rfl ?_
  refine g_iload_n (p0 := 50) (i := 1) dX10_set_49 rfl rfl rfl ?_
  refine g_iload_n (p0 := 51) (i := 2) dX10_set_50 rfl rfl rfl ?_
  first | ((with_reducible refine isNS ?_); refine g_astN (p0 := 52) dX10_set_51 (by first | rfl | assumption | exact RW.s (by assumption) | exact TW.s (by assumption)) (by first | decide | assumption) (by omega) rfl ?_) | refine g_ast (p0 := 52) dX10_set_51 (by first | rfl | assumption | exact RW.s (by assumption) | exact TW.s (by assumption)) (by assumption) rfl ?_
  refine g_iload_n (p0 := 53) (i := 3) dX10_set_52 rfl rfl rfl ?_
  refine g_ireturn dX10_set_53 rfl rfl (?_)
  refine ⟨rfl, ?_, hH4.of (by rw [up_ne (by decide)]) (up_ne (by decide)), fun z hz => ?_, ?_, ?_⟩
  · rw [up_self, fr4 80 (by decide) (by decide), e 80 (by decide)]
  · rw [up_ne (by omega), fr4 z (by omega) (by omega)]
  · rw [up_ne (by decide), fr79 5 (by decide)]
  · rw [up_ne (by decide), fr4 83 (by decide) (by decide)]
set_option maxRecDepth 20000 in
set_option maxHeartbeats 2000000 in
theorem set_c1 {s n j : Nat} {H : Nat → (Nat → Int32) × Nat} {σ : Sg} (hR : RowOK (σ 80) s) (hRep : Rep σ 1 (σ 80) s) (hHC : HC σ n H) (h65 : σ 65 0 = nI 0) (h1 : 0 ≤ j) (h2 : j ≤ 3) : CM mX9_set [ar 0, ai (nI 1), ai (nI j)] σ (CPost σ n H s (upd (σ 80) 1 (nI j)) s (σ 80 1)) := by
  have v1 : σ 1 4 = σ 80 1 := hRep.2.2.1
  refine CM_in (ls := [some (ar 0), some (ai (nI 1)), some (ai (nI j)), none]) rfl ?_
  refine g_iload_n (p0 := 1) (i := 1) dX9_set_0 rfl rfl rfl ?_
  first | ((with_reducible refine isN1 ?_); refine g_ifN_ne (tgt := 55) (p1 := 4) dX9_set_1 rfl (by omega) rfl (fun c_1 => ?_) (fun c_1 => by exfalso; first | omega | contradiction | exact absurd (by assumption) c_1 | (simp_all; done))) | refine g_if_ne (tgt := 55) (p1 := 4) dX9_set_1 rfl rfl (fun c_1 => ?_) (fun c_1 => by exfalso; first | omega | contradiction | exact absurd (by assumption) c_1 | (simp_all; done))
  refine g_iload_n (p0 := 56) (i := 1) dX9_set_55 rfl rfl rfl ?_
  refine g_iconst (p0 := 57) (v := nI 1) dX9_set_56 rfl rfl ?_
  first | ((with_reducible refine isN2 ?_); refine g_icmpN_ne (tgt := 109) (p1 := 60) dX9_set_57 rfl (by omega) (by omega) rfl (fun c_57 => by exfalso; first | omega | contradiction | exact absurd (by assumption) c_57 | (simp_all; done)) (fun c_57 => ?_)) | refine g_icmp_ne (tgt := 109) (p1 := 60) dX9_set_57 rfl rfl (fun c_57 => by exfalso; first | omega | contradiction | exact absurd (by assumption) c_57 | (simp_all; done)) (fun c_57 => ?_)
  refine g_iload_n (p0 := 61) (i := 2) dX9_set_60 rfl rfl rfl ?_
  first | ((with_reducible refine isN1 ?_); refine g_ifN_lt (tgt := 109) (p1 := 64) dX9_set_61 rfl (by omega) rfl (fun c_61 => by exfalso; first | omega | contradiction | exact absurd (by assumption) c_61 | (simp_all; done)) (fun c_61 => ?_)) | refine g_if_lt (tgt := 109) (p1 := 64) dX9_set_61 rfl rfl (fun c_61 => by exfalso; first | omega | contradiction | exact absurd (by assumption) c_61 | (simp_all; done)) (fun c_61 => ?_)
  refine g_iload_n (p0 := 65) (i := 2) dX9_set_64 rfl rfl rfl ?_
  refine g_iconst (p0 := 66) (v := nI 3) dX9_set_65 rfl rfl ?_
  first | ((with_reducible refine isN2 ?_); refine g_icmpN_gt (tgt := 109) (p1 := 69) dX9_set_66 rfl (by omega) (by omega) rfl (fun c_66 => by exfalso; first | omega | contradiction | exact absurd (by assumption) c_66 | (simp_all; done)) (fun c_66 => ?_)) | refine g_icmp_gt (tgt := 109) (p1 := 69) dX9_set_66 rfl rfl (fun c_66 => by exfalso; first | omega | contradiction | exact absurd (by assumption) c_66 | (simp_all; done)) (fun c_66 => ?_)
  refine g_aload_n (p0 := 70) (i := 0) dX9_set_69 rfl rfl rfl ?_
  refine g_getR (p0 := 73) dX9_set_70 fX9_10 (by first | rfl | assumption | exact RW.s (by assumption) | exact TW.s (by assumption)) rfl rfl ?_
  refine g_getI (p0 := 76) dX9_set_73 fX9_65 (by first | rfl | assumption | exact RW.s (by assumption) | exact TW.s (by assumption)) rfl (by first | assumption | ((repeat (first | exact up_hit | refine up_nv (by decide) ?_ | refine up_mv (by first | decide | omega) ?_)) <;> first | assumption | rfl)) rfl ?_
  refine g_istore_n (p0 := 77) (i := 3) (ls2 := [_, _, _, _]) dX9_set_76 rfl (Nat.le_of_ble_eq_true rfl) rfl rfl ?_
  refine g_aload_n (p0 := 78) (i := 0) dX9_set_77 rfl rfl rfl ?_
  refine g_getR (p0 := 81) dX9_set_78 fX9_22 (by first | rfl | assumption | exact RW.s (by assumption) | exact TW.s (by assumption)) rfl rfl ?_
  refine g_aload_n (p0 := 82) (i := 0) dX9_set_81 rfl rfl rfl ?_
  refine g_getR (p0 := 85) dX9_set_82 fX9_10 (by first | rfl | assumption | exact RW.s (by assumption) | exact TW.s (by assumption)) rfl rfl ?_
  refine g_cV1P (p0 := 88) (r1 := mX2_record) dX9_set_85 lX9_58 vX2_record (by first | rfl | assumption | exact RW.s (by assumption) | exact TW.s (by assumption)) ⟨_, _, rfl⟩ (FITi rfl rfl) (Nat.le_of_ble_eq_true rfl) (record_rel hHC hR hRep) rfl ?_
  rintro σ1 ⟨fr1, hHC1⟩
  have hRep1 : Rep σ1 1 (σ 80) s := hRep.of_eq (fr1 _ (by decide) (by decide)) (fr1 _ (by decide) (by decide)) (fr1 _ (by decide) (by decide))
  have hRep2 : Rep (up σ1 1 4 (nI j)) 1 (upd (σ 80) 1 (nI j)) s := by
    obtain ⟨b1, b2, b3, b4, b5, b6⟩ := hRep1
    refine ⟨by rw [up_miss (by decide)]; exact b1, by rw [up_miss (by decide), upd_ne (by decide)]; exact b2, by rw [up_hit, upd_hit], by rw [up_miss (by decide), upd_ne (by decide)]; exact b4, fun l hl => by rw [up_ne (by decide), upd_ne (by omega)]; exact b5 l hl, fun q hq => by rw [up_ne (by decide), upd_ne (by omega)]; exact b6 q hq⟩
  have h652 : (up σ1 1 4 (nI j)) 65 0 = nI 0 := by rw [up_ne (by decide), fr1 _ (by decide) (by decide)]; exact h65
  refine g_aload_n (p0 := 89) (i := 0) dX9_set_88 rfl rfl rfl ?_
  refine g_getR (p0 := 92) dX9_set_89 fX9_10 (by first | rfl | assumption | exact RW.s (by assumption) | exact TW.s (by assumption)) rfl rfl ?_
  refine g_iload_n (p0 := 93) (i := 2) dX9_set_92 rfl rfl rfl ?_
  refine g_put (p0 := 96) dX9_set_93 fX9_65 (by first | rfl | assumption | exact RW.s (by assumption) | exact TW.s (by assumption)) rfl nX8_4 (pX8_4 _) rfl ?_
  refine g_aload_n (p0 := 97) (i := 0) dX9_set_96 rfl rfl rfl ?_
  refine g_getR (p0 := 100) dX9_set_97 fX9_29 (by first | rfl | assumption | exact RW.s (by assumption) | exact TW.s (by assumption)) rfl rfl ?_
  refine g_aload_n (p0 := 101) (i := 0) dX9_set_100 rfl rfl rfl ?_
  refine g_getR (p0 := 104) dX9_set_101 fX9_10 (by first | rfl | assumption | exact RW.s (by assumption) | exact TW.s (by assumption)) rfl rfl ?_
  refine g_cV1P (p0 := 107) (r1 := mX6_refresh) dX9_set_104 lX9_62 vX6_refresh (by first | rfl | assumption | exact RW.s (by assumption) | exact TW.s (by assumption)) ⟨_, _, rfl⟩ (FITi rfl rfl) (Nat.le_of_ble_eq_true rfl) (refresh_sp hRep2 (hR.upd (by decide) (fun z => absurd z (by decide))) h652) rfl ?_
  rintro σ2 ⟨hRD2, fr2⟩
  refine g_iload_n (p0 := 108) (i := 3) dX9_set_107 rfl rfl rfl ?_
  refine g_ireturn dX9_set_108 rfl rfl (?_)
  refine ⟨rfl, hRep2.of_eq (fr2 _ (by decide)) (fr2 _ (by decide)) (fr2 _ (by decide)), ?_, hRD2, fun z hz => ?_⟩
  · refine hHC1.of (fun z h3 h4 => ?_)
    rw [fr2 z (by omega), up_ne (by omega)]
  · rw [fr2 z (by omega), up_ne (by omega), fr1 z (by omega) (by omega)]
set_option maxRecDepth 20000 in
set_option maxHeartbeats 2000000 in
theorem set_r1 {s n j : Nat} {H : Nat → (Nat → Int32) × Nat} {σ σ3 : Sg} (hHR : HRf σ n H) (hn : n ≤ 4) (e : ∀ z, 72 ≤ z → σ3 z = σ z) (h1 : 0 ≤ j) (h2 : j ≤ 3) : CM mX10_set [ar 79, ai (nI 1), ai (nI j)] σ3 (RPost σ σ3 n H s (upd (σ 80) 1 (nI j)) (σ 80 1)) := by
  have hHR3 : HRf σ3 n H := hHR.of (by rw [e 79 (by decide)]) (e 81 (by decide))
  have hx : ∀ q, q < 189 → σ3 80 q = ((σ 80, s) : (Nat → Int32) × Nat).1 q := fun q _ => by rw [e 80 (by decide)]
  refine CM_in (ls := [some (ar 79), some (ai (nI 1)), some (ai (nI j)), none]) rfl ?_
  refine g_iload_n (p0 := 1) (i := 1) dX10_set_0 rfl rfl rfl ?_
  first | ((with_reducible refine isN1 ?_); refine g_ifN_ne (tgt := 17) (p1 := 4) dX10_set_1 rfl (by omega) rfl (fun c_1 => ?_) (fun c_1 => by exfalso; first | omega | contradiction | exact absurd (by assumption) c_1 | (simp_all; done))) | refine g_if_ne (tgt := 17) (p1 := 4) dX10_set_1 rfl rfl (fun c_1 => ?_) (fun c_1 => by exfalso; first | omega | contradiction | exact absurd (by assumption) c_1 | (simp_all; done))
  refine g_iload_n (p0 := 18) (i := 1) dX10_set_17 rfl rfl rfl ?_
  refine g_iconst (p0 := 19) (v := nI 1) dX10_set_18 rfl rfl ?_
  first | ((with_reducible refine isN2 ?_); refine g_icmpN_ne (tgt := 31) (p1 := 22) dX10_set_19 rfl (by omega) (by omega) rfl (fun c_19 => by exfalso; first | omega | contradiction | exact absurd (by assumption) c_19 | (simp_all; done)) (fun c_19 => ?_)) | refine g_icmp_ne (tgt := 31) (p1 := 22) dX10_set_19 rfl rfl (fun c_19 => by exfalso; first | omega | contradiction | exact absurd (by assumption) c_19 | (simp_all; done)) (fun c_19 => ?_)
  refine g_iload_n (p0 := 23) (i := 2) dX10_set_22 rfl rfl rfl ?_
  refine g_iconst (p0 := 24) (v := nI 0) dX10_set_23 rfl rfl ?_
  refine g_iconst (p0 := 25) (v := nI 3) dX10_set_24 rfl rfl ?_
  refine g_cS3R (p0 := 28) (r1 := mX10_in) dX10_set_25 (Or.inl lX10_65) vX10_in (FITi rfl rfl) (Nat.le_of_ble_eq_true rfl) (in_T (fun q => by rw [nI_lt_iff (by omega) (by omega)] at q; omega) (fun q => by rw [nI_lt_iff (by omega) (by omega)] at q; omega)) rfl ?_
  first | ((with_reducible refine isN1 ?_); refine g_ifN_ne (tgt := 34) (p1 := 31) dX10_set_28 rfl (by omega) rfl (fun c_28 => ?_) (fun c_28 => by exfalso; first | omega | contradiction | exact absurd (by assumption) c_28 | (simp_all; done))) | refine g_if_ne (tgt := 34) (p1 := 31) dX10_set_28 rfl rfl (fun c_28 => ?_) (fun c_28 => by exfalso; first | omega | contradiction | exact absurd (by assumption) c_28 | (simp_all; done))
  refine g_aload_n (p0 := 35) (i := 0) dX10_set_34 rfl rfl rfl ?_
  refine g_cV0P (p0 := 38) (r1 := mX10_changes) dX10_set_35 lX10_77 vX10_changes (by first | rfl | assumption | exact RW.s (by assumption) | exact TW.s (by assumption)) ⟨_, _, rfl⟩ (FITi rfl rfl) (Nat.le_of_ble_eq_true rfl) (changes_rel (σ 80, s) hHR3 hn hx) rfl ?_
  rintro σ4 ⟨hH4, fr4, fr79⟩
  have v80 : σ4 80 1 = σ 80 1 := by rw [fr4 80 (by decide) (by decide), e 80 (by decide)]
  refine g_aload_n (p0 := 39) (i := 0) dX10_set_38 rfl rfl rfl ?_
  refine g_getR (p0 := 42) dX10_set_39 fX10_7 (by first | rfl | assumption | exact RW.s (by assumption) | exact TW.s (by assumption)) rfl rfl ?_
  refine g_iload_n (p0 := 43) (i := 1) dX10_set_42 rfl rfl rfl ?_
  first | ((with_reducible refine isN1 ?_); refine g_aldN (p0 := 44) dX10_set_43 (by first | rfl | assumption | exact RW.s (by assumption) | exact TW.s (by assumption)) (by first | decide | assumption) (by omega) (by first | assumption | ((repeat (first | exact up_hit | refine up_nv (by decide) ?_ | refine up_mv (by first | decide | omega) ?_)) <;> first | assumption | rfl)) rfl ?_) | refine g_ald (p0 := 44) dX10_set_43 (by first | rfl | assumption | exact RW.s (by assumption) | exact TW.s (by assumption)) (by assumption) (by first | assumption | ((repeat (first | exact up_hit | refine up_nv (by decide) ?_ | refine up_mv (by first | decide | omega) ?_)) <;> first | assumption | rfl)) rfl ?_
  refine g_istore_n (p0 := 45) (i := 3) (ls2 := [_, _, _, _]) dX10_set_44 rfl (Nat.le_of_ble_eq_true rfl) rfl rfl ?_
  refine g_aload_n (p0 := 46) (i := 0) dX10_set_45 rfl rfl rfl ?_
  refine g_getR (p0 := 49) dX10_set_46 fX10_7 (by first | rfl | assumption | exact RW.s (by assumption) | exact TW.s (by assumption)) rfl rfl ?_
  refine g_iload_n (p0 := 50) (i := 1) dX10_set_49 rfl rfl rfl ?_
  refine g_iload_n (p0 := 51) (i := 2) dX10_set_50 rfl rfl rfl ?_
  first | ((with_reducible refine isNS ?_); refine g_astN (p0 := 52) dX10_set_51 (by first | rfl | assumption | exact RW.s (by assumption) | exact TW.s (by assumption)) (by first | decide | assumption) (by omega) rfl ?_) | refine g_ast (p0 := 52) dX10_set_51 (by first | rfl | assumption | exact RW.s (by assumption) | exact TW.s (by assumption)) (by assumption) rfl ?_
  refine g_iload_n (p0 := 53) (i := 3) dX10_set_52 rfl rfl rfl ?_
  refine g_ireturn dX10_set_53 rfl rfl (?_)
  refine ⟨rfl, ?_, hH4.of (by rw [up_ne (by decide)]) (up_ne (by decide)), fun z hz => ?_, ?_, ?_⟩
  · rw [up_self, fr4 80 (by decide) (by decide), e 80 (by decide)]
  · rw [up_ne (by omega), fr4 z (by omega) (by omega)]
  · rw [up_ne (by decide), fr79 5 (by decide)]
  · rw [up_ne (by decide), fr4 83 (by decide) (by decide)]
set_option maxRecDepth 20000 in
set_option maxHeartbeats 2000000 in
theorem set_cA {x y : Int32} {σ : Sg} (h0 : ¬ x = 0) (h1 : ¬ x = 1) : CM mX9_set [ar 0, ai x, ai y] σ (Ret (-1000001) σ) := by
  refine CM_in (ls := [some (ar 0), some (ai x), some (ai y), none]) rfl ?_
  refine g_iload_n (p0 := 1) (i := 1) dX9_set_0 rfl rfl rfl ?_
  first | ((with_reducible refine isN1 ?_); refine g_ifN_ne (tgt := 55) (p1 := 4) dX9_set_1 rfl (by omega) rfl (fun c_1 => ?_) (fun c_1 => by exfalso; first | exact absurd c_1 h0 | exact absurd c_1 h1 | exact h0 c_1 | contradiction | simp_all)) | refine g_if_ne (tgt := 55) (p1 := 4) dX9_set_1 rfl rfl (fun c_1 => ?_) (fun c_1 => by exfalso; first | exact absurd c_1 h0 | exact absurd c_1 h1 | exact h0 c_1 | contradiction | simp_all)
  refine g_iload_n (p0 := 56) (i := 1) dX9_set_55 rfl rfl rfl ?_
  refine g_iconst (p0 := 57) (v := nI 1) dX9_set_56 rfl rfl ?_
  first | ((with_reducible refine isN2 ?_); refine g_icmpN_ne (tgt := 109) (p1 := 60) dX9_set_57 rfl (by omega) (by omega) rfl (fun c_57 => ?_) (fun c_57 => by exfalso; first | exact absurd c_57 h0 | exact absurd c_57 h1 | exact h0 c_57 | contradiction | simp_all)) | refine g_icmp_ne (tgt := 109) (p1 := 60) dX9_set_57 rfl rfl (fun c_57 => ?_) (fun c_57 => by exfalso; first | exact absurd c_57 h0 | exact absurd c_57 h1 | exact h0 c_57 | contradiction | simp_all)
  refine g_ldc (p0 := 111) dX9_set_109 qX9_68 rfl ?_
  refine g_ireturn dX9_set_111 rfl rfl (?_)
  exact ⟨rfl, rfl⟩
set_option maxRecDepth 20000 in
set_option maxHeartbeats 2000000 in
theorem set_rA {x y : Int32} {σ : Sg} (h0 : ¬ x = 0) (h1 : ¬ x = 1) : CM mX10_set [ar 79, ai x, ai y] σ (Ret (-1000001) σ) := by
  refine CM_in (ls := [some (ar 79), some (ai x), some (ai y), none]) rfl ?_
  refine g_iload_n (p0 := 1) (i := 1) dX10_set_0 rfl rfl rfl ?_
  first | ((with_reducible refine isN1 ?_); refine g_ifN_ne (tgt := 17) (p1 := 4) dX10_set_1 rfl (by omega) rfl (fun c_1 => ?_) (fun c_1 => by exfalso; first | exact absurd c_1 h0 | exact absurd c_1 h1 | exact h0 c_1 | contradiction | simp_all)) | refine g_if_ne (tgt := 17) (p1 := 4) dX10_set_1 rfl rfl (fun c_1 => ?_) (fun c_1 => by exfalso; first | exact absurd c_1 h0 | exact absurd c_1 h1 | exact h0 c_1 | contradiction | simp_all)
  refine g_iload_n (p0 := 18) (i := 1) dX10_set_17 rfl rfl rfl ?_
  refine g_iconst (p0 := 19) (v := nI 1) dX10_set_18 rfl rfl ?_
  first | ((with_reducible refine isN2 ?_); refine g_icmpN_ne (tgt := 31) (p1 := 22) dX10_set_19 rfl (by omega) (by omega) rfl (fun c_19 => ?_) (fun c_19 => by exfalso; first | exact absurd c_19 h0 | exact absurd c_19 h1 | exact h0 c_19 | contradiction | simp_all)) | refine g_icmp_ne (tgt := 31) (p1 := 22) dX10_set_19 rfl rfl (fun c_19 => ?_) (fun c_19 => by exfalso; first | exact absurd c_19 h0 | exact absurd c_19 h1 | exact h0 c_19 | contradiction | simp_all)
  refine g_ldc (p0 := 33) dX10_set_31 qX10_76 rfl ?_
  refine g_ireturn dX10_set_33 rfl rfl (?_)
  exact ⟨rfl, rfl⟩
set_option maxRecDepth 20000 in
set_option maxHeartbeats 2000000 in
theorem set_cB {y : Int32} {σ : Sg} (h : y < nI 4) : CM mX9_set [ar 0, ai (nI 0), ai y] σ (Ret (-1000001) σ) := by
  refine CM_in (ls := [some (ar 0), some (ai (nI 0)), some (ai y), none]) rfl ?_
  refine g_iload_n (p0 := 1) (i := 1) dX9_set_0 rfl rfl rfl ?_
  first | ((with_reducible refine isN1 ?_); refine g_ifN_ne (tgt := 55) (p1 := 4) dX9_set_1 rfl (by omega) rfl (fun c_1 => by exfalso; first | omega | contradiction | exact absurd (by assumption) c_1 | (simp_all; done)) (fun c_1 => ?_)) | refine g_if_ne (tgt := 55) (p1 := 4) dX9_set_1 rfl rfl (fun c_1 => by exfalso; first | omega | contradiction | exact absurd (by assumption) c_1 | (simp_all; done)) (fun c_1 => ?_)
  refine g_iload_n (p0 := 5) (i := 2) dX9_set_4 rfl rfl rfl ?_
  refine g_iconst (p0 := 6) (v := nI 4) dX9_set_5 rfl rfl ?_
  first | ((with_reducible refine isN2 ?_); refine g_icmpN_lt (tgt := 55) (p1 := 9) dX9_set_6 rfl (by omega) (by omega) rfl (fun c_6 => ?_) (fun c_6 => by exfalso; first | omega | contradiction | exact absurd (by assumption) c_6 | (simp_all; done))) | refine g_icmp_lt (tgt := 55) (p1 := 9) dX9_set_6 rfl rfl (fun c_6 => ?_) (fun c_6 => by exfalso; first | omega | contradiction | exact absurd (by assumption) c_6 | (simp_all; done))
  refine g_iload_n (p0 := 56) (i := 1) dX9_set_55 rfl rfl rfl ?_
  refine g_iconst (p0 := 57) (v := nI 1) dX9_set_56 rfl rfl ?_
  first | ((with_reducible refine isN2 ?_); refine g_icmpN_ne (tgt := 109) (p1 := 60) dX9_set_57 rfl (by omega) (by omega) rfl (fun c_57 => ?_) (fun c_57 => by exfalso; first | omega | contradiction | exact absurd (by assumption) c_57 | (simp_all; done))) | refine g_icmp_ne (tgt := 109) (p1 := 60) dX9_set_57 rfl rfl (fun c_57 => ?_) (fun c_57 => by exfalso; first | omega | contradiction | exact absurd (by assumption) c_57 | (simp_all; done))
  refine g_ldc (p0 := 111) dX9_set_109 qX9_68 rfl ?_
  refine g_ireturn dX9_set_111 rfl rfl (?_)
  exact ⟨rfl, rfl⟩
set_option maxRecDepth 20000 in
set_option maxHeartbeats 2000000 in
theorem set_rB {y : Int32} {σ : Sg} (h : y < nI 4) : CM mX10_set [ar 79, ai (nI 0), ai y] σ (Ret (-1000001) σ) := by
  refine CM_in (ls := [some (ar 79), some (ai (nI 0)), some (ai y), none]) rfl ?_
  refine g_iload_n (p0 := 1) (i := 1) dX10_set_0 rfl rfl rfl ?_
  first | ((with_reducible refine isN1 ?_); refine g_ifN_ne (tgt := 17) (p1 := 4) dX10_set_1 rfl (by omega) rfl (fun c_1 => by exfalso; first | omega | contradiction | exact absurd (by assumption) c_1 | (simp_all; done)) (fun c_1 => ?_)) | refine g_if_ne (tgt := 17) (p1 := 4) dX10_set_1 rfl rfl (fun c_1 => by exfalso; first | omega | contradiction | exact absurd (by assumption) c_1 | (simp_all; done)) (fun c_1 => ?_)
  refine g_iload_n (p0 := 5) (i := 2) dX10_set_4 rfl rfl rfl ?_
  refine g_iconst (p0 := 6) (v := nI 4) dX10_set_5 rfl rfl ?_
  refine g_bipush (p0 := 8) (v := nI 20) dX10_set_6 (by decide) rfl ?_
  refine g_cS3R (p0 := 11) (r1 := mX10_in) dX10_set_8 (Or.inl lX10_65) vX10_in (FITi rfl rfl) (Nat.le_of_ble_eq_true rfl) (in_F1 h) rfl ?_
  first | ((with_reducible refine isN1 ?_); refine g_ifN_eq (tgt := 31) (p1 := 14) dX10_set_11 rfl (by omega) rfl (fun c_11 => ?_) (fun c_11 => by exfalso; first | omega | contradiction | exact absurd (by assumption) c_11 | (simp_all; done))) | refine g_if_eq (tgt := 31) (p1 := 14) dX10_set_11 rfl rfl (fun c_11 => ?_) (fun c_11 => by exfalso; first | omega | contradiction | exact absurd (by assumption) c_11 | (simp_all; done))
  refine g_ldc (p0 := 33) dX10_set_31 qX10_76 rfl ?_
  refine g_ireturn dX10_set_33 rfl rfl (?_)
  exact ⟨rfl, rfl⟩
set_option maxRecDepth 20000 in
set_option maxHeartbeats 2000000 in
theorem set_cC {j : Nat} {σ : Sg} (h : 20 < j) (hj : j < 2147483648) : CM mX9_set [ar 0, ai (nI 0), ai (nI j)] σ (Ret (-1000001) σ) := by
  refine CM_in (ls := [some (ar 0), some (ai (nI 0)), some (ai (nI j)), none]) rfl ?_
  refine g_iload_n (p0 := 1) (i := 1) dX9_set_0 rfl rfl rfl ?_
  first | ((with_reducible refine isN1 ?_); refine g_ifN_ne (tgt := 55) (p1 := 4) dX9_set_1 rfl (by omega) rfl (fun c_1 => by exfalso; first | omega | contradiction | exact absurd (by assumption) c_1 | (simp_all; done)) (fun c_1 => ?_)) | refine g_if_ne (tgt := 55) (p1 := 4) dX9_set_1 rfl rfl (fun c_1 => by exfalso; first | omega | contradiction | exact absurd (by assumption) c_1 | (simp_all; done)) (fun c_1 => ?_)
  refine g_iload_n (p0 := 5) (i := 2) dX9_set_4 rfl rfl rfl ?_
  refine g_iconst (p0 := 6) (v := nI 4) dX9_set_5 rfl rfl ?_
  first | ((with_reducible refine isN2 ?_); refine g_icmpN_lt (tgt := 55) (p1 := 9) dX9_set_6 rfl (by omega) (by omega) rfl (fun c_6 => by exfalso; first | omega | contradiction | exact absurd (by assumption) c_6 | (simp_all; done)) (fun c_6 => ?_)) | refine g_icmp_lt (tgt := 55) (p1 := 9) dX9_set_6 rfl rfl (fun c_6 => by exfalso; first | omega | contradiction | exact absurd (by assumption) c_6 | (simp_all; done)) (fun c_6 => ?_)
  refine g_iload_n (p0 := 10) (i := 2) dX9_set_9 rfl rfl rfl ?_
  refine g_bipush (p0 := 12) (v := nI 20) dX9_set_10 (by decide) rfl ?_
  first | ((with_reducible refine isN2 ?_); refine g_icmpN_gt (tgt := 55) (p1 := 15) dX9_set_12 rfl (by omega) (by omega) rfl (fun c_12 => ?_) (fun c_12 => by exfalso; first | omega | contradiction | exact absurd (by assumption) c_12 | (simp_all; done))) | refine g_icmp_gt (tgt := 55) (p1 := 15) dX9_set_12 rfl rfl (fun c_12 => ?_) (fun c_12 => by exfalso; first | omega | contradiction | exact absurd (by assumption) c_12 | (simp_all; done))
  refine g_iload_n (p0 := 56) (i := 1) dX9_set_55 rfl rfl rfl ?_
  refine g_iconst (p0 := 57) (v := nI 1) dX9_set_56 rfl rfl ?_
  first | ((with_reducible refine isN2 ?_); refine g_icmpN_ne (tgt := 109) (p1 := 60) dX9_set_57 rfl (by omega) (by omega) rfl (fun c_57 => ?_) (fun c_57 => by exfalso; first | omega | contradiction | exact absurd (by assumption) c_57 | (simp_all; done))) | refine g_icmp_ne (tgt := 109) (p1 := 60) dX9_set_57 rfl rfl (fun c_57 => ?_) (fun c_57 => by exfalso; first | omega | contradiction | exact absurd (by assumption) c_57 | (simp_all; done))
  refine g_ldc (p0 := 111) dX9_set_109 qX9_68 rfl ?_
  refine g_ireturn dX9_set_111 rfl rfl (?_)
  exact ⟨rfl, rfl⟩
set_option maxRecDepth 20000 in
set_option maxHeartbeats 2000000 in
theorem set_rC {j : Nat} {σ : Sg} (h : 20 < j) (hj : j < 2147483648) : CM mX10_set [ar 79, ai (nI 0), ai (nI j)] σ (Ret (-1000001) σ) := by
  refine CM_in (ls := [some (ar 79), some (ai (nI 0)), some (ai (nI j)), none]) rfl ?_
  refine g_iload_n (p0 := 1) (i := 1) dX10_set_0 rfl rfl rfl ?_
  first | ((with_reducible refine isN1 ?_); refine g_ifN_ne (tgt := 17) (p1 := 4) dX10_set_1 rfl (by omega) rfl (fun c_1 => by exfalso; first | omega | contradiction | exact absurd (by assumption) c_1 | (simp_all; done)) (fun c_1 => ?_)) | refine g_if_ne (tgt := 17) (p1 := 4) dX10_set_1 rfl rfl (fun c_1 => by exfalso; first | omega | contradiction | exact absurd (by assumption) c_1 | (simp_all; done)) (fun c_1 => ?_)
  refine g_iload_n (p0 := 5) (i := 2) dX10_set_4 rfl rfl rfl ?_
  refine g_iconst (p0 := 6) (v := nI 4) dX10_set_5 rfl rfl ?_
  refine g_bipush (p0 := 8) (v := nI 20) dX10_set_6 (by decide) rfl ?_
  refine g_cS3R (p0 := 11) (r1 := mX10_in) dX10_set_8 (Or.inl lX10_65) vX10_in (FITi rfl rfl) (Nat.le_of_ble_eq_true rfl) (in_F2 (fun q => by rw [nI_lt_iff (by omega) (by omega)] at q; omega) ((nI_lt_iff (by omega) (by omega)).mpr (by omega))) rfl ?_
  first | ((with_reducible refine isN1 ?_); refine g_ifN_eq (tgt := 31) (p1 := 14) dX10_set_11 rfl (by omega) rfl (fun c_11 => ?_) (fun c_11 => by exfalso; first | omega | contradiction | exact absurd (by assumption) c_11 | (simp_all; done))) | refine g_if_eq (tgt := 31) (p1 := 14) dX10_set_11 rfl rfl (fun c_11 => ?_) (fun c_11 => by exfalso; first | omega | contradiction | exact absurd (by assumption) c_11 | (simp_all; done))
  refine g_ldc (p0 := 33) dX10_set_31 qX10_76 rfl ?_
  refine g_ireturn dX10_set_33 rfl rfl (?_)
  exact ⟨rfl, rfl⟩
set_option maxRecDepth 20000 in
set_option maxHeartbeats 2000000 in
theorem set_cD {y : Int32} {σ : Sg} (h : y < 0) : CM mX9_set [ar 0, ai (nI 1), ai y] σ (Ret (-1000001) σ) := by
  refine CM_in (ls := [some (ar 0), some (ai (nI 1)), some (ai y), none]) rfl ?_
  refine g_iload_n (p0 := 1) (i := 1) dX9_set_0 rfl rfl rfl ?_
  first | ((with_reducible refine isN1 ?_); refine g_ifN_ne (tgt := 55) (p1 := 4) dX9_set_1 rfl (by omega) rfl (fun c_1 => ?_) (fun c_1 => by exfalso; first | omega | contradiction | exact absurd (by assumption) c_1 | (simp_all; done))) | refine g_if_ne (tgt := 55) (p1 := 4) dX9_set_1 rfl rfl (fun c_1 => ?_) (fun c_1 => by exfalso; first | omega | contradiction | exact absurd (by assumption) c_1 | (simp_all; done))
  refine g_iload_n (p0 := 56) (i := 1) dX9_set_55 rfl rfl rfl ?_
  refine g_iconst (p0 := 57) (v := nI 1) dX9_set_56 rfl rfl ?_
  first | ((with_reducible refine isN2 ?_); refine g_icmpN_ne (tgt := 109) (p1 := 60) dX9_set_57 rfl (by omega) (by omega) rfl (fun c_57 => by exfalso; first | omega | contradiction | exact absurd (by assumption) c_57 | (simp_all; done)) (fun c_57 => ?_)) | refine g_icmp_ne (tgt := 109) (p1 := 60) dX9_set_57 rfl rfl (fun c_57 => by exfalso; first | omega | contradiction | exact absurd (by assumption) c_57 | (simp_all; done)) (fun c_57 => ?_)
  refine g_iload_n (p0 := 61) (i := 2) dX9_set_60 rfl rfl rfl ?_
  first | ((with_reducible refine isN1 ?_); refine g_ifN_lt (tgt := 109) (p1 := 64) dX9_set_61 rfl (by omega) rfl (fun c_61 => ?_) (fun c_61 => by exfalso; first | omega | contradiction | exact absurd (by assumption) c_61 | (simp_all; done))) | refine g_if_lt (tgt := 109) (p1 := 64) dX9_set_61 rfl rfl (fun c_61 => ?_) (fun c_61 => by exfalso; first | omega | contradiction | exact absurd (by assumption) c_61 | (simp_all; done))
  refine g_ldc (p0 := 111) dX9_set_109 qX9_68 rfl ?_
  refine g_ireturn dX9_set_111 rfl rfl (?_)
  exact ⟨rfl, rfl⟩
set_option maxRecDepth 20000 in
set_option maxHeartbeats 2000000 in
theorem set_rD {y : Int32} {σ : Sg} (h : y < 0) : CM mX10_set [ar 79, ai (nI 1), ai y] σ (Ret (-1000001) σ) := by
  refine CM_in (ls := [some (ar 79), some (ai (nI 1)), some (ai y), none]) rfl ?_
  refine g_iload_n (p0 := 1) (i := 1) dX10_set_0 rfl rfl rfl ?_
  first | ((with_reducible refine isN1 ?_); refine g_ifN_ne (tgt := 17) (p1 := 4) dX10_set_1 rfl (by omega) rfl (fun c_1 => ?_) (fun c_1 => by exfalso; first | omega | contradiction | exact absurd (by assumption) c_1 | (simp_all; done))) | refine g_if_ne (tgt := 17) (p1 := 4) dX10_set_1 rfl rfl (fun c_1 => ?_) (fun c_1 => by exfalso; first | omega | contradiction | exact absurd (by assumption) c_1 | (simp_all; done))
  refine g_iload_n (p0 := 18) (i := 1) dX10_set_17 rfl rfl rfl ?_
  refine g_iconst (p0 := 19) (v := nI 1) dX10_set_18 rfl rfl ?_
  first | ((with_reducible refine isN2 ?_); refine g_icmpN_ne (tgt := 31) (p1 := 22) dX10_set_19 rfl (by omega) (by omega) rfl (fun c_19 => by exfalso; first | omega | contradiction | exact absurd (by assumption) c_19 | (simp_all; done)) (fun c_19 => ?_)) | refine g_icmp_ne (tgt := 31) (p1 := 22) dX10_set_19 rfl rfl (fun c_19 => by exfalso; first | omega | contradiction | exact absurd (by assumption) c_19 | (simp_all; done)) (fun c_19 => ?_)
  refine g_iload_n (p0 := 23) (i := 2) dX10_set_22 rfl rfl rfl ?_
  refine g_iconst (p0 := 24) (v := nI 0) dX10_set_23 rfl rfl ?_
  refine g_iconst (p0 := 25) (v := nI 3) dX10_set_24 rfl rfl ?_
  refine g_cS3R (p0 := 28) (r1 := mX10_in) dX10_set_25 (Or.inl lX10_65) vX10_in (FITi rfl rfl) (Nat.le_of_ble_eq_true rfl) (in_F1 h) rfl ?_
  first | ((with_reducible refine isN1 ?_); refine g_ifN_ne (tgt := 34) (p1 := 31) dX10_set_28 rfl (by omega) rfl (fun c_28 => by exfalso; first | omega | contradiction | exact absurd (by assumption) c_28 | (simp_all; done)) (fun c_28 => ?_)) | refine g_if_ne (tgt := 34) (p1 := 31) dX10_set_28 rfl rfl (fun c_28 => by exfalso; first | omega | contradiction | exact absurd (by assumption) c_28 | (simp_all; done)) (fun c_28 => ?_)
  refine g_ldc (p0 := 33) dX10_set_31 qX10_76 rfl ?_
  refine g_ireturn dX10_set_33 rfl rfl (?_)
  exact ⟨rfl, rfl⟩
set_option maxRecDepth 20000 in
set_option maxHeartbeats 2000000 in
theorem set_cE {j : Nat} {σ : Sg} (h : 3 < j) (hj : j < 2147483648) : CM mX9_set [ar 0, ai (nI 1), ai (nI j)] σ (Ret (-1000001) σ) := by
  refine CM_in (ls := [some (ar 0), some (ai (nI 1)), some (ai (nI j)), none]) rfl ?_
  refine g_iload_n (p0 := 1) (i := 1) dX9_set_0 rfl rfl rfl ?_
  first | ((with_reducible refine isN1 ?_); refine g_ifN_ne (tgt := 55) (p1 := 4) dX9_set_1 rfl (by omega) rfl (fun c_1 => ?_) (fun c_1 => by exfalso; first | omega | contradiction | exact absurd (by assumption) c_1 | (simp_all; done))) | refine g_if_ne (tgt := 55) (p1 := 4) dX9_set_1 rfl rfl (fun c_1 => ?_) (fun c_1 => by exfalso; first | omega | contradiction | exact absurd (by assumption) c_1 | (simp_all; done))
  refine g_iload_n (p0 := 56) (i := 1) dX9_set_55 rfl rfl rfl ?_
  refine g_iconst (p0 := 57) (v := nI 1) dX9_set_56 rfl rfl ?_
  first | ((with_reducible refine isN2 ?_); refine g_icmpN_ne (tgt := 109) (p1 := 60) dX9_set_57 rfl (by omega) (by omega) rfl (fun c_57 => by exfalso; first | omega | contradiction | exact absurd (by assumption) c_57 | (simp_all; done)) (fun c_57 => ?_)) | refine g_icmp_ne (tgt := 109) (p1 := 60) dX9_set_57 rfl rfl (fun c_57 => by exfalso; first | omega | contradiction | exact absurd (by assumption) c_57 | (simp_all; done)) (fun c_57 => ?_)
  refine g_iload_n (p0 := 61) (i := 2) dX9_set_60 rfl rfl rfl ?_
  first | ((with_reducible refine isN1 ?_); refine g_ifN_lt (tgt := 109) (p1 := 64) dX9_set_61 rfl (by omega) rfl (fun c_61 => by exfalso; first | omega | contradiction | exact absurd (by assumption) c_61 | (simp_all; done)) (fun c_61 => ?_)) | refine g_if_lt (tgt := 109) (p1 := 64) dX9_set_61 rfl rfl (fun c_61 => by exfalso; first | omega | contradiction | exact absurd (by assumption) c_61 | (simp_all; done)) (fun c_61 => ?_)
  refine g_iload_n (p0 := 65) (i := 2) dX9_set_64 rfl rfl rfl ?_
  refine g_iconst (p0 := 66) (v := nI 3) dX9_set_65 rfl rfl ?_
  first | ((with_reducible refine isN2 ?_); refine g_icmpN_gt (tgt := 109) (p1 := 69) dX9_set_66 rfl (by omega) (by omega) rfl (fun c_66 => ?_) (fun c_66 => by exfalso; first | omega | contradiction | exact absurd (by assumption) c_66 | (simp_all; done))) | refine g_icmp_gt (tgt := 109) (p1 := 69) dX9_set_66 rfl rfl (fun c_66 => ?_) (fun c_66 => by exfalso; first | omega | contradiction | exact absurd (by assumption) c_66 | (simp_all; done))
  refine g_ldc (p0 := 111) dX9_set_109 qX9_68 rfl ?_
  refine g_ireturn dX9_set_111 rfl rfl (?_)
  exact ⟨rfl, rfl⟩
set_option maxRecDepth 20000 in
set_option maxHeartbeats 2000000 in
theorem set_rE {j : Nat} {σ : Sg} (h : 3 < j) (hj : j < 2147483648) : CM mX10_set [ar 79, ai (nI 1), ai (nI j)] σ (Ret (-1000001) σ) := by
  refine CM_in (ls := [some (ar 79), some (ai (nI 1)), some (ai (nI j)), none]) rfl ?_
  refine g_iload_n (p0 := 1) (i := 1) dX10_set_0 rfl rfl rfl ?_
  first | ((with_reducible refine isN1 ?_); refine g_ifN_ne (tgt := 17) (p1 := 4) dX10_set_1 rfl (by omega) rfl (fun c_1 => ?_) (fun c_1 => by exfalso; first | omega | contradiction | exact absurd (by assumption) c_1 | (simp_all; done))) | refine g_if_ne (tgt := 17) (p1 := 4) dX10_set_1 rfl rfl (fun c_1 => ?_) (fun c_1 => by exfalso; first | omega | contradiction | exact absurd (by assumption) c_1 | (simp_all; done))
  refine g_iload_n (p0 := 18) (i := 1) dX10_set_17 rfl rfl rfl ?_
  refine g_iconst (p0 := 19) (v := nI 1) dX10_set_18 rfl rfl ?_
  first | ((with_reducible refine isN2 ?_); refine g_icmpN_ne (tgt := 31) (p1 := 22) dX10_set_19 rfl (by omega) (by omega) rfl (fun c_19 => by exfalso; first | omega | contradiction | exact absurd (by assumption) c_19 | (simp_all; done)) (fun c_19 => ?_)) | refine g_icmp_ne (tgt := 31) (p1 := 22) dX10_set_19 rfl rfl (fun c_19 => by exfalso; first | omega | contradiction | exact absurd (by assumption) c_19 | (simp_all; done)) (fun c_19 => ?_)
  refine g_iload_n (p0 := 23) (i := 2) dX10_set_22 rfl rfl rfl ?_
  refine g_iconst (p0 := 24) (v := nI 0) dX10_set_23 rfl rfl ?_
  refine g_iconst (p0 := 25) (v := nI 3) dX10_set_24 rfl rfl ?_
  refine g_cS3R (p0 := 28) (r1 := mX10_in) dX10_set_25 (Or.inl lX10_65) vX10_in (FITi rfl rfl) (Nat.le_of_ble_eq_true rfl) (in_F2 (fun q => by rw [nI_lt_iff (by omega) (by omega)] at q; omega) ((nI_lt_iff (by omega) (by omega)).mpr (by omega))) rfl ?_
  first | ((with_reducible refine isN1 ?_); refine g_ifN_ne (tgt := 34) (p1 := 31) dX10_set_28 rfl (by omega) rfl (fun c_28 => by exfalso; first | omega | contradiction | exact absurd (by assumption) c_28 | (simp_all; done)) (fun c_28 => ?_)) | refine g_if_ne (tgt := 34) (p1 := 31) dX10_set_28 rfl rfl (fun c_28 => by exfalso; first | omega | contradiction | exact absurd (by assumption) c_28 | (simp_all; done)) (fun c_28 => ?_)
  refine g_ldc (p0 := 33) dX10_set_31 qX10_76 rfl ?_
  refine g_ireturn dX10_set_33 rfl rfl (?_)
  exact ⟨rfl, rfl⟩
theorem op_set (x0 x1 : Int32) : OpOK Inv mX9_set mX10_set [ai x0, ai x1] := by
  intro σ hI
  obtain ⟨s, n, H, len, hR, hRep, hHC, hHR, hRD, hT⟩ := id hI
  have h65 := hRD.2.2.2.2.2.2
  have lt4 : ∀ y : Int32, y < 0 → y < nI 4 := by
    intro y h
    rw [Int32.lt_iff_toInt_lt] at h ⊢
    rw [nI_toInt (by decide)]
    have h3 : y.toInt < 0 := h
    omega
  by_cases e0 : x0 = 0
  · have e0 : x0 = nI 0 := e0
    subst e0
    rcases i32c x1 with h | ⟨j, hj, rfl⟩
    · exact op_same hI (set_cB (lt4 _ h)) (set_rB (lt4 _ h))
    · by_cases h4 : j < 4
      · have h5 := (nI_lt_iff hj (by decide : 4 < 2147483648)).mpr h4
        exact op_same hI (set_cB h5) (set_rB h5)
      · by_cases h20 : 20 < j
        · exact op_same hI (set_cC h20 hj) (set_rC h20 hj)
        · exact op_change hT (hR.upd (by decide) (fun _ => ⟨j, by omega, rfl⟩)) (set_c0 hR hRep hHC h65 (by omega) (by omega)) (fun σ3 e => set_r0 hHR (HC_le hHC) e (by omega) (by omega))
  · by_cases e1 : x0 = 1
    · have e1 : x0 = nI 1 := e1
      subst e1
      rcases i32c x1 with h | ⟨j, hj, rfl⟩
      · exact op_same hI (set_cD h) (set_rD h)
      · by_cases h3 : 3 < j
        · exact op_same hI (set_cE h3 hj) (set_rE h3 hj)
        · exact op_change hT (hR.upd (by decide) (fun z => absurd z (by decide))) (set_c1 hR hRep hHC h65 (by omega) (by omega)) (fun σ3 e => set_r1 hHR (HC_le hHC) e (by omega) (by omega))
    · exact op_same hI (set_cA e0 e1) (set_rA e0 e1)
