/-! THE CLASS: out of the rows of whole -/
set_option maxRecDepth 20000 in
set_option maxHeartbeats 2000000 in
theorem lengthOf_sp {m : Nat} {v : Int32} {σ : Sg} (hm : m < 160) (hv : σ 51 m = v) : CM mX6_lengthOf [ar 33, ai (nI m)] σ (Ret v σ) := by
  refine CM_in (ls := [some (ar 33), some (ai (nI m))]) rfl ?_
  refine g_aload_n (p0 := 1) (i := 0) dX6_lengthOf_0 rfl rfl rfl ?_
  refine g_getR (p0 := 4) dX6_lengthOf_1 fX6_21 (by first | rfl | assumption | exact RW.s (by assumption) | exact TW.s (by assumption)) rfl rfl ?_
  refine g_getR (p0 := 7) dX6_lengthOf_4 fX6_128 (by first | rfl | assumption | exact RW.s (by assumption) | exact TW.s (by assumption)) rfl rfl ?_
  refine g_iload_n (p0 := 8) (i := 1) dX6_lengthOf_7 rfl rfl rfl ?_
  refine g_cV1R (p0 := 11) (r1 := mX7_at) dX6_lengthOf_8 lX6_68 vX7_at (by first | rfl | assumption | exact RW.s (by assumption) | exact TW.s (by assumption)) ⟨_, _, rfl⟩ (FITi rfl rfl) (Nat.le_of_ble_eq_true rfl) (at_N (by first | exact ⟨rfl, rfl, by decide⟩ | assumption) (by omega) (by first | assumption | exact up_hit | exact up_nv (by omega) (by assumption) | exact up_mv (by omega) (by assumption) | exact up_nv (by omega) (up_nv (by omega) (by assumption)) | exact up_nv (by omega) up_hit | rfl)) rfl ?_
  refine g_ireturn dX6_lengthOf_11 rfl rfl (?_)
  exact ⟨rfl, rfl⟩
set_option maxRecDepth 20000 in
set_option maxHeartbeats 2000000 in
theorem isLeftOut_T {k : Nat} {σ : Sg} (hk : k < 160) (hx : σ 63 k = nI 0) : CM mX6_isLeftOut [ar 33, ai (nI k)] σ (Ret (nI 1) σ) := by
  refine CM_in (ls := [some (ar 33), some (ai (nI k))]) rfl ?_
  refine g_aload_n (p0 := 1) (i := 0) dX6_isLeftOut_0 rfl rfl rfl ?_
  refine g_getR (p0 := 4) dX6_isLeftOut_1 fX6_34 (by first | rfl | assumption | exact RW.s (by assumption) | exact TW.s (by assumption)) rfl rfl ?_
  refine g_iload_n (p0 := 5) (i := 1) dX6_isLeftOut_4 rfl rfl rfl ?_
  refine g_cV1R (p0 := 8) (r1 := mX7_at) dX6_isLeftOut_5 lX6_68 vX7_at (by first | rfl | assumption | exact RW.s (by assumption) | exact TW.s (by assumption)) ⟨_, _, rfl⟩ (FITi rfl rfl) (Nat.le_of_ble_eq_true rfl) (at_N (by first | exact ⟨rfl, rfl, by decide⟩ | assumption) (by omega) (by first | assumption | exact up_hit | exact up_nv (by omega) (by assumption) | exact up_mv (by omega) (by assumption) | exact up_nv (by omega) (up_nv (by omega) (by assumption)) | exact up_nv (by omega) up_hit | rfl)) rfl ?_
  first | ((with_reducible refine isN1 ?_); refine g_ifN_ne (tgt := 15) (p1 := 11) dX6_isLeftOut_8 rfl (by omega) rfl (fun c_8 => by exfalso; first | omega | contradiction | exact absurd (by assumption) c_8 | (simp_all; done)) (fun c_8 => ?_)) | refine g_if_ne (tgt := 15) (p1 := 11) dX6_isLeftOut_8 rfl rfl (fun c_8 => by exfalso; first | omega | contradiction | exact absurd (by assumption) c_8 | (simp_all; done)) (fun c_8 => ?_)
  refine g_iconst (p0 := 12) (v := nI 1) dX6_isLeftOut_11 rfl rfl ?_
  refine g_goto (tgt := 16) dX6_isLeftOut_12 rfl ?_
  refine g_ireturn dX6_isLeftOut_16 rfl (by first | rfl | exact bool_narrow (by first | exact Or.inl rfl | exact Or.inr rfl | assumption | (split <;> first | exact Or.inl rfl | exact Or.inr rfl))) (?_)
  exact ⟨rfl, rfl⟩
set_option maxRecDepth 20000 in
set_option maxHeartbeats 2000000 in
theorem isLeftOut_F {k x : Nat} {σ : Sg} (hk : k < 160) (hx : σ 63 k = nI x) (h0 : 1 ≤ x) (h5 : x ≤ 5) : CM mX6_isLeftOut [ar 33, ai (nI k)] σ (Ret (nI 0) σ) := by
  refine CM_in (ls := [some (ar 33), some (ai (nI k))]) rfl ?_
  refine g_aload_n (p0 := 1) (i := 0) dX6_isLeftOut_0 rfl rfl rfl ?_
  refine g_getR (p0 := 4) dX6_isLeftOut_1 fX6_34 (by first | rfl | assumption | exact RW.s (by assumption) | exact TW.s (by assumption)) rfl rfl ?_
  refine g_iload_n (p0 := 5) (i := 1) dX6_isLeftOut_4 rfl rfl rfl ?_
  refine g_cV1R (p0 := 8) (r1 := mX7_at) dX6_isLeftOut_5 lX6_68 vX7_at (by first | rfl | assumption | exact RW.s (by assumption) | exact TW.s (by assumption)) ⟨_, _, rfl⟩ (FITi rfl rfl) (Nat.le_of_ble_eq_true rfl) (at_N (by first | exact ⟨rfl, rfl, by decide⟩ | assumption) (by omega) (by first | assumption | exact up_hit | exact up_nv (by omega) (by assumption) | exact up_mv (by omega) (by assumption) | exact up_nv (by omega) (up_nv (by omega) (by assumption)) | exact up_nv (by omega) up_hit | rfl)) rfl ?_
  first | ((with_reducible refine isN1 ?_); refine g_ifN_ne (tgt := 15) (p1 := 11) dX6_isLeftOut_8 rfl (by omega) rfl (fun c_8 => ?_) (fun c_8 => by exfalso; first | omega | contradiction | exact absurd (by assumption) c_8 | (simp_all; done))) | refine g_if_ne (tgt := 15) (p1 := 11) dX6_isLeftOut_8 rfl rfl (fun c_8 => ?_) (fun c_8 => by exfalso; first | omega | contradiction | exact absurd (by assumption) c_8 | (simp_all; done))
  refine g_iconst (p0 := 16) (v := nI 0) dX6_isLeftOut_15 rfl rfl ?_
  refine g_ireturn dX6_isLeftOut_16 rfl (by first | rfl | exact bool_narrow (by first | exact Or.inl rfl | exact Or.inr rfl | assumption | (split <;> first | exact Or.inl rfl | exact Or.inr rfl))) (?_)
  exact ⟨rfl, rfl⟩
set_option maxRecDepth 20000 in
set_option maxHeartbeats 2000000 in
theorem notePlace_0 {k L M : Nat} {g a b s f n p d : Nat → Nat} {σ : Sg} (hL : LT σ (L + 1) g a b) (hM : MT σ (M + 1) s f n p d) (hk : k < 160) (hl : L < 160) (hm : M < 160) (hn : 1 ≤ n M) (hg : 1 ≤ g L) (hd : σ 65 k = nI 0) : CM mX6_notePlace [ar 33, ai (nI k)] σ (RetV (up (up (up σ 67 k (nI (M + 1 - 1))) 69 k (nI (n M - 1))) 71 k (nI (g L - 1)))) := by
  have v1 := hL.1
  have v2 := hM.1
  have v3 : σ 51 (M + 1 - 1) = nI (n M) := (hM.2 M (by omega)).2.2.1
  have v4 : σ 36 (L + 1 - 1) = nI (g L) := (hL.2 L (by omega)).1
  refine CM_in (ls := [some (ar 33), some (ai (nI k)), none]) rfl ?_
  refine g_aload_n (p0 := 1) (i := 0) dX6_notePlace_0 rfl rfl rfl ?_
  refine g_getR (p0 := 4) dX6_notePlace_1 fX6_21 (by first | rfl | assumption | exact RW.s (by assumption) | exact TW.s (by assumption)) rfl rfl ?_
  refine g_getI (p0 := 7) dX6_notePlace_4 fX6_57 (by first | rfl | assumption | exact RW.s (by assumption) | exact TW.s (by assumption)) rfl (by first | assumption | ((repeat (first | exact up_hit | refine up_nv (by decide) ?_ | refine up_mv (by first | decide | omega) ?_)) <;> first | assumption | rfl)) rfl ?_
  refine g_iconst (p0 := 8) (v := nI 1) dX6_notePlace_7 rfl rfl ?_
  first | ((with_reducible refine isN2 ?_); refine g_isubN (p0 := 9) dX6_notePlace_8 (by omega) rfl ?_) | refine g_isub (p0 := 9) dX6_notePlace_8 rfl ?_
  refine g_istore_n (p0 := 10) (i := 2) (ls2 := [_, _, _]) dX6_notePlace_9 rfl (Nat.le_of_ble_eq_true rfl) rfl rfl ?_
  refine g_aload_n (p0 := 11) (i := 0) dX6_notePlace_10 rfl rfl rfl ?_
  refine g_getR (p0 := 14) dX6_notePlace_11 fX6_40 (by first | rfl | assumption | exact RW.s (by assumption) | exact TW.s (by assumption)) rfl rfl ?_
  refine g_iload_n (p0 := 15) (i := 1) dX6_notePlace_14 rfl rfl rfl ?_
  refine g_iload_n (p0 := 16) (i := 2) dX6_notePlace_15 rfl rfl rfl ?_
  refine g_cV2V (p0 := 19) (r1 := mX7_put) dX6_notePlace_16 lX6_72 vX7_put (by first | rfl | assumption | exact RW.s (by assumption) | exact TW.s (by assumption)) ⟨_, _, rfl⟩ (FITi rfl rfl) (Nat.le_of_ble_eq_true rfl) (put_N (by first | exact ⟨rfl, rfl, by decide⟩ | assumption) (by omega)) rfl ?_
  refine g_aload_n (p0 := 20) (i := 0) dX6_notePlace_19 rfl rfl rfl ?_
  refine g_getR (p0 := 23) dX6_notePlace_20 fX6_43 (by first | rfl | assumption | exact RW.s (by assumption) | exact TW.s (by assumption)) rfl rfl ?_
  refine g_iload_n (p0 := 24) (i := 1) dX6_notePlace_23 rfl rfl rfl ?_
  refine g_aload_n (p0 := 25) (i := 0) dX6_notePlace_24 rfl rfl rfl ?_
  refine g_iload_n (p0 := 26) (i := 2) dX6_notePlace_25 rfl rfl rfl ?_
  refine g_cV1R (p0 := 29) (r1 := mX6_lengthOf) dX6_notePlace_26 lX6_131 vX6_lengthOf (by first | rfl | assumption | exact RW.s (by assumption) | exact TW.s (by assumption)) ⟨_, _, rfl⟩ (FITi rfl rfl) (Nat.le_of_ble_eq_true rfl) (lengthOf_sp (by omega) (by first | assumption | ((repeat (first | exact up_hit | refine up_nv (by decide) ?_ | refine up_mv (by first | decide | omega) ?_)) <;> first | assumption | rfl))) rfl ?_
  refine g_iconst (p0 := 30) (v := nI 1) dX6_notePlace_29 rfl rfl ?_
  first | ((with_reducible refine isN2 ?_); refine g_isubN (p0 := 31) dX6_notePlace_30 (by omega) rfl ?_) | refine g_isub (p0 := 31) dX6_notePlace_30 rfl ?_
  refine g_cV2V (p0 := 34) (r1 := mX7_put) dX6_notePlace_31 lX6_72 vX7_put (by first | rfl | assumption | exact RW.s (by assumption) | exact TW.s (by assumption)) ⟨_, _, rfl⟩ (FITi rfl rfl) (Nat.le_of_ble_eq_true rfl) (put_N (by first | exact ⟨rfl, rfl, by decide⟩ | assumption) (by omega)) rfl ?_
  refine g_aload_n (p0 := 35) (i := 0) dX6_notePlace_34 rfl rfl rfl ?_
  refine g_getR (p0 := 38) dX6_notePlace_35 fX6_46 (by first | rfl | assumption | exact RW.s (by assumption) | exact TW.s (by assumption)) rfl rfl ?_
  refine g_iload_n (p0 := 39) (i := 1) dX6_notePlace_38 rfl rfl rfl ?_
  refine g_aload_n (p0 := 40) (i := 0) dX6_notePlace_39 rfl rfl rfl ?_
  refine g_getR (p0 := 43) dX6_notePlace_40 fX6_12 (by first | rfl | assumption | exact RW.s (by assumption) | exact TW.s (by assumption)) rfl rfl ?_
  refine g_getR (p0 := 46) dX6_notePlace_43 fX6_134 (by first | rfl | assumption | exact RW.s (by assumption) | exact TW.s (by assumption)) rfl rfl ?_
  refine g_aload_n (p0 := 47) (i := 0) dX6_notePlace_46 rfl rfl rfl ?_
  refine g_getR (p0 := 50) dX6_notePlace_47 fX6_12 (by first | rfl | assumption | exact RW.s (by assumption) | exact TW.s (by assumption)) rfl rfl ?_
  refine g_getI (p0 := 53) dX6_notePlace_50 fX6_122 (by first | rfl | assumption | exact RW.s (by assumption) | exact TW.s (by assumption)) rfl (by first | assumption | ((repeat (first | exact up_hit | refine up_nv (by decide) ?_ | refine up_mv (by first | decide | omega) ?_)) <;> first | assumption | rfl)) rfl ?_
  refine g_iconst (p0 := 54) (v := nI 1) dX6_notePlace_53 rfl rfl ?_
  first | ((with_reducible refine isN2 ?_); refine g_isubN (p0 := 55) dX6_notePlace_54 (by omega) rfl ?_) | refine g_isub (p0 := 55) dX6_notePlace_54 rfl ?_
  refine g_cV1R (p0 := 58) (r1 := mX7_at) dX6_notePlace_55 lX6_68 vX7_at (by first | rfl | assumption | exact RW.s (by assumption) | exact TW.s (by assumption)) ⟨_, _, rfl⟩ (FITi rfl rfl) (Nat.le_of_ble_eq_true rfl) (at_N (by first | exact ⟨rfl, rfl, by decide⟩ | assumption) (by omega) (by first | assumption | exact up_hit | exact up_nv (by omega) (by assumption) | exact up_mv (by omega) (by assumption) | exact up_nv (by omega) (up_nv (by omega) (by assumption)) | exact up_nv (by omega) up_hit | rfl)) rfl ?_
  refine g_iconst (p0 := 59) (v := nI 1) dX6_notePlace_58 rfl rfl ?_
  first | ((with_reducible refine isN2 ?_); refine g_isubN (p0 := 60) dX6_notePlace_59 (by omega) rfl ?_) | refine g_isub (p0 := 60) dX6_notePlace_59 rfl ?_
  refine g_cV2V (p0 := 63) (r1 := mX7_put) dX6_notePlace_60 lX6_72 vX7_put (by first | rfl | assumption | exact RW.s (by assumption) | exact TW.s (by assumption)) ⟨_, _, rfl⟩ (FITi rfl rfl) (Nat.le_of_ble_eq_true rfl) (put_N (by first | exact ⟨rfl, rfl, by decide⟩ | assumption) (by omega)) rfl ?_
  refine g_aload_n (p0 := 64) (i := 0) dX6_notePlace_63 rfl rfl rfl ?_
  refine g_getR (p0 := 67) dX6_notePlace_64 fX6_37 (by first | rfl | assumption | exact RW.s (by assumption) | exact TW.s (by assumption)) rfl rfl ?_
  refine g_iload_n (p0 := 68) (i := 1) dX6_notePlace_67 rfl rfl rfl ?_
  refine g_cV1R (p0 := 71) (r1 := mX7_at) dX6_notePlace_68 lX6_68 vX7_at (by first | rfl | assumption | exact RW.s (by assumption) | exact TW.s (by assumption)) ⟨_, _, rfl⟩ (FITi rfl rfl) (Nat.le_of_ble_eq_true rfl) (at_N (by first | exact ⟨rfl, rfl, by decide⟩ | assumption) (by omega) (by first | assumption | exact up_hit | exact up_nv (by omega) (by assumption) | exact up_mv (by omega) (by assumption) | exact up_nv (by omega) (up_nv (by omega) (by assumption)) | exact up_nv (by omega) up_hit | rfl)) rfl ?_
  refine g_iconst (p0 := 72) (v := nI 1) dX6_notePlace_71 rfl rfl ?_
  first | ((with_reducible refine isN2 ?_); refine g_icmpN_ne (tgt := 89) (p1 := 75) dX6_notePlace_72 rfl (by omega) (by omega) rfl (fun c_72 => ?_) (fun c_72 => by exfalso; first | omega | contradiction | exact absurd (by assumption) c_72 | (simp_all; done))) | refine g_icmp_ne (tgt := 89) (p1 := 75) dX6_notePlace_72 rfl rfl (fun c_72 => ?_) (fun c_72 => by exfalso; first | omega | contradiction | exact absurd (by assumption) c_72 | (simp_all; done))
  refine g_return dX6_notePlace_89 rfl ?_
  exact ⟨rfl, rfl⟩
set_option maxRecDepth 20000 in
set_option maxHeartbeats 2000000 in
theorem notePlace_1 {k L M : Nat} {g a b s f n p d : Nat → Nat} {σ : Sg} (hL : LT σ (L + 1) g a b) (hM : MT σ (M + 1) s f n p d) (hk : k < 160) (hl : L < 160) (hm : M < 160) (hn : 1 ≤ n M) (hg : 1 ≤ g L) (hd : σ 65 k = nI 1) : CM mX6_notePlace [ar 33, ai (nI k)] σ (RetV (up (up (up (up σ 67 k (nI (M + 1 - 1))) 69 k (nI (n M - 1))) 71 k (nI (g L - 1))) 55 M (nI (d M + 1)))) := by
  have v1 := hL.1
  have v2 := hM.1
  have v3 : σ 51 (M + 1 - 1) = nI (n M) := (hM.2 M (by omega)).2.2.1
  have v4 : σ 36 (L + 1 - 1) = nI (g L) := (hL.2 L (by omega)).1
  have v5 : (up (up (up σ 67 k (nI (M + 1 - 1))) 69 k (nI (n M - 1))) 71 k (nI (g L - 1))) 45 7 = nI (M + 1) := by rw [up_ne (by decide), up_ne (by decide), up_ne (by decide)]; exact v2
  have v6 : (up (up (up σ 67 k (nI (M + 1 - 1))) 69 k (nI (n M - 1))) 71 k (nI (g L - 1))) 55 M = nI (d M) := by rw [up_ne (by decide), up_ne (by decide), up_ne (by decide)]; exact (hM.2 M (by omega)).2.2.2.2.1
  refine CM_in (ls := [some (ar 33), some (ai (nI k)), none]) rfl ?_
  refine g_aload_n (p0 := 1) (i := 0) dX6_notePlace_0 rfl rfl rfl ?_
  refine g_getR (p0 := 4) dX6_notePlace_1 fX6_21 (by first | rfl | assumption | exact RW.s (by assumption) | exact TW.s (by assumption)) rfl rfl ?_
  refine g_getI (p0 := 7) dX6_notePlace_4 fX6_57 (by first | rfl | assumption | exact RW.s (by assumption) | exact TW.s (by assumption)) rfl (by first | assumption | ((repeat (first | exact up_hit | refine up_nv (by decide) ?_ | refine up_mv (by first | decide | omega) ?_)) <;> first | assumption | rfl)) rfl ?_
  refine g_iconst (p0 := 8) (v := nI 1) dX6_notePlace_7 rfl rfl ?_
  first | ((with_reducible refine isN2 ?_); refine g_isubN (p0 := 9) dX6_notePlace_8 (by omega) rfl ?_) | refine g_isub (p0 := 9) dX6_notePlace_8 rfl ?_
  refine g_istore_n (p0 := 10) (i := 2) (ls2 := [_, _, _]) dX6_notePlace_9 rfl (Nat.le_of_ble_eq_true rfl) rfl rfl ?_
  refine g_aload_n (p0 := 11) (i := 0) dX6_notePlace_10 rfl rfl rfl ?_
  refine g_getR (p0 := 14) dX6_notePlace_11 fX6_40 (by first | rfl | assumption | exact RW.s (by assumption) | exact TW.s (by assumption)) rfl rfl ?_
  refine g_iload_n (p0 := 15) (i := 1) dX6_notePlace_14 rfl rfl rfl ?_
  refine g_iload_n (p0 := 16) (i := 2) dX6_notePlace_15 rfl rfl rfl ?_
  refine g_cV2V (p0 := 19) (r1 := mX7_put) dX6_notePlace_16 lX6_72 vX7_put (by first | rfl | assumption | exact RW.s (by assumption) | exact TW.s (by assumption)) ⟨_, _, rfl⟩ (FITi rfl rfl) (Nat.le_of_ble_eq_true rfl) (put_N (by first | exact ⟨rfl, rfl, by decide⟩ | assumption) (by omega)) rfl ?_
  refine g_aload_n (p0 := 20) (i := 0) dX6_notePlace_19 rfl rfl rfl ?_
  refine g_getR (p0 := 23) dX6_notePlace_20 fX6_43 (by first | rfl | assumption | exact RW.s (by assumption) | exact TW.s (by assumption)) rfl rfl ?_
  refine g_iload_n (p0 := 24) (i := 1) dX6_notePlace_23 rfl rfl rfl ?_
  refine g_aload_n (p0 := 25) (i := 0) dX6_notePlace_24 rfl rfl rfl ?_
  refine g_iload_n (p0 := 26) (i := 2) dX6_notePlace_25 rfl rfl rfl ?_
  refine g_cV1R (p0 := 29) (r1 := mX6_lengthOf) dX6_notePlace_26 lX6_131 vX6_lengthOf (by first | rfl | assumption | exact RW.s (by assumption) | exact TW.s (by assumption)) ⟨_, _, rfl⟩ (FITi rfl rfl) (Nat.le_of_ble_eq_true rfl) (lengthOf_sp (by omega) (by first | assumption | ((repeat (first | exact up_hit | refine up_nv (by decide) ?_ | refine up_mv (by first | decide | omega) ?_)) <;> first | assumption | rfl))) rfl ?_
  refine g_iconst (p0 := 30) (v := nI 1) dX6_notePlace_29 rfl rfl ?_
  first | ((with_reducible refine isN2 ?_); refine g_isubN (p0 := 31) dX6_notePlace_30 (by omega) rfl ?_) | refine g_isub (p0 := 31) dX6_notePlace_30 rfl ?_
  refine g_cV2V (p0 := 34) (r1 := mX7_put) dX6_notePlace_31 lX6_72 vX7_put (by first | rfl | assumption | exact RW.s (by assumption) | exact TW.s (by assumption)) ⟨_, _, rfl⟩ (FITi rfl rfl) (Nat.le_of_ble_eq_true rfl) (put_N (by first | exact ⟨rfl, rfl, by decide⟩ | assumption) (by omega)) rfl ?_
  refine g_aload_n (p0 := 35) (i := 0) dX6_notePlace_34 rfl rfl rfl ?_
  refine g_getR (p0 := 38) dX6_notePlace_35 fX6_46 (by first | rfl | assumption | exact RW.s (by assumption) | exact TW.s (by assumption)) rfl rfl ?_
  refine g_iload_n (p0 := 39) (i := 1) dX6_notePlace_38 rfl rfl rfl ?_
  refine g_aload_n (p0 := 40) (i := 0) dX6_notePlace_39 rfl rfl rfl ?_
  refine g_getR (p0 := 43) dX6_notePlace_40 fX6_12 (by first | rfl | assumption | exact RW.s (by assumption) | exact TW.s (by assumption)) rfl rfl ?_
  refine g_getR (p0 := 46) dX6_notePlace_43 fX6_134 (by first | rfl | assumption | exact RW.s (by assumption) | exact TW.s (by assumption)) rfl rfl ?_
  refine g_aload_n (p0 := 47) (i := 0) dX6_notePlace_46 rfl rfl rfl ?_
  refine g_getR (p0 := 50) dX6_notePlace_47 fX6_12 (by first | rfl | assumption | exact RW.s (by assumption) | exact TW.s (by assumption)) rfl rfl ?_
  refine g_getI (p0 := 53) dX6_notePlace_50 fX6_122 (by first | rfl | assumption | exact RW.s (by assumption) | exact TW.s (by assumption)) rfl (by first | assumption | ((repeat (first | exact up_hit | refine up_nv (by decide) ?_ | refine up_mv (by first | decide | omega) ?_)) <;> first | assumption | rfl)) rfl ?_
  refine g_iconst (p0 := 54) (v := nI 1) dX6_notePlace_53 rfl rfl ?_
  first | ((with_reducible refine isN2 ?_); refine g_isubN (p0 := 55) dX6_notePlace_54 (by omega) rfl ?_) | refine g_isub (p0 := 55) dX6_notePlace_54 rfl ?_
  refine g_cV1R (p0 := 58) (r1 := mX7_at) dX6_notePlace_55 lX6_68 vX7_at (by first | rfl | assumption | exact RW.s (by assumption) | exact TW.s (by assumption)) ⟨_, _, rfl⟩ (FITi rfl rfl) (Nat.le_of_ble_eq_true rfl) (at_N (by first | exact ⟨rfl, rfl, by decide⟩ | assumption) (by omega) (by first | assumption | exact up_hit | exact up_nv (by omega) (by assumption) | exact up_mv (by omega) (by assumption) | exact up_nv (by omega) (up_nv (by omega) (by assumption)) | exact up_nv (by omega) up_hit | rfl)) rfl ?_
  refine g_iconst (p0 := 59) (v := nI 1) dX6_notePlace_58 rfl rfl ?_
  first | ((with_reducible refine isN2 ?_); refine g_isubN (p0 := 60) dX6_notePlace_59 (by omega) rfl ?_) | refine g_isub (p0 := 60) dX6_notePlace_59 rfl ?_
  refine g_cV2V (p0 := 63) (r1 := mX7_put) dX6_notePlace_60 lX6_72 vX7_put (by first | rfl | assumption | exact RW.s (by assumption) | exact TW.s (by assumption)) ⟨_, _, rfl⟩ (FITi rfl rfl) (Nat.le_of_ble_eq_true rfl) (put_N (by first | exact ⟨rfl, rfl, by decide⟩ | assumption) (by omega)) rfl ?_
  refine g_aload_n (p0 := 64) (i := 0) dX6_notePlace_63 rfl rfl rfl ?_
  refine g_getR (p0 := 67) dX6_notePlace_64 fX6_37 (by first | rfl | assumption | exact RW.s (by assumption) | exact TW.s (by assumption)) rfl rfl ?_
  refine g_iload_n (p0 := 68) (i := 1) dX6_notePlace_67 rfl rfl rfl ?_
  refine g_cV1R (p0 := 71) (r1 := mX7_at) dX6_notePlace_68 lX6_68 vX7_at (by first | rfl | assumption | exact RW.s (by assumption) | exact TW.s (by assumption)) ⟨_, _, rfl⟩ (FITi rfl rfl) (Nat.le_of_ble_eq_true rfl) (at_N (by first | exact ⟨rfl, rfl, by decide⟩ | assumption) (by omega) (by first | assumption | exact up_hit | exact up_nv (by omega) (by assumption) | exact up_mv (by omega) (by assumption) | exact up_nv (by omega) (up_nv (by omega) (by assumption)) | exact up_nv (by omega) up_hit | rfl)) rfl ?_
  refine g_iconst (p0 := 72) (v := nI 1) dX6_notePlace_71 rfl rfl ?_
  first | ((with_reducible refine isN2 ?_); refine g_icmpN_ne (tgt := 89) (p1 := 75) dX6_notePlace_72 rfl (by omega) (by omega) rfl (fun c_72 => by exfalso; first | omega | contradiction | exact absurd (by assumption) c_72 | (simp_all; done)) (fun c_72 => ?_)) | refine g_icmp_ne (tgt := 89) (p1 := 75) dX6_notePlace_72 rfl rfl (fun c_72 => by exfalso; first | omega | contradiction | exact absurd (by assumption) c_72 | (simp_all; done)) (fun c_72 => ?_)
  refine g_aload_n (p0 := 76) (i := 0) dX6_notePlace_75 rfl rfl rfl ?_
  refine g_getR (p0 := 79) dX6_notePlace_76 fX6_21 (by first | rfl | assumption | exact RW.s (by assumption) | exact TW.s (by assumption)) rfl rfl ?_
  refine g_aload_n (p0 := 80) (i := 0) dX6_notePlace_79 rfl rfl rfl ?_
  refine g_getR (p0 := 83) dX6_notePlace_80 fX6_21 (by first | rfl | assumption | exact RW.s (by assumption) | exact TW.s (by assumption)) rfl rfl ?_
  refine g_getR (p0 := 86) dX6_notePlace_83 fX6_137 (by first | rfl | assumption | exact RW.s (by assumption) | exact TW.s (by assumption)) rfl rfl ?_
  refine g_cV1V (p0 := 89) (r1 := mX4_addTo) dX6_notePlace_86 lX6_112 vX4_addTo (by first | rfl | assumption | exact RW.s (by assumption) | exact TW.s (by assumption)) ⟨_, _, rfl⟩ (FITi rfl rfl) (Nat.le_of_ble_eq_true rfl) (addTo_f v5 hm ⟨rfl, rfl, by decide⟩ v6) rfl ?_
  refine g_return dX6_notePlace_89 rfl ?_
  exact ⟨rfl, rfl⟩
theorem notePlace_r {k L M : Nat} {g a b s f n p d : Nat → Nat} {σ : Sg} (hL : LT σ (L + 1) g a b) (hM : MT σ (M + 1) s f n p d) (hk : k < 160) (hl : L < 160) (hm : M < 160) (hn : 1 ≤ n M) (hg : 1 ≤ g L) {x : Nat} (hd : σ 65 k = nI x) (hx : x ≤ 1) : CM mX6_notePlace [ar 33, ai (nI k)] σ (RelV (fun σ' => LT σ' (L + 1) g a b ∧ MT σ' (M + 1) s f n p (nu d M (d M + x)) ∧ σ' 67 = upd (σ 67) k (nI M) ∧ σ' 69 = upd (σ 69) k (nI (n M - 1)) ∧ σ' 71 = upd (σ 71) k (nI (g L - 1)) ∧ ∀ z, z ≠ 55 → z ≠ 67 → z ≠ 69 → z ≠ 71 → σ' z = σ z)) := by
  have same : nu d M (d M + 0) = d := by
    funext j
    by_cases hj : j = M
    · subst hj; simp [nu]
    · simp [nu, hj]
  obtain ⟨σ1, h1⟩ : ∃ z, z = up (up (up σ 67 k (nI (M + 1 - 1))) 69 k (nI (n M - 1))) 71 k (nI (g L - 1)) := ⟨_, rfl⟩
  have f1 : ∀ z, z ≠ 67 → z ≠ 69 → z ≠ 71 → σ1 z = σ z := fun z a1 a2 a3 => by rw [h1, up_ne a3, up_ne a2, up_ne a1]
  have r67 : σ1 67 = upd (σ 67) k (nI M) := by rw [h1, up_ne (by decide), up_ne (by decide), up_self]; rfl
  have r69 : σ1 69 = upd (σ 69) k (nI (n M - 1)) := by rw [h1, up_ne (by decide), up_self, up_ne (by decide)]
  have r71 : σ1 71 = upd (σ 71) k (nI (g L - 1)) := by rw [h1, up_self, up_ne (by decide), up_ne (by decide)]
  have hL1 : LT σ1 (L + 1) g a b := hL.of_eq (f1 _ (by decide) (by decide) (by decide)) (f1 _ (by decide) (by decide) (by decide)) (f1 _ (by decide) (by decide) (by decide)) (f1 _ (by decide) (by decide) (by decide))
  have hM1 : MT σ1 (M + 1) s f n p d := hM.of_eq (f1 _ (by decide) (by decide) (by decide)) (f1 _ (by decide) (by decide) (by decide)) (f1 _ (by decide) (by decide) (by decide)) (f1 _ (by decide) (by decide) (by decide)) (f1 _ (by decide) (by decide) (by decide)) (f1 _ (by decide) (by decide) (by decide)) (f1 _ (by decide) (by decide) (by decide)) (f1 _ (by decide) (by decide) (by decide))
  rcases Nat.eq_zero_or_pos x with e | e
  · subst e
    refine CM.mono (notePlace_0 hL hM hk hl hm hn hg hd) ?_
    rintro w σ' ⟨rfl, rfl⟩
    rw [← h1, same]
    exact ⟨rfl, hL1, hM1, r67, r69, r71, fun z a1 a2 a3 a4 => f1 z a2 a3 a4⟩
  · obtain rfl : x = 1 := by omega
    refine CM.mono (notePlace_1 hL hM hk hl hm hn hg hd) ?_
    rintro w σ' ⟨rfl, rfl⟩
    rw [← h1]
    have f2 : ∀ z, z ≠ 55 → (up σ1 55 M (nI (d M + 1))) z = σ1 z := fun z hz => up_ne hz
    refine ⟨rfl, hL1.of_eq (f2 _ (by decide)) (f2 _ (by decide)) (f2 _ (by decide)) (f2 _ (by decide)), ⟨by rw [f2 _ (by decide)]; exact hM1.1, fun m hm2 => ?_⟩, by rw [f2 _ (by decide)]; exact r67, by rw [f2 _ (by decide)]; exact r69, by rw [f2 _ (by decide)]; exact r71, fun z a1 a2 a3 a4 => by rw [f2 z a1, f1 z a2 a3 a4]⟩
    obtain ⟨a1, a2, a3, a4, a5, a6, a7⟩ := hM1.2 m hm2
    exact ⟨by rw [f2 _ (by decide)]; exact a1, by rw [f2 _ (by decide)]; exact a2, by rw [f2 _ (by decide)]; exact a3, by rw [f2 _ (by decide)]; exact a4, by rw [up_self]; exact upd_nI (fun j hj => (hM1.2 j hj).2.2.2.2.1) m hm2, by rw [f2 _ (by decide)]; exact a6, by rw [f2 _ (by decide)]; exact a7⟩
/-- the time of the last stroke before k that was not left out; gaps, cases, doubts -/
def lastF (τ : Nat → Int32) (bt : Int32) : Nat → Int32
  | 0 => nI 0
  | k + 1 => if k = 0 then τ 0 else if cs bt (τ k - lastF τ bt k) = 0 then lastF τ bt k else τ k
def gpF (τ : Nat → Int32) (bt : Int32) (k : Nat) : Int32 := τ k - lastF τ bt k
def kaF (τ : Nat → Int32) (bt : Int32) (k : Nat) : Nat := if k = 0 then 5 else cs bt (gpF τ bt k)
def dbF (τ : Nat → Int32) (bt tl : Int32) (k : Nat) : Nat := if k = 0 then 0 else dbt bt tl (gpF τ bt k)
theorem kaF_0 (τ : Nat → Int32) (bt : Int32) : kaF τ bt 0 = 5 := rfl
theorem kaF_le (τ : Nat → Int32) (bt : Int32) (k : Nat) : kaF τ bt k ≤ 5 := by
  unfold kaF
  split
  · exact Nat.le_refl 5
  · exact cs_le _ _
theorem dbF_le (τ : Nat → Int32) (bt tl : Int32) (k : Nat) : dbF τ bt tl k ≤ 1 := by
  unfold dbF
  split
  · omega
  · unfold dbt
    split <;> omega
theorem lastF_succ (τ : Nat → Int32) (bt : Int32) (k : Nat) : lastF τ bt (k + 1) = if kaF τ bt k = 0 then lastF τ bt k else τ k := by
  rw [lastF]
  by_cases hk : k = 0
  · subst hk; simp [kaF]
  · rw [if_neg hk, kaF, if_neg hk]; rfl
/-- what the class has read behind k strokes -/
def CRd (c d : Nat → Nat) (gp : Nat → Int32) (σ : Sg) (k : Nat) : Prop := LT σ (Lc c k) (gr c k) (o1 c k) (o2 c k) ∧ MT σ (Mc c k) (fs c k) (fl c k) (ln c k) (pl c k) (db c d k) ∧ σ 33 8 = nI (lo c k) ∧ ∀ i, i < k → (1 ≤ i → σ 61 i = gp i) ∧ σ 63 i = nI (c i) ∧ σ 65 i = nI (d i) ∧ σ 67 i = nI (Mc c (i + 1) - 1) ∧ σ 69 i = nI (ln c (i + 1) (Mc c (i + 1) - 1) - 1) ∧ σ 71 i = nI (gr c (i + 1) (Lc c (i + 1) - 1) - 1)
set_option maxRecDepth 20000 in
set_option maxHeartbeats 2000000 in
theorem refresh_tail {k : Nat} {c d : Nat → Nat} {la tk : Int32} {σ : Sg} {Q : SP} (hL : LT σ (Lc c k) (gr c k) (o1 c k) (o2 c k)) (hM : MT σ (Mc c k) (fs c k) (fl c k) (ln c k) (pl c k) (db c d k)) (hlo : σ 33 8 = nI (lo c k)) (hk : k < 160) (hx : σ 63 k = nI (c k)) (hd : σ 65 k = nI (d k)) (h0 : c 0 = 5) (h5 : c k ≤ 5) (hd1 : d k ≤ 1)
    (next : ∀ σ', (LT σ' (Lc c (k + 1)) (gr c (k + 1)) (o1 c (k + 1)) (o2 c (k + 1)) ∧ MT σ' (Mc c (k + 1)) (fs c (k + 1)) (fl c (k + 1)) (ln c (k + 1)) (pl c (k + 1)) (db c d (k + 1)) ∧ σ' 33 8 = nI (lo c (k + 1)) ∧ σ' 67 = upd (σ 67) k (nI (Mc c (k + 1) - 1)) ∧ σ' 69 = upd (σ 69) k (nI (ln c (k + 1) (Mc c (k + 1) - 1) - 1)) ∧ σ' 71 = upd (σ 71) k (nI (gr c (k + 1) (Lc c (k + 1) - 1) - 1)) ∧ ∀ z, z ≠ 34 → z ≠ 36 → z ≠ 38 → z ≠ 40 → z ≠ 33 → z ≠ 45 → (z < 47 ∨ 60 ≤ z) → z ≠ 67 → z ≠ 69 → z ≠ 71 → σ' z = σ z) → WM mX6_refresh Q 90 [some (ar 33), some (ar 1), some (ai (if c k = 0 then la else tk)), some (ai (nI k)), some (ai tk)] [] σ') : WM mX6_refresh Q 69 [some (ar 33), some (ar 1), some (ai la), some (ai (nI k)), some (ai tk)] [] σ := by
  have pL := Lc_pos h0 k
  have pM := Mc_pos h0 k
  have bM := Mc_le c (k + 1)
  obtain ⟨L, eL⟩ : ∃ L, Lc c (k + 1) = L + 1 := ⟨Lc c (k + 1) - 1, by omega⟩
  obtain ⟨M, eM⟩ : ∃ M, Mc c (k + 1) = M + 1 := ⟨Mc c (k + 1) - 1, by omega⟩
  have hn1 := ln_pos c (k + 1) M (by omega)
  have hg1 := gr_pos c (k + 1) L (by omega)
  have hdb : ∀ m, m < M + 1 → nu (dbh c d k) M (dbh c d k M + d k) m = db c d (k + 1) m := by
    intro m hm
    have e : (m + 1 = Mc c (k + 1)) ↔ m = M := by rw [eM]; omega
    rw [db]
    by_cases em : m = M
    · subst em
      rw [if_pos (e.mpr rfl), nu, if_pos rfl]; rfl
    · rw [if_neg (fun q => em (e.mp q)), nu, if_neg em]; rfl
  by_cases hc0 : c k = 0
  · rw [if_pos hc0] at next
    refine g_aload_n (p0 := 70) (i := 0) dX6_refresh_69 rfl rfl rfl ?_
    refine g_iload_n (p0 := 71) (i := 3) dX6_refresh_70 rfl rfl rfl ?_
    refine g_cV1P (p0 := 74) (r1 := mX6_goOn) dX6_refresh_71 lX6_80 vX6_goOn (by first | rfl | assumption | exact RW.s (by assumption) | exact TW.s (by assumption)) ⟨_, _, rfl⟩ (FITi rfl rfl) (Nat.le_of_ble_eq_true rfl) (goOn_r hL hM hlo hk hx h0 h5) rfl ?_
    rintro σ1 ⟨hL1, hM1, hlo1, fr1⟩
    have hd2 : σ1 65 k = nI (d k) := by rw [fr1 _ (by decide) (by decide) (by decide) (by decide) (by decide) (by decide) (by decide)]; exact hd
    have x1 : σ1 63 k = nI (c k) := by rw [fr1 _ (by decide) (by decide) (by decide) (by decide) (by decide) (by decide) (by decide)]; exact hx
    rw [eL] at hL1
    rw [eM] at hM1
    refine g_aload_n (p0 := 75) (i := 0) dX6_refresh_74 rfl rfl rfl ?_
    refine g_iload_n (p0 := 76) (i := 3) dX6_refresh_75 rfl rfl rfl ?_
    refine g_cV1P (p0 := 79) (r1 := mX6_notePlace) dX6_refresh_76 lX6_83 vX6_notePlace (by first | rfl | assumption | exact RW.s (by assumption) | exact TW.s (by assumption)) ⟨_, _, rfl⟩ (FITi rfl rfl) (Nat.le_of_ble_eq_true rfl) (notePlace_r hL1 hM1 hk (by omega) (by omega) hn1 hg1 hd2 hd1) rfl ?_
    rintro σ2 ⟨hL2, hM2, r67, r69, r71, fr2⟩
    have x2 : σ2 63 k = nI (c k) := by rw [fr2 _ (by decide) (by decide) (by decide) (by decide)]; exact x1
    refine g_aload_n (p0 := 80) (i := 0) dX6_refresh_79 rfl rfl rfl ?_
    refine g_iload_n (p0 := 81) (i := 3) dX6_refresh_80 rfl rfl rfl ?_
    refine g_cV1R (p0 := 84) (r1 := mX6_isLeftOut) dX6_refresh_81 lX6_86 vX6_isLeftOut (by first | rfl | assumption | exact RW.s (by assumption) | exact TW.s (by assumption)) ⟨_, _, rfl⟩ (FITi rfl rfl) (Nat.le_of_ble_eq_true rfl) (isLeftOut_T hk (by rw [x2, hc0])) rfl ?_
    first | ((with_reducible refine isN1 ?_); refine g_ifN_ne (tgt := 90) (p1 := 87) dX6_refresh_84 rfl (by omega) rfl (fun c_84 => ?_) (fun c_84 => by exfalso; first | omega | contradiction | exact absurd (by assumption) c_84 | (simp_all; done))) | refine g_if_ne (tgt := 90) (p1 := 87) dX6_refresh_84 rfl rfl (fun c_84 => ?_) (fun c_84 => by exfalso; first | omega | contradiction | exact absurd (by assumption) c_84 | (simp_all; done))
    refine next σ2 ⟨by rw [eL]; exact hL2, by rw [eM]; exact hM2.cong rfl (fun _ _ => rfl) (fun _ _ => rfl) (fun _ _ => rfl) (fun _ _ => rfl) hdb, ?_, ?_, ?_, ?_, ?_⟩
    · rw [fr2 _ (by decide) (by decide) (by decide) (by decide)]; exact hlo1
    · rw [r67, fr1 _ (by decide) (by decide) (by decide) (by decide) (by decide) (by decide) (by decide), eM]; rfl
    · rw [r69, fr1 _ (by decide) (by decide) (by decide) (by decide) (by decide) (by decide) (by decide), eM]; rfl
    · rw [r71, fr1 _ (by decide) (by decide) (by decide) (by decide) (by decide) (by decide) (by decide), eL]; rfl
    · intro z a1 a2 a3 a4 a5 a6 a7 a8 a9 a10
      rw [fr2 z (by omega) a8 a9 a10, fr1 z a1 a2 a3 a4 a5 a6 a7]
  · rw [if_neg hc0] at next
    refine g_aload_n (p0 := 70) (i := 0) dX6_refresh_69 rfl rfl rfl ?_
    refine g_iload_n (p0 := 71) (i := 3) dX6_refresh_70 rfl rfl rfl ?_
    refine g_cV1P (p0 := 74) (r1 := mX6_goOn) dX6_refresh_71 lX6_80 vX6_goOn (by first | rfl | assumption | exact RW.s (by assumption) | exact TW.s (by assumption)) ⟨_, _, rfl⟩ (FITi rfl rfl) (Nat.le_of_ble_eq_true rfl) (goOn_r hL hM hlo hk hx h0 h5) rfl ?_
    rintro σ1 ⟨hL1, hM1, hlo1, fr1⟩
    have hd2 : σ1 65 k = nI (d k) := by rw [fr1 _ (by decide) (by decide) (by decide) (by decide) (by decide) (by decide) (by decide)]; exact hd
    have x1 : σ1 63 k = nI (c k) := by rw [fr1 _ (by decide) (by decide) (by decide) (by decide) (by decide) (by decide) (by decide)]; exact hx
    rw [eL] at hL1
    rw [eM] at hM1
    refine g_aload_n (p0 := 75) (i := 0) dX6_refresh_74 rfl rfl rfl ?_
    refine g_iload_n (p0 := 76) (i := 3) dX6_refresh_75 rfl rfl rfl ?_
    refine g_cV1P (p0 := 79) (r1 := mX6_notePlace) dX6_refresh_76 lX6_83 vX6_notePlace (by first | rfl | assumption | exact RW.s (by assumption) | exact TW.s (by assumption)) ⟨_, _, rfl⟩ (FITi rfl rfl) (Nat.le_of_ble_eq_true rfl) (notePlace_r hL1 hM1 hk (by omega) (by omega) hn1 hg1 hd2 hd1) rfl ?_
    rintro σ2 ⟨hL2, hM2, r67, r69, r71, fr2⟩
    have x2 : σ2 63 k = nI (c k) := by rw [fr2 _ (by decide) (by decide) (by decide) (by decide)]; exact x1
    refine g_aload_n (p0 := 80) (i := 0) dX6_refresh_79 rfl rfl rfl ?_
    refine g_iload_n (p0 := 81) (i := 3) dX6_refresh_80 rfl rfl rfl ?_
    refine g_cV1R (p0 := 84) (r1 := mX6_isLeftOut) dX6_refresh_81 lX6_86 vX6_isLeftOut (by first | rfl | assumption | exact RW.s (by assumption) | exact TW.s (by assumption)) ⟨_, _, rfl⟩ (FITi rfl rfl) (Nat.le_of_ble_eq_true rfl) (isLeftOut_F hk x2 (by omega) h5) rfl ?_
    first | ((with_reducible refine isN1 ?_); refine g_ifN_ne (tgt := 90) (p1 := 87) dX6_refresh_84 rfl (by omega) rfl (fun c_84 => by exfalso; first | omega | contradiction | exact absurd (by assumption) c_84 | (simp_all; done)) (fun c_84 => ?_)) | refine g_if_ne (tgt := 90) (p1 := 87) dX6_refresh_84 rfl rfl (fun c_84 => by exfalso; first | omega | contradiction | exact absurd (by assumption) c_84 | (simp_all; done)) (fun c_84 => ?_)
    refine g_iload (p0 := 89) dX6_refresh_87 rfl rfl ?_
    refine g_istore_n (p0 := 90) (i := 2) (ls2 := [_, _, _, _, _]) dX6_refresh_89 rfl (Nat.le_of_ble_eq_true rfl) rfl rfl ?_
    refine next σ2 ⟨by rw [eL]; exact hL2, by rw [eM]; exact hM2.cong rfl (fun _ _ => rfl) (fun _ _ => rfl) (fun _ _ => rfl) (fun _ _ => rfl) hdb, ?_, ?_, ?_, ?_, ?_⟩
    · rw [fr2 _ (by decide) (by decide) (by decide) (by decide)]; exact hlo1
    · rw [r67, fr1 _ (by decide) (by decide) (by decide) (by decide) (by decide) (by decide) (by decide), eM]; rfl
    · rw [r69, fr1 _ (by decide) (by decide) (by decide) (by decide) (by decide) (by decide) (by decide), eM]; rfl
    · rw [r71, fr1 _ (by decide) (by decide) (by decide) (by decide) (by decide) (by decide) (by decide), eL]; rfl
    · intro z a1 a2 a3 a4 a5 a6 a7 a8 a9 a10
      rw [fr2 z (by omega) a8 a9 a10, fr1 z a1 a2 a3 a4 a5 a6 a7]
set_option maxRecDepth 20000 in
set_option maxHeartbeats 2000000 in
theorem refresh_loop {s : Nat} {τ : Nat → Int32} {bt tl : Int32} {σ0 : Sg} {Q : SP} (hs : σ0 1 2 = nI s) (hs1 : s ≤ 160) (hb : σ0 1 3 = bt) (htl : σ0 1 4 = tl) (hτ : ∀ k, k < s → σ0 3 k = τ k)
    (done : ∀ σ', CRd (kaF τ bt) (dbF τ bt tl) (gpF τ bt) σ' s → σ' 65 0 = nI 0 → (∀ z, z < 33 ∨ z = 44 ∨ 72 ≤ z → σ' z = σ0 z) → ∀ x y, WM mX6_refresh Q 96 [some (ar 33), some (ar 1), some (ai x), some (ai (nI s)), y] [] σ') :
    ∀ m k, k + m = s → ∀ σ, CRd (kaF τ bt) (dbF τ bt tl) (gpF τ bt) σ k → σ 65 0 = nI 0 → (∀ z, z < 33 ∨ z = 44 ∨ 72 ≤ z → σ z = σ0 z) → ∀ y, WM mX6_refresh Q 25 [some (ar 33), some (ar 1), some (ai (lastF τ bt k)), some (ai (nI k)), y] [] σ := by
  intro m
  induction m with
  | zero =>
    intro k hk σ hC h65 fr y
    obtain rfl : k = s := by omega
    have v1 : σ 1 2 = nI k := by rw [fr 1 (by decide), hs]
    refine g_iload_n (p0 := 26) (i := 3) dX6_refresh_25 rfl rfl rfl ?_
    refine g_aload_n (p0 := 27) (i := 1) dX6_refresh_26 rfl rfl rfl ?_
    refine g_getI (p0 := 30) dX6_refresh_27 fX6_60 (by first | rfl | assumption | exact RW.s (by assumption) | exact TW.s (by assumption)) rfl (by first | assumption | ((repeat (first | exact up_hit | refine up_nv (by decide) ?_ | refine up_mv (by first | decide | omega) ?_)) <;> first | assumption | rfl)) rfl ?_
    first | ((with_reducible refine isN2 ?_); refine g_icmpN_ge (tgt := 96) (p1 := 33) dX6_refresh_30 rfl (by omega) (by omega) rfl (fun c_30 => ?_) (fun c_30 => by exfalso; first | omega | contradiction | exact absurd (by assumption) c_30 | (simp_all; done))) | refine g_icmp_ge (tgt := 96) (p1 := 33) dX6_refresh_30 rfl rfl (fun c_30 => ?_) (fun c_30 => by exfalso; first | omega | contradiction | exact absurd (by assumption) c_30 | (simp_all; done))
    exact done σ hC h65 fr _ _
  | succ m ih =>
    intro k hk σ hC h65 fr y
    have v1 : σ 1 2 = nI s := by rw [fr 1 (by decide), hs]
    have v2 : σ 3 k = τ k := by rw [fr 3 (by decide), hτ k (by omega)]
    have v3 : σ 1 3 = bt := by rw [fr 1 (by decide), hb]
    have v4 : σ 1 4 = tl := by rw [fr 1 (by decide), htl]
    obtain ⟨hL, hM, hlo, hall⟩ := hC
    have step : ∀ σa : Sg, (∀ z, z ≠ 61 → z ≠ 63 → z ≠ 65 → σa z = σ z) → (∀ i, i < k → σa 61 i = σ 61 i ∧ σa 63 i = σ 63 i ∧ σa 65 i = σ 65 i) → (1 ≤ k → σa 61 k = gpF τ bt k) → σa 63 k = nI (kaF τ bt k) → σa 65 k = nI (dbF τ bt tl k) → σa 65 0 = nI 0 → WM mX6_refresh Q 69 [some (ar 33), some (ar 1), some (ai (lastF τ bt k)), some (ai (nI k)), some (ai (τ k))] [] σa := by
      intro σa fa fi g61 g63 g65 g0
      refine refresh_tail (c := kaF τ bt) (d := dbF τ bt tl) (hL.of_eq (fa _ (by decide) (by decide) (by decide)) (fa _ (by decide) (by decide) (by decide)) (fa _ (by decide) (by decide) (by decide)) (fa _ (by decide) (by decide) (by decide))) (hM.of_eq (fa _ (by decide) (by decide) (by decide)) (fa _ (by decide) (by decide) (by decide)) (fa _ (by decide) (by decide) (by decide)) (fa _ (by decide) (by decide) (by decide)) (fa _ (by decide) (by decide) (by decide)) (fa _ (by decide) (by decide) (by decide)) (fa _ (by decide) (by decide) (by decide)) (fa _ (by decide) (by decide) (by decide))) (by rw [fa _ (by decide) (by decide) (by decide)]; exact hlo) (by omega) g63 g65 (kaF_0 τ bt) (kaF_le τ bt k) (dbF_le τ bt tl k) ?_
      rintro σ' ⟨n1, n2, n3, n4, n5, n6, n7⟩
      rw [← lastF_succ]
      have w61 : σ' 61 = σa 61 := n7 _ (by decide) (by decide) (by decide) (by decide) (by decide) (by decide) (by decide) (by decide) (by decide) (by decide)
      have w63 : σ' 63 = σa 63 := n7 _ (by decide) (by decide) (by decide) (by decide) (by decide) (by decide) (by decide) (by decide) (by decide) (by decide)
      have w65 : σ' 65 = σa 65 := n7 _ (by decide) (by decide) (by decide) (by decide) (by decide) (by decide) (by decide) (by decide) (by decide) (by decide)
      have hC2 : CRd (kaF τ bt) (dbF τ bt tl) (gpF τ bt) σ' (k + 1) := by
        refine ⟨n1, n2, n3, fun i hi => ?_⟩
        rw [w61, w63, w65, n4, n5, n6]
        by_cases hik : i = k
        · subst hik
          exact ⟨g61, g63, g65, upd_hit, upd_hit, upd_hit⟩
        · obtain ⟨a1, a2, a3, a4, a5, a6⟩ := hall i (by omega)
          obtain ⟨b1, b2, b3⟩ := fi i (by omega)
          refine ⟨fun hi1 => by rw [b1]; exact a1 hi1, by rw [b2]; exact a2, by rw [b3]; exact a3, ?_, ?_, ?_⟩
          · rw [upd_ne hik, fa _ (by decide) (by decide) (by decide)]; exact a4
          · rw [upd_ne hik, fa _ (by decide) (by decide) (by decide)]; exact a5
          · rw [upd_ne hik, fa _ (by decide) (by decide) (by decide)]; exact a6
      have ihk := ih (k + 1) (by omega) σ' hC2 (by rw [w65]; exact g0) (fun z hz => by rw [n7 z (by omega) (by omega) (by omega) (by omega) (by omega) (by omega) (by omega) (by omega) (by omega) (by omega), fa z (by omega) (by omega) (by omega)]; exact fr z hz)
      first | refine g_iinc1 (p0 := 93) (ls2 := [_, _, _, _, _]) dX6_refresh_90 rfl rfl rfl ?_ | refine g_iinc (p0 := 93) (ls2 := [_, _, _, _, _]) dX6_refresh_90 rfl rfl rfl rfl ?_
      refine g_goto (tgt := 25) dX6_refresh_93 rfl ?_
      exact ihk _
    by_cases hk0 : k = 0
    · subst hk0
      refine g_iload_n (p0 := 26) (i := 3) dX6_refresh_25 rfl rfl rfl ?_
      refine g_aload_n (p0 := 27) (i := 1) dX6_refresh_26 rfl rfl rfl ?_
      refine g_getI (p0 := 30) dX6_refresh_27 fX6_60 (by first | rfl | assumption | exact RW.s (by assumption) | exact TW.s (by assumption)) rfl (by first | assumption | ((repeat (first | exact up_hit | refine up_nv (by decide) ?_ | refine up_mv (by first | decide | omega) ?_)) <;> first | assumption | rfl)) rfl ?_
      first | ((with_reducible refine isN2 ?_); refine g_icmpN_ge (tgt := 96) (p1 := 33) dX6_refresh_30 rfl (by omega) (by omega) rfl (fun c_30 => by exfalso; first | omega | contradiction | exact absurd (by assumption) c_30 | (simp_all; done)) (fun c_30 => ?_)) | refine g_icmp_ge (tgt := 96) (p1 := 33) dX6_refresh_30 rfl rfl (fun c_30 => by exfalso; first | omega | contradiction | exact absurd (by assumption) c_30 | (simp_all; done)) (fun c_30 => ?_)
      refine g_aload_n (p0 := 34) (i := 1) dX6_refresh_33 rfl rfl rfl ?_
      refine g_getR (p0 := 37) dX6_refresh_34 fX6_65 (by first | rfl | assumption | exact RW.s (by assumption) | exact TW.s (by assumption)) rfl rfl ?_
      refine g_iload_n (p0 := 38) (i := 3) dX6_refresh_37 rfl rfl rfl ?_
      refine g_cV1R (p0 := 41) (r1 := mX7_at) dX6_refresh_38 lX6_68 vX7_at (by first | rfl | assumption | exact RW.s (by assumption) | exact TW.s (by assumption)) ⟨_, _, rfl⟩ (FITi rfl rfl) (Nat.le_of_ble_eq_true rfl) (at_N (by first | exact ⟨rfl, rfl, by decide⟩ | assumption) (by omega) (by first | assumption | exact up_hit | exact up_nv (by omega) (by assumption) | exact up_mv (by omega) (by assumption) | exact up_nv (by omega) (up_nv (by omega) (by assumption)) | exact up_nv (by omega) up_hit | rfl)) rfl ?_
      refine g_istore (p0 := 43) (i := 4) (ls2 := [_, _, _, _, _]) dX6_refresh_41 (Nat.le_of_ble_eq_true rfl) rfl rfl ?_
      refine g_iload_n (p0 := 44) (i := 3) dX6_refresh_43 rfl rfl rfl ?_
      first | ((with_reducible refine isN1 ?_); refine g_ifN_ne (tgt := 59) (p1 := 47) dX6_refresh_44 rfl (by omega) rfl (fun c_44 => by exfalso; first | omega | contradiction | exact absurd (by assumption) c_44 | (simp_all; done)) (fun c_44 => ?_)) | refine g_if_ne (tgt := 59) (p1 := 47) dX6_refresh_44 rfl rfl (fun c_44 => by exfalso; first | omega | contradiction | exact absurd (by assumption) c_44 | (simp_all; done)) (fun c_44 => ?_)
      refine g_aload_n (p0 := 48) (i := 0) dX6_refresh_47 rfl rfl rfl ?_
      refine g_getR (p0 := 51) dX6_refresh_48 fX6_34 (by first | rfl | assumption | exact RW.s (by assumption) | exact TW.s (by assumption)) rfl rfl ?_
      refine g_iload_n (p0 := 52) (i := 3) dX6_refresh_51 rfl rfl rfl ?_
      refine g_iconst (p0 := 53) (v := nI 5) dX6_refresh_52 rfl rfl ?_
      refine g_cV2V (p0 := 56) (r1 := mX7_put) dX6_refresh_53 lX6_72 vX7_put (by first | rfl | assumption | exact RW.s (by assumption) | exact TW.s (by assumption)) ⟨_, _, rfl⟩ (FITi rfl rfl) (Nat.le_of_ble_eq_true rfl) (put_N (by first | exact ⟨rfl, rfl, by decide⟩ | assumption) (by omega)) rfl ?_
      refine g_goto (tgt := 69) dX6_refresh_56 rfl ?_
      refine step _ (fun z a1 a2 a3 => up_ne a2) (fun i hi => absurd hi (Nat.not_lt_zero i)) (fun q => absurd q (by decide)) up_hit ?_ ?_
      · rw [up_ne (by decide)]; exact h65
      · rw [up_ne (by decide)]; exact h65
    · have ek : kaF τ bt k = cs bt (gpF τ bt k) := by rw [kaF, if_neg hk0]
      have ed : dbF τ bt tl k = dbt bt tl (gpF τ bt k) := by rw [dbF, if_neg hk0]
      refine g_iload_n (p0 := 26) (i := 3) dX6_refresh_25 rfl rfl rfl ?_
      refine g_aload_n (p0 := 27) (i := 1) dX6_refresh_26 rfl rfl rfl ?_
      refine g_getI (p0 := 30) dX6_refresh_27 fX6_60 (by first | rfl | assumption | exact RW.s (by assumption) | exact TW.s (by assumption)) rfl (by first | assumption | ((repeat (first | exact up_hit | refine up_nv (by decide) ?_ | refine up_mv (by first | decide | omega) ?_)) <;> first | assumption | rfl)) rfl ?_
      first | ((with_reducible refine isN2 ?_); refine g_icmpN_ge (tgt := 96) (p1 := 33) dX6_refresh_30 rfl (by omega) (by omega) rfl (fun c_30 => by exfalso; first | omega | contradiction | exact absurd (by assumption) c_30 | (simp_all; done)) (fun c_30 => ?_)) | refine g_icmp_ge (tgt := 96) (p1 := 33) dX6_refresh_30 rfl rfl (fun c_30 => by exfalso; first | omega | contradiction | exact absurd (by assumption) c_30 | (simp_all; done)) (fun c_30 => ?_)
      refine g_aload_n (p0 := 34) (i := 1) dX6_refresh_33 rfl rfl rfl ?_
      refine g_getR (p0 := 37) dX6_refresh_34 fX6_65 (by first | rfl | assumption | exact RW.s (by assumption) | exact TW.s (by assumption)) rfl rfl ?_
      refine g_iload_n (p0 := 38) (i := 3) dX6_refresh_37 rfl rfl rfl ?_
      refine g_cV1R (p0 := 41) (r1 := mX7_at) dX6_refresh_38 lX6_68 vX7_at (by first | rfl | assumption | exact RW.s (by assumption) | exact TW.s (by assumption)) ⟨_, _, rfl⟩ (FITi rfl rfl) (Nat.le_of_ble_eq_true rfl) (at_N (by first | exact ⟨rfl, rfl, by decide⟩ | assumption) (by omega) (by first | assumption | exact up_hit | exact up_nv (by omega) (by assumption) | exact up_mv (by omega) (by assumption) | exact up_nv (by omega) (up_nv (by omega) (by assumption)) | exact up_nv (by omega) up_hit | rfl)) rfl ?_
      refine g_istore (p0 := 43) (i := 4) (ls2 := [_, _, _, _, _]) dX6_refresh_41 (Nat.le_of_ble_eq_true rfl) rfl rfl ?_
      refine g_iload_n (p0 := 44) (i := 3) dX6_refresh_43 rfl rfl rfl ?_
      first | ((with_reducible refine isN1 ?_); refine g_ifN_ne (tgt := 59) (p1 := 47) dX6_refresh_44 rfl (by omega) rfl (fun c_44 => ?_) (fun c_44 => by exfalso; first | omega | contradiction | exact absurd (by assumption) c_44 | (simp_all; done))) | refine g_if_ne (tgt := 59) (p1 := 47) dX6_refresh_44 rfl rfl (fun c_44 => ?_) (fun c_44 => by exfalso; first | omega | contradiction | exact absurd (by assumption) c_44 | (simp_all; done))
      refine g_aload_n (p0 := 60) (i := 0) dX6_refresh_59 rfl rfl rfl ?_
      refine g_iload_n (p0 := 61) (i := 3) dX6_refresh_60 rfl rfl rfl ?_
      refine g_iload (p0 := 63) dX6_refresh_61 rfl rfl ?_
      refine g_iload_n (p0 := 64) (i := 2) dX6_refresh_63 rfl rfl rfl ?_
      first | ((with_reducible refine isN2 ?_); refine g_isubN (p0 := 65) dX6_refresh_64 (by omega) rfl ?_) | refine g_isub (p0 := 65) dX6_refresh_64 rfl ?_
      refine g_aload_n (p0 := 66) (i := 1) dX6_refresh_65 rfl rfl rfl ?_
      refine g_cV3V (p0 := 69) (r1 := mX6_noteGap) dX6_refresh_66 lX6_76 vX6_noteGap (by first | rfl | assumption | exact RW.s (by assumption) | exact TW.s (by assumption)) ⟨_, _, rfl⟩ (FITi rfl rfl) (Nat.le_of_ble_eq_true rfl) (noteGap_sp (by omega) v3 v4) rfl ?_
      refine step _ (fun z a1 a2 a3 => by rw [up_ne a3, up_ne a2, up_ne a1]) (fun i hi => ⟨?_, ?_, ?_⟩) (fun _ => ?_) ?_ ?_ ?_
      · rw [up_ne (by decide), up_ne (by decide), up_miss (by omega)]
      · rw [up_ne (by decide), up_miss (by omega), up_ne (by decide)]
      · rw [up_miss (by omega), up_ne (by decide), up_ne (by decide)]
      · rw [up_ne (by decide), up_ne (by decide), up_hit]; rfl
      · rw [up_ne (by decide), up_hit, ek]; rfl
      · rw [up_hit, ed]; rfl
      · rw [up_miss (by omega), up_ne (by decide), up_ne (by decide)]; exact h65

